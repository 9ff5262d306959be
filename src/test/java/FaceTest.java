import java.io.IOException;
import java.lang.reflect.Constructor;
import java.lang.reflect.Field;
import java.lang.reflect.Method;
import java.lang.reflect.Modifier;
import java.nio.file.Files;
import java.nio.file.Path;
import java.util.Set;
import java.util.TreeSet;

/** The public face is the document's, and the source keeps to the plainest rules of LANGUAGE.md. */
public final class FaceTest {
    private static final Due due = new Due("FaceTest");
    private static final String[] FACE = {
        "int UNKNOWN", "int OUTSIDE", "int STATE", "int FULL", "int NONE", "long LOST",
        "int coast(int,int,int,int)", "int ofPerson(int,int)", "int insult(int,int,int,int)", "int sorry(int)",
        "int arrest(int,boolean)", "int meetings(int)", "int met(int,int)", "int free(int,int)",
        "int second(int,int,int)", "int worth(int)", "int arrests(int)", "int provoked(int,int,int)",
        "long odds(int,int,int)", "int reading(int,int,boolean)", "int back(int)", "int never()", "int caught()",
        "int row(int,int,int,int)", "int sheet(int,int,int)", "int lose(int)", "int put(int,int,int)",
        "long cell(int,int,int)", "int copy(int,int,int,int,int)", "int tell(int)", "int salute(int)",
        "int as(int,int)", "int trace()", "int fault()", "int many(int)"};

    public static void main(String[] args) throws IOException {
        face();
        insides();
        source();
        due.end();
    }

    private static void face() {
        Set<String> want = new TreeSet<>(Set.of(FACE));
        Set<String> got = new TreeSet<>();
        for (Field f : DuelSeconds.class.getDeclaredFields()) {
            if (!Modifier.isPrivate(f.getModifiers())) {
                got.add(f.getType() + " " + f.getName());
                same("public static final " + f.getName(), f.getModifiers(),
                    Modifier.PUBLIC | Modifier.STATIC | Modifier.FINAL);
            } else if (Modifier.isStatic(f.getModifiers())) {
                same("final " + f.getName(), f.getModifiers() & Modifier.FINAL, Modifier.FINAL);
            }
        }
        for (Method m : DuelSeconds.class.getDeclaredMethods()) {
            if (!Modifier.isPrivate(m.getModifiers()) && !m.isSynthetic()) {
                StringBuilder types = new StringBuilder();
                for (Class<?> type : m.getParameterTypes()) {
                    types.append(types.length() == 0 ? "" : ",").append(type);
                }
                got.add(m.getReturnType() + " " + m.getName() + "(" + types + ")");
                same("public " + m.getName(), m.getModifiers(), Modifier.PUBLIC);
            }
        }
        Constructor<?>[] made = DuelSeconds.class.getDeclaredConstructors();
        same("constructors", made.length, 1);
        same("public constructor", made[0].getModifiers(), Modifier.PUBLIC);
        same("its parameters", made[0].getParameterCount(), 0);
        same("public final class", DuelSeconds.class.getModifiers(), Modifier.PUBLIC | Modifier.FINAL);
        if (!got.equals(want)) {
            System.out.println("the face is " + got);
            same("face", 0, 1);
        }
    }

    private static void insides() {
        Set<String> face = new TreeSet<>();
        for (Method m : DuelSeconds.class.getMethods()) {
            face.add(m.getName());
        }
        Class<?>[] inside = DuelSeconds.class.getDeclaredClasses();
        same("at most twelve classes", inside.length < 12 ? 1 : 0, 1);
        for (Class<?> one : inside) {
            same("static " + one, Modifier.isStatic(one.getModifiers()) ? 1 : 0, 1);
            same("not public " + one, Modifier.isPublic(one.getModifiers()) ? 1 : 0, 0);
            for (Method m : one.getDeclaredMethods()) {
                same("a name of the face: " + m, face.contains(m.getName()) ? 1 : 0, 0);
            }
        }
    }

    private static void source() throws IOException {
        String text = Files.readString(Path.of("src/main/java/DuelSeconds.java"));
        String code = text.replaceAll("(?s)/\\*.*?\\*/", " ").replaceAll("//[^\n]*", " ");
        for (String word : new String[] {"throw", "throws", "try", "catch", "finally", "synchronized", "assert",
            "equals", "hashCode", "toString", "package", "Object", "while", "do"}) {
            same("word " + word, code.matches("(?s).*\\b" + word + "\\b.*") ? 1 : 0, 0);
        }
        for (String sign : new String[] {"->", "::", "@", "java.io", "java.time", "\""}) {
            same("sign " + sign, code.contains(sign) ? 1 : 0, 0);
        }
        same("imports", code.split("\\bimport\\b").length - 1, 1);
        same("import of Arrays", code.contains("import java.util.Arrays;") ? 1 : 0, 1);
    }

    private static void same(String what, long got, long want) {
        due.is(what, got, want);
    }
}
