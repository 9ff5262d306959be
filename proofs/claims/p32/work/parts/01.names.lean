/-! ===== BEGIN printed: names, fields, word lists, decode rows ===== -/
def RX0 : String := "DuelSeconds$Insults"
def TX0 : u_T := fun k => match k with
  | 0 => ("DuelSeconds$Insults", "count", "I", false)
  | 1 => ("DuelSeconds$Insults", "from", "[I", true)
  | 2 => ("DuelSeconds$Insults", "to", "[I", true)
  | 3 => ("DuelSeconds$Insults", "day", "[I", true)
  | _ => ("DuelSeconds$Insults", "degree", "[I", true)
def tyX0 : Nat → FieldType := fun k => match k with
  | 0 => .int
  | 1 => .array .int
  | 2 => .array .int
  | 3 => .array .int
  | _ => .array .int
abbrev wsX00 : List Cond := u_ws RX0 TX0 5
theorem nmX0 : ∀ a, a < 5 → ∀ b, b < 5 → a ≠ b → (TX0 a).2.1 ≠ (TX0 b).2.1 := by decide +kernel
theorem tyX0_ok : ∀ k, k < 5 → parseFieldDescriptor (TX0 k).2.2.1 = some (tyX0 k) := by decide +kernel
abbrev cX0_init : ByteArray := prog_2_method_1_code
def yX0_init : MethodName := ⟨RX0, "<init>", "(I)V"⟩
abbrev cX0_add : ByteArray := prog_2_method_2_code
def yX0_add : MethodName := ⟨RX0, "add", "(IIII)V"⟩
def RX1 : String := "DuelSeconds$Log"
def TX1 : u_T := fun k => match k with
  | 0 => ("DuelSeconds$Log", "count", "I", false)
  | _ => ("DuelSeconds$Log", "facts", "[[I", true)
def tyX1 : Nat → FieldType := fun k => match k with
  | 0 => .int
  | _ => .array (.array .int)
abbrev wsX10 : List Cond := u_ws RX1 TX1 2
theorem nmX1 : ∀ a, a < 2 → ∀ b, b < 2 → a ≠ b → (TX1 a).2.1 ≠ (TX1 b).2.1 := by decide +kernel
theorem tyX1_ok : ∀ k, k < 2 → parseFieldDescriptor (TX1 k).2.2.1 = some (tyX1 k) := by decide +kernel
abbrev cX1_init : ByteArray := prog_3_method_1_code
def yX1_init : MethodName := ⟨RX1, "<init>", "()V"⟩
abbrev cX1_add : ByteArray := prog_3_method_2_code
def yX1_add : MethodName := ⟨RX1, "add", "(IIIIII)V"⟩
def RX2 : String := "DuelSeconds$Persons"
def TX2 : u_T := fun k => match k with
  | 0 => ("DuelSeconds$Persons", "count", "I", false)
  | 1 => ("DuelSeconds$Persons", "arrested", "I", false)
  | 2 => ("DuelSeconds$Persons", "kind", "[I", true)
  | 3 => ("DuelSeconds$Persons", "honour", "[I", true)
  | 4 => ("DuelSeconds$Persons", "firstFriend", "[I", true)
  | _ => ("DuelSeconds$Persons", "secondFriend", "[I", true)
def tyX2 : Nat → FieldType := fun k => match k with
  | 0 => .int
  | 1 => .int
  | 2 => .array .int
  | 3 => .array .int
  | 4 => .array .int
  | _ => .array .int
abbrev wsX20 : List Cond := u_ws RX2 TX2 6
theorem nmX2 : ∀ a, a < 6 → ∀ b, b < 6 → a ≠ b → (TX2 a).2.1 ≠ (TX2 b).2.1 := by decide +kernel
theorem tyX2_ok : ∀ k, k < 6 → parseFieldDescriptor (TX2 k).2.2.1 = some (tyX2 k) := by decide +kernel
abbrev cX2_init : ByteArray := prog_4_method_1_code
def yX2_init : MethodName := ⟨RX2, "<init>", "()V"⟩
abbrev cX2_has : ByteArray := prog_4_method_2_code
def yX2_has : MethodName := ⟨RX2, "has", "(I)Z"⟩
abbrev cX2_hasTwo : ByteArray := prog_4_method_3_code
def yX2_hasTwo : MethodName := ⟨RX2, "hasTwo", "(II)Z"⟩
abbrev cX2_touchiness : ByteArray := prog_4_method_4_code
def yX2_touchiness : MethodName := ⟨RX2, "touchiness", "(I)I"⟩
abbrev cX2_secondAmong : ByteArray := prog_4_method_5_code
def yX2_secondAmong : MethodName := ⟨RX2, "secondAmong", "(II)I"⟩
def RX3 : String := "DuelSeconds$Readings"
def TX3 : u_T := fun k => match k with
  | 0 => ("DuelSeconds$Readings", "count", "I", false)
  | 1 => ("DuelSeconds$Readings", "person", "[I", true)
  | 2 => ("DuelSeconds$Readings", "dawn", "[I", true)
  | _ => ("DuelSeconds$Readings", "was", "[Z", true)
def tyX3 : Nat → FieldType := fun k => match k with
  | 0 => .int
  | 1 => .array .int
  | 2 => .array .int
  | _ => .array .boolean
abbrev wsX30 : List Cond := u_ws RX3 TX3 4
theorem nmX3 : ∀ a, a < 4 → ∀ b, b < 4 → a ≠ b → (TX3 a).2.1 ≠ (TX3 b).2.1 := by decide +kernel
theorem tyX3_ok : ∀ k, k < 4 → parseFieldDescriptor (TX3 k).2.2.1 = some (tyX3 k) := by decide +kernel
abbrev cX3_init : ByteArray := prog_5_method_1_code
def yX3_init : MethodName := ⟨RX3, "<init>", "()V"⟩
def RX4 : String := "DuelSeconds$Season"
def TX4 : u_T := fun k => match k with
  | 0 => ("DuelSeconds$Season", "log", "LDuelSeconds$Log;", true)
  | 1 => ("DuelSeconds$Season", "hurt", "I", false)
  | 2 => ("DuelSeconds$Season", "persons", "LDuelSeconds$Persons;", true)
  | 3 => ("DuelSeconds$Season", "told", "LDuelSeconds$Insults;", true)
  | 4 => ("DuelSeconds$Season", "taken", "LDuelSeconds$Insults;", true)
  | 5 => ("DuelSeconds$Season", "passed", "I", false)
  | 6 => ("DuelSeconds$Season", "wellFrom", "[I", true)
  | 7 => ("DuelSeconds$Season", "made", "I", false)
  | 8 => ("DuelSeconds$Season", "days", "J", false)
  | 9 => ("DuelSeconds$Season", "arrested", "I", false)
  | _ => ("DuelSeconds$Season", "free", "I", false)
def tyX4 : Nat → FieldType := fun k => match k with
  | 0 => .object "DuelSeconds$Log"
  | 1 => .int
  | 2 => .object "DuelSeconds$Persons"
  | 3 => .object "DuelSeconds$Insults"
  | 4 => .object "DuelSeconds$Insults"
  | 5 => .int
  | 6 => .array .int
  | 7 => .int
  | 8 => .long
  | 9 => .int
  | _ => .int
abbrev wsX40 : List Cond := u_ws RX4 TX4 11
theorem nmX4 : ∀ a, a < 11 → ∀ b, b < 11 → a ≠ b → (TX4 a).2.1 ≠ (TX4 b).2.1 := by decide +kernel
theorem tyX4_ok : ∀ k, k < 11 → parseFieldDescriptor (TX4 k).2.2.1 = some (tyX4 k) := by decide +kernel
abbrev cX4_init : ByteArray := prog_6_method_1_code
def yX4_init : MethodName := ⟨RX4, "<init>", "(LDuelSeconds$Persons;LDuelSeconds$Insults;)V"⟩
abbrev cX4_live : ByteArray := prog_6_method_2_code
def yX4_live : MethodName := ⟨RX4, "live", "(III)V"⟩
abbrev cX4_begin : ByteArray := prog_6_method_3_code
def yX4_begin : MethodName := ⟨RX4, "begin", "(II)V"⟩
abbrev cX4_pass : ByteArray := prog_6_method_4_code
def yX4_pass : MethodName := ⟨RX4, "pass", "(I)V"⟩
abbrev cX4_freeAhead : ByteArray := prog_6_method_5_code
def yX4_freeAhead : MethodName := ⟨RX4, "freeAhead", "(I)I"⟩
abbrev cX4_answer : ByteArray := prog_6_method_6_code
def yX4_answer : MethodName := ⟨RX4, "answer", "(LDuelSeconds$Insults;II)V"⟩
abbrev cX4_shoot : ByteArray := prog_6_method_7_code
def yX4_shoot : MethodName := ⟨RX4, "shoot", "(III)I"⟩
def RX5 : String := "DuelSeconds$Sheet"
def TX5 : u_T := fun k => match k with
  | 0 => ("DuelSeconds$Sheet", "hasRow", "Z", false)
  | 1 => ("DuelSeconds$Sheet", "lane", "I", false)
  | 2 => ("DuelSeconds$Sheet", "length", "I", false)
  | _ => ("DuelSeconds$Sheet", "cells", "[I", true)
def tyX5 : Nat → FieldType := fun k => match k with
  | 0 => .boolean
  | 1 => .int
  | 2 => .int
  | _ => .array .int
abbrev wsX50 : List Cond := u_ws RX5 TX5 4
theorem nmX5 : ∀ a, a < 4 → ∀ b, b < 4 → a ≠ b → (TX5 a).2.1 ≠ (TX5 b).2.1 := by decide +kernel
theorem tyX5_ok : ∀ k, k < 4 → parseFieldDescriptor (TX5 k).2.2.1 = some (tyX5 k) := by decide +kernel
abbrev cX5_init : ByteArray := prog_7_method_1_code
def yX5_init : MethodName := ⟨RX5, "<init>", "()V"⟩
abbrev cX5_renew : ByteArray := prog_7_method_2_code
def yX5_renew : MethodName := ⟨RX5, "renew", "(II)V"⟩
abbrev cX5_holds : ByteArray := prog_7_method_3_code
def yX5_holds : MethodName := ⟨RX5, "holds", "(II)Z"⟩
abbrev cX5_at : ByteArray := prog_7_method_4_code
def yX5_at : MethodName := ⟨RX5, "at", "(I)I"⟩
abbrev cX5_faultOfTaking : ByteArray := prog_7_method_5_code
def yX5_faultOfTaking : MethodName := ⟨RX5, "faultOfTaking", "(III)I"⟩
def RX6 : String := "DuelSeconds$Text"
def TX6 : u_T := fun k => match k with
  | _ => ("", "", "", false)
def tyX6 : Nat → FieldType := fun k => match k with
  | _ => .int
abbrev wsX60 : List Cond := u_ws RX6 TX6 0
theorem nmX6 : ∀ a, a < 0 → ∀ b, b < 0 → a ≠ b → (TX6 a).2.1 ≠ (TX6 b).2.1 := by decide +kernel
theorem tyX6_ok : ∀ k, k < 0 → parseFieldDescriptor (TX6 k).2.2.1 = some (tyX6 k) := by decide +kernel
abbrev cX6_firstFault : ByteArray := prog_8_method_2_code
def yX6_firstFault : MethodName := ⟨RX6, "firstFault", "(LDuelSeconds$Sheet;II)I"⟩
abbrev cX6_goesOn : ByteArray := prog_8_method_3_code
def yX6_goesOn : MethodName := ⟨RX6, "goesOn", "(LDuelSeconds$Sheet;II)Z"⟩
abbrev cX6_digit : ByteArray := prog_8_method_4_code
def yX6_digit : MethodName := ⟨RX6, "digit", "(I)I"⟩
abbrev cX6_kindOf : ByteArray := prog_8_method_5_code
def yX6_kindOf : MethodName := ⟨RX6, "kindOf", "(I)I"⟩
abbrev cX6_read : ByteArray := prog_8_method_6_code
def yX6_read : MethodName := ⟨RX6, "read", "(LDuelSeconds$Sheet;ILDuelSeconds$Persons;)V"⟩
def RX7 : String := "DuelSeconds"
def TX7 : u_T := fun k => match k with
  | 0 => ("DuelSeconds", "persons", "LDuelSeconds$Persons;", true)
  | 1 => ("DuelSeconds", "told", "LDuelSeconds$Insults;", true)
  | 2 => ("DuelSeconds", "readings", "LDuelSeconds$Readings;", true)
  | 3 => ("DuelSeconds", "season", "LDuelSeconds$Season;", true)
  | 4 => ("DuelSeconds", "sheets", "[LDuelSeconds$Sheet;", true)
  | 5 => ("DuelSeconds", "trace", "I", false)
  | _ => ("DuelSeconds", "fault", "I", false)
def tyX7 : Nat → FieldType := fun k => match k with
  | 0 => .object "DuelSeconds$Persons"
  | 1 => .object "DuelSeconds$Insults"
  | 2 => .object "DuelSeconds$Readings"
  | 3 => .object "DuelSeconds$Season"
  | 4 => .array (.object "DuelSeconds$Sheet")
  | 5 => .int
  | _ => .int
abbrev wsX70 : List Cond := u_ws RX7 TX7 7
theorem nmX7 : ∀ a, a < 7 → ∀ b, b < 7 → a ≠ b → (TX7 a).2.1 ≠ (TX7 b).2.1 := by decide +kernel
theorem tyX7_ok : ∀ k, k < 7 → parseFieldDescriptor (TX7 k).2.2.1 = some (tyX7 k) := by decide +kernel
abbrev cX7_init : ByteArray := prog_1_method_1_code
def yX7_init : MethodName := ⟨RX7, "<init>", "()V"⟩
abbrev cX7_coast : ByteArray := prog_1_method_2_code
def yX7_coast : MethodName := ⟨RX7, "coast", "(IIII)I"⟩
abbrev cX7_ofPerson : ByteArray := prog_1_method_3_code
def yX7_ofPerson : MethodName := ⟨RX7, "ofPerson", "(II)I"⟩
abbrev cX7_insult : ByteArray := prog_1_method_4_code
def yX7_insult : MethodName := ⟨RX7, "insult", "(IIII)I"⟩
abbrev cX7_sorry : ByteArray := prog_1_method_5_code
def yX7_sorry : MethodName := site_894
abbrev cX7_arrest : ByteArray := prog_1_method_6_code
def yX7_arrest : MethodName := ⟨RX7, "arrest", "(IZ)I"⟩
abbrev cX7_meetings : ByteArray := prog_1_method_7_code
def yX7_meetings : MethodName := ⟨RX7, "meetings", "(I)I"⟩
abbrev cX7_met : ByteArray := prog_1_method_8_code
def yX7_met : MethodName := ⟨RX7, "met", "(II)I"⟩
abbrev cX7_free : ByteArray := prog_1_method_9_code
def yX7_free : MethodName := ⟨RX7, "free", "(II)I"⟩
abbrev cX7_second : ByteArray := prog_1_method_10_code
def yX7_second : MethodName := ⟨RX7, "second", "(III)I"⟩
abbrev cX7_worth : ByteArray := prog_1_method_11_code
def yX7_worth : MethodName := ⟨RX7, "worth", "(I)I"⟩
abbrev cX7_row : ByteArray := prog_1_method_20_code
def yX7_row : MethodName := ⟨RX7, "row", "(IIII)I"⟩
abbrev cX7_freeInTurn : ByteArray := prog_1_method_21_code
def yX7_freeInTurn : MethodName := ⟨RX7, "freeInTurn", "(LDuelSeconds$Sheet;II)I"⟩
abbrev cX7_sheet : ByteArray := prog_1_method_22_code
def yX7_sheet : MethodName := ⟨RX7, "sheet", "(III)I"⟩
abbrev cX7_put : ByteArray := prog_1_method_24_code
def yX7_put : MethodName := ⟨RX7, "put", "(III)I"⟩
abbrev cX7_many : ByteArray := prog_1_method_32_code
def yX7_many : MethodName := ⟨RX7, "many", "(I)I"⟩
abbrev cX7_isEmpty : ByteArray := prog_1_method_39_code
def yX7_isEmpty : MethodName := ⟨RX7, "isEmpty", "()Z"⟩
abbrev cX7_sheetOf : ByteArray := prog_1_method_40_code
def yX7_sheetOf : MethodName := ⟨RX7, "sheetOf", "(I)LDuelSeconds$Sheet;"⟩
abbrev cX7_faulted : ByteArray := prog_1_method_41_code
def yX7_faulted : MethodName := ⟨RX7, "faulted", "(I)I"⟩
abbrev cX7_isLane : ByteArray := prog_1_method_42_code
def yX7_isLane : MethodName := ⟨RX7, "isLane", "(I)Z"⟩
abbrev cX7_isDay : ByteArray := prog_1_method_43_code
def yX7_isDay : MethodName := ⟨RX7, "isDay", "(I)Z"⟩
abbrev cX7_isDawn : ByteArray := prog_1_method_44_code
def yX7_isDawn : MethodName := ⟨RX7, "isDawn", "(I)Z"⟩
abbrev cX7_bit : ByteArray := prog_1_method_45_code
def yX7_bit : MethodName := ⟨RX7, "bit", "(I)I"⟩
abbrev cX7_in : ByteArray := prog_1_method_46_code
def yX7_in : MethodName := ⟨RX7, "in", "(II)Z"⟩
abbrev cX7_cut : ByteArray := prog_1_method_47_code
def yX7_cut : MethodName := ⟨RX7, "cut", "(II)I"⟩
def RX8 : String := "DuelSecondsModel"
def TX8 : u_T := fun k => match k with
  | _ => ("", "", "", false)
def tyX8 : Nat → FieldType := fun k => match k with
  | _ => .int
abbrev wsX80 : List Cond := u_ws RX8 TX8 0
theorem nmX8 : ∀ a, a < 0 → ∀ b, b < 0 → a ≠ b → (TX8 a).2.1 ≠ (TX8 b).2.1 := by decide +kernel
theorem tyX8_ok : ∀ k, k < 0 → parseFieldDescriptor (TX8 k).2.2.1 = some (tyX8 k) := by decide +kernel
def RJ9 : String := "java/lang/Math"
abbrev cJ9_abs_0f7a4 : ByteArray := prog_11_method_59_code
def yJ9_abs_0f7a4 : MethodName := ⟨RJ9, "abs", "(I)I"⟩
abbrev cJ9_max_7cf53 : ByteArray := prog_11_method_65_code
def yJ9_max_7cf53 : MethodName := ⟨RJ9, "max", "(II)I"⟩
abbrev cJ9_min_7cf53 : ByteArray := prog_11_method_69_code
def yJ9_min_7cf53 : MethodName := ⟨RJ9, "min", "(II)I"⟩
def RJ7 : String := "java/util/Arrays"
abbrev cJ7_fill_53178 : ByteArray := prog_12_method_103_code
def yJ7_fill_53178 : MethodName := ⟨RJ7, "fill", "([II)V"⟩
def RL : String := "DuelSecondsLaw"
abbrev cL_cell : ByteArray := method_2_code
def yL_cell : MethodName := ⟨RL, "cell", "([II)I"⟩
abbrev cL_some : ByteArray := method_3_code
def yL_some : MethodName := ⟨RL, "some", "(II)I"⟩
abbrev cL_put : ByteArray := method_4_code
def yL_put : MethodName := ⟨RL, "put", "(LDuelSeconds;[III[I)I"⟩
abbrev cL_change : ByteArray := method_5_code
def yL_change : MethodName := ⟨RL, "change", "(LDuelSeconds;II[I[I)Z"⟩
abbrev cL_touchy : ByteArray := method_6_code
def yL_touchy : MethodName := ⟨RL, "touchy", "([II)I"⟩
abbrev cL_second : ByteArray := method_7_code
def yL_second : MethodName := ⟨RL, "second", "([IIIII[I)I"⟩
abbrev cL_go : ByteArray := method_8_code
def yL_go : MethodName := ⟨RL, "go", "([I[IIIII[I[I)V"⟩
abbrev cL_law : ByteArray := code
def yL_law : MethodName := ⟨RL, "law", "([I)Z"⟩
abbrev vwCl : List vw_C := [(RX0, TX0, 5), (RX1, TX1, 2), (RX2, TX2, 6), (RX3, TX3, 4), (RX4, TX4, 11), (RX5, TX5, 4), (RX7, TX7, 7)]
/-- the tables' words that a method may hand on -/
def cw : List Cond := lw_tbl.filter goodWord
theorem cw_in {w : Cond} (h : w ∈ cw) : w ∈ lw_tbl := (List.mem_filter.mp h).1
theorem cw_good {w : Cond} (h : w ∈ cw) : goodWord w = true := (List.mem_filter.mp h).2
theorem cw_0 (i : Nat) {w : Cond} (h : (k2_sels lw_privs)[i]? = some w) (g : goodWord w = true) : w ∈ cw := List.mem_filter.mpr ⟨List.mem_append_left _ (List.mem_of_getElem? h), g⟩
theorem cw_1 (i : Nat) {w : Cond} (h : tables_1_1[i]? = some w) (g : goodWord w = true) : w ∈ cw := List.mem_filter.mpr ⟨List.mem_append_right _ (show w ∈ tables_1 from List.mem_append_left _ (List.mem_of_getElem? h)), g⟩
theorem cw_2 (i : Nat) {w : Cond} (h : tables_1_2[i]? = some w) (g : goodWord w = true) : w ∈ cw := List.mem_filter.mpr ⟨List.mem_append_right _ (show w ∈ tables_1 from List.mem_append_right _ (List.mem_of_getElem? h)), g⟩
