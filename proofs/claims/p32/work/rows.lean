section
-- ===== PART A: goes FIRST, ahead of the names: the tables' words, and 'selects' of the private methods out of them =====
/-- a private method of a class that the tables say can be made, by its rows of tables_1 -/
def lw_okq (q : MethodName × Nat) : Prop := (q.1.cls ≠ "java/lang/invoke/MethodHandle" ∧ q.1.cls ≠ "java/lang/invoke/VarHandle") ∧ Cond.instantiable q.1.cls q.2 ∈ tables_1 ∧ Cond.privateMethod q.1 ∈ tables_1 ∧ Cond.instanceMethod q.1 ∈ tables_1
theorem lw_p0 : lw_okq (⟨"DuelSeconds", "sheetOf", "(I)LDuelSeconds$Sheet;"⟩, 7) := ⟨⟨by decide +kernel, by decide +kernel⟩, List.mem_of_getElem? (i := 12) (by decide +kernel), List.mem_of_getElem? (i := 217) (by decide +kernel), List.mem_of_getElem? (i := 218) (by decide +kernel)⟩
theorem lw_p1 : lw_okq (⟨"DuelSeconds", "faulted", "(I)I"⟩, 7) := ⟨⟨by decide +kernel, by decide +kernel⟩, List.mem_of_getElem? (i := 12) (by decide +kernel), List.mem_of_getElem? (i := 232) (by decide +kernel), List.mem_of_getElem? (i := 233) (by decide +kernel)⟩
theorem lw_p2 : lw_okq (⟨"DuelSeconds", "isEmpty", "()Z"⟩, 7) := ⟨⟨by decide +kernel, by decide +kernel⟩, List.mem_of_getElem? (i := 12) (by decide +kernel), List.mem_of_getElem? (i := 311) (by decide +kernel), List.mem_of_getElem? (i := 312) (by decide +kernel)⟩
theorem lw_p3 : lw_okq (⟨"DuelSeconds$Season", "answer", "(LDuelSeconds$Insults;II)V"⟩, 11) := ⟨⟨by decide +kernel, by decide +kernel⟩, List.mem_of_getElem? (i := 108) (by decide +kernel), List.mem_of_getElem? (i := 336) (by decide +kernel), List.mem_of_getElem? (i := 337) (by decide +kernel)⟩
theorem lw_p4 : lw_okq (⟨"DuelSeconds$Season", "shoot", "(III)I"⟩, 11) := ⟨⟨by decide +kernel, by decide +kernel⟩, List.mem_of_getElem? (i := 108) (by decide +kernel), List.mem_of_getElem? (i := 346) (by decide +kernel), List.mem_of_getElem? (i := 347) (by decide +kernel)⟩
theorem lw_p5 : lw_okq (⟨"DuelSeconds", "freeInTurn", "(LDuelSeconds$Sheet;II)I"⟩, 7) := ⟨⟨by decide +kernel, by decide +kernel⟩, List.mem_of_getElem? (i := 12) (by decide +kernel), List.mem_of_getElem? (i := 381) (by decide +kernel), List.mem_of_getElem? (i := 382) (by decide +kernel)⟩
def lw_privs_1 : List (MethodName × Nat) := [(⟨"DuelSeconds", "sheetOf", "(I)LDuelSeconds$Sheet;"⟩, 7), (⟨"DuelSeconds", "faulted", "(I)I"⟩, 7), (⟨"DuelSeconds", "isEmpty", "()Z"⟩, 7), (⟨"DuelSeconds$Season", "answer", "(LDuelSeconds$Insults;II)V"⟩, 11), (⟨"DuelSeconds$Season", "shoot", "(III)I"⟩, 11), (⟨"DuelSeconds", "freeInTurn", "(LDuelSeconds$Sheet;II)I"⟩, 7)]
theorem lw_r1 : ∀ q ∈ lw_privs_1, lw_okq q := List.forall_mem_cons.mpr ⟨lw_p0, List.forall_mem_cons.mpr ⟨lw_p1, List.forall_mem_cons.mpr ⟨lw_p2, List.forall_mem_cons.mpr ⟨lw_p3, List.forall_mem_cons.mpr ⟨lw_p4, List.forall_mem_cons.mpr ⟨lw_p5, fun _ h => absurd h List.not_mem_nil⟩⟩⟩⟩⟩⟩
def lw_privs : List (MethodName × Nat) := lw_privs_1
def lw_tbl : List Cond := k2_sels lw_privs ++ tables_1
theorem lw_privs_ok : ∀ q ∈ lw_privs, lw_okq q := lw_r1
end
section
/-! ===== BEGIN printed: names, fields, word lists, decode rows ===== -/
def RX0 : String := "DuelSeconds$Insults"
def TX0 : u_T := fun k => match k with
  | 0 => ("DuelSeconds$Insults", "count", "I", false)
  | 1 => ("DuelSeconds$Insults", "from", "[I", true)
  | 2 => ("DuelSeconds$Insults", "to", "[I", true)
  | 3 => ("DuelSeconds$Insults", "day", "[I", true)
  | _ => ("DuelSeconds$Insults", "degree", "[I", true)
def tyX0 : Nat → FieldType := fun k => match k with
  | 0 => .int
  | 1 => .array .int
  | 2 => .array .int
  | 3 => .array .int
  | _ => .array .int
abbrev wsX00 : List Cond := u_ws RX0 TX0 5
theorem nmX0 : ∀ a, a < 5 → ∀ b, b < 5 → a ≠ b → (TX0 a).2.1 ≠ (TX0 b).2.1 := by decide +kernel
theorem tyX0_ok : ∀ k, k < 5 → parseFieldDescriptor (TX0 k).2.2.1 = some (tyX0 k) := by decide +kernel
abbrev cX0_init : ByteArray := prog_2_method_1_code
def yX0_init : MethodName := ⟨RX0, "<init>", "(I)V"⟩
abbrev cX0_add : ByteArray := prog_2_method_2_code
def yX0_add : MethodName := ⟨RX0, "add", "(IIII)V"⟩
def RX1 : String := "DuelSeconds$Log"
def TX1 : u_T := fun k => match k with
  | 0 => ("DuelSeconds$Log", "count", "I", false)
  | _ => ("DuelSeconds$Log", "facts", "[[I", true)
def tyX1 : Nat → FieldType := fun k => match k with
  | 0 => .int
  | _ => .array (.array .int)
abbrev wsX10 : List Cond := u_ws RX1 TX1 2
theorem nmX1 : ∀ a, a < 2 → ∀ b, b < 2 → a ≠ b → (TX1 a).2.1 ≠ (TX1 b).2.1 := by decide +kernel
theorem tyX1_ok : ∀ k, k < 2 → parseFieldDescriptor (TX1 k).2.2.1 = some (tyX1 k) := by decide +kernel
abbrev cX1_init : ByteArray := prog_3_method_1_code
def yX1_init : MethodName := ⟨RX1, "<init>", "()V"⟩
abbrev cX1_add : ByteArray := prog_3_method_2_code
def yX1_add : MethodName := ⟨RX1, "add", "(IIIIII)V"⟩
def RX2 : String := "DuelSeconds$Persons"
def TX2 : u_T := fun k => match k with
  | 0 => ("DuelSeconds$Persons", "count", "I", false)
  | 1 => ("DuelSeconds$Persons", "arrested", "I", false)
  | 2 => ("DuelSeconds$Persons", "kind", "[I", true)
  | 3 => ("DuelSeconds$Persons", "honour", "[I", true)
  | 4 => ("DuelSeconds$Persons", "firstFriend", "[I", true)
  | _ => ("DuelSeconds$Persons", "secondFriend", "[I", true)
def tyX2 : Nat → FieldType := fun k => match k with
  | 0 => .int
  | 1 => .int
  | 2 => .array .int
  | 3 => .array .int
  | 4 => .array .int
  | _ => .array .int
abbrev wsX20 : List Cond := u_ws RX2 TX2 6
theorem nmX2 : ∀ a, a < 6 → ∀ b, b < 6 → a ≠ b → (TX2 a).2.1 ≠ (TX2 b).2.1 := by decide +kernel
theorem tyX2_ok : ∀ k, k < 6 → parseFieldDescriptor (TX2 k).2.2.1 = some (tyX2 k) := by decide +kernel
abbrev cX2_init : ByteArray := prog_4_method_1_code
def yX2_init : MethodName := ⟨RX2, "<init>", "()V"⟩
abbrev cX2_has : ByteArray := prog_4_method_2_code
def yX2_has : MethodName := ⟨RX2, "has", "(I)Z"⟩
abbrev cX2_hasTwo : ByteArray := prog_4_method_3_code
def yX2_hasTwo : MethodName := ⟨RX2, "hasTwo", "(II)Z"⟩
abbrev cX2_touchiness : ByteArray := prog_4_method_4_code
def yX2_touchiness : MethodName := ⟨RX2, "touchiness", "(I)I"⟩
abbrev cX2_secondAmong : ByteArray := prog_4_method_5_code
def yX2_secondAmong : MethodName := ⟨RX2, "secondAmong", "(II)I"⟩
def RX3 : String := "DuelSeconds$Readings"
def TX3 : u_T := fun k => match k with
  | 0 => ("DuelSeconds$Readings", "count", "I", false)
  | 1 => ("DuelSeconds$Readings", "person", "[I", true)
  | 2 => ("DuelSeconds$Readings", "dawn", "[I", true)
  | _ => ("DuelSeconds$Readings", "was", "[Z", true)
def tyX3 : Nat → FieldType := fun k => match k with
  | 0 => .int
  | 1 => .array .int
  | 2 => .array .int
  | _ => .array .boolean
abbrev wsX30 : List Cond := u_ws RX3 TX3 4
theorem nmX3 : ∀ a, a < 4 → ∀ b, b < 4 → a ≠ b → (TX3 a).2.1 ≠ (TX3 b).2.1 := by decide +kernel
theorem tyX3_ok : ∀ k, k < 4 → parseFieldDescriptor (TX3 k).2.2.1 = some (tyX3 k) := by decide +kernel
abbrev cX3_init : ByteArray := prog_5_method_1_code
def yX3_init : MethodName := ⟨RX3, "<init>", "()V"⟩
def RX4 : String := "DuelSeconds$Season"
def TX4 : u_T := fun k => match k with
  | 0 => ("DuelSeconds$Season", "log", "LDuelSeconds$Log;", true)
  | 1 => ("DuelSeconds$Season", "hurt", "I", false)
  | 2 => ("DuelSeconds$Season", "persons", "LDuelSeconds$Persons;", true)
  | 3 => ("DuelSeconds$Season", "told", "LDuelSeconds$Insults;", true)
  | 4 => ("DuelSeconds$Season", "taken", "LDuelSeconds$Insults;", true)
  | 5 => ("DuelSeconds$Season", "passed", "I", false)
  | 6 => ("DuelSeconds$Season", "wellFrom", "[I", true)
  | 7 => ("DuelSeconds$Season", "made", "I", false)
  | 8 => ("DuelSeconds$Season", "days", "J", false)
  | 9 => ("DuelSeconds$Season", "arrested", "I", false)
  | _ => ("DuelSeconds$Season", "free", "I", false)
def tyX4 : Nat → FieldType := fun k => match k with
  | 0 => .object "DuelSeconds$Log"
  | 1 => .int
  | 2 => .object "DuelSeconds$Persons"
  | 3 => .object "DuelSeconds$Insults"
  | 4 => .object "DuelSeconds$Insults"
  | 5 => .int
  | 6 => .array .int
  | 7 => .int
  | 8 => .long
  | 9 => .int
  | _ => .int
abbrev wsX40 : List Cond := u_ws RX4 TX4 11
theorem nmX4 : ∀ a, a < 11 → ∀ b, b < 11 → a ≠ b → (TX4 a).2.1 ≠ (TX4 b).2.1 := by decide +kernel
theorem tyX4_ok : ∀ k, k < 11 → parseFieldDescriptor (TX4 k).2.2.1 = some (tyX4 k) := by decide +kernel
abbrev cX4_init : ByteArray := prog_6_method_1_code
def yX4_init : MethodName := ⟨RX4, "<init>", "(LDuelSeconds$Persons;LDuelSeconds$Insults;)V"⟩
abbrev cX4_live : ByteArray := prog_6_method_2_code
def yX4_live : MethodName := ⟨RX4, "live", "(III)V"⟩
abbrev cX4_begin : ByteArray := prog_6_method_3_code
def yX4_begin : MethodName := ⟨RX4, "begin", "(II)V"⟩
abbrev cX4_pass : ByteArray := prog_6_method_4_code
def yX4_pass : MethodName := ⟨RX4, "pass", "(I)V"⟩
abbrev cX4_freeAhead : ByteArray := prog_6_method_5_code
def yX4_freeAhead : MethodName := ⟨RX4, "freeAhead", "(I)I"⟩
abbrev cX4_answer : ByteArray := prog_6_method_6_code
def yX4_answer : MethodName := ⟨RX4, "answer", "(LDuelSeconds$Insults;II)V"⟩
abbrev cX4_shoot : ByteArray := prog_6_method_7_code
def yX4_shoot : MethodName := ⟨RX4, "shoot", "(III)I"⟩
def RX5 : String := "DuelSeconds$Sheet"
def TX5 : u_T := fun k => match k with
  | 0 => ("DuelSeconds$Sheet", "hasRow", "Z", false)
  | 1 => ("DuelSeconds$Sheet", "lane", "I", false)
  | 2 => ("DuelSeconds$Sheet", "length", "I", false)
  | _ => ("DuelSeconds$Sheet", "cells", "[I", true)
def tyX5 : Nat → FieldType := fun k => match k with
  | 0 => .boolean
  | 1 => .int
  | 2 => .int
  | _ => .array .int
abbrev wsX50 : List Cond := u_ws RX5 TX5 4
theorem nmX5 : ∀ a, a < 4 → ∀ b, b < 4 → a ≠ b → (TX5 a).2.1 ≠ (TX5 b).2.1 := by decide +kernel
theorem tyX5_ok : ∀ k, k < 4 → parseFieldDescriptor (TX5 k).2.2.1 = some (tyX5 k) := by decide +kernel
abbrev cX5_init : ByteArray := prog_7_method_1_code
def yX5_init : MethodName := ⟨RX5, "<init>", "()V"⟩
abbrev cX5_renew : ByteArray := prog_7_method_2_code
def yX5_renew : MethodName := ⟨RX5, "renew", "(II)V"⟩
abbrev cX5_holds : ByteArray := prog_7_method_3_code
def yX5_holds : MethodName := ⟨RX5, "holds", "(II)Z"⟩
abbrev cX5_at : ByteArray := prog_7_method_4_code
def yX5_at : MethodName := ⟨RX5, "at", "(I)I"⟩
abbrev cX5_faultOfTaking : ByteArray := prog_7_method_5_code
def yX5_faultOfTaking : MethodName := ⟨RX5, "faultOfTaking", "(III)I"⟩
def RX6 : String := "DuelSeconds$Text"
def TX6 : u_T := fun k => match k with
  | _ => ("", "", "", false)
def tyX6 : Nat → FieldType := fun k => match k with
  | _ => .int
abbrev wsX60 : List Cond := u_ws RX6 TX6 0
theorem nmX6 : ∀ a, a < 0 → ∀ b, b < 0 → a ≠ b → (TX6 a).2.1 ≠ (TX6 b).2.1 := by decide +kernel
theorem tyX6_ok : ∀ k, k < 0 → parseFieldDescriptor (TX6 k).2.2.1 = some (tyX6 k) := by decide +kernel
abbrev cX6_firstFault : ByteArray := prog_8_method_2_code
def yX6_firstFault : MethodName := ⟨RX6, "firstFault", "(LDuelSeconds$Sheet;II)I"⟩
abbrev cX6_goesOn : ByteArray := prog_8_method_3_code
def yX6_goesOn : MethodName := ⟨RX6, "goesOn", "(LDuelSeconds$Sheet;II)Z"⟩
abbrev cX6_digit : ByteArray := prog_8_method_4_code
def yX6_digit : MethodName := ⟨RX6, "digit", "(I)I"⟩
abbrev cX6_kindOf : ByteArray := prog_8_method_5_code
def yX6_kindOf : MethodName := ⟨RX6, "kindOf", "(I)I"⟩
abbrev cX6_read : ByteArray := prog_8_method_6_code
def yX6_read : MethodName := ⟨RX6, "read", "(LDuelSeconds$Sheet;ILDuelSeconds$Persons;)V"⟩
def RX7 : String := "DuelSeconds"
def TX7 : u_T := fun k => match k with
  | 0 => ("DuelSeconds", "persons", "LDuelSeconds$Persons;", true)
  | 1 => ("DuelSeconds", "told", "LDuelSeconds$Insults;", true)
  | 2 => ("DuelSeconds", "readings", "LDuelSeconds$Readings;", true)
  | 3 => ("DuelSeconds", "season", "LDuelSeconds$Season;", true)
  | 4 => ("DuelSeconds", "sheets", "[LDuelSeconds$Sheet;", true)
  | 5 => ("DuelSeconds", "trace", "I", false)
  | _ => ("DuelSeconds", "fault", "I", false)
def tyX7 : Nat → FieldType := fun k => match k with
  | 0 => .object "DuelSeconds$Persons"
  | 1 => .object "DuelSeconds$Insults"
  | 2 => .object "DuelSeconds$Readings"
  | 3 => .object "DuelSeconds$Season"
  | 4 => .array (.object "DuelSeconds$Sheet")
  | 5 => .int
  | _ => .int
abbrev wsX70 : List Cond := u_ws RX7 TX7 7
theorem nmX7 : ∀ a, a < 7 → ∀ b, b < 7 → a ≠ b → (TX7 a).2.1 ≠ (TX7 b).2.1 := by decide +kernel
theorem tyX7_ok : ∀ k, k < 7 → parseFieldDescriptor (TX7 k).2.2.1 = some (tyX7 k) := by decide +kernel
abbrev cX7_init : ByteArray := prog_1_method_1_code
def yX7_init : MethodName := ⟨RX7, "<init>", "()V"⟩
abbrev cX7_coast : ByteArray := prog_1_method_2_code
def yX7_coast : MethodName := ⟨RX7, "coast", "(IIII)I"⟩
abbrev cX7_ofPerson : ByteArray := prog_1_method_3_code
def yX7_ofPerson : MethodName := ⟨RX7, "ofPerson", "(II)I"⟩
abbrev cX7_insult : ByteArray := prog_1_method_4_code
def yX7_insult : MethodName := ⟨RX7, "insult", "(IIII)I"⟩
abbrev cX7_sorry : ByteArray := prog_1_method_5_code
def yX7_sorry : MethodName := site_894
abbrev cX7_arrest : ByteArray := prog_1_method_6_code
def yX7_arrest : MethodName := ⟨RX7, "arrest", "(IZ)I"⟩
abbrev cX7_meetings : ByteArray := prog_1_method_7_code
def yX7_meetings : MethodName := ⟨RX7, "meetings", "(I)I"⟩
abbrev cX7_met : ByteArray := prog_1_method_8_code
def yX7_met : MethodName := ⟨RX7, "met", "(II)I"⟩
abbrev cX7_free : ByteArray := prog_1_method_9_code
def yX7_free : MethodName := ⟨RX7, "free", "(II)I"⟩
abbrev cX7_second : ByteArray := prog_1_method_10_code
def yX7_second : MethodName := ⟨RX7, "second", "(III)I"⟩
abbrev cX7_worth : ByteArray := prog_1_method_11_code
def yX7_worth : MethodName := ⟨RX7, "worth", "(I)I"⟩
abbrev cX7_row : ByteArray := prog_1_method_20_code
def yX7_row : MethodName := ⟨RX7, "row", "(IIII)I"⟩
abbrev cX7_freeInTurn : ByteArray := prog_1_method_21_code
def yX7_freeInTurn : MethodName := ⟨RX7, "freeInTurn", "(LDuelSeconds$Sheet;II)I"⟩
abbrev cX7_sheet : ByteArray := prog_1_method_22_code
def yX7_sheet : MethodName := ⟨RX7, "sheet", "(III)I"⟩
abbrev cX7_put : ByteArray := prog_1_method_24_code
def yX7_put : MethodName := ⟨RX7, "put", "(III)I"⟩
abbrev cX7_many : ByteArray := prog_1_method_32_code
def yX7_many : MethodName := ⟨RX7, "many", "(I)I"⟩
abbrev cX7_isEmpty : ByteArray := prog_1_method_39_code
def yX7_isEmpty : MethodName := ⟨RX7, "isEmpty", "()Z"⟩
abbrev cX7_sheetOf : ByteArray := prog_1_method_40_code
def yX7_sheetOf : MethodName := ⟨RX7, "sheetOf", "(I)LDuelSeconds$Sheet;"⟩
abbrev cX7_faulted : ByteArray := prog_1_method_41_code
def yX7_faulted : MethodName := ⟨RX7, "faulted", "(I)I"⟩
abbrev cX7_isLane : ByteArray := prog_1_method_42_code
def yX7_isLane : MethodName := ⟨RX7, "isLane", "(I)Z"⟩
abbrev cX7_isDay : ByteArray := prog_1_method_43_code
def yX7_isDay : MethodName := ⟨RX7, "isDay", "(I)Z"⟩
abbrev cX7_isDawn : ByteArray := prog_1_method_44_code
def yX7_isDawn : MethodName := ⟨RX7, "isDawn", "(I)Z"⟩
abbrev cX7_bit : ByteArray := prog_1_method_45_code
def yX7_bit : MethodName := ⟨RX7, "bit", "(I)I"⟩
abbrev cX7_in : ByteArray := prog_1_method_46_code
def yX7_in : MethodName := ⟨RX7, "in", "(II)Z"⟩
abbrev cX7_cut : ByteArray := prog_1_method_47_code
def yX7_cut : MethodName := ⟨RX7, "cut", "(II)I"⟩
def RX8 : String := "DuelSecondsModel"
def TX8 : u_T := fun k => match k with
  | _ => ("", "", "", false)
def tyX8 : Nat → FieldType := fun k => match k with
  | _ => .int
abbrev wsX80 : List Cond := u_ws RX8 TX8 0
theorem nmX8 : ∀ a, a < 0 → ∀ b, b < 0 → a ≠ b → (TX8 a).2.1 ≠ (TX8 b).2.1 := by decide +kernel
theorem tyX8_ok : ∀ k, k < 0 → parseFieldDescriptor (TX8 k).2.2.1 = some (tyX8 k) := by decide +kernel
def RJ9 : String := "java/lang/Math"
abbrev cJ9_abs_0f7a4 : ByteArray := prog_11_method_59_code
def yJ9_abs_0f7a4 : MethodName := ⟨RJ9, "abs", "(I)I"⟩
abbrev cJ9_max_7cf53 : ByteArray := prog_11_method_65_code
def yJ9_max_7cf53 : MethodName := ⟨RJ9, "max", "(II)I"⟩
abbrev cJ9_min_7cf53 : ByteArray := prog_11_method_69_code
def yJ9_min_7cf53 : MethodName := ⟨RJ9, "min", "(II)I"⟩
def RJ7 : String := "java/util/Arrays"
abbrev cJ7_fill_53178 : ByteArray := prog_12_method_103_code
def yJ7_fill_53178 : MethodName := ⟨RJ7, "fill", "([II)V"⟩
def RL : String := "DuelSecondsLaw"
abbrev cL_cell : ByteArray := method_2_code
def yL_cell : MethodName := ⟨RL, "cell", "([II)I"⟩
abbrev cL_some : ByteArray := method_3_code
def yL_some : MethodName := ⟨RL, "some", "(II)I"⟩
abbrev cL_put : ByteArray := method_4_code
def yL_put : MethodName := ⟨RL, "put", "(LDuelSeconds;[III[I)I"⟩
abbrev cL_change : ByteArray := method_5_code
def yL_change : MethodName := ⟨RL, "change", "(LDuelSeconds;II[I[I)Z"⟩
abbrev cL_touchy : ByteArray := method_6_code
def yL_touchy : MethodName := ⟨RL, "touchy", "([II)I"⟩
abbrev cL_second : ByteArray := method_7_code
def yL_second : MethodName := ⟨RL, "second", "([IIIII[I)I"⟩
abbrev cL_go : ByteArray := method_8_code
def yL_go : MethodName := ⟨RL, "go", "([I[IIIII[I[I)V"⟩
abbrev cL_law : ByteArray := code
def yL_law : MethodName := ⟨RL, "law", "([I)Z"⟩
abbrev vwCl : List vw_C := [(RX0, TX0, 5), (RX1, TX1, 2), (RX2, TX2, 6), (RX3, TX3, 4), (RX4, TX4, 11), (RX5, TX5, 4), (RX7, TX7, 7)]
/-- the tables' words that a method may hand on -/
def cw : List Cond := lw_tbl.filter goodWord
theorem cw_in {w : Cond} (h : w ∈ cw) : w ∈ lw_tbl := (List.mem_filter.mp h).1
theorem cw_good {w : Cond} (h : w ∈ cw) : goodWord w = true := (List.mem_filter.mp h).2
theorem cw_0 (i : Nat) {w : Cond} (h : (k2_sels lw_privs)[i]? = some w) (g : goodWord w = true) : w ∈ cw := List.mem_filter.mpr ⟨List.mem_append_left _ (List.mem_of_getElem? h), g⟩
theorem cw_1 (i : Nat) {w : Cond} (h : tables_1_1[i]? = some w) (g : goodWord w = true) : w ∈ cw := List.mem_filter.mpr ⟨List.mem_append_right _ (show w ∈ tables_1 from List.mem_append_left _ (List.mem_of_getElem? h)), g⟩
theorem cw_2 (i : Nat) {w : Cond} (h : tables_1_2[i]? = some w) (g : goodWord w = true) : w ∈ cw := List.mem_filter.mpr ⟨List.mem_append_right _ (show w ∈ tables_1 from List.mem_append_right _ (List.mem_of_getElem? h)), g⟩
end
section
theorem dX0_init_0 : decode cX0_init 0 = .ok (.aload_n 0, 1) := by decide +kernel
theorem dX0_init_1 : decode cX0_init 1 = .ok (.invokespecial 1, 3) := by decide +kernel
theorem dX0_init_4 : decode cX0_init 4 = .ok (.aload_n 0, 1) := by decide +kernel
theorem dX0_init_5 : decode cX0_init 5 = .ok (.iload_n 1, 1) := by decide +kernel
theorem dX0_init_6 : decode cX0_init 6 = .ok (.newarray .int, 2) := by decide +kernel
theorem dX0_init_8 : decode cX0_init 8 = .ok (.putfield 7, 3) := by decide +kernel
theorem dX0_init_11 : decode cX0_init 11 = .ok (.aload_n 0, 1) := by decide +kernel
theorem dX0_init_12 : decode cX0_init 12 = .ok (.iload_n 1, 1) := by decide +kernel
theorem dX0_init_13 : decode cX0_init 13 = .ok (.newarray .int, 2) := by decide +kernel
theorem dX0_init_15 : decode cX0_init 15 = .ok (.putfield 13, 3) := by decide +kernel
theorem dX0_init_18 : decode cX0_init 18 = .ok (.aload_n 0, 1) := by decide +kernel
theorem dX0_init_19 : decode cX0_init 19 = .ok (.iload_n 1, 1) := by decide +kernel
theorem dX0_init_20 : decode cX0_init 20 = .ok (.newarray .int, 2) := by decide +kernel
theorem dX0_init_22 : decode cX0_init 22 = .ok (.putfield 16, 3) := by decide +kernel
theorem dX0_init_25 : decode cX0_init 25 = .ok (.aload_n 0, 1) := by decide +kernel
theorem dX0_init_26 : decode cX0_init 26 = .ok (.iload_n 1, 1) := by decide +kernel
theorem dX0_init_27 : decode cX0_init 27 = .ok (.newarray .int, 2) := by decide +kernel
theorem dX0_init_29 : decode cX0_init 29 = .ok (.putfield 19, 3) := by decide +kernel
theorem dX0_init_32 : decode cX0_init 32 = .ok (.return_, 1) := by decide +kernel
theorem dX0_add_0 : decode cX0_add 0 = .ok (.aload_n 0, 1) := by decide +kernel
theorem dX0_add_1 : decode cX0_add 1 = .ok (.getfield 22, 3) := by decide +kernel
theorem dX0_add_4 : decode cX0_add 4 = .ok (.aload_n 0, 1) := by decide +kernel
theorem dX0_add_5 : decode cX0_add 5 = .ok (.getfield 7, 3) := by decide +kernel
theorem dX0_add_8 : decode cX0_add 8 = .ok (.arraylength, 1) := by decide +kernel
theorem dX0_add_9 : decode cX0_add 9 = .ok (.if_icmp .ge 54, 3) := by decide +kernel
theorem dX0_add_12 : decode cX0_add 12 = .ok (.aload_n 0, 1) := by decide +kernel
theorem dX0_add_13 : decode cX0_add 13 = .ok (.getfield 7, 3) := by decide +kernel
theorem dX0_add_16 : decode cX0_add 16 = .ok (.aload_n 0, 1) := by decide +kernel
theorem dX0_add_17 : decode cX0_add 17 = .ok (.getfield 22, 3) := by decide +kernel
theorem dX0_add_20 : decode cX0_add 20 = .ok (.iload_n 1, 1) := by decide +kernel
theorem dX0_add_21 : decode cX0_add 21 = .ok (.iastore, 1) := by decide +kernel
theorem dX0_add_22 : decode cX0_add 22 = .ok (.aload_n 0, 1) := by decide +kernel
theorem dX0_add_23 : decode cX0_add 23 = .ok (.getfield 13, 3) := by decide +kernel
theorem dX0_add_26 : decode cX0_add 26 = .ok (.aload_n 0, 1) := by decide +kernel
theorem dX0_add_27 : decode cX0_add 27 = .ok (.getfield 22, 3) := by decide +kernel
theorem dX0_add_30 : decode cX0_add 30 = .ok (.iload_n 2, 1) := by decide +kernel
theorem dX0_add_31 : decode cX0_add 31 = .ok (.iastore, 1) := by decide +kernel
theorem dX0_add_32 : decode cX0_add 32 = .ok (.aload_n 0, 1) := by decide +kernel
theorem dX0_add_33 : decode cX0_add 33 = .ok (.getfield 16, 3) := by decide +kernel
theorem dX0_add_36 : decode cX0_add 36 = .ok (.aload_n 0, 1) := by decide +kernel
theorem dX0_add_37 : decode cX0_add 37 = .ok (.getfield 22, 3) := by decide +kernel
theorem dX0_add_40 : decode cX0_add 40 = .ok (.iload_n 3, 1) := by decide +kernel
theorem dX0_add_41 : decode cX0_add 41 = .ok (.iastore, 1) := by decide +kernel
theorem dX0_add_42 : decode cX0_add 42 = .ok (.aload_n 0, 1) := by decide +kernel
theorem dX0_add_43 : decode cX0_add 43 = .ok (.getfield 19, 3) := by decide +kernel
theorem dX0_add_46 : decode cX0_add 46 = .ok (.aload_n 0, 1) := by decide +kernel
theorem dX0_add_47 : decode cX0_add 47 = .ok (.getfield 22, 3) := by decide +kernel
theorem dX0_add_50 : decode cX0_add 50 = .ok (.iload 4, 2) := by decide +kernel
theorem dX0_add_52 : decode cX0_add 52 = .ok (.iastore, 1) := by decide +kernel
theorem dX0_add_53 : decode cX0_add 53 = .ok (.aload_n 0, 1) := by decide +kernel
theorem dX0_add_54 : decode cX0_add 54 = .ok (.dup, 1) := by decide +kernel
theorem dX0_add_55 : decode cX0_add 55 = .ok (.getfield 22, 3) := by decide +kernel
theorem dX0_add_58 : decode cX0_add 58 = .ok (.iconst 1, 1) := by decide +kernel
theorem dX0_add_59 : decode cX0_add 59 = .ok (.iadd, 1) := by decide +kernel
theorem dX0_add_60 : decode cX0_add 60 = .ok (.putfield 22, 3) := by decide +kernel
theorem dX0_add_63 : decode cX0_add 63 = .ok (.return_, 1) := by decide +kernel
theorem dX1_init_0 : decode cX1_init 0 = .ok (.aload_n 0, 1) := by decide +kernel
theorem dX1_init_1 : decode cX1_init 1 = .ok (.invokespecial 3, 3) := by decide +kernel
theorem dX1_init_4 : decode cX1_init 4 = .ok (.aload_n 0, 1) := by decide +kernel
theorem dX1_init_5 : decode cX1_init 5 = .ok (.bipush 6, 2) := by decide +kernel
theorem dX1_init_7 : decode cX1_init 7 = .ok (.sipush 180, 3) := by decide +kernel
theorem dX1_init_10 : decode cX1_init 10 = .ok (.multianewarray 9 2, 4) := by decide +kernel
theorem dX1_init_14 : decode cX1_init 14 = .ok (.putfield 11, 3) := by decide +kernel
theorem dX1_init_17 : decode cX1_init 17 = .ok (.return_, 1) := by decide +kernel
theorem dX1_add_0 : decode cX1_add 0 = .ok (.aload_n 0, 1) := by decide +kernel
theorem dX1_add_1 : decode cX1_add 1 = .ok (.getfield 16, 3) := by decide +kernel
theorem dX1_add_4 : decode cX1_add 4 = .ok (.sipush 180, 3) := by decide +kernel
theorem dX1_add_7 : decode cX1_add 7 = .ok (.if_icmp .ge 88, 3) := by decide +kernel
theorem dX1_add_10 : decode cX1_add 10 = .ok (.aload_n 0, 1) := by decide +kernel
theorem dX1_add_11 : decode cX1_add 11 = .ok (.getfield 11, 3) := by decide +kernel
theorem dX1_add_14 : decode cX1_add 14 = .ok (.iconst 0, 1) := by decide +kernel
theorem dX1_add_15 : decode cX1_add 15 = .ok (.aaload, 1) := by decide +kernel
theorem dX1_add_16 : decode cX1_add 16 = .ok (.aload_n 0, 1) := by decide +kernel
theorem dX1_add_17 : decode cX1_add 17 = .ok (.getfield 16, 3) := by decide +kernel
theorem dX1_add_20 : decode cX1_add 20 = .ok (.iload_n 1, 1) := by decide +kernel
theorem dX1_add_21 : decode cX1_add 21 = .ok (.iastore, 1) := by decide +kernel
theorem dX1_add_22 : decode cX1_add 22 = .ok (.aload_n 0, 1) := by decide +kernel
theorem dX1_add_23 : decode cX1_add 23 = .ok (.getfield 11, 3) := by decide +kernel
theorem dX1_add_26 : decode cX1_add 26 = .ok (.iconst 1, 1) := by decide +kernel
theorem dX1_add_27 : decode cX1_add 27 = .ok (.aaload, 1) := by decide +kernel
theorem dX1_add_28 : decode cX1_add 28 = .ok (.aload_n 0, 1) := by decide +kernel
theorem dX1_add_29 : decode cX1_add 29 = .ok (.getfield 16, 3) := by decide +kernel
theorem dX1_add_32 : decode cX1_add 32 = .ok (.iload_n 2, 1) := by decide +kernel
theorem dX1_add_33 : decode cX1_add 33 = .ok (.iastore, 1) := by decide +kernel
theorem dX1_add_34 : decode cX1_add 34 = .ok (.aload_n 0, 1) := by decide +kernel
theorem dX1_add_35 : decode cX1_add 35 = .ok (.getfield 11, 3) := by decide +kernel
theorem dX1_add_38 : decode cX1_add 38 = .ok (.iconst 2, 1) := by decide +kernel
theorem dX1_add_39 : decode cX1_add 39 = .ok (.aaload, 1) := by decide +kernel
theorem dX1_add_40 : decode cX1_add 40 = .ok (.aload_n 0, 1) := by decide +kernel
theorem dX1_add_41 : decode cX1_add 41 = .ok (.getfield 16, 3) := by decide +kernel
theorem dX1_add_44 : decode cX1_add 44 = .ok (.iload_n 3, 1) := by decide +kernel
theorem dX1_add_45 : decode cX1_add 45 = .ok (.iastore, 1) := by decide +kernel
theorem dX1_add_46 : decode cX1_add 46 = .ok (.aload_n 0, 1) := by decide +kernel
theorem dX1_add_47 : decode cX1_add 47 = .ok (.getfield 11, 3) := by decide +kernel
theorem dX1_add_50 : decode cX1_add 50 = .ok (.iconst 3, 1) := by decide +kernel
theorem dX1_add_51 : decode cX1_add 51 = .ok (.aaload, 1) := by decide +kernel
theorem dX1_add_52 : decode cX1_add 52 = .ok (.aload_n 0, 1) := by decide +kernel
theorem dX1_add_53 : decode cX1_add 53 = .ok (.getfield 16, 3) := by decide +kernel
theorem dX1_add_56 : decode cX1_add 56 = .ok (.iload 4, 2) := by decide +kernel
theorem dX1_add_58 : decode cX1_add 58 = .ok (.iastore, 1) := by decide +kernel
theorem dX1_add_59 : decode cX1_add 59 = .ok (.aload_n 0, 1) := by decide +kernel
theorem dX1_add_60 : decode cX1_add 60 = .ok (.getfield 11, 3) := by decide +kernel
theorem dX1_add_63 : decode cX1_add 63 = .ok (.iconst 4, 1) := by decide +kernel
theorem dX1_add_64 : decode cX1_add 64 = .ok (.aaload, 1) := by decide +kernel
theorem dX1_add_65 : decode cX1_add 65 = .ok (.aload_n 0, 1) := by decide +kernel
theorem dX1_add_66 : decode cX1_add 66 = .ok (.getfield 16, 3) := by decide +kernel
theorem dX1_add_69 : decode cX1_add 69 = .ok (.iload 5, 2) := by decide +kernel
theorem dX1_add_71 : decode cX1_add 71 = .ok (.iastore, 1) := by decide +kernel
theorem dX1_add_72 : decode cX1_add 72 = .ok (.aload_n 0, 1) := by decide +kernel
theorem dX1_add_73 : decode cX1_add 73 = .ok (.getfield 11, 3) := by decide +kernel
theorem dX1_add_76 : decode cX1_add 76 = .ok (.iconst 5, 1) := by decide +kernel
theorem dX1_add_77 : decode cX1_add 77 = .ok (.aaload, 1) := by decide +kernel
theorem dX1_add_78 : decode cX1_add 78 = .ok (.aload_n 0, 1) := by decide +kernel
theorem dX1_add_79 : decode cX1_add 79 = .ok (.getfield 16, 3) := by decide +kernel
theorem dX1_add_82 : decode cX1_add 82 = .ok (.iload 6, 2) := by decide +kernel
theorem dX1_add_84 : decode cX1_add 84 = .ok (.iastore, 1) := by decide +kernel
theorem dX1_add_85 : decode cX1_add 85 = .ok (.aload_n 0, 1) := by decide +kernel
theorem dX1_add_86 : decode cX1_add 86 = .ok (.dup, 1) := by decide +kernel
theorem dX1_add_87 : decode cX1_add 87 = .ok (.getfield 16, 3) := by decide +kernel
theorem dX1_add_90 : decode cX1_add 90 = .ok (.iconst 1, 1) := by decide +kernel
theorem dX1_add_91 : decode cX1_add 91 = .ok (.iadd, 1) := by decide +kernel
theorem dX1_add_92 : decode cX1_add 92 = .ok (.putfield 16, 3) := by decide +kernel
theorem dX1_add_95 : decode cX1_add 95 = .ok (.return_, 1) := by decide +kernel
theorem dX2_init_0 : decode cX2_init 0 = .ok (.aload_n 0, 1) := by decide +kernel
theorem dX2_init_1 : decode cX2_init 1 = .ok (.invokespecial 3, 3) := by decide +kernel
theorem dX2_init_4 : decode cX2_init 4 = .ok (.aload_n 0, 1) := by decide +kernel
theorem dX2_init_5 : decode cX2_init 5 = .ok (.bipush 6, 2) := by decide +kernel
theorem dX2_init_7 : decode cX2_init 7 = .ok (.newarray .int, 2) := by decide +kernel
theorem dX2_init_9 : decode cX2_init 9 = .ok (.putfield 9, 3) := by decide +kernel
theorem dX2_init_12 : decode cX2_init 12 = .ok (.aload_n 0, 1) := by decide +kernel
theorem dX2_init_13 : decode cX2_init 13 = .ok (.bipush 6, 2) := by decide +kernel
theorem dX2_init_15 : decode cX2_init 15 = .ok (.newarray .int, 2) := by decide +kernel
theorem dX2_init_17 : decode cX2_init 17 = .ok (.putfield 15, 3) := by decide +kernel
theorem dX2_init_20 : decode cX2_init 20 = .ok (.aload_n 0, 1) := by decide +kernel
theorem dX2_init_21 : decode cX2_init 21 = .ok (.bipush 6, 2) := by decide +kernel
theorem dX2_init_23 : decode cX2_init 23 = .ok (.newarray .int, 2) := by decide +kernel
theorem dX2_init_25 : decode cX2_init 25 = .ok (.putfield 18, 3) := by decide +kernel
theorem dX2_init_28 : decode cX2_init 28 = .ok (.aload_n 0, 1) := by decide +kernel
theorem dX2_init_29 : decode cX2_init 29 = .ok (.bipush 6, 2) := by decide +kernel
theorem dX2_init_31 : decode cX2_init 31 = .ok (.newarray .int, 2) := by decide +kernel
theorem dX2_init_33 : decode cX2_init 33 = .ok (.putfield 21, 3) := by decide +kernel
theorem dX2_init_36 : decode cX2_init 36 = .ok (.return_, 1) := by decide +kernel
theorem dX2_has_0 : decode cX2_has 0 = .ok (.iload_n 1, 1) := by decide +kernel
theorem dX2_has_1 : decode cX2_has 1 = .ok (.ifCond .lt 15, 3) := by decide +kernel
theorem dX2_has_4 : decode cX2_has 4 = .ok (.iload_n 1, 1) := by decide +kernel
theorem dX2_has_5 : decode cX2_has 5 = .ok (.aload_n 0, 1) := by decide +kernel
theorem dX2_has_6 : decode cX2_has 6 = .ok (.getfield 24, 3) := by decide +kernel
theorem dX2_has_9 : decode cX2_has 9 = .ok (.if_icmp .ge 7, 3) := by decide +kernel
theorem dX2_has_12 : decode cX2_has 12 = .ok (.iconst 1, 1) := by decide +kernel
theorem dX2_has_13 : decode cX2_has 13 = .ok (.goto 4, 3) := by decide +kernel
theorem dX2_has_16 : decode cX2_has 16 = .ok (.iconst 0, 1) := by decide +kernel
theorem dX2_has_17 : decode cX2_has 17 = .ok (.ireturn, 1) := by decide +kernel
theorem dX2_hasTwo_0 : decode cX2_hasTwo 0 = .ok (.aload_n 0, 1) := by decide +kernel
theorem dX2_hasTwo_1 : decode cX2_hasTwo 1 = .ok (.iload_n 1, 1) := by decide +kernel
theorem dX2_hasTwo_2 : decode cX2_hasTwo 2 = .ok (.invokevirtual 28, 3) := by decide +kernel
theorem dX2_hasTwo_5 : decode cX2_hasTwo 5 = .ok (.ifCond .eq 20, 3) := by decide +kernel
theorem dX2_hasTwo_8 : decode cX2_hasTwo 8 = .ok (.aload_n 0, 1) := by decide +kernel
theorem dX2_hasTwo_9 : decode cX2_hasTwo 9 = .ok (.iload_n 2, 1) := by decide +kernel
theorem dX2_hasTwo_10 : decode cX2_hasTwo 10 = .ok (.invokevirtual 28, 3) := by decide +kernel
theorem dX2_hasTwo_13 : decode cX2_hasTwo 13 = .ok (.ifCond .eq 12, 3) := by decide +kernel
theorem dX2_hasTwo_16 : decode cX2_hasTwo 16 = .ok (.iload_n 1, 1) := by decide +kernel
theorem dX2_hasTwo_17 : decode cX2_hasTwo 17 = .ok (.iload_n 2, 1) := by decide +kernel
theorem dX2_hasTwo_18 : decode cX2_hasTwo 18 = .ok (.if_icmp .eq 7, 3) := by decide +kernel
theorem dX2_hasTwo_21 : decode cX2_hasTwo 21 = .ok (.iconst 1, 1) := by decide +kernel
theorem dX2_hasTwo_22 : decode cX2_hasTwo 22 = .ok (.goto 4, 3) := by decide +kernel
theorem dX2_hasTwo_25 : decode cX2_hasTwo 25 = .ok (.iconst 0, 1) := by decide +kernel
theorem dX2_hasTwo_26 : decode cX2_hasTwo 26 = .ok (.ireturn, 1) := by decide +kernel
theorem dX2_touchiness_0 : decode cX2_touchiness 0 = .ok (.bipush 10, 2) := by decide +kernel
theorem dX2_touchiness_2 : decode cX2_touchiness 2 = .ok (.aload_n 0, 1) := by decide +kernel
theorem dX2_touchiness_3 : decode cX2_touchiness 3 = .ok (.getfield 15, 3) := by decide +kernel
theorem dX2_touchiness_6 : decode cX2_touchiness 6 = .ok (.iload_n 1, 1) := by decide +kernel
theorem dX2_touchiness_7 : decode cX2_touchiness 7 = .ok (.iaload, 1) := by decide +kernel
theorem dX2_touchiness_8 : decode cX2_touchiness 8 = .ok (.isub, 1) := by decide +kernel
theorem dX2_touchiness_9 : decode cX2_touchiness 9 = .ok (.istore_n 2, 1) := by decide +kernel
theorem dX2_touchiness_10 : decode cX2_touchiness 10 = .ok (.iconst 1, 1) := by decide +kernel
theorem dX2_touchiness_11 : decode cX2_touchiness 11 = .ok (.iload_n 2, 1) := by decide +kernel
theorem dX2_touchiness_12 : decode cX2_touchiness 12 = .ok (.iconst 2, 1) := by decide +kernel
theorem dX2_touchiness_13 : decode cX2_touchiness 13 = .ok (.isub, 1) := by decide +kernel
theorem dX2_touchiness_14 : decode cX2_touchiness 14 = .ok (.invokestatic 32, 3) := by decide +kernel
theorem dX2_touchiness_17 : decode cX2_touchiness 17 = .ok (.istore_n 3, 1) := by decide +kernel
theorem dX2_touchiness_18 : decode cX2_touchiness 18 = .ok (.aload_n 0, 1) := by decide +kernel
theorem dX2_touchiness_19 : decode cX2_touchiness 19 = .ok (.getfield 9, 3) := by decide +kernel
theorem dX2_touchiness_22 : decode cX2_touchiness 22 = .ok (.iload_n 1, 1) := by decide +kernel
theorem dX2_touchiness_23 : decode cX2_touchiness 23 = .ok (.iaload, 1) := by decide +kernel
theorem dX2_touchiness_24 : decode cX2_touchiness 24 = .ok (.lookupswitch 38 #[(1, 36), (2, 28)], 28) := by decide +kernel
theorem dX2_touchiness_52 : decode cX2_touchiness 52 = .ok (.iconst 1, 1) := by decide +kernel
theorem dX2_touchiness_53 : decode cX2_touchiness 53 = .ok (.iload_n 3, 1) := by decide +kernel
theorem dX2_touchiness_54 : decode cX2_touchiness 54 = .ok (.iconst 1, 1) := by decide +kernel
theorem dX2_touchiness_55 : decode cX2_touchiness 55 = .ok (.isub, 1) := by decide +kernel
theorem dX2_touchiness_56 : decode cX2_touchiness 56 = .ok (.invokestatic 32, 3) := by decide +kernel
theorem dX2_touchiness_59 : decode cX2_touchiness 59 = .ok (.ireturn, 1) := by decide +kernel
theorem dX2_touchiness_60 : decode cX2_touchiness 60 = .ok (.iload_n 3, 1) := by decide +kernel
theorem dX2_touchiness_61 : decode cX2_touchiness 61 = .ok (.ireturn, 1) := by decide +kernel
theorem dX2_touchiness_62 : decode cX2_touchiness 62 = .ok (.iload_n 2, 1) := by decide +kernel
theorem dX2_touchiness_63 : decode cX2_touchiness 63 = .ok (.ireturn, 1) := by decide +kernel
theorem dX2_secondAmong_0 : decode cX2_secondAmong 0 = .ok (.aload_n 0, 1) := by decide +kernel
theorem dX2_secondAmong_1 : decode cX2_secondAmong 1 = .ok (.getfield 18, 3) := by decide +kernel
theorem dX2_secondAmong_4 : decode cX2_secondAmong 4 = .ok (.iload_n 1, 1) := by decide +kernel
theorem dX2_secondAmong_5 : decode cX2_secondAmong 5 = .ok (.iaload, 1) := by decide +kernel
theorem dX2_secondAmong_6 : decode cX2_secondAmong 6 = .ok (.istore_n 3, 1) := by decide +kernel
theorem dX2_secondAmong_7 : decode cX2_secondAmong 7 = .ok (.aload_n 0, 1) := by decide +kernel
theorem dX2_secondAmong_8 : decode cX2_secondAmong 8 = .ok (.getfield 21, 3) := by decide +kernel
theorem dX2_secondAmong_11 : decode cX2_secondAmong 11 = .ok (.iload_n 1, 1) := by decide +kernel
theorem dX2_secondAmong_12 : decode cX2_secondAmong 12 = .ok (.iaload, 1) := by decide +kernel
theorem dX2_secondAmong_13 : decode cX2_secondAmong 13 = .ok (.istore 4, 2) := by decide +kernel
theorem dX2_secondAmong_15 : decode cX2_secondAmong 15 = .ok (.iload_n 2, 1) := by decide +kernel
theorem dX2_secondAmong_16 : decode cX2_secondAmong 16 = .ok (.iload_n 3, 1) := by decide +kernel
theorem dX2_secondAmong_17 : decode cX2_secondAmong 17 = .ok (.invokestatic 38, 3) := by decide +kernel
theorem dX2_secondAmong_20 : decode cX2_secondAmong 20 = .ok (.ifCond .eq 5, 3) := by decide +kernel
theorem dX2_secondAmong_23 : decode cX2_secondAmong 23 = .ok (.iload_n 3, 1) := by decide +kernel
theorem dX2_secondAmong_24 : decode cX2_secondAmong 24 = .ok (.ireturn, 1) := by decide +kernel
theorem dX2_secondAmong_25 : decode cX2_secondAmong 25 = .ok (.iload_n 2, 1) := by decide +kernel
theorem dX2_secondAmong_26 : decode cX2_secondAmong 26 = .ok (.iload 4, 2) := by decide +kernel
theorem dX2_secondAmong_28 : decode cX2_secondAmong 28 = .ok (.invokestatic 38, 3) := by decide +kernel
theorem dX2_secondAmong_31 : decode cX2_secondAmong 31 = .ok (.ifCond .eq 6, 3) := by decide +kernel
theorem dX2_secondAmong_34 : decode cX2_secondAmong 34 = .ok (.iload 4, 2) := by decide +kernel
theorem dX2_secondAmong_36 : decode cX2_secondAmong 36 = .ok (.ireturn, 1) := by decide +kernel
theorem dX2_secondAmong_37 : decode cX2_secondAmong 37 = .ok (.iload_n 2, 1) := by decide +kernel
theorem dX2_secondAmong_38 : decode cX2_secondAmong 38 = .ok (.aload_n 0, 1) := by decide +kernel
theorem dX2_secondAmong_39 : decode cX2_secondAmong 39 = .ok (.getfield 18, 3) := by decide +kernel
theorem dX2_secondAmong_42 : decode cX2_secondAmong 42 = .ok (.iload_n 3, 1) := by decide +kernel
theorem dX2_secondAmong_43 : decode cX2_secondAmong 43 = .ok (.iaload, 1) := by decide +kernel
theorem dX2_secondAmong_44 : decode cX2_secondAmong 44 = .ok (.invokestatic 38, 3) := by decide +kernel
theorem dX2_secondAmong_47 : decode cX2_secondAmong 47 = .ok (.ifCond .eq 10, 3) := by decide +kernel
theorem dX2_secondAmong_50 : decode cX2_secondAmong 50 = .ok (.aload_n 0, 1) := by decide +kernel
theorem dX2_secondAmong_51 : decode cX2_secondAmong 51 = .ok (.getfield 18, 3) := by decide +kernel
theorem dX2_secondAmong_54 : decode cX2_secondAmong 54 = .ok (.iload_n 3, 1) := by decide +kernel
theorem dX2_secondAmong_55 : decode cX2_secondAmong 55 = .ok (.iaload, 1) := by decide +kernel
theorem dX2_secondAmong_56 : decode cX2_secondAmong 56 = .ok (.ireturn, 1) := by decide +kernel
theorem dX2_secondAmong_57 : decode cX2_secondAmong 57 = .ok (.iload_n 2, 1) := by decide +kernel
theorem dX2_secondAmong_58 : decode cX2_secondAmong 58 = .ok (.aload_n 0, 1) := by decide +kernel
theorem dX2_secondAmong_59 : decode cX2_secondAmong 59 = .ok (.getfield 21, 3) := by decide +kernel
theorem dX2_secondAmong_62 : decode cX2_secondAmong 62 = .ok (.iload_n 3, 1) := by decide +kernel
theorem dX2_secondAmong_63 : decode cX2_secondAmong 63 = .ok (.iaload, 1) := by decide +kernel
theorem dX2_secondAmong_64 : decode cX2_secondAmong 64 = .ok (.invokestatic 38, 3) := by decide +kernel
theorem dX2_secondAmong_67 : decode cX2_secondAmong 67 = .ok (.ifCond .eq 10, 3) := by decide +kernel
theorem dX2_secondAmong_70 : decode cX2_secondAmong 70 = .ok (.aload_n 0, 1) := by decide +kernel
theorem dX2_secondAmong_71 : decode cX2_secondAmong 71 = .ok (.getfield 21, 3) := by decide +kernel
theorem dX2_secondAmong_74 : decode cX2_secondAmong 74 = .ok (.iload_n 3, 1) := by decide +kernel
theorem dX2_secondAmong_75 : decode cX2_secondAmong 75 = .ok (.iaload, 1) := by decide +kernel
theorem dX2_secondAmong_76 : decode cX2_secondAmong 76 = .ok (.ireturn, 1) := by decide +kernel
theorem dX2_secondAmong_77 : decode cX2_secondAmong 77 = .ok (.iload_n 2, 1) := by decide +kernel
theorem dX2_secondAmong_78 : decode cX2_secondAmong 78 = .ok (.aload_n 0, 1) := by decide +kernel
theorem dX2_secondAmong_79 : decode cX2_secondAmong 79 = .ok (.getfield 18, 3) := by decide +kernel
theorem dX2_secondAmong_82 : decode cX2_secondAmong 82 = .ok (.iload 4, 2) := by decide +kernel
theorem dX2_secondAmong_84 : decode cX2_secondAmong 84 = .ok (.iaload, 1) := by decide +kernel
theorem dX2_secondAmong_85 : decode cX2_secondAmong 85 = .ok (.invokestatic 38, 3) := by decide +kernel
theorem dX2_secondAmong_88 : decode cX2_secondAmong 88 = .ok (.ifCond .eq 11, 3) := by decide +kernel
theorem dX2_secondAmong_91 : decode cX2_secondAmong 91 = .ok (.aload_n 0, 1) := by decide +kernel
theorem dX2_secondAmong_92 : decode cX2_secondAmong 92 = .ok (.getfield 18, 3) := by decide +kernel
theorem dX2_secondAmong_95 : decode cX2_secondAmong 95 = .ok (.iload 4, 2) := by decide +kernel
theorem dX2_secondAmong_97 : decode cX2_secondAmong 97 = .ok (.iaload, 1) := by decide +kernel
theorem dX2_secondAmong_98 : decode cX2_secondAmong 98 = .ok (.ireturn, 1) := by decide +kernel
theorem dX2_secondAmong_99 : decode cX2_secondAmong 99 = .ok (.iload_n 2, 1) := by decide +kernel
theorem dX2_secondAmong_100 : decode cX2_secondAmong 100 = .ok (.aload_n 0, 1) := by decide +kernel
theorem dX2_secondAmong_101 : decode cX2_secondAmong 101 = .ok (.getfield 21, 3) := by decide +kernel
theorem dX2_secondAmong_104 : decode cX2_secondAmong 104 = .ok (.iload 4, 2) := by decide +kernel
theorem dX2_secondAmong_106 : decode cX2_secondAmong 106 = .ok (.iaload, 1) := by decide +kernel
theorem dX2_secondAmong_107 : decode cX2_secondAmong 107 = .ok (.invokestatic 38, 3) := by decide +kernel
theorem dX2_secondAmong_110 : decode cX2_secondAmong 110 = .ok (.ifCond .eq 13, 3) := by decide +kernel
theorem dX2_secondAmong_113 : decode cX2_secondAmong 113 = .ok (.aload_n 0, 1) := by decide +kernel
theorem dX2_secondAmong_114 : decode cX2_secondAmong 114 = .ok (.getfield 21, 3) := by decide +kernel
theorem dX2_secondAmong_117 : decode cX2_secondAmong 117 = .ok (.iload 4, 2) := by decide +kernel
theorem dX2_secondAmong_119 : decode cX2_secondAmong 119 = .ok (.iaload, 1) := by decide +kernel
theorem dX2_secondAmong_120 : decode cX2_secondAmong 120 = .ok (.goto 5, 3) := by decide +kernel
theorem dX2_secondAmong_123 : decode cX2_secondAmong 123 = .ok (.bipush (-9), 2) := by decide +kernel
theorem dX2_secondAmong_125 : decode cX2_secondAmong 125 = .ok (.ireturn, 1) := by decide +kernel
theorem dX3_init_0 : decode cX3_init 0 = .ok (.aload_n 0, 1) := by decide +kernel
theorem dX3_init_1 : decode cX3_init 1 = .ok (.invokespecial 3, 3) := by decide +kernel
theorem dX3_init_4 : decode cX3_init 4 = .ok (.aload_n 0, 1) := by decide +kernel
theorem dX3_init_5 : decode cX3_init 5 = .ok (.bipush 8, 2) := by decide +kernel
theorem dX3_init_7 : decode cX3_init 7 = .ok (.newarray .int, 2) := by decide +kernel
theorem dX3_init_9 : decode cX3_init 9 = .ok (.putfield 9, 3) := by decide +kernel
theorem dX3_init_12 : decode cX3_init 12 = .ok (.aload_n 0, 1) := by decide +kernel
theorem dX3_init_13 : decode cX3_init 13 = .ok (.bipush 8, 2) := by decide +kernel
theorem dX3_init_15 : decode cX3_init 15 = .ok (.newarray .int, 2) := by decide +kernel
theorem dX3_init_17 : decode cX3_init 17 = .ok (.putfield 15, 3) := by decide +kernel
theorem dX3_init_20 : decode cX3_init 20 = .ok (.aload_n 0, 1) := by decide +kernel
theorem dX3_init_21 : decode cX3_init 21 = .ok (.bipush 8, 2) := by decide +kernel
theorem dX3_init_23 : decode cX3_init 23 = .ok (.newarray .boolean, 2) := by decide +kernel
theorem dX3_init_25 : decode cX3_init 25 = .ok (.putfield 18, 3) := by decide +kernel
theorem dX3_init_28 : decode cX3_init 28 = .ok (.return_, 1) := by decide +kernel
theorem dX4_init_0 : decode cX4_init 0 = .ok (.aload_n 0, 1) := by decide +kernel
theorem dX4_init_1 : decode cX4_init 1 = .ok (.invokespecial 3, 3) := by decide +kernel
theorem dX4_init_4 : decode cX4_init 4 = .ok (.aload_n 0, 1) := by decide +kernel
theorem dX4_init_5 : decode cX4_init 5 = .ok (.new 9, 3) := by decide +kernel
theorem dX4_init_8 : decode cX4_init 8 = .ok (.dup, 1) := by decide +kernel
theorem dX4_init_9 : decode cX4_init 9 = .ok (.invokespecial 11, 3) := by decide +kernel
theorem dX4_init_12 : decode cX4_init 12 = .ok (.putfield 12, 3) := by decide +kernel
theorem dX4_init_15 : decode cX4_init 15 = .ok (.aload_n 0, 1) := by decide +kernel
theorem dX4_init_16 : decode cX4_init 16 = .ok (.new 18, 3) := by decide +kernel
theorem dX4_init_19 : decode cX4_init 19 = .ok (.dup, 1) := by decide +kernel
theorem dX4_init_20 : decode cX4_init 20 = .ok (.sipush 180, 3) := by decide +kernel
theorem dX4_init_23 : decode cX4_init 23 = .ok (.invokespecial 20, 3) := by decide +kernel
theorem dX4_init_26 : decode cX4_init 26 = .ok (.putfield 23, 3) := by decide +kernel
theorem dX4_init_29 : decode cX4_init 29 = .ok (.aload_n 0, 1) := by decide +kernel
theorem dX4_init_30 : decode cX4_init 30 = .ok (.bipush 6, 2) := by decide +kernel
theorem dX4_init_32 : decode cX4_init 32 = .ok (.newarray .int, 2) := by decide +kernel
theorem dX4_init_34 : decode cX4_init 34 = .ok (.putfield 27, 3) := by decide +kernel
theorem dX4_init_37 : decode cX4_init 37 = .ok (.aload_n 0, 1) := by decide +kernel
theorem dX4_init_38 : decode cX4_init 38 = .ok (.aload_n 1, 1) := by decide +kernel
theorem dX4_init_39 : decode cX4_init 39 = .ok (.putfield 31, 3) := by decide +kernel
theorem dX4_init_42 : decode cX4_init 42 = .ok (.aload_n 0, 1) := by decide +kernel
theorem dX4_init_43 : decode cX4_init 43 = .ok (.aload_n 2, 1) := by decide +kernel
theorem dX4_init_44 : decode cX4_init 44 = .ok (.putfield 35, 3) := by decide +kernel
theorem dX4_init_47 : decode cX4_init 47 = .ok (.return_, 1) := by decide +kernel
theorem dX4_live_0 : decode cX4_live 0 = .ok (.aload_n 0, 1) := by decide +kernel
theorem dX4_live_1 : decode cX4_live 1 = .ok (.iload_n 1, 1) := by decide +kernel
theorem dX4_live_2 : decode cX4_live 2 = .ok (.iload_n 2, 1) := by decide +kernel
theorem dX4_live_3 : decode cX4_live 3 = .ok (.invokevirtual 38, 3) := by decide +kernel
theorem dX4_live_6 : decode cX4_live 6 = .ok (.iconst 0, 1) := by decide +kernel
theorem dX4_live_7 : decode cX4_live 7 = .ok (.istore 4, 2) := by decide +kernel
theorem dX4_live_9 : decode cX4_live 9 = .ok (.iload 4, 2) := by decide +kernel
theorem dX4_live_11 : decode cX4_live 11 = .ok (.iload_n 3, 1) := by decide +kernel
theorem dX4_live_12 : decode cX4_live 12 = .ok (.if_icmp .gt 15, 3) := by decide +kernel
theorem dX4_live_15 : decode cX4_live 15 = .ok (.aload_n 0, 1) := by decide +kernel
theorem dX4_live_16 : decode cX4_live 16 = .ok (.iload 4, 2) := by decide +kernel
theorem dX4_live_18 : decode cX4_live 18 = .ok (.invokevirtual 42, 3) := by decide +kernel
theorem dX4_live_21 : decode cX4_live 21 = .ok (.iinc 4 1, 3) := by decide +kernel
theorem dX4_live_24 : decode cX4_live 24 = .ok (.goto (-15), 3) := by decide +kernel
theorem dX4_live_27 : decode cX4_live 27 = .ok (.return_, 1) := by decide +kernel
theorem dX4_begin_0 : decode cX4_begin 0 = .ok (.aload_n 0, 1) := by decide +kernel
theorem dX4_begin_1 : decode cX4_begin 1 = .ok (.iload_n 1, 1) := by decide +kernel
theorem dX4_begin_2 : decode cX4_begin 2 = .ok (.putfield 45, 3) := by decide +kernel
theorem dX4_begin_5 : decode cX4_begin 5 = .ok (.aload_n 0, 1) := by decide +kernel
theorem dX4_begin_6 : decode cX4_begin 6 = .ok (.iload_n 2, 1) := by decide +kernel
theorem dX4_begin_7 : decode cX4_begin 7 = .ok (.putfield 49, 3) := by decide +kernel
theorem dX4_begin_10 : decode cX4_begin 10 = .ok (.aload_n 0, 1) := by decide +kernel
theorem dX4_begin_11 : decode cX4_begin 11 = .ok (.lconst 0, 1) := by decide +kernel
theorem dX4_begin_12 : decode cX4_begin 12 = .ok (.putfield 52, 3) := by decide +kernel
theorem dX4_begin_15 : decode cX4_begin 15 = .ok (.iconst 0, 1) := by decide +kernel
theorem dX4_begin_16 : decode cX4_begin 16 = .ok (.istore_n 3, 1) := by decide +kernel
theorem dX4_begin_17 : decode cX4_begin 17 = .ok (.iload_n 3, 1) := by decide +kernel
theorem dX4_begin_18 : decode cX4_begin 18 = .ok (.aload_n 0, 1) := by decide +kernel
theorem dX4_begin_19 : decode cX4_begin 19 = .ok (.getfield 35, 3) := by decide +kernel
theorem dX4_begin_22 : decode cX4_begin 22 = .ok (.getfield 56, 3) := by decide +kernel
theorem dX4_begin_25 : decode cX4_begin 25 = .ok (.if_icmp .ge 40, 3) := by decide +kernel
theorem dX4_begin_28 : decode cX4_begin 28 = .ok (.aload_n 0, 1) := by decide +kernel
theorem dX4_begin_29 : decode cX4_begin 29 = .ok (.getfield 45, 3) := by decide +kernel
theorem dX4_begin_32 : decode cX4_begin 32 = .ok (.iload_n 3, 1) := by decide +kernel
theorem dX4_begin_33 : decode cX4_begin 33 = .ok (.invokestatic 59, 3) := by decide +kernel
theorem dX4_begin_36 : decode cX4_begin 36 = .ok (.ifCond .eq 23, 3) := by decide +kernel
theorem dX4_begin_39 : decode cX4_begin 39 = .ok (.aload_n 0, 1) := by decide +kernel
theorem dX4_begin_40 : decode cX4_begin 40 = .ok (.dup, 1) := by decide +kernel
theorem dX4_begin_41 : decode cX4_begin 41 = .ok (.getfield 52, 3) := by decide +kernel
theorem dX4_begin_44 : decode cX4_begin 44 = .ok (.lconst 1, 1) := by decide +kernel
theorem dX4_begin_45 : decode cX4_begin 45 = .ok (.aload_n 0, 1) := by decide +kernel
theorem dX4_begin_46 : decode cX4_begin 46 = .ok (.getfield 35, 3) := by decide +kernel
theorem dX4_begin_49 : decode cX4_begin 49 = .ok (.getfield 63, 3) := by decide +kernel
theorem dX4_begin_52 : decode cX4_begin 52 = .ok (.iload_n 3, 1) := by decide +kernel
theorem dX4_begin_53 : decode cX4_begin 53 = .ok (.iaload, 1) := by decide +kernel
theorem dX4_begin_54 : decode cX4_begin 54 = .ok (.lshl, 1) := by decide +kernel
theorem dX4_begin_55 : decode cX4_begin 55 = .ok (.lor, 1) := by decide +kernel
theorem dX4_begin_56 : decode cX4_begin 56 = .ok (.putfield 52, 3) := by decide +kernel
theorem dX4_begin_59 : decode cX4_begin 59 = .ok (.iinc 3 1, 3) := by decide +kernel
theorem dX4_begin_62 : decode cX4_begin 62 = .ok (.goto (-45), 3) := by decide +kernel
theorem dX4_begin_65 : decode cX4_begin 65 = .ok (.aload_n 0, 1) := by decide +kernel
theorem dX4_begin_66 : decode cX4_begin 66 = .ok (.getfield 12, 3) := by decide +kernel
theorem dX4_begin_69 : decode cX4_begin 69 = .ok (.iconst 0, 1) := by decide +kernel
theorem dX4_begin_70 : decode cX4_begin 70 = .ok (.putfield 66, 3) := by decide +kernel
theorem dX4_begin_73 : decode cX4_begin 73 = .ok (.aload_n 0, 1) := by decide +kernel
theorem dX4_begin_74 : decode cX4_begin 74 = .ok (.getfield 23, 3) := by decide +kernel
theorem dX4_begin_77 : decode cX4_begin 77 = .ok (.iconst 0, 1) := by decide +kernel
theorem dX4_begin_78 : decode cX4_begin 78 = .ok (.putfield 56, 3) := by decide +kernel
theorem dX4_begin_81 : decode cX4_begin 81 = .ok (.aload_n 0, 1) := by decide +kernel
theorem dX4_begin_82 : decode cX4_begin 82 = .ok (.iconst 0, 1) := by decide +kernel
theorem dX4_begin_83 : decode cX4_begin 83 = .ok (.putfield 67, 3) := by decide +kernel
theorem dX4_begin_86 : decode cX4_begin 86 = .ok (.aload_n 0, 1) := by decide +kernel
theorem dX4_begin_87 : decode cX4_begin 87 = .ok (.iconst 0, 1) := by decide +kernel
theorem dX4_begin_88 : decode cX4_begin 88 = .ok (.putfield 70, 3) := by decide +kernel
theorem dX4_begin_91 : decode cX4_begin 91 = .ok (.aload_n 0, 1) := by decide +kernel
theorem dX4_begin_92 : decode cX4_begin 92 = .ok (.getfield 27, 3) := by decide +kernel
theorem dX4_begin_95 : decode cX4_begin 95 = .ok (.iconst 0, 1) := by decide +kernel
theorem dX4_begin_96 : decode cX4_begin 96 = .ok (.invokestatic 73, 3) := by decide +kernel
theorem dX4_begin_99 : decode cX4_begin 99 = .ok (.return_, 1) := by decide +kernel
theorem dX4_pass_0 : decode cX4_pass 0 = .ok (.iload_n 1, 1) := by decide +kernel
theorem dX4_pass_1 : decode cX4_pass 1 = .ok (.ifCond .le 22, 3) := by decide +kernel
theorem dX4_pass_4 : decode cX4_pass 4 = .ok (.aload_n 0, 1) := by decide +kernel
theorem dX4_pass_5 : decode cX4_pass 5 = .ok (.getfield 52, 3) := by decide +kernel
theorem dX4_pass_8 : decode cX4_pass 8 = .ok (.iload_n 1, 1) := by decide +kernel
theorem dX4_pass_9 : decode cX4_pass 9 = .ok (.iconst 1, 1) := by decide +kernel
theorem dX4_pass_10 : decode cX4_pass 10 = .ok (.isub, 1) := by decide +kernel
theorem dX4_pass_11 : decode cX4_pass 11 = .ok (.lshr, 1) := by decide +kernel
theorem dX4_pass_12 : decode cX4_pass 12 = .ok (.lconst 1, 1) := by decide +kernel
theorem dX4_pass_13 : decode cX4_pass 13 = .ok (.land, 1) := by decide +kernel
theorem dX4_pass_14 : decode cX4_pass 14 = .ok (.lconst 1, 1) := by decide +kernel
theorem dX4_pass_15 : decode cX4_pass 15 = .ok (.lcmp, 1) := by decide +kernel
theorem dX4_pass_16 : decode cX4_pass 16 = .ok (.ifCond .ne 7, 3) := by decide +kernel
theorem dX4_pass_19 : decode cX4_pass 19 = .ok (.iconst 1, 1) := by decide +kernel
theorem dX4_pass_20 : decode cX4_pass 20 = .ok (.goto 4, 3) := by decide +kernel
theorem dX4_pass_23 : decode cX4_pass 23 = .ok (.iconst 0, 1) := by decide +kernel
theorem dX4_pass_24 : decode cX4_pass 24 = .ok (.istore_n 2, 1) := by decide +kernel
theorem dX4_pass_25 : decode cX4_pass 25 = .ok (.iload_n 2, 1) := by decide +kernel
theorem dX4_pass_26 : decode cX4_pass 26 = .ok (.ifCond .ne 18, 3) := by decide +kernel
theorem dX4_pass_29 : decode cX4_pass 29 = .ok (.aload_n 0, 1) := by decide +kernel
theorem dX4_pass_30 : decode cX4_pass 30 = .ok (.getfield 67, 3) := by decide +kernel
theorem dX4_pass_33 : decode cX4_pass 33 = .ok (.aload_n 0, 1) := by decide +kernel
theorem dX4_pass_34 : decode cX4_pass 34 = .ok (.getfield 23, 3) := by decide +kernel
theorem dX4_pass_37 : decode cX4_pass 37 = .ok (.getfield 56, 3) := by decide +kernel
theorem dX4_pass_40 : decode cX4_pass 40 = .ok (.if_icmp .ne 4, 3) := by decide +kernel
theorem dX4_pass_43 : decode cX4_pass 43 = .ok (.return_, 1) := by decide +kernel
theorem dX4_pass_44 : decode cX4_pass 44 = .ok (.aload_n 0, 1) := by decide +kernel
theorem dX4_pass_45 : decode cX4_pass 45 = .ok (.getfield 23, 3) := by decide +kernel
theorem dX4_pass_48 : decode cX4_pass 48 = .ok (.getfield 56, 3) := by decide +kernel
theorem dX4_pass_51 : decode cX4_pass 51 = .ok (.istore_n 3, 1) := by decide +kernel
theorem dX4_pass_52 : decode cX4_pass 52 = .ok (.aload_n 0, 1) := by decide +kernel
theorem dX4_pass_53 : decode cX4_pass 53 = .ok (.aload_n 0, 1) := by decide +kernel
theorem dX4_pass_54 : decode cX4_pass 54 = .ok (.iload_n 1, 1) := by decide +kernel
theorem dX4_pass_55 : decode cX4_pass 55 = .ok (.invokevirtual 79, 3) := by decide +kernel
theorem dX4_pass_58 : decode cX4_pass 58 = .ok (.putfield 83, 3) := by decide +kernel
theorem dX4_pass_61 : decode cX4_pass 61 = .ok (.iconst 0, 1) := by decide +kernel
theorem dX4_pass_62 : decode cX4_pass 62 = .ok (.istore 4, 2) := by decide +kernel
theorem dX4_pass_64 : decode cX4_pass 64 = .ok (.iload 4, 2) := by decide +kernel
theorem dX4_pass_66 : decode cX4_pass 66 = .ok (.aload_n 0, 1) := by decide +kernel
theorem dX4_pass_67 : decode cX4_pass 67 = .ok (.getfield 35, 3) := by decide +kernel
theorem dX4_pass_70 : decode cX4_pass 70 = .ok (.getfield 56, 3) := by decide +kernel
theorem dX4_pass_73 : decode cX4_pass 73 = .ok (.if_icmp .ge 48, 3) := by decide +kernel
theorem dX4_pass_76 : decode cX4_pass 76 = .ok (.aload_n 0, 1) := by decide +kernel
theorem dX4_pass_77 : decode cX4_pass 77 = .ok (.getfield 45, 3) := by decide +kernel
theorem dX4_pass_80 : decode cX4_pass 80 = .ok (.iload 4, 2) := by decide +kernel
theorem dX4_pass_82 : decode cX4_pass 82 = .ok (.invokestatic 59, 3) := by decide +kernel
theorem dX4_pass_85 : decode cX4_pass 85 = .ok (.ifCond .eq 30, 3) := by decide +kernel
theorem dX4_pass_88 : decode cX4_pass 88 = .ok (.aload_n 0, 1) := by decide +kernel
theorem dX4_pass_89 : decode cX4_pass 89 = .ok (.getfield 35, 3) := by decide +kernel
theorem dX4_pass_92 : decode cX4_pass 92 = .ok (.getfield 63, 3) := by decide +kernel
theorem dX4_pass_95 : decode cX4_pass 95 = .ok (.iload 4, 2) := by decide +kernel
theorem dX4_pass_97 : decode cX4_pass 97 = .ok (.iaload, 1) := by decide +kernel
theorem dX4_pass_98 : decode cX4_pass 98 = .ok (.iload_n 1, 1) := by decide +kernel
theorem dX4_pass_99 : decode cX4_pass 99 = .ok (.iconst 1, 1) := by decide +kernel
theorem dX4_pass_100 : decode cX4_pass 100 = .ok (.isub, 1) := by decide +kernel
theorem dX4_pass_101 : decode cX4_pass 101 = .ok (.if_icmp .ne 14, 3) := by decide +kernel
theorem dX4_pass_104 : decode cX4_pass 104 = .ok (.aload_n 0, 1) := by decide +kernel
theorem dX4_pass_105 : decode cX4_pass 105 = .ok (.aload_n 0, 1) := by decide +kernel
theorem dX4_pass_106 : decode cX4_pass 106 = .ok (.getfield 35, 3) := by decide +kernel
theorem dX4_pass_109 : decode cX4_pass 109 = .ok (.iload 4, 2) := by decide +kernel
theorem dX4_pass_111 : decode cX4_pass 111 = .ok (.iload_n 1, 1) := by decide +kernel
theorem dX4_pass_112 : decode cX4_pass 112 = .ok (.invokevirtual 86, 3) := by decide +kernel
theorem dX4_pass_115 : decode cX4_pass 115 = .ok (.iinc 4 1, 3) := by decide +kernel
theorem dX4_pass_118 : decode cX4_pass 118 = .ok (.goto (-54), 3) := by decide +kernel
theorem dX4_pass_121 : decode cX4_pass 121 = .ok (.aload_n 0, 1) := by decide +kernel
theorem dX4_pass_122 : decode cX4_pass 122 = .ok (.getfield 67, 3) := by decide +kernel
theorem dX4_pass_125 : decode cX4_pass 125 = .ok (.istore 4, 2) := by decide +kernel
theorem dX4_pass_127 : decode cX4_pass 127 = .ok (.iload 4, 2) := by decide +kernel
theorem dX4_pass_129 : decode cX4_pass 129 = .ok (.iload_n 3, 1) := by decide +kernel
theorem dX4_pass_130 : decode cX4_pass 130 = .ok (.if_icmp .ge 20, 3) := by decide +kernel
theorem dX4_pass_133 : decode cX4_pass 133 = .ok (.aload_n 0, 1) := by decide +kernel
theorem dX4_pass_134 : decode cX4_pass 134 = .ok (.aload_n 0, 1) := by decide +kernel
theorem dX4_pass_135 : decode cX4_pass 135 = .ok (.getfield 23, 3) := by decide +kernel
theorem dX4_pass_138 : decode cX4_pass 138 = .ok (.iload 4, 2) := by decide +kernel
theorem dX4_pass_140 : decode cX4_pass 140 = .ok (.iload_n 1, 1) := by decide +kernel
theorem dX4_pass_141 : decode cX4_pass 141 = .ok (.invokevirtual 86, 3) := by decide +kernel
theorem dX4_pass_144 : decode cX4_pass 144 = .ok (.iinc 4 1, 3) := by decide +kernel
theorem dX4_pass_147 : decode cX4_pass 147 = .ok (.goto (-20), 3) := by decide +kernel
theorem dX4_pass_150 : decode cX4_pass 150 = .ok (.aload_n 0, 1) := by decide +kernel
theorem dX4_pass_151 : decode cX4_pass 151 = .ok (.iload_n 3, 1) := by decide +kernel
theorem dX4_pass_152 : decode cX4_pass 152 = .ok (.putfield 67, 3) := by decide +kernel
theorem dX4_pass_155 : decode cX4_pass 155 = .ok (.return_, 1) := by decide +kernel
theorem dX4_freeAhead_0 : decode cX4_freeAhead 0 = .ok (.iconst 0, 1) := by decide +kernel
theorem dX4_freeAhead_1 : decode cX4_freeAhead 1 = .ok (.istore_n 2, 1) := by decide +kernel
theorem dX4_freeAhead_2 : decode cX4_freeAhead 2 = .ok (.iconst 0, 1) := by decide +kernel
theorem dX4_freeAhead_3 : decode cX4_freeAhead 3 = .ok (.istore_n 3, 1) := by decide +kernel
theorem dX4_freeAhead_4 : decode cX4_freeAhead 4 = .ok (.iload_n 3, 1) := by decide +kernel
theorem dX4_freeAhead_5 : decode cX4_freeAhead 5 = .ok (.aload_n 0, 1) := by decide +kernel
theorem dX4_freeAhead_6 : decode cX4_freeAhead 6 = .ok (.getfield 31, 3) := by decide +kernel
theorem dX4_freeAhead_9 : decode cX4_freeAhead 9 = .ok (.getfield 90, 3) := by decide +kernel
theorem dX4_freeAhead_12 : decode cX4_freeAhead 12 = .ok (.if_icmp .ge 37, 3) := by decide +kernel
theorem dX4_freeAhead_15 : decode cX4_freeAhead 15 = .ok (.aload_n 0, 1) := by decide +kernel
theorem dX4_freeAhead_16 : decode cX4_freeAhead 16 = .ok (.getfield 49, 3) := by decide +kernel
theorem dX4_freeAhead_19 : decode cX4_freeAhead 19 = .ok (.iload_n 3, 1) := by decide +kernel
theorem dX4_freeAhead_20 : decode cX4_freeAhead 20 = .ok (.invokestatic 59, 3) := by decide +kernel
theorem dX4_freeAhead_23 : decode cX4_freeAhead 23 = .ok (.ifCond .ne 20, 3) := by decide +kernel
theorem dX4_freeAhead_26 : decode cX4_freeAhead 26 = .ok (.aload_n 0, 1) := by decide +kernel
theorem dX4_freeAhead_27 : decode cX4_freeAhead 27 = .ok (.getfield 27, 3) := by decide +kernel
theorem dX4_freeAhead_30 : decode cX4_freeAhead 30 = .ok (.iload_n 3, 1) := by decide +kernel
theorem dX4_freeAhead_31 : decode cX4_freeAhead 31 = .ok (.iaload, 1) := by decide +kernel
theorem dX4_freeAhead_32 : decode cX4_freeAhead 32 = .ok (.iload_n 1, 1) := by decide +kernel
theorem dX4_freeAhead_33 : decode cX4_freeAhead 33 = .ok (.if_icmp .gt 10, 3) := by decide +kernel
theorem dX4_freeAhead_36 : decode cX4_freeAhead 36 = .ok (.iload_n 2, 1) := by decide +kernel
theorem dX4_freeAhead_37 : decode cX4_freeAhead 37 = .ok (.iload_n 3, 1) := by decide +kernel
theorem dX4_freeAhead_38 : decode cX4_freeAhead 38 = .ok (.invokestatic 93, 3) := by decide +kernel
theorem dX4_freeAhead_41 : decode cX4_freeAhead 41 = .ok (.ior, 1) := by decide +kernel
theorem dX4_freeAhead_42 : decode cX4_freeAhead 42 = .ok (.istore_n 2, 1) := by decide +kernel
theorem dX4_freeAhead_43 : decode cX4_freeAhead 43 = .ok (.iinc 3 1, 3) := by decide +kernel
theorem dX4_freeAhead_46 : decode cX4_freeAhead 46 = .ok (.goto (-42), 3) := by decide +kernel
theorem dX4_freeAhead_49 : decode cX4_freeAhead 49 = .ok (.iload_n 2, 1) := by decide +kernel
theorem dX4_freeAhead_50 : decode cX4_freeAhead 50 = .ok (.ireturn, 1) := by decide +kernel
theorem dX4_answer_0 : decode cX4_answer 0 = .ok (.aload_n 1, 1) := by decide +kernel
theorem dX4_answer_1 : decode cX4_answer 1 = .ok (.getfield 96, 3) := by decide +kernel
theorem dX4_answer_4 : decode cX4_answer 4 = .ok (.iload_n 2, 1) := by decide +kernel
theorem dX4_answer_5 : decode cX4_answer 5 = .ok (.iaload, 1) := by decide +kernel
theorem dX4_answer_6 : decode cX4_answer 6 = .ok (.istore 4, 2) := by decide +kernel
theorem dX4_answer_8 : decode cX4_answer 8 = .ok (.aload_n 1, 1) := by decide +kernel
theorem dX4_answer_9 : decode cX4_answer 9 = .ok (.getfield 99, 3) := by decide +kernel
theorem dX4_answer_12 : decode cX4_answer 12 = .ok (.iload_n 2, 1) := by decide +kernel
theorem dX4_answer_13 : decode cX4_answer 13 = .ok (.iaload, 1) := by decide +kernel
theorem dX4_answer_14 : decode cX4_answer 14 = .ok (.istore 5, 2) := by decide +kernel
theorem dX4_answer_16 : decode cX4_answer 16 = .ok (.aload_n 1, 1) := by decide +kernel
theorem dX4_answer_17 : decode cX4_answer 17 = .ok (.getfield 102, 3) := by decide +kernel
theorem dX4_answer_20 : decode cX4_answer 20 = .ok (.iload_n 2, 1) := by decide +kernel
theorem dX4_answer_21 : decode cX4_answer 21 = .ok (.iaload, 1) := by decide +kernel
theorem dX4_answer_22 : decode cX4_answer 22 = .ok (.aload_n 0, 1) := by decide +kernel
theorem dX4_answer_23 : decode cX4_answer 23 = .ok (.getfield 31, 3) := by decide +kernel
theorem dX4_answer_26 : decode cX4_answer 26 = .ok (.iload 5, 2) := by decide +kernel
theorem dX4_answer_28 : decode cX4_answer 28 = .ok (.invokevirtual 105, 3) := by decide +kernel
theorem dX4_answer_31 : decode cX4_answer 31 = .ok (.if_icmp .ge 4, 3) := by decide +kernel
theorem dX4_answer_34 : decode cX4_answer 34 = .ok (.return_, 1) := by decide +kernel
theorem dX4_answer_35 : decode cX4_answer 35 = .ok (.aload_n 0, 1) := by decide +kernel
theorem dX4_answer_36 : decode cX4_answer 36 = .ok (.getfield 83, 3) := by decide +kernel
theorem dX4_answer_39 : decode cX4_answer 39 = .ok (.iload 4, 2) := by decide +kernel
theorem dX4_answer_41 : decode cX4_answer 41 = .ok (.invokestatic 93, 3) := by decide +kernel
theorem dX4_answer_44 : decode cX4_answer 44 = .ok (.iload 5, 2) := by decide +kernel
theorem dX4_answer_46 : decode cX4_answer 46 = .ok (.invokestatic 93, 3) := by decide +kernel
theorem dX4_answer_49 : decode cX4_answer 49 = .ok (.ior, 1) := by decide +kernel
theorem dX4_answer_50 : decode cX4_answer 50 = .ok (.iconst (-1), 1) := by decide +kernel
theorem dX4_answer_51 : decode cX4_answer 51 = .ok (.ixor, 1) := by decide +kernel
theorem dX4_answer_52 : decode cX4_answer 52 = .ok (.iand, 1) := by decide +kernel
theorem dX4_answer_53 : decode cX4_answer 53 = .ok (.istore 6, 2) := by decide +kernel
theorem dX4_answer_55 : decode cX4_answer 55 = .ok (.aload_n 0, 1) := by decide +kernel
theorem dX4_answer_56 : decode cX4_answer 56 = .ok (.getfield 31, 3) := by decide +kernel
theorem dX4_answer_59 : decode cX4_answer 59 = .ok (.iload 5, 2) := by decide +kernel
theorem dX4_answer_61 : decode cX4_answer 61 = .ok (.iload 6, 2) := by decide +kernel
theorem dX4_answer_63 : decode cX4_answer 63 = .ok (.invokevirtual 108, 3) := by decide +kernel
theorem dX4_answer_66 : decode cX4_answer 66 = .ok (.istore 7, 2) := by decide +kernel
theorem dX4_answer_68 : decode cX4_answer 68 = .ok (.iload 7, 2) := by decide +kernel
theorem dX4_answer_70 : decode cX4_answer 70 = .ok (.bipush (-9), 2) := by decide +kernel
theorem dX4_answer_72 : decode cX4_answer 72 = .ok (.if_icmp .ne 4, 3) := by decide +kernel
theorem dX4_answer_75 : decode cX4_answer 75 = .ok (.return_, 1) := by decide +kernel
theorem dX4_answer_76 : decode cX4_answer 76 = .ok (.aload_n 0, 1) := by decide +kernel
theorem dX4_answer_77 : decode cX4_answer 77 = .ok (.getfield 31, 3) := by decide +kernel
theorem dX4_answer_80 : decode cX4_answer 80 = .ok (.iload 4, 2) := by decide +kernel
theorem dX4_answer_82 : decode cX4_answer 82 = .ok (.iload 6, 2) := by decide +kernel
theorem dX4_answer_84 : decode cX4_answer 84 = .ok (.iload 7, 2) := by decide +kernel
theorem dX4_answer_86 : decode cX4_answer 86 = .ok (.invokestatic 93, 3) := by decide +kernel
theorem dX4_answer_89 : decode cX4_answer 89 = .ok (.iconst (-1), 1) := by decide +kernel
theorem dX4_answer_90 : decode cX4_answer 90 = .ok (.ixor, 1) := by decide +kernel
theorem dX4_answer_91 : decode cX4_answer 91 = .ok (.iand, 1) := by decide +kernel
theorem dX4_answer_92 : decode cX4_answer 92 = .ok (.invokevirtual 108, 3) := by decide +kernel
theorem dX4_answer_95 : decode cX4_answer 95 = .ok (.istore 8, 2) := by decide +kernel
theorem dX4_answer_97 : decode cX4_answer 97 = .ok (.iload 8, 2) := by decide +kernel
theorem dX4_answer_99 : decode cX4_answer 99 = .ok (.bipush (-9), 2) := by decide +kernel
theorem dX4_answer_101 : decode cX4_answer 101 = .ok (.if_icmp .ne 4, 3) := by decide +kernel
theorem dX4_answer_104 : decode cX4_answer 104 = .ok (.return_, 1) := by decide +kernel
theorem dX4_answer_105 : decode cX4_answer 105 = .ok (.aload_n 0, 1) := by decide +kernel
theorem dX4_answer_106 : decode cX4_answer 106 = .ok (.dup, 1) := by decide +kernel
theorem dX4_answer_107 : decode cX4_answer 107 = .ok (.getfield 83, 3) := by decide +kernel
theorem dX4_answer_110 : decode cX4_answer 110 = .ok (.iload 7, 2) := by decide +kernel
theorem dX4_answer_112 : decode cX4_answer 112 = .ok (.invokestatic 93, 3) := by decide +kernel
theorem dX4_answer_115 : decode cX4_answer 115 = .ok (.iload 8, 2) := by decide +kernel
theorem dX4_answer_117 : decode cX4_answer 117 = .ok (.invokestatic 93, 3) := by decide +kernel
theorem dX4_answer_120 : decode cX4_answer 120 = .ok (.ior, 1) := by decide +kernel
theorem dX4_answer_121 : decode cX4_answer 121 = .ok (.iconst (-1), 1) := by decide +kernel
theorem dX4_answer_122 : decode cX4_answer 122 = .ok (.ixor, 1) := by decide +kernel
theorem dX4_answer_123 : decode cX4_answer 123 = .ok (.iand, 1) := by decide +kernel
theorem dX4_answer_124 : decode cX4_answer 124 = .ok (.putfield 83, 3) := by decide +kernel
theorem dX4_answer_127 : decode cX4_answer 127 = .ok (.aload_n 0, 1) := by decide +kernel
theorem dX4_answer_128 : decode cX4_answer 128 = .ok (.iload 7, 2) := by decide +kernel
theorem dX4_answer_130 : decode cX4_answer 130 = .ok (.iload 8, 2) := by decide +kernel
theorem dX4_answer_132 : decode cX4_answer 132 = .ok (.iload_n 3, 1) := by decide +kernel
theorem dX4_answer_133 : decode cX4_answer 133 = .ok (.invokevirtual 112, 3) := by decide +kernel
theorem dX4_answer_136 : decode cX4_answer 136 = .ok (.istore 9, 2) := by decide +kernel
theorem dX4_answer_138 : decode cX4_answer 138 = .ok (.aload_n 0, 1) := by decide +kernel
theorem dX4_answer_139 : decode cX4_answer 139 = .ok (.getfield 12, 3) := by decide +kernel
theorem dX4_answer_142 : decode cX4_answer 142 = .ok (.iload_n 3, 1) := by decide +kernel
theorem dX4_answer_143 : decode cX4_answer 143 = .ok (.iload 7, 2) := by decide +kernel
theorem dX4_answer_145 : decode cX4_answer 145 = .ok (.iload 8, 2) := by decide +kernel
theorem dX4_answer_147 : decode cX4_answer 147 = .ok (.iload 5, 2) := by decide +kernel
theorem dX4_answer_149 : decode cX4_answer 149 = .ok (.iload 4, 2) := by decide +kernel
theorem dX4_answer_151 : decode cX4_answer 151 = .ok (.iload 9, 2) := by decide +kernel
theorem dX4_answer_153 : decode cX4_answer 153 = .ok (.invokevirtual 116, 3) := by decide +kernel
theorem dX4_answer_156 : decode cX4_answer 156 = .ok (.return_, 1) := by decide +kernel
theorem dX4_shoot_0 : decode cX4_shoot 0 = .ok (.aload_n 0, 1) := by decide +kernel
theorem dX4_shoot_1 : decode cX4_shoot 1 = .ok (.getfield 31, 3) := by decide +kernel
theorem dX4_shoot_4 : decode cX4_shoot 4 = .ok (.getfield 120, 3) := by decide +kernel
theorem dX4_shoot_7 : decode cX4_shoot 7 = .ok (.iload_n 1, 1) := by decide +kernel
theorem dX4_shoot_8 : decode cX4_shoot 8 = .ok (.iaload, 1) := by decide +kernel
theorem dX4_shoot_9 : decode cX4_shoot 9 = .ok (.aload_n 0, 1) := by decide +kernel
theorem dX4_shoot_10 : decode cX4_shoot 10 = .ok (.getfield 31, 3) := by decide +kernel
theorem dX4_shoot_13 : decode cX4_shoot 13 = .ok (.getfield 120, 3) := by decide +kernel
theorem dX4_shoot_16 : decode cX4_shoot 16 = .ok (.iload_n 2, 1) := by decide +kernel
theorem dX4_shoot_17 : decode cX4_shoot 17 = .ok (.iaload, 1) := by decide +kernel
theorem dX4_shoot_18 : decode cX4_shoot 18 = .ok (.isub, 1) := by decide +kernel
theorem dX4_shoot_19 : decode cX4_shoot 19 = .ok (.istore 4, 2) := by decide +kernel
theorem dX4_shoot_21 : decode cX4_shoot 21 = .ok (.iload 4, 2) := by decide +kernel
theorem dX4_shoot_23 : decode cX4_shoot 23 = .ok (.ifCond .ne 6, 3) := by decide +kernel
theorem dX4_shoot_26 : decode cX4_shoot 26 = .ok (.bipush (-9), 2) := by decide +kernel
theorem dX4_shoot_28 : decode cX4_shoot 28 = .ok (.ireturn, 1) := by decide +kernel
theorem dX4_shoot_29 : decode cX4_shoot 29 = .ok (.iload 4, 2) := by decide +kernel
theorem dX4_shoot_31 : decode cX4_shoot 31 = .ok (.ifCond .ge 7, 3) := by decide +kernel
theorem dX4_shoot_34 : decode cX4_shoot 34 = .ok (.iload_n 1, 1) := by decide +kernel
theorem dX4_shoot_35 : decode cX4_shoot 35 = .ok (.goto 4, 3) := by decide +kernel
theorem dX4_shoot_38 : decode cX4_shoot 38 = .ok (.iload_n 2, 1) := by decide +kernel
theorem dX4_shoot_39 : decode cX4_shoot 39 = .ok (.istore 5, 2) := by decide +kernel
theorem dX4_shoot_41 : decode cX4_shoot 41 = .ok (.iload 4, 2) := by decide +kernel
theorem dX4_shoot_43 : decode cX4_shoot 43 = .ok (.ifCond .ge 7, 3) := by decide +kernel
theorem dX4_shoot_46 : decode cX4_shoot 46 = .ok (.iload_n 2, 1) := by decide +kernel
theorem dX4_shoot_47 : decode cX4_shoot 47 = .ok (.goto 4, 3) := by decide +kernel
theorem dX4_shoot_50 : decode cX4_shoot 50 = .ok (.iload_n 1, 1) := by decide +kernel
theorem dX4_shoot_51 : decode cX4_shoot 51 = .ok (.istore 6, 2) := by decide +kernel
theorem dX4_shoot_53 : decode cX4_shoot 53 = .ok (.iload 4, 2) := by decide +kernel
theorem dX4_shoot_55 : decode cX4_shoot 55 = .ok (.invokestatic 123, 3) := by decide +kernel
theorem dX4_shoot_58 : decode cX4_shoot 58 = .ok (.istore 7, 2) := by decide +kernel
theorem dX4_shoot_60 : decode cX4_shoot 60 = .ok (.aload_n 0, 1) := by decide +kernel
theorem dX4_shoot_61 : decode cX4_shoot 61 = .ok (.dup, 1) := by decide +kernel
theorem dX4_shoot_62 : decode cX4_shoot 62 = .ok (.getfield 70, 3) := by decide +kernel
theorem dX4_shoot_65 : decode cX4_shoot 65 = .ok (.iload 5, 2) := by decide +kernel
theorem dX4_shoot_67 : decode cX4_shoot 67 = .ok (.invokestatic 93, 3) := by decide +kernel
theorem dX4_shoot_70 : decode cX4_shoot 70 = .ok (.ior, 1) := by decide +kernel
theorem dX4_shoot_71 : decode cX4_shoot 71 = .ok (.putfield 70, 3) := by decide +kernel
theorem dX4_shoot_74 : decode cX4_shoot 74 = .ok (.aload_n 0, 1) := by decide +kernel
theorem dX4_shoot_75 : decode cX4_shoot 75 = .ok (.getfield 27, 3) := by decide +kernel
theorem dX4_shoot_78 : decode cX4_shoot 78 = .ok (.iload 5, 2) := by decide +kernel
theorem dX4_shoot_80 : decode cX4_shoot 80 = .ok (.iload_n 3, 1) := by decide +kernel
theorem dX4_shoot_81 : decode cX4_shoot 81 = .ok (.iload 7, 2) := by decide +kernel
theorem dX4_shoot_83 : decode cX4_shoot 83 = .ok (.iadd, 1) := by decide +kernel
theorem dX4_shoot_84 : decode cX4_shoot 84 = .ok (.iconst 2, 1) := by decide +kernel
theorem dX4_shoot_85 : decode cX4_shoot 85 = .ok (.iadd, 1) := by decide +kernel
theorem dX4_shoot_86 : decode cX4_shoot 86 = .ok (.iastore, 1) := by decide +kernel
theorem dX4_shoot_87 : decode cX4_shoot 87 = .ok (.aload_n 0, 1) := by decide +kernel
theorem dX4_shoot_88 : decode cX4_shoot 88 = .ok (.getfield 31, 3) := by decide +kernel
theorem dX4_shoot_91 : decode cX4_shoot 91 = .ok (.getfield 128, 3) := by decide +kernel
theorem dX4_shoot_94 : decode cX4_shoot 94 = .ok (.iload 5, 2) := by decide +kernel
theorem dX4_shoot_96 : decode cX4_shoot 96 = .ok (.iaload, 1) := by decide +kernel
theorem dX4_shoot_97 : decode cX4_shoot 97 = .ok (.istore 8, 2) := by decide +kernel
theorem dX4_shoot_99 : decode cX4_shoot 99 = .ok (.iload 8, 2) := by decide +kernel
theorem dX4_shoot_101 : decode cX4_shoot 101 = .ok (.iload 6, 2) := by decide +kernel
theorem dX4_shoot_103 : decode cX4_shoot 103 = .ok (.if_icmp .eq 17, 3) := by decide +kernel
theorem dX4_shoot_106 : decode cX4_shoot 106 = .ok (.aload_n 0, 1) := by decide +kernel
theorem dX4_shoot_107 : decode cX4_shoot 107 = .ok (.getfield 23, 3) := by decide +kernel
theorem dX4_shoot_110 : decode cX4_shoot 110 = .ok (.iload 6, 2) := by decide +kernel
theorem dX4_shoot_112 : decode cX4_shoot 112 = .ok (.iload 8, 2) := by decide +kernel
theorem dX4_shoot_114 : decode cX4_shoot 114 = .ok (.iload_n 3, 1) := by decide +kernel
theorem dX4_shoot_115 : decode cX4_shoot 115 = .ok (.iload 7, 2) := by decide +kernel
theorem dX4_shoot_117 : decode cX4_shoot 117 = .ok (.invokevirtual 131, 3) := by decide +kernel
theorem dX4_shoot_120 : decode cX4_shoot 120 = .ok (.iload 5, 2) := by decide +kernel
theorem dX4_shoot_122 : decode cX4_shoot 122 = .ok (.ireturn, 1) := by decide +kernel
theorem dX5_init_0 : decode cX5_init 0 = .ok (.aload_n 0, 1) := by decide +kernel
theorem dX5_init_1 : decode cX5_init 1 = .ok (.invokespecial 3, 3) := by decide +kernel
theorem dX5_init_4 : decode cX5_init 4 = .ok (.aload_n 0, 1) := by decide +kernel
theorem dX5_init_5 : decode cX5_init 5 = .ok (.bipush 50, 2) := by decide +kernel
theorem dX5_init_7 : decode cX5_init 7 = .ok (.newarray .int, 2) := by decide +kernel
theorem dX5_init_9 : decode cX5_init 9 = .ok (.putfield 9, 3) := by decide +kernel
theorem dX5_init_12 : decode cX5_init 12 = .ok (.return_, 1) := by decide +kernel
theorem dX5_renew_0 : decode cX5_renew 0 = .ok (.aload_n 0, 1) := by decide +kernel
theorem dX5_renew_1 : decode cX5_renew 1 = .ok (.iconst 1, 1) := by decide +kernel
theorem dX5_renew_2 : decode cX5_renew 2 = .ok (.putfield 15, 3) := by decide +kernel
theorem dX5_renew_5 : decode cX5_renew 5 = .ok (.aload_n 0, 1) := by decide +kernel
theorem dX5_renew_6 : decode cX5_renew 6 = .ok (.iload_n 1, 1) := by decide +kernel
theorem dX5_renew_7 : decode cX5_renew 7 = .ok (.putfield 19, 3) := by decide +kernel
theorem dX5_renew_10 : decode cX5_renew 10 = .ok (.aload_n 0, 1) := by decide +kernel
theorem dX5_renew_11 : decode cX5_renew 11 = .ok (.iconst 0, 1) := by decide +kernel
theorem dX5_renew_12 : decode cX5_renew 12 = .ok (.bipush 50, 2) := by decide +kernel
theorem dX5_renew_14 : decode cX5_renew 14 = .ok (.iload_n 2, 1) := by decide +kernel
theorem dX5_renew_15 : decode cX5_renew 15 = .ok (.invokestatic 23, 3) := by decide +kernel
theorem dX5_renew_18 : decode cX5_renew 18 = .ok (.invokestatic 29, 3) := by decide +kernel
theorem dX5_renew_21 : decode cX5_renew 21 = .ok (.putfield 32, 3) := by decide +kernel
theorem dX5_renew_24 : decode cX5_renew 24 = .ok (.aload_n 0, 1) := by decide +kernel
theorem dX5_renew_25 : decode cX5_renew 25 = .ok (.getfield 9, 3) := by decide +kernel
theorem dX5_renew_28 : decode cX5_renew 28 = .ok (.iconst 0, 1) := by decide +kernel
theorem dX5_renew_29 : decode cX5_renew 29 = .ok (.invokestatic 35, 3) := by decide +kernel
theorem dX5_renew_32 : decode cX5_renew 32 = .ok (.return_, 1) := by decide +kernel
theorem dX5_holds_0 : decode cX5_holds 0 = .ok (.iload_n 1, 1) := by decide +kernel
theorem dX5_holds_1 : decode cX5_holds 1 = .ok (.ifCond .lt 29, 3) := by decide +kernel
theorem dX5_holds_4 : decode cX5_holds 4 = .ok (.iload_n 1, 1) := by decide +kernel
theorem dX5_holds_5 : decode cX5_holds 5 = .ok (.aload_n 0, 1) := by decide +kernel
theorem dX5_holds_6 : decode cX5_holds 6 = .ok (.getfield 32, 3) := by decide +kernel
theorem dX5_holds_9 : decode cX5_holds 9 = .ok (.if_icmp .gt 21, 3) := by decide +kernel
theorem dX5_holds_12 : decode cX5_holds 12 = .ok (.iload_n 2, 1) := by decide +kernel
theorem dX5_holds_13 : decode cX5_holds 13 = .ok (.ifCond .lt 17, 3) := by decide +kernel
theorem dX5_holds_16 : decode cX5_holds 16 = .ok (.iload_n 2, 1) := by decide +kernel
theorem dX5_holds_17 : decode cX5_holds 17 = .ok (.aload_n 0, 1) := by decide +kernel
theorem dX5_holds_18 : decode cX5_holds 18 = .ok (.getfield 32, 3) := by decide +kernel
theorem dX5_holds_21 : decode cX5_holds 21 = .ok (.iload_n 1, 1) := by decide +kernel
theorem dX5_holds_22 : decode cX5_holds 22 = .ok (.isub, 1) := by decide +kernel
theorem dX5_holds_23 : decode cX5_holds 23 = .ok (.if_icmp .gt 7, 3) := by decide +kernel
theorem dX5_holds_26 : decode cX5_holds 26 = .ok (.iconst 1, 1) := by decide +kernel
theorem dX5_holds_27 : decode cX5_holds 27 = .ok (.goto 4, 3) := by decide +kernel
theorem dX5_holds_30 : decode cX5_holds 30 = .ok (.iconst 0, 1) := by decide +kernel
theorem dX5_holds_31 : decode cX5_holds 31 = .ok (.ireturn, 1) := by decide +kernel
theorem dX5_at_0 : decode cX5_at 0 = .ok (.iload_n 1, 1) := by decide +kernel
theorem dX5_at_1 : decode cX5_at 1 = .ok (.ifCond .lt 20, 3) := by decide +kernel
theorem dX5_at_4 : decode cX5_at 4 = .ok (.iload_n 1, 1) := by decide +kernel
theorem dX5_at_5 : decode cX5_at 5 = .ok (.aload_n 0, 1) := by decide +kernel
theorem dX5_at_6 : decode cX5_at 6 = .ok (.getfield 32, 3) := by decide +kernel
theorem dX5_at_9 : decode cX5_at 9 = .ok (.if_icmp .ge 12, 3) := by decide +kernel
theorem dX5_at_12 : decode cX5_at 12 = .ok (.aload_n 0, 1) := by decide +kernel
theorem dX5_at_13 : decode cX5_at 13 = .ok (.getfield 9, 3) := by decide +kernel
theorem dX5_at_16 : decode cX5_at 16 = .ok (.iload_n 1, 1) := by decide +kernel
theorem dX5_at_17 : decode cX5_at 17 = .ok (.iaload, 1) := by decide +kernel
theorem dX5_at_18 : decode cX5_at 18 = .ok (.goto 4, 3) := by decide +kernel
theorem dX5_at_21 : decode cX5_at 21 = .ok (.iconst 0, 1) := by decide +kernel
theorem dX5_at_22 : decode cX5_at 22 = .ok (.ireturn, 1) := by decide +kernel
theorem dX5_faultOfTaking_0 : decode cX5_faultOfTaking 0 = .ok (.aload_n 0, 1) := by decide +kernel
theorem dX5_faultOfTaking_1 : decode cX5_faultOfTaking 1 = .ok (.getfield 15, 3) := by decide +kernel
theorem dX5_faultOfTaking_4 : decode cX5_faultOfTaking 4 = .ok (.ifCond .ne 5, 3) := by decide +kernel
theorem dX5_faultOfTaking_7 : decode cX5_faultOfTaking 7 = .ok (.iconst 1, 1) := by decide +kernel
theorem dX5_faultOfTaking_8 : decode cX5_faultOfTaking 8 = .ok (.ireturn, 1) := by decide +kernel
theorem dX5_faultOfTaking_9 : decode cX5_faultOfTaking 9 = .ok (.aload_n 0, 1) := by decide +kernel
theorem dX5_faultOfTaking_10 : decode cX5_faultOfTaking 10 = .ok (.getfield 19, 3) := by decide +kernel
theorem dX5_faultOfTaking_13 : decode cX5_faultOfTaking 13 = .ok (.iload_n 1, 1) := by decide +kernel
theorem dX5_faultOfTaking_14 : decode cX5_faultOfTaking 14 = .ok (.if_icmp .eq 5, 3) := by decide +kernel
theorem dX5_faultOfTaking_17 : decode cX5_faultOfTaking 17 = .ok (.iconst 2, 1) := by decide +kernel
theorem dX5_faultOfTaking_18 : decode cX5_faultOfTaking 18 = .ok (.ireturn, 1) := by decide +kernel
theorem dX5_faultOfTaking_19 : decode cX5_faultOfTaking 19 = .ok (.iload_n 3, 1) := by decide +kernel
theorem dX5_faultOfTaking_20 : decode cX5_faultOfTaking 20 = .ok (.ifCond .ge 5, 3) := by decide +kernel
theorem dX5_faultOfTaking_23 : decode cX5_faultOfTaking 23 = .ok (.iconst 4, 1) := by decide +kernel
theorem dX5_faultOfTaking_24 : decode cX5_faultOfTaking 24 = .ok (.ireturn, 1) := by decide +kernel
theorem dX5_faultOfTaking_25 : decode cX5_faultOfTaking 25 = .ok (.aload_n 0, 1) := by decide +kernel
theorem dX5_faultOfTaking_26 : decode cX5_faultOfTaking 26 = .ok (.iload_n 2, 1) := by decide +kernel
theorem dX5_faultOfTaking_27 : decode cX5_faultOfTaking 27 = .ok (.iload_n 3, 1) := by decide +kernel
theorem dX5_faultOfTaking_28 : decode cX5_faultOfTaking 28 = .ok (.invokevirtual 41, 3) := by decide +kernel
theorem dX5_faultOfTaking_31 : decode cX5_faultOfTaking 31 = .ok (.ifCond .eq 7, 3) := by decide +kernel
theorem dX5_faultOfTaking_34 : decode cX5_faultOfTaking 34 = .ok (.iconst 0, 1) := by decide +kernel
theorem dX5_faultOfTaking_35 : decode cX5_faultOfTaking 35 = .ok (.goto 4, 3) := by decide +kernel
theorem dX5_faultOfTaking_38 : decode cX5_faultOfTaking 38 = .ok (.iconst 3, 1) := by decide +kernel
theorem dX5_faultOfTaking_39 : decode cX5_faultOfTaking 39 = .ok (.ireturn, 1) := by decide +kernel
theorem dX6_firstFault_0 : decode cX6_firstFault 0 = .ok (.iconst 0, 1) := by decide +kernel
theorem dX6_firstFault_1 : decode cX6_firstFault 1 = .ok (.istore_n 3, 1) := by decide +kernel
theorem dX6_firstFault_2 : decode cX6_firstFault 2 = .ok (.iload_n 3, 1) := by decide +kernel
theorem dX6_firstFault_3 : decode cX6_firstFault 3 = .ok (.iload_n 2, 1) := by decide +kernel
theorem dX6_firstFault_4 : decode cX6_firstFault 4 = .ok (.if_icmp .ge 20, 3) := by decide +kernel
theorem dX6_firstFault_7 : decode cX6_firstFault 7 = .ok (.aload_n 0, 1) := by decide +kernel
theorem dX6_firstFault_8 : decode cX6_firstFault 8 = .ok (.iload_n 1, 1) := by decide +kernel
theorem dX6_firstFault_9 : decode cX6_firstFault 9 = .ok (.iload_n 3, 1) := by decide +kernel
theorem dX6_firstFault_10 : decode cX6_firstFault 10 = .ok (.invokestatic 9, 3) := by decide +kernel
theorem dX6_firstFault_13 : decode cX6_firstFault 13 = .ok (.ifCond .ne 5, 3) := by decide +kernel
theorem dX6_firstFault_16 : decode cX6_firstFault 16 = .ok (.iload_n 3, 1) := by decide +kernel
theorem dX6_firstFault_17 : decode cX6_firstFault 17 = .ok (.ireturn, 1) := by decide +kernel
theorem dX6_firstFault_18 : decode cX6_firstFault 18 = .ok (.iinc 3 1, 3) := by decide +kernel
theorem dX6_firstFault_21 : decode cX6_firstFault 21 = .ok (.goto (-19), 3) := by decide +kernel
theorem dX6_firstFault_24 : decode cX6_firstFault 24 = .ok (.iload_n 2, 1) := by decide +kernel
theorem dX6_firstFault_25 : decode cX6_firstFault 25 = .ok (.iconst 2, 1) := by decide +kernel
theorem dX6_firstFault_26 : decode cX6_firstFault 26 = .ok (.if_icmp .lt 25, 3) := by decide +kernel
theorem dX6_firstFault_29 : decode cX6_firstFault 29 = .ok (.iload_n 2, 1) := by decide +kernel
theorem dX6_firstFault_30 : decode cX6_firstFault 30 = .ok (.iconst 2, 1) := by decide +kernel
theorem dX6_firstFault_31 : decode cX6_firstFault 31 = .ok (.iconst 5, 1) := by decide +kernel
theorem dX6_firstFault_32 : decode cX6_firstFault 32 = .ok (.aload_n 0, 1) := by decide +kernel
theorem dX6_firstFault_33 : decode cX6_firstFault 33 = .ok (.iload_n 1, 1) := by decide +kernel
theorem dX6_firstFault_34 : decode cX6_firstFault 34 = .ok (.iconst 1, 1) := by decide +kernel
theorem dX6_firstFault_35 : decode cX6_firstFault 35 = .ok (.iadd, 1) := by decide +kernel
theorem dX6_firstFault_36 : decode cX6_firstFault 36 = .ok (.invokevirtual 15, 3) := by decide +kernel
theorem dX6_firstFault_39 : decode cX6_firstFault 39 = .ok (.invokestatic 21, 3) := by decide +kernel
theorem dX6_firstFault_42 : decode cX6_firstFault 42 = .ok (.imul, 1) := by decide +kernel
theorem dX6_firstFault_43 : decode cX6_firstFault 43 = .ok (.iadd, 1) := by decide +kernel
theorem dX6_firstFault_44 : decode cX6_firstFault 44 = .ok (.if_icmp .ne 7, 3) := by decide +kernel
theorem dX6_firstFault_47 : decode cX6_firstFault 47 = .ok (.iconst 1, 1) := by decide +kernel
theorem dX6_firstFault_48 : decode cX6_firstFault 48 = .ok (.goto 4, 3) := by decide +kernel
theorem dX6_firstFault_51 : decode cX6_firstFault 51 = .ok (.iconst 0, 1) := by decide +kernel
theorem dX6_firstFault_52 : decode cX6_firstFault 52 = .ok (.istore_n 3, 1) := by decide +kernel
theorem dX6_firstFault_53 : decode cX6_firstFault 53 = .ok (.iload_n 3, 1) := by decide +kernel
theorem dX6_firstFault_54 : decode cX6_firstFault 54 = .ok (.ifCond .eq 8, 3) := by decide +kernel
theorem dX6_firstFault_57 : decode cX6_firstFault 57 = .ok (.bipush (-9), 2) := by decide +kernel
theorem dX6_firstFault_59 : decode cX6_firstFault 59 = .ok (.goto 4, 3) := by decide +kernel
theorem dX6_firstFault_62 : decode cX6_firstFault 62 = .ok (.iload_n 2, 1) := by decide +kernel
theorem dX6_firstFault_63 : decode cX6_firstFault 63 = .ok (.ireturn, 1) := by decide +kernel
theorem dX6_goesOn_0 : decode cX6_goesOn 0 = .ok (.aload_n 0, 1) := by decide +kernel
theorem dX6_goesOn_1 : decode cX6_goesOn 1 = .ok (.iload_n 1, 1) := by decide +kernel
theorem dX6_goesOn_2 : decode cX6_goesOn 2 = .ok (.iload_n 2, 1) := by decide +kernel
theorem dX6_goesOn_3 : decode cX6_goesOn 3 = .ok (.iadd, 1) := by decide +kernel
theorem dX6_goesOn_4 : decode cX6_goesOn 4 = .ok (.invokevirtual 15, 3) := by decide +kernel
theorem dX6_goesOn_7 : decode cX6_goesOn 7 = .ok (.istore_n 3, 1) := by decide +kernel
theorem dX6_goesOn_8 : decode cX6_goesOn 8 = .ok (.iload_n 2, 1) := by decide +kernel
theorem dX6_goesOn_9 : decode cX6_goesOn 9 = .ok (.ifCond .ne 15, 3) := by decide +kernel
theorem dX6_goesOn_12 : decode cX6_goesOn 12 = .ok (.iload_n 3, 1) := by decide +kernel
theorem dX6_goesOn_13 : decode cX6_goesOn 13 = .ok (.bipush 100, 2) := by decide +kernel
theorem dX6_goesOn_15 : decode cX6_goesOn 15 = .ok (.if_icmp .ne 7, 3) := by decide +kernel
theorem dX6_goesOn_18 : decode cX6_goesOn 18 = .ok (.iconst 1, 1) := by decide +kernel
theorem dX6_goesOn_19 : decode cX6_goesOn 19 = .ok (.goto 4, 3) := by decide +kernel
theorem dX6_goesOn_22 : decode cX6_goesOn 22 = .ok (.iconst 0, 1) := by decide +kernel
theorem dX6_goesOn_23 : decode cX6_goesOn 23 = .ok (.ireturn, 1) := by decide +kernel
theorem dX6_goesOn_24 : decode cX6_goesOn 24 = .ok (.iload_n 2, 1) := by decide +kernel
theorem dX6_goesOn_25 : decode cX6_goesOn 25 = .ok (.iconst 1, 1) := by decide +kernel
theorem dX6_goesOn_26 : decode cX6_goesOn 26 = .ok (.if_icmp .ne 21, 3) := by decide +kernel
theorem dX6_goesOn_29 : decode cX6_goesOn 29 = .ok (.iload_n 3, 1) := by decide +kernel
theorem dX6_goesOn_30 : decode cX6_goesOn 30 = .ok (.bipush 50, 2) := by decide +kernel
theorem dX6_goesOn_32 : decode cX6_goesOn 32 = .ok (.if_icmp .lt 13, 3) := by decide +kernel
theorem dX6_goesOn_35 : decode cX6_goesOn 35 = .ok (.iload_n 3, 1) := by decide +kernel
theorem dX6_goesOn_36 : decode cX6_goesOn 36 = .ok (.bipush 54, 2) := by decide +kernel
theorem dX6_goesOn_38 : decode cX6_goesOn 38 = .ok (.if_icmp .gt 7, 3) := by decide +kernel
theorem dX6_goesOn_41 : decode cX6_goesOn 41 = .ok (.iconst 1, 1) := by decide +kernel
theorem dX6_goesOn_42 : decode cX6_goesOn 42 = .ok (.goto 4, 3) := by decide +kernel
theorem dX6_goesOn_45 : decode cX6_goesOn 45 = .ok (.iconst 0, 1) := by decide +kernel
theorem dX6_goesOn_46 : decode cX6_goesOn 46 = .ok (.ireturn, 1) := by decide +kernel
theorem dX6_goesOn_47 : decode cX6_goesOn 47 = .ok (.aload_n 0, 1) := by decide +kernel
theorem dX6_goesOn_48 : decode cX6_goesOn 48 = .ok (.iload_n 1, 1) := by decide +kernel
theorem dX6_goesOn_49 : decode cX6_goesOn 49 = .ok (.iconst 1, 1) := by decide +kernel
theorem dX6_goesOn_50 : decode cX6_goesOn 50 = .ok (.iadd, 1) := by decide +kernel
theorem dX6_goesOn_51 : decode cX6_goesOn 51 = .ok (.invokevirtual 15, 3) := by decide +kernel
theorem dX6_goesOn_54 : decode cX6_goesOn 54 = .ok (.invokestatic 21, 3) := by decide +kernel
theorem dX6_goesOn_57 : decode cX6_goesOn 57 = .ok (.istore 4, 2) := by decide +kernel
theorem dX6_goesOn_59 : decode cX6_goesOn 59 = .ok (.iload_n 2, 1) := by decide +kernel
theorem dX6_goesOn_60 : decode cX6_goesOn 60 = .ok (.iconst 2, 1) := by decide +kernel
theorem dX6_goesOn_61 : decode cX6_goesOn 61 = .ok (.isub, 1) := by decide +kernel
theorem dX6_goesOn_62 : decode cX6_goesOn 62 = .ok (.iconst 5, 1) := by decide +kernel
theorem dX6_goesOn_63 : decode cX6_goesOn 63 = .ok (.idiv, 1) := by decide +kernel
theorem dX6_goesOn_64 : decode cX6_goesOn 64 = .ok (.istore 5, 2) := by decide +kernel
theorem dX6_goesOn_66 : decode cX6_goesOn 66 = .ok (.iload 5, 2) := by decide +kernel
theorem dX6_goesOn_68 : decode cX6_goesOn 68 = .ok (.iload 4, 2) := by decide +kernel
theorem dX6_goesOn_70 : decode cX6_goesOn 70 = .ok (.if_icmp .lt 5, 3) := by decide +kernel
theorem dX6_goesOn_73 : decode cX6_goesOn 73 = .ok (.iconst 0, 1) := by decide +kernel
theorem dX6_goesOn_74 : decode cX6_goesOn 74 = .ok (.ireturn, 1) := by decide +kernel
theorem dX6_goesOn_75 : decode cX6_goesOn 75 = .ok (.iload_n 2, 1) := by decide +kernel
theorem dX6_goesOn_76 : decode cX6_goesOn 76 = .ok (.iconst 2, 1) := by decide +kernel
theorem dX6_goesOn_77 : decode cX6_goesOn 77 = .ok (.isub, 1) := by decide +kernel
theorem dX6_goesOn_78 : decode cX6_goesOn 78 = .ok (.iconst 5, 1) := by decide +kernel
theorem dX6_goesOn_79 : decode cX6_goesOn 79 = .ok (.irem, 1) := by decide +kernel
theorem dX6_goesOn_80 : decode cX6_goesOn 80 = .ok (.tableswitch 73 0 2 #[28, 40, 55], 28) := by decide +kernel
theorem dX6_goesOn_108 : decode cX6_goesOn 108 = .ok (.iload_n 3, 1) := by decide +kernel
theorem dX6_goesOn_109 : decode cX6_goesOn 109 = .ok (.bipush 59, 2) := by decide +kernel
theorem dX6_goesOn_111 : decode cX6_goesOn 111 = .ok (.if_icmp .ne 7, 3) := by decide +kernel
theorem dX6_goesOn_114 : decode cX6_goesOn 114 = .ok (.iconst 1, 1) := by decide +kernel
theorem dX6_goesOn_115 : decode cX6_goesOn 115 = .ok (.goto 4, 3) := by decide +kernel
theorem dX6_goesOn_118 : decode cX6_goesOn 118 = .ok (.iconst 0, 1) := by decide +kernel
theorem dX6_goesOn_119 : decode cX6_goesOn 119 = .ok (.ireturn, 1) := by decide +kernel
theorem dX6_goesOn_120 : decode cX6_goesOn 120 = .ok (.iload_n 3, 1) := by decide +kernel
theorem dX6_goesOn_121 : decode cX6_goesOn 121 = .ok (.invokestatic 24, 3) := by decide +kernel
theorem dX6_goesOn_124 : decode cX6_goesOn 124 = .ok (.bipush (-9), 2) := by decide +kernel
theorem dX6_goesOn_126 : decode cX6_goesOn 126 = .ok (.if_icmp .eq 7, 3) := by decide +kernel
theorem dX6_goesOn_129 : decode cX6_goesOn 129 = .ok (.iconst 1, 1) := by decide +kernel
theorem dX6_goesOn_130 : decode cX6_goesOn 130 = .ok (.goto 4, 3) := by decide +kernel
theorem dX6_goesOn_133 : decode cX6_goesOn 133 = .ok (.iconst 0, 1) := by decide +kernel
theorem dX6_goesOn_134 : decode cX6_goesOn 134 = .ok (.ireturn, 1) := by decide +kernel
theorem dX6_goesOn_135 : decode cX6_goesOn 135 = .ok (.iload_n 3, 1) := by decide +kernel
theorem dX6_goesOn_136 : decode cX6_goesOn 136 = .ok (.bipush 49, 2) := by decide +kernel
theorem dX6_goesOn_138 : decode cX6_goesOn 138 = .ok (.if_icmp .lt 13, 3) := by decide +kernel
theorem dX6_goesOn_141 : decode cX6_goesOn 141 = .ok (.iload_n 3, 1) := by decide +kernel
theorem dX6_goesOn_142 : decode cX6_goesOn 142 = .ok (.bipush 57, 2) := by decide +kernel
theorem dX6_goesOn_144 : decode cX6_goesOn 144 = .ok (.if_icmp .gt 7, 3) := by decide +kernel
theorem dX6_goesOn_147 : decode cX6_goesOn 147 = .ok (.iconst 1, 1) := by decide +kernel
theorem dX6_goesOn_148 : decode cX6_goesOn 148 = .ok (.goto 4, 3) := by decide +kernel
theorem dX6_goesOn_151 : decode cX6_goesOn 151 = .ok (.iconst 0, 1) := by decide +kernel
theorem dX6_goesOn_152 : decode cX6_goesOn 152 = .ok (.ireturn, 1) := by decide +kernel
theorem dX6_goesOn_153 : decode cX6_goesOn 153 = .ok (.iload_n 3, 1) := by decide +kernel
theorem dX6_goesOn_154 : decode cX6_goesOn 154 = .ok (.bipush 48, 2) := by decide +kernel
theorem dX6_goesOn_156 : decode cX6_goesOn 156 = .ok (.if_icmp .lt 25, 3) := by decide +kernel
theorem dX6_goesOn_159 : decode cX6_goesOn 159 = .ok (.iload_n 3, 1) := by decide +kernel
theorem dX6_goesOn_160 : decode cX6_goesOn 160 = .ok (.invokestatic 21, 3) := by decide +kernel
theorem dX6_goesOn_163 : decode cX6_goesOn 163 = .ok (.iload 4, 2) := by decide +kernel
theorem dX6_goesOn_165 : decode cX6_goesOn 165 = .ok (.if_icmp .ge 16, 3) := by decide +kernel
theorem dX6_goesOn_168 : decode cX6_goesOn 168 = .ok (.iload_n 3, 1) := by decide +kernel
theorem dX6_goesOn_169 : decode cX6_goesOn 169 = .ok (.invokestatic 21, 3) := by decide +kernel
theorem dX6_goesOn_172 : decode cX6_goesOn 172 = .ok (.iload 5, 2) := by decide +kernel
theorem dX6_goesOn_174 : decode cX6_goesOn 174 = .ok (.if_icmp .eq 7, 3) := by decide +kernel
theorem dX6_goesOn_177 : decode cX6_goesOn 177 = .ok (.iconst 1, 1) := by decide +kernel
theorem dX6_goesOn_178 : decode cX6_goesOn 178 = .ok (.goto 4, 3) := by decide +kernel
theorem dX6_goesOn_181 : decode cX6_goesOn 181 = .ok (.iconst 0, 1) := by decide +kernel
theorem dX6_goesOn_182 : decode cX6_goesOn 182 = .ok (.ireturn, 1) := by decide +kernel
theorem dX6_digit_0 : decode cX6_digit 0 = .ok (.iload_n 0, 1) := by decide +kernel
theorem dX6_digit_1 : decode cX6_digit 1 = .ok (.bipush 48, 2) := by decide +kernel
theorem dX6_digit_3 : decode cX6_digit 3 = .ok (.isub, 1) := by decide +kernel
theorem dX6_digit_4 : decode cX6_digit 4 = .ok (.ireturn, 1) := by decide +kernel
theorem dX6_kindOf_0 : decode cX6_kindOf 0 = .ok (.iload_n 0, 1) := by decide +kernel
theorem dX6_kindOf_1 : decode cX6_kindOf 1 = .ok (.lookupswitch 41 #[(103, 35), (104, 37), (111, 39)], 35) := by decide +kernel
theorem dX6_kindOf_36 : decode cX6_kindOf 36 = .ok (.iconst 0, 1) := by decide +kernel
theorem dX6_kindOf_37 : decode cX6_kindOf 37 = .ok (.ireturn, 1) := by decide +kernel
theorem dX6_kindOf_38 : decode cX6_kindOf 38 = .ok (.iconst 1, 1) := by decide +kernel
theorem dX6_kindOf_39 : decode cX6_kindOf 39 = .ok (.ireturn, 1) := by decide +kernel
theorem dX6_kindOf_40 : decode cX6_kindOf 40 = .ok (.iconst 2, 1) := by decide +kernel
theorem dX6_kindOf_41 : decode cX6_kindOf 41 = .ok (.ireturn, 1) := by decide +kernel
theorem dX6_kindOf_42 : decode cX6_kindOf 42 = .ok (.bipush (-9), 2) := by decide +kernel
theorem dX6_kindOf_44 : decode cX6_kindOf 44 = .ok (.ireturn, 1) := by decide +kernel
theorem dX6_read_0 : decode cX6_read 0 = .ok (.aload_n 2, 1) := by decide +kernel
theorem dX6_read_1 : decode cX6_read 1 = .ok (.iconst 0, 1) := by decide +kernel
theorem dX6_read_2 : decode cX6_read 2 = .ok (.bipush 6, 2) := by decide +kernel
theorem dX6_read_4 : decode cX6_read 4 = .ok (.aload_n 0, 1) := by decide +kernel
theorem dX6_read_5 : decode cX6_read 5 = .ok (.iload_n 1, 1) := by decide +kernel
theorem dX6_read_6 : decode cX6_read 6 = .ok (.iconst 1, 1) := by decide +kernel
theorem dX6_read_7 : decode cX6_read 7 = .ok (.iadd, 1) := by decide +kernel
theorem dX6_read_8 : decode cX6_read 8 = .ok (.invokevirtual 15, 3) := by decide +kernel
theorem dX6_read_11 : decode cX6_read 11 = .ok (.invokestatic 21, 3) := by decide +kernel
theorem dX6_read_14 : decode cX6_read 14 = .ok (.invokestatic 27, 3) := by decide +kernel
theorem dX6_read_17 : decode cX6_read 17 = .ok (.invokestatic 33, 3) := by decide +kernel
theorem dX6_read_20 : decode cX6_read 20 = .ok (.putfield 36, 3) := by decide +kernel
theorem dX6_read_23 : decode cX6_read 23 = .ok (.aload_n 2, 1) := by decide +kernel
theorem dX6_read_24 : decode cX6_read 24 = .ok (.iconst 0, 1) := by decide +kernel
theorem dX6_read_25 : decode cX6_read 25 = .ok (.putfield 42, 3) := by decide +kernel
theorem dX6_read_28 : decode cX6_read 28 = .ok (.iconst 0, 1) := by decide +kernel
theorem dX6_read_29 : decode cX6_read 29 = .ok (.istore_n 3, 1) := by decide +kernel
theorem dX6_read_30 : decode cX6_read 30 = .ok (.iload_n 3, 1) := by decide +kernel
theorem dX6_read_31 : decode cX6_read 31 = .ok (.aload_n 2, 1) := by decide +kernel
theorem dX6_read_32 : decode cX6_read 32 = .ok (.getfield 36, 3) := by decide +kernel
theorem dX6_read_35 : decode cX6_read 35 = .ok (.if_icmp .ge 86, 3) := by decide +kernel
theorem dX6_read_38 : decode cX6_read 38 = .ok (.iload_n 1, 1) := by decide +kernel
theorem dX6_read_39 : decode cX6_read 39 = .ok (.iconst 2, 1) := by decide +kernel
theorem dX6_read_40 : decode cX6_read 40 = .ok (.iadd, 1) := by decide +kernel
theorem dX6_read_41 : decode cX6_read 41 = .ok (.iconst 5, 1) := by decide +kernel
theorem dX6_read_42 : decode cX6_read 42 = .ok (.iload_n 3, 1) := by decide +kernel
theorem dX6_read_43 : decode cX6_read 43 = .ok (.imul, 1) := by decide +kernel
theorem dX6_read_44 : decode cX6_read 44 = .ok (.iadd, 1) := by decide +kernel
theorem dX6_read_45 : decode cX6_read 45 = .ok (.istore 4, 2) := by decide +kernel
theorem dX6_read_47 : decode cX6_read 47 = .ok (.aload_n 2, 1) := by decide +kernel
theorem dX6_read_48 : decode cX6_read 48 = .ok (.getfield 45, 3) := by decide +kernel
theorem dX6_read_51 : decode cX6_read 51 = .ok (.iload_n 3, 1) := by decide +kernel
theorem dX6_read_52 : decode cX6_read 52 = .ok (.aload_n 0, 1) := by decide +kernel
theorem dX6_read_53 : decode cX6_read 53 = .ok (.iload 4, 2) := by decide +kernel
theorem dX6_read_55 : decode cX6_read 55 = .ok (.iconst 1, 1) := by decide +kernel
theorem dX6_read_56 : decode cX6_read 56 = .ok (.iadd, 1) := by decide +kernel
theorem dX6_read_57 : decode cX6_read 57 = .ok (.invokevirtual 15, 3) := by decide +kernel
theorem dX6_read_60 : decode cX6_read 60 = .ok (.invokestatic 24, 3) := by decide +kernel
theorem dX6_read_63 : decode cX6_read 63 = .ok (.iastore, 1) := by decide +kernel
theorem dX6_read_64 : decode cX6_read 64 = .ok (.aload_n 2, 1) := by decide +kernel
theorem dX6_read_65 : decode cX6_read 65 = .ok (.getfield 49, 3) := by decide +kernel
theorem dX6_read_68 : decode cX6_read 68 = .ok (.iload_n 3, 1) := by decide +kernel
theorem dX6_read_69 : decode cX6_read 69 = .ok (.aload_n 0, 1) := by decide +kernel
theorem dX6_read_70 : decode cX6_read 70 = .ok (.iload 4, 2) := by decide +kernel
theorem dX6_read_72 : decode cX6_read 72 = .ok (.iconst 2, 1) := by decide +kernel
theorem dX6_read_73 : decode cX6_read 73 = .ok (.iadd, 1) := by decide +kernel
theorem dX6_read_74 : decode cX6_read 74 = .ok (.invokevirtual 15, 3) := by decide +kernel
theorem dX6_read_77 : decode cX6_read 77 = .ok (.invokestatic 21, 3) := by decide +kernel
theorem dX6_read_80 : decode cX6_read 80 = .ok (.iastore, 1) := by decide +kernel
theorem dX6_read_81 : decode cX6_read 81 = .ok (.aload_n 2, 1) := by decide +kernel
theorem dX6_read_82 : decode cX6_read 82 = .ok (.getfield 52, 3) := by decide +kernel
theorem dX6_read_85 : decode cX6_read 85 = .ok (.iload_n 3, 1) := by decide +kernel
theorem dX6_read_86 : decode cX6_read 86 = .ok (.aload_n 0, 1) := by decide +kernel
theorem dX6_read_87 : decode cX6_read 87 = .ok (.iload 4, 2) := by decide +kernel
theorem dX6_read_89 : decode cX6_read 89 = .ok (.iconst 3, 1) := by decide +kernel
theorem dX6_read_90 : decode cX6_read 90 = .ok (.iadd, 1) := by decide +kernel
theorem dX6_read_91 : decode cX6_read 91 = .ok (.invokevirtual 15, 3) := by decide +kernel
theorem dX6_read_94 : decode cX6_read 94 = .ok (.invokestatic 21, 3) := by decide +kernel
theorem dX6_read_97 : decode cX6_read 97 = .ok (.iastore, 1) := by decide +kernel
theorem dX6_read_98 : decode cX6_read 98 = .ok (.aload_n 2, 1) := by decide +kernel
theorem dX6_read_99 : decode cX6_read 99 = .ok (.getfield 55, 3) := by decide +kernel
theorem dX6_read_102 : decode cX6_read 102 = .ok (.iload_n 3, 1) := by decide +kernel
theorem dX6_read_103 : decode cX6_read 103 = .ok (.aload_n 0, 1) := by decide +kernel
theorem dX6_read_104 : decode cX6_read 104 = .ok (.iload 4, 2) := by decide +kernel
theorem dX6_read_106 : decode cX6_read 106 = .ok (.iconst 4, 1) := by decide +kernel
theorem dX6_read_107 : decode cX6_read 107 = .ok (.iadd, 1) := by decide +kernel
theorem dX6_read_108 : decode cX6_read 108 = .ok (.invokevirtual 15, 3) := by decide +kernel
theorem dX6_read_111 : decode cX6_read 111 = .ok (.invokestatic 21, 3) := by decide +kernel
theorem dX6_read_114 : decode cX6_read 114 = .ok (.iastore, 1) := by decide +kernel
theorem dX6_read_115 : decode cX6_read 115 = .ok (.iinc 3 1, 3) := by decide +kernel
theorem dX6_read_118 : decode cX6_read 118 = .ok (.goto (-88), 3) := by decide +kernel
theorem dX6_read_121 : decode cX6_read 121 = .ok (.return_, 1) := by decide +kernel
theorem dX7_init_0 : decode cX7_init 0 = .ok (.aload_n 0, 1) := by decide +kernel
theorem dX7_init_1 : decode cX7_init 1 = .ok (.invokespecial 5, 3) := by decide +kernel
theorem dX7_init_4 : decode cX7_init 4 = .ok (.aload_n 0, 1) := by decide +kernel
theorem dX7_init_5 : decode cX7_init 5 = .ok (.new 11, 3) := by decide +kernel
theorem dX7_init_8 : decode cX7_init 8 = .ok (.dup, 1) := by decide +kernel
theorem dX7_init_9 : decode cX7_init 9 = .ok (.invokespecial 13, 3) := by decide +kernel
theorem dX7_init_12 : decode cX7_init 12 = .ok (.putfield 14, 3) := by decide +kernel
theorem dX7_init_15 : decode cX7_init 15 = .ok (.aload_n 0, 1) := by decide +kernel
theorem dX7_init_16 : decode cX7_init 16 = .ok (.new 18, 3) := by decide +kernel
theorem dX7_init_19 : decode cX7_init 19 = .ok (.dup, 1) := by decide +kernel
theorem dX7_init_20 : decode cX7_init 20 = .ok (.bipush 9, 2) := by decide +kernel
theorem dX7_init_22 : decode cX7_init 22 = .ok (.invokespecial 20, 3) := by decide +kernel
theorem dX7_init_25 : decode cX7_init 25 = .ok (.putfield 23, 3) := by decide +kernel
theorem dX7_init_28 : decode cX7_init 28 = .ok (.aload_n 0, 1) := by decide +kernel
theorem dX7_init_29 : decode cX7_init 29 = .ok (.new 27, 3) := by decide +kernel
theorem dX7_init_32 : decode cX7_init 32 = .ok (.dup, 1) := by decide +kernel
theorem dX7_init_33 : decode cX7_init 33 = .ok (.invokespecial 29, 3) := by decide +kernel
theorem dX7_init_36 : decode cX7_init 36 = .ok (.putfield 30, 3) := by decide +kernel
theorem dX7_init_39 : decode cX7_init 39 = .ok (.aload_n 0, 1) := by decide +kernel
theorem dX7_init_40 : decode cX7_init 40 = .ok (.new 34, 3) := by decide +kernel
theorem dX7_init_43 : decode cX7_init 43 = .ok (.dup, 1) := by decide +kernel
theorem dX7_init_44 : decode cX7_init 44 = .ok (.aload_n 0, 1) := by decide +kernel
theorem dX7_init_45 : decode cX7_init 45 = .ok (.getfield 14, 3) := by decide +kernel
theorem dX7_init_48 : decode cX7_init 48 = .ok (.aload_n 0, 1) := by decide +kernel
theorem dX7_init_49 : decode cX7_init 49 = .ok (.getfield 23, 3) := by decide +kernel
theorem dX7_init_52 : decode cX7_init 52 = .ok (.invokespecial 36, 3) := by decide +kernel
theorem dX7_init_55 : decode cX7_init 55 = .ok (.putfield 39, 3) := by decide +kernel
theorem dX7_init_58 : decode cX7_init 58 = .ok (.aload_n 0, 1) := by decide +kernel
theorem dX7_init_59 : decode cX7_init 59 = .ok (.iconst 4, 1) := by decide +kernel
theorem dX7_init_60 : decode cX7_init 60 = .ok (.anewarray 43, 3) := by decide +kernel
theorem dX7_init_63 : decode cX7_init 63 = .ok (.putfield 45, 3) := by decide +kernel
theorem dX7_init_66 : decode cX7_init 66 = .ok (.iconst 0, 1) := by decide +kernel
theorem dX7_init_67 : decode cX7_init 67 = .ok (.istore_n 1, 1) := by decide +kernel
theorem dX7_init_68 : decode cX7_init 68 = .ok (.iload_n 1, 1) := by decide +kernel
theorem dX7_init_69 : decode cX7_init 69 = .ok (.iconst 4, 1) := by decide +kernel
theorem dX7_init_70 : decode cX7_init 70 = .ok (.if_icmp .ge 22, 3) := by decide +kernel
theorem dX7_init_73 : decode cX7_init 73 = .ok (.aload_n 0, 1) := by decide +kernel
theorem dX7_init_74 : decode cX7_init 74 = .ok (.getfield 45, 3) := by decide +kernel
theorem dX7_init_77 : decode cX7_init 77 = .ok (.iload_n 1, 1) := by decide +kernel
theorem dX7_init_78 : decode cX7_init 78 = .ok (.new 43, 3) := by decide +kernel
theorem dX7_init_81 : decode cX7_init 81 = .ok (.dup, 1) := by decide +kernel
theorem dX7_init_82 : decode cX7_init 82 = .ok (.invokespecial 49, 3) := by decide +kernel
theorem dX7_init_85 : decode cX7_init 85 = .ok (.aastore, 1) := by decide +kernel
theorem dX7_init_86 : decode cX7_init 86 = .ok (.iinc 1 1, 3) := by decide +kernel
theorem dX7_init_89 : decode cX7_init 89 = .ok (.goto (-21), 3) := by decide +kernel
theorem dX7_init_92 : decode cX7_init 92 = .ok (.return_, 1) := by decide +kernel
theorem dX7_coast_0 : decode cX7_coast 0 = .ok (.aload_n 0, 1) := by decide +kernel
theorem dX7_coast_1 : decode cX7_coast 1 = .ok (.iconst 0, 1) := by decide +kernel
theorem dX7_coast_2 : decode cX7_coast 2 = .ok (.putfield 50, 3) := by decide +kernel
theorem dX7_coast_5 : decode cX7_coast 5 = .ok (.aload_n 0, 1) := by decide +kernel
theorem dX7_coast_6 : decode cX7_coast 6 = .ok (.iload_n 1, 1) := by decide +kernel
theorem dX7_coast_7 : decode cX7_coast 7 = .ok (.invokevirtual 54, 3) := by decide +kernel
theorem dX7_coast_10 : decode cX7_coast 10 = .ok (.astore 5, 2) := by decide +kernel
theorem dX7_coast_12 : decode cX7_coast 12 = .ok (.aload 5, 2) := by decide +kernel
theorem dX7_coast_14 : decode cX7_coast 14 = .ok (.ifnonnull 5, 3) := by decide +kernel
theorem dX7_coast_17 : decode cX7_coast 17 = .ok (.iconst (-1), 1) := by decide +kernel
theorem dX7_coast_18 : decode cX7_coast 18 = .ok (.ireturn, 1) := by decide +kernel
theorem dX7_coast_19 : decode cX7_coast 19 = .ok (.iload_n 2, 1) := by decide +kernel
theorem dX7_coast_20 : decode cX7_coast 20 = .ok (.invokestatic 58, 3) := by decide +kernel
theorem dX7_coast_23 : decode cX7_coast 23 = .ok (.ifCond .ne 6, 3) := by decide +kernel
theorem dX7_coast_26 : decode cX7_coast 26 = .ok (.bipush (-2), 2) := by decide +kernel
theorem dX7_coast_28 : decode cX7_coast 28 = .ok (.ireturn, 1) := by decide +kernel
theorem dX7_coast_29 : decode cX7_coast 29 = .ok (.aload 5, 2) := by decide +kernel
theorem dX7_coast_31 : decode cX7_coast 31 = .ok (.iload_n 2, 1) := by decide +kernel
theorem dX7_coast_32 : decode cX7_coast 32 = .ok (.iload_n 3, 1) := by decide +kernel
theorem dX7_coast_33 : decode cX7_coast 33 = .ok (.iload 4, 2) := by decide +kernel
theorem dX7_coast_35 : decode cX7_coast 35 = .ok (.invokevirtual 62, 3) := by decide +kernel
theorem dX7_coast_38 : decode cX7_coast 38 = .ok (.istore 6, 2) := by decide +kernel
theorem dX7_coast_40 : decode cX7_coast 40 = .ok (.iload 6, 2) := by decide +kernel
theorem dX7_coast_42 : decode cX7_coast 42 = .ok (.ifCond .eq 10, 3) := by decide +kernel
theorem dX7_coast_45 : decode cX7_coast 45 = .ok (.aload_n 0, 1) := by decide +kernel
theorem dX7_coast_46 : decode cX7_coast 46 = .ok (.iload 6, 2) := by decide +kernel
theorem dX7_coast_48 : decode cX7_coast 48 = .ok (.invokevirtual 66, 3) := by decide +kernel
theorem dX7_coast_51 : decode cX7_coast 51 = .ok (.ireturn, 1) := by decide +kernel
theorem dX7_coast_52 : decode cX7_coast 52 = .ok (.aload 5, 2) := by decide +kernel
theorem dX7_coast_54 : decode cX7_coast 54 = .ok (.iload_n 3, 1) := by decide +kernel
theorem dX7_coast_55 : decode cX7_coast 55 = .ok (.iload 4, 2) := by decide +kernel
theorem dX7_coast_57 : decode cX7_coast 57 = .ok (.invokestatic 70, 3) := by decide +kernel
theorem dX7_coast_60 : decode cX7_coast 60 = .ok (.istore 7, 2) := by decide +kernel
theorem dX7_coast_62 : decode cX7_coast 62 = .ok (.iload 7, 2) := by decide +kernel
theorem dX7_coast_64 : decode cX7_coast 64 = .ok (.bipush (-9), 2) := by decide +kernel
theorem dX7_coast_66 : decode cX7_coast 66 = .ok (.if_icmp .eq 9, 3) := by decide +kernel
theorem dX7_coast_69 : decode cX7_coast 69 = .ok (.bipush (-100), 2) := by decide +kernel
theorem dX7_coast_71 : decode cX7_coast 71 = .ok (.iload 7, 2) := by decide +kernel
theorem dX7_coast_73 : decode cX7_coast 73 = .ok (.isub, 1) := by decide +kernel
theorem dX7_coast_74 : decode cX7_coast 74 = .ok (.ireturn, 1) := by decide +kernel
theorem dX7_coast_75 : decode cX7_coast 75 = .ok (.aload 5, 2) := by decide +kernel
theorem dX7_coast_77 : decode cX7_coast 77 = .ok (.iload_n 3, 1) := by decide +kernel
theorem dX7_coast_78 : decode cX7_coast 78 = .ok (.aload_n 0, 1) := by decide +kernel
theorem dX7_coast_79 : decode cX7_coast 79 = .ok (.getfield 14, 3) := by decide +kernel
theorem dX7_coast_82 : decode cX7_coast 82 = .ok (.invokestatic 76, 3) := by decide +kernel
theorem dX7_coast_85 : decode cX7_coast 85 = .ok (.aload_n 0, 1) := by decide +kernel
theorem dX7_coast_86 : decode cX7_coast 86 = .ok (.getfield 23, 3) := by decide +kernel
theorem dX7_coast_89 : decode cX7_coast 89 = .ok (.iconst 0, 1) := by decide +kernel
theorem dX7_coast_90 : decode cX7_coast 90 = .ok (.putfield 80, 3) := by decide +kernel
theorem dX7_coast_93 : decode cX7_coast 93 = .ok (.aload_n 0, 1) := by decide +kernel
theorem dX7_coast_94 : decode cX7_coast 94 = .ok (.getfield 30, 3) := by decide +kernel
theorem dX7_coast_97 : decode cX7_coast 97 = .ok (.iconst 0, 1) := by decide +kernel
theorem dX7_coast_98 : decode cX7_coast 98 = .ok (.putfield 83, 3) := by decide +kernel
theorem dX7_coast_101 : decode cX7_coast 101 = .ok (.aload_n 0, 1) := by decide +kernel
theorem dX7_coast_102 : decode cX7_coast 102 = .ok (.getfield 14, 3) := by decide +kernel
theorem dX7_coast_105 : decode cX7_coast 105 = .ok (.getfield 84, 3) := by decide +kernel
theorem dX7_coast_108 : decode cX7_coast 108 = .ok (.ireturn, 1) := by decide +kernel
theorem dX7_ofPerson_0 : decode cX7_ofPerson 0 = .ok (.aload_n 0, 1) := by decide +kernel
theorem dX7_ofPerson_1 : decode cX7_ofPerson 1 = .ok (.getfield 14, 3) := by decide +kernel
theorem dX7_ofPerson_4 : decode cX7_ofPerson 4 = .ok (.iload_n 1, 1) := by decide +kernel
theorem dX7_ofPerson_5 : decode cX7_ofPerson 5 = .ok (.invokevirtual 85, 3) := by decide +kernel
theorem dX7_ofPerson_8 : decode cX7_ofPerson 8 = .ok (.ifCond .ne 5, 3) := by decide +kernel
theorem dX7_ofPerson_11 : decode cX7_ofPerson 11 = .ok (.iconst (-1), 1) := by decide +kernel
theorem dX7_ofPerson_12 : decode cX7_ofPerson 12 = .ok (.ireturn, 1) := by decide +kernel
theorem dX7_ofPerson_13 : decode cX7_ofPerson 13 = .ok (.iload_n 2, 1) := by decide +kernel
theorem dX7_ofPerson_14 : decode cX7_ofPerson 14 = .ok (.tableswitch 107 0 5 #[38, 48, 58, 68, 78, 87], 38) := by decide +kernel
theorem dX7_ofPerson_52 : decode cX7_ofPerson 52 = .ok (.aload_n 0, 1) := by decide +kernel
theorem dX7_ofPerson_53 : decode cX7_ofPerson 53 = .ok (.getfield 14, 3) := by decide +kernel
theorem dX7_ofPerson_56 : decode cX7_ofPerson 56 = .ok (.getfield 88, 3) := by decide +kernel
theorem dX7_ofPerson_59 : decode cX7_ofPerson 59 = .ok (.iload_n 1, 1) := by decide +kernel
theorem dX7_ofPerson_60 : decode cX7_ofPerson 60 = .ok (.iaload, 1) := by decide +kernel
theorem dX7_ofPerson_61 : decode cX7_ofPerson 61 = .ok (.ireturn, 1) := by decide +kernel
theorem dX7_ofPerson_62 : decode cX7_ofPerson 62 = .ok (.aload_n 0, 1) := by decide +kernel
theorem dX7_ofPerson_63 : decode cX7_ofPerson 63 = .ok (.getfield 14, 3) := by decide +kernel
theorem dX7_ofPerson_66 : decode cX7_ofPerson 66 = .ok (.getfield 92, 3) := by decide +kernel
theorem dX7_ofPerson_69 : decode cX7_ofPerson 69 = .ok (.iload_n 1, 1) := by decide +kernel
theorem dX7_ofPerson_70 : decode cX7_ofPerson 70 = .ok (.iaload, 1) := by decide +kernel
theorem dX7_ofPerson_71 : decode cX7_ofPerson 71 = .ok (.ireturn, 1) := by decide +kernel
theorem dX7_ofPerson_72 : decode cX7_ofPerson 72 = .ok (.aload_n 0, 1) := by decide +kernel
theorem dX7_ofPerson_73 : decode cX7_ofPerson 73 = .ok (.getfield 14, 3) := by decide +kernel
theorem dX7_ofPerson_76 : decode cX7_ofPerson 76 = .ok (.getfield 95, 3) := by decide +kernel
theorem dX7_ofPerson_79 : decode cX7_ofPerson 79 = .ok (.iload_n 1, 1) := by decide +kernel
theorem dX7_ofPerson_80 : decode cX7_ofPerson 80 = .ok (.iaload, 1) := by decide +kernel
theorem dX7_ofPerson_81 : decode cX7_ofPerson 81 = .ok (.ireturn, 1) := by decide +kernel
theorem dX7_ofPerson_82 : decode cX7_ofPerson 82 = .ok (.aload_n 0, 1) := by decide +kernel
theorem dX7_ofPerson_83 : decode cX7_ofPerson 83 = .ok (.getfield 14, 3) := by decide +kernel
theorem dX7_ofPerson_86 : decode cX7_ofPerson 86 = .ok (.getfield 98, 3) := by decide +kernel
theorem dX7_ofPerson_89 : decode cX7_ofPerson 89 = .ok (.iload_n 1, 1) := by decide +kernel
theorem dX7_ofPerson_90 : decode cX7_ofPerson 90 = .ok (.iaload, 1) := by decide +kernel
theorem dX7_ofPerson_91 : decode cX7_ofPerson 91 = .ok (.ireturn, 1) := by decide +kernel
theorem dX7_ofPerson_92 : decode cX7_ofPerson 92 = .ok (.aload_n 0, 1) := by decide +kernel
theorem dX7_ofPerson_93 : decode cX7_ofPerson 93 = .ok (.getfield 14, 3) := by decide +kernel
theorem dX7_ofPerson_96 : decode cX7_ofPerson 96 = .ok (.iload_n 1, 1) := by decide +kernel
theorem dX7_ofPerson_97 : decode cX7_ofPerson 97 = .ok (.invokevirtual 101, 3) := by decide +kernel
theorem dX7_ofPerson_100 : decode cX7_ofPerson 100 = .ok (.ireturn, 1) := by decide +kernel
theorem dX7_ofPerson_101 : decode cX7_ofPerson 101 = .ok (.aload_n 0, 1) := by decide +kernel
theorem dX7_ofPerson_102 : decode cX7_ofPerson 102 = .ok (.getfield 14, 3) := by decide +kernel
theorem dX7_ofPerson_105 : decode cX7_ofPerson 105 = .ok (.getfield 104, 3) := by decide +kernel
theorem dX7_ofPerson_108 : decode cX7_ofPerson 108 = .ok (.iload_n 1, 1) := by decide +kernel
theorem dX7_ofPerson_109 : decode cX7_ofPerson 109 = .ok (.invokestatic 107, 3) := by decide +kernel
theorem dX7_ofPerson_112 : decode cX7_ofPerson 112 = .ok (.ifCond .eq 7, 3) := by decide +kernel
theorem dX7_ofPerson_115 : decode cX7_ofPerson 115 = .ok (.iconst 1, 1) := by decide +kernel
theorem dX7_ofPerson_116 : decode cX7_ofPerson 116 = .ok (.goto 4, 3) := by decide +kernel
theorem dX7_ofPerson_119 : decode cX7_ofPerson 119 = .ok (.iconst 0, 1) := by decide +kernel
theorem dX7_ofPerson_120 : decode cX7_ofPerson 120 = .ok (.ireturn, 1) := by decide +kernel
theorem dX7_ofPerson_121 : decode cX7_ofPerson 121 = .ok (.bipush (-2), 2) := by decide +kernel
theorem dX7_ofPerson_123 : decode cX7_ofPerson 123 = .ok (.ireturn, 1) := by decide +kernel
theorem dX7_insult_0 : decode cX7_insult 0 = .ok (.aload_n 0, 1) := by decide +kernel
theorem dX7_insult_1 : decode cX7_insult 1 = .ok (.getfield 14, 3) := by decide +kernel
theorem dX7_insult_4 : decode cX7_insult 4 = .ok (.iload_n 1, 1) := by decide +kernel
theorem dX7_insult_5 : decode cX7_insult 5 = .ok (.iload_n 2, 1) := by decide +kernel
theorem dX7_insult_6 : decode cX7_insult 6 = .ok (.invokevirtual 111, 3) := by decide +kernel
theorem dX7_insult_9 : decode cX7_insult 9 = .ok (.ifCond .ne 5, 3) := by decide +kernel
theorem dX7_insult_12 : decode cX7_insult 12 = .ok (.iconst (-1), 1) := by decide +kernel
theorem dX7_insult_13 : decode cX7_insult 13 = .ok (.ireturn, 1) := by decide +kernel
theorem dX7_insult_14 : decode cX7_insult 14 = .ok (.iload_n 3, 1) := by decide +kernel
theorem dX7_insult_15 : decode cX7_insult 15 = .ok (.invokestatic 114, 3) := by decide +kernel
theorem dX7_insult_18 : decode cX7_insult 18 = .ok (.ifCond .eq 16, 3) := by decide +kernel
theorem dX7_insult_21 : decode cX7_insult 21 = .ok (.iload 4, 2) := by decide +kernel
theorem dX7_insult_23 : decode cX7_insult 23 = .ok (.iconst 1, 1) := by decide +kernel
theorem dX7_insult_24 : decode cX7_insult 24 = .ok (.if_icmp .lt 10, 3) := by decide +kernel
theorem dX7_insult_27 : decode cX7_insult 27 = .ok (.iload 4, 2) := by decide +kernel
theorem dX7_insult_29 : decode cX7_insult 29 = .ok (.bipush 9, 2) := by decide +kernel
theorem dX7_insult_31 : decode cX7_insult 31 = .ok (.if_icmp .le 6, 3) := by decide +kernel
theorem dX7_insult_34 : decode cX7_insult 34 = .ok (.bipush (-2), 2) := by decide +kernel
theorem dX7_insult_36 : decode cX7_insult 36 = .ok (.ireturn, 1) := by decide +kernel
theorem dX7_insult_37 : decode cX7_insult 37 = .ok (.aload_n 0, 1) := by decide +kernel
theorem dX7_insult_38 : decode cX7_insult 38 = .ok (.getfield 23, 3) := by decide +kernel
theorem dX7_insult_41 : decode cX7_insult 41 = .ok (.getfield 80, 3) := by decide +kernel
theorem dX7_insult_44 : decode cX7_insult 44 = .ok (.bipush 8, 2) := by decide +kernel
theorem dX7_insult_46 : decode cX7_insult 46 = .ok (.if_icmp .lt 6, 3) := by decide +kernel
theorem dX7_insult_49 : decode cX7_insult 49 = .ok (.bipush (-4), 2) := by decide +kernel
theorem dX7_insult_51 : decode cX7_insult 51 = .ok (.ireturn, 1) := by decide +kernel
theorem dX7_insult_52 : decode cX7_insult 52 = .ok (.aload_n 0, 1) := by decide +kernel
theorem dX7_insult_53 : decode cX7_insult 53 = .ok (.getfield 23, 3) := by decide +kernel
theorem dX7_insult_56 : decode cX7_insult 56 = .ok (.iload_n 1, 1) := by decide +kernel
theorem dX7_insult_57 : decode cX7_insult 57 = .ok (.iload_n 2, 1) := by decide +kernel
theorem dX7_insult_58 : decode cX7_insult 58 = .ok (.iload_n 3, 1) := by decide +kernel
theorem dX7_insult_59 : decode cX7_insult 59 = .ok (.iload 4, 2) := by decide +kernel
theorem dX7_insult_61 : decode cX7_insult 61 = .ok (.invokevirtual 117, 3) := by decide +kernel
theorem dX7_insult_64 : decode cX7_insult 64 = .ok (.aload_n 0, 1) := by decide +kernel
theorem dX7_insult_65 : decode cX7_insult 65 = .ok (.getfield 23, 3) := by decide +kernel
theorem dX7_insult_68 : decode cX7_insult 68 = .ok (.getfield 80, 3) := by decide +kernel
theorem dX7_insult_71 : decode cX7_insult 71 = .ok (.iconst 1, 1) := by decide +kernel
theorem dX7_insult_72 : decode cX7_insult 72 = .ok (.isub, 1) := by decide +kernel
theorem dX7_insult_73 : decode cX7_insult 73 = .ok (.ireturn, 1) := by decide +kernel
theorem dX7_sorry_0 : decode cX7_sorry 0 = .ok (.iload_n 1, 1) := by decide +kernel
theorem dX7_sorry_1 : decode cX7_sorry 1 = .ok (.ifCond .lt 14, 3) := by decide +kernel
theorem dX7_sorry_4 : decode cX7_sorry 4 = .ok (.iload_n 1, 1) := by decide +kernel
theorem dX7_sorry_5 : decode cX7_sorry 5 = .ok (.aload_n 0, 1) := by decide +kernel
theorem dX7_sorry_6 : decode cX7_sorry 6 = .ok (.getfield 23, 3) := by decide +kernel
theorem dX7_sorry_9 : decode cX7_sorry 9 = .ok (.getfield 80, 3) := by decide +kernel
theorem dX7_sorry_12 : decode cX7_sorry 12 = .ok (.if_icmp .le 6, 3) := by decide +kernel
theorem dX7_sorry_15 : decode cX7_sorry 15 = .ok (.bipush (-2), 2) := by decide +kernel
theorem dX7_sorry_17 : decode cX7_sorry 17 = .ok (.ireturn, 1) := by decide +kernel
theorem dX7_sorry_18 : decode cX7_sorry 18 = .ok (.aload_n 0, 1) := by decide +kernel
theorem dX7_sorry_19 : decode cX7_sorry 19 = .ok (.getfield 23, 3) := by decide +kernel
theorem dX7_sorry_22 : decode cX7_sorry 22 = .ok (.dup, 1) := by decide +kernel
theorem dX7_sorry_23 : decode cX7_sorry 23 = .ok (.getfield 80, 3) := by decide +kernel
theorem dX7_sorry_26 : decode cX7_sorry 26 = .ok (.iload_n 1, 1) := by decide +kernel
theorem dX7_sorry_27 : decode cX7_sorry 27 = .ok (.isub, 1) := by decide +kernel
theorem dX7_sorry_28 : decode cX7_sorry 28 = .ok (.putfield 80, 3) := by decide +kernel
theorem dX7_sorry_31 : decode cX7_sorry 31 = .ok (.aload_n 0, 1) := by decide +kernel
theorem dX7_sorry_32 : decode cX7_sorry 32 = .ok (.getfield 23, 3) := by decide +kernel
theorem dX7_sorry_35 : decode cX7_sorry 35 = .ok (.getfield 80, 3) := by decide +kernel
theorem dX7_sorry_38 : decode cX7_sorry 38 = .ok (.ireturn, 1) := by decide +kernel
theorem dX7_arrest_0 : decode cX7_arrest 0 = .ok (.aload_n 0, 1) := by decide +kernel
theorem dX7_arrest_1 : decode cX7_arrest 1 = .ok (.getfield 14, 3) := by decide +kernel
theorem dX7_arrest_4 : decode cX7_arrest 4 = .ok (.iload_n 1, 1) := by decide +kernel
theorem dX7_arrest_5 : decode cX7_arrest 5 = .ok (.invokevirtual 85, 3) := by decide +kernel
theorem dX7_arrest_8 : decode cX7_arrest 8 = .ok (.ifCond .ne 5, 3) := by decide +kernel
theorem dX7_arrest_11 : decode cX7_arrest 11 = .ok (.iconst (-1), 1) := by decide +kernel
theorem dX7_arrest_12 : decode cX7_arrest 12 = .ok (.ireturn, 1) := by decide +kernel
theorem dX7_arrest_13 : decode cX7_arrest 13 = .ok (.aload_n 0, 1) := by decide +kernel
theorem dX7_arrest_14 : decode cX7_arrest 14 = .ok (.getfield 14, 3) := by decide +kernel
theorem dX7_arrest_17 : decode cX7_arrest 17 = .ok (.getfield 104, 3) := by decide +kernel
theorem dX7_arrest_20 : decode cX7_arrest 20 = .ok (.iload_n 1, 1) := by decide +kernel
theorem dX7_arrest_21 : decode cX7_arrest 21 = .ok (.invokestatic 107, 3) := by decide +kernel
theorem dX7_arrest_24 : decode cX7_arrest 24 = .ok (.iload_n 2, 1) := by decide +kernel
theorem dX7_arrest_25 : decode cX7_arrest 25 = .ok (.if_icmp .ne 5, 3) := by decide +kernel
theorem dX7_arrest_28 : decode cX7_arrest 28 = .ok (.iconst 0, 1) := by decide +kernel
theorem dX7_arrest_29 : decode cX7_arrest 29 = .ok (.ireturn, 1) := by decide +kernel
theorem dX7_arrest_30 : decode cX7_arrest 30 = .ok (.aload_n 0, 1) := by decide +kernel
theorem dX7_arrest_31 : decode cX7_arrest 31 = .ok (.getfield 14, 3) := by decide +kernel
theorem dX7_arrest_34 : decode cX7_arrest 34 = .ok (.dup, 1) := by decide +kernel
theorem dX7_arrest_35 : decode cX7_arrest 35 = .ok (.getfield 104, 3) := by decide +kernel
theorem dX7_arrest_38 : decode cX7_arrest 38 = .ok (.iload_n 1, 1) := by decide +kernel
theorem dX7_arrest_39 : decode cX7_arrest 39 = .ok (.invokestatic 121, 3) := by decide +kernel
theorem dX7_arrest_42 : decode cX7_arrest 42 = .ok (.ixor, 1) := by decide +kernel
theorem dX7_arrest_43 : decode cX7_arrest 43 = .ok (.putfield 104, 3) := by decide +kernel
theorem dX7_arrest_46 : decode cX7_arrest 46 = .ok (.iconst 1, 1) := by decide +kernel
theorem dX7_arrest_47 : decode cX7_arrest 47 = .ok (.ireturn, 1) := by decide +kernel
theorem dX7_meetings_0 : decode cX7_meetings 0 = .ok (.iload_n 1, 1) := by decide +kernel
theorem dX7_meetings_1 : decode cX7_meetings 1 = .ok (.invokestatic 124, 3) := by decide +kernel
theorem dX7_meetings_4 : decode cX7_meetings 4 = .ok (.ifCond .ne 6, 3) := by decide +kernel
theorem dX7_meetings_7 : decode cX7_meetings 7 = .ok (.bipush (-2), 2) := by decide +kernel
theorem dX7_meetings_9 : decode cX7_meetings 9 = .ok (.ireturn, 1) := by decide +kernel
theorem dX7_meetings_10 : decode cX7_meetings 10 = .ok (.aload_n 0, 1) := by decide +kernel
theorem dX7_meetings_11 : decode cX7_meetings 11 = .ok (.invokevirtual 127, 3) := by decide +kernel
theorem dX7_meetings_14 : decode cX7_meetings 14 = .ok (.ifCond .eq 6, 3) := by decide +kernel
theorem dX7_meetings_17 : decode cX7_meetings 17 = .ok (.bipush (-3), 2) := by decide +kernel
theorem dX7_meetings_19 : decode cX7_meetings 19 = .ok (.ireturn, 1) := by decide +kernel
theorem dX7_meetings_20 : decode cX7_meetings 20 = .ok (.aload_n 0, 1) := by decide +kernel
theorem dX7_meetings_21 : decode cX7_meetings 21 = .ok (.getfield 39, 3) := by decide +kernel
theorem dX7_meetings_24 : decode cX7_meetings 24 = .ok (.iconst (-1), 1) := by decide +kernel
theorem dX7_meetings_25 : decode cX7_meetings 25 = .ok (.aload_n 0, 1) := by decide +kernel
theorem dX7_meetings_26 : decode cX7_meetings 26 = .ok (.getfield 14, 3) := by decide +kernel
theorem dX7_meetings_29 : decode cX7_meetings 29 = .ok (.getfield 104, 3) := by decide +kernel
theorem dX7_meetings_32 : decode cX7_meetings 32 = .ok (.iload_n 1, 1) := by decide +kernel
theorem dX7_meetings_33 : decode cX7_meetings 33 = .ok (.invokevirtual 131, 3) := by decide +kernel
theorem dX7_meetings_36 : decode cX7_meetings 36 = .ok (.aload_n 0, 1) := by decide +kernel
theorem dX7_meetings_37 : decode cX7_meetings 37 = .ok (.getfield 39, 3) := by decide +kernel
theorem dX7_meetings_40 : decode cX7_meetings 40 = .ok (.getfield 135, 3) := by decide +kernel
theorem dX7_meetings_43 : decode cX7_meetings 43 = .ok (.getfield 139, 3) := by decide +kernel
theorem dX7_meetings_46 : decode cX7_meetings 46 = .ok (.ireturn, 1) := by decide +kernel
theorem dX7_met_0 : decode cX7_met 0 = .ok (.aload_n 0, 1) := by decide +kernel
theorem dX7_met_1 : decode cX7_met 1 = .ok (.getfield 39, 3) := by decide +kernel
theorem dX7_met_4 : decode cX7_met 4 = .ok (.iconst (-1), 1) := by decide +kernel
theorem dX7_met_5 : decode cX7_met 5 = .ok (.aload_n 0, 1) := by decide +kernel
theorem dX7_met_6 : decode cX7_met 6 = .ok (.getfield 14, 3) := by decide +kernel
theorem dX7_met_9 : decode cX7_met 9 = .ok (.getfield 104, 3) := by decide +kernel
theorem dX7_met_12 : decode cX7_met 12 = .ok (.bipush 59, 2) := by decide +kernel
theorem dX7_met_14 : decode cX7_met 14 = .ok (.invokevirtual 131, 3) := by decide +kernel
theorem dX7_met_17 : decode cX7_met 17 = .ok (.iload_n 1, 1) := by decide +kernel
theorem dX7_met_18 : decode cX7_met 18 = .ok (.ifCond .lt 17, 3) := by decide +kernel
theorem dX7_met_21 : decode cX7_met 21 = .ok (.iload_n 1, 1) := by decide +kernel
theorem dX7_met_22 : decode cX7_met 22 = .ok (.aload_n 0, 1) := by decide +kernel
theorem dX7_met_23 : decode cX7_met 23 = .ok (.getfield 39, 3) := by decide +kernel
theorem dX7_met_26 : decode cX7_met 26 = .ok (.getfield 135, 3) := by decide +kernel
theorem dX7_met_29 : decode cX7_met 29 = .ok (.getfield 139, 3) := by decide +kernel
theorem dX7_met_32 : decode cX7_met 32 = .ok (.if_icmp .lt 5, 3) := by decide +kernel
theorem dX7_met_35 : decode cX7_met 35 = .ok (.iconst (-1), 1) := by decide +kernel
theorem dX7_met_36 : decode cX7_met 36 = .ok (.ireturn, 1) := by decide +kernel
theorem dX7_met_37 : decode cX7_met 37 = .ok (.iload_n 2, 1) := by decide +kernel
theorem dX7_met_38 : decode cX7_met 38 = .ok (.ifCond .lt 9, 3) := by decide +kernel
theorem dX7_met_41 : decode cX7_met 41 = .ok (.iload_n 2, 1) := by decide +kernel
theorem dX7_met_42 : decode cX7_met 42 = .ok (.bipush 6, 2) := by decide +kernel
theorem dX7_met_44 : decode cX7_met 44 = .ok (.if_icmp .lt 6, 3) := by decide +kernel
theorem dX7_met_47 : decode cX7_met 47 = .ok (.bipush (-2), 2) := by decide +kernel
theorem dX7_met_49 : decode cX7_met 49 = .ok (.ireturn, 1) := by decide +kernel
theorem dX7_met_50 : decode cX7_met 50 = .ok (.aload_n 0, 1) := by decide +kernel
theorem dX7_met_51 : decode cX7_met 51 = .ok (.getfield 39, 3) := by decide +kernel
theorem dX7_met_54 : decode cX7_met 54 = .ok (.getfield 135, 3) := by decide +kernel
theorem dX7_met_57 : decode cX7_met 57 = .ok (.getfield 142, 3) := by decide +kernel
theorem dX7_met_60 : decode cX7_met 60 = .ok (.iload_n 2, 1) := by decide +kernel
theorem dX7_met_61 : decode cX7_met 61 = .ok (.aaload, 1) := by decide +kernel
theorem dX7_met_62 : decode cX7_met 62 = .ok (.iload_n 1, 1) := by decide +kernel
theorem dX7_met_63 : decode cX7_met 63 = .ok (.iaload, 1) := by decide +kernel
theorem dX7_met_64 : decode cX7_met 64 = .ok (.ireturn, 1) := by decide +kernel
theorem dX7_free_0 : decode cX7_free 0 = .ok (.aload_n 0, 1) := by decide +kernel
theorem dX7_free_1 : decode cX7_free 1 = .ok (.getfield 14, 3) := by decide +kernel
theorem dX7_free_4 : decode cX7_free 4 = .ok (.iload_n 1, 1) := by decide +kernel
theorem dX7_free_5 : decode cX7_free 5 = .ok (.invokevirtual 85, 3) := by decide +kernel
theorem dX7_free_8 : decode cX7_free 8 = .ok (.ifCond .ne 5, 3) := by decide +kernel
theorem dX7_free_11 : decode cX7_free 11 = .ok (.iconst (-1), 1) := by decide +kernel
theorem dX7_free_12 : decode cX7_free 12 = .ok (.ireturn, 1) := by decide +kernel
theorem dX7_free_13 : decode cX7_free 13 = .ok (.iload_n 2, 1) := by decide +kernel
theorem dX7_free_14 : decode cX7_free 14 = .ok (.invokestatic 124, 3) := by decide +kernel
theorem dX7_free_17 : decode cX7_free 17 = .ok (.ifCond .ne 6, 3) := by decide +kernel
theorem dX7_free_20 : decode cX7_free 20 = .ok (.bipush (-2), 2) := by decide +kernel
theorem dX7_free_22 : decode cX7_free 22 = .ok (.ireturn, 1) := by decide +kernel
theorem dX7_free_23 : decode cX7_free 23 = .ok (.aload_n 0, 1) := by decide +kernel
theorem dX7_free_24 : decode cX7_free 24 = .ok (.getfield 39, 3) := by decide +kernel
theorem dX7_free_27 : decode cX7_free 27 = .ok (.iconst (-1), 1) := by decide +kernel
theorem dX7_free_28 : decode cX7_free 28 = .ok (.aload_n 0, 1) := by decide +kernel
theorem dX7_free_29 : decode cX7_free 29 = .ok (.getfield 14, 3) := by decide +kernel
theorem dX7_free_32 : decode cX7_free 32 = .ok (.getfield 104, 3) := by decide +kernel
theorem dX7_free_35 : decode cX7_free 35 = .ok (.iload_n 2, 1) := by decide +kernel
theorem dX7_free_36 : decode cX7_free 36 = .ok (.iconst 1, 1) := by decide +kernel
theorem dX7_free_37 : decode cX7_free 37 = .ok (.isub, 1) := by decide +kernel
theorem dX7_free_38 : decode cX7_free 38 = .ok (.invokevirtual 131, 3) := by decide +kernel
theorem dX7_free_41 : decode cX7_free 41 = .ok (.aload_n 0, 1) := by decide +kernel
theorem dX7_free_42 : decode cX7_free 42 = .ok (.getfield 39, 3) := by decide +kernel
theorem dX7_free_45 : decode cX7_free 45 = .ok (.iload_n 2, 1) := by decide +kernel
theorem dX7_free_46 : decode cX7_free 46 = .ok (.invokevirtual 146, 3) := by decide +kernel
theorem dX7_free_49 : decode cX7_free 49 = .ok (.iload_n 1, 1) := by decide +kernel
theorem dX7_free_50 : decode cX7_free 50 = .ok (.invokestatic 107, 3) := by decide +kernel
theorem dX7_free_53 : decode cX7_free 53 = .ok (.ifCond .eq 7, 3) := by decide +kernel
theorem dX7_free_56 : decode cX7_free 56 = .ok (.iconst 1, 1) := by decide +kernel
theorem dX7_free_57 : decode cX7_free 57 = .ok (.goto 4, 3) := by decide +kernel
theorem dX7_free_60 : decode cX7_free 60 = .ok (.iconst 0, 1) := by decide +kernel
theorem dX7_free_61 : decode cX7_free 61 = .ok (.ireturn, 1) := by decide +kernel
theorem dX7_second_0 : decode cX7_second 0 = .ok (.aload_n 0, 1) := by decide +kernel
theorem dX7_second_1 : decode cX7_second 1 = .ok (.getfield 14, 3) := by decide +kernel
theorem dX7_second_4 : decode cX7_second 4 = .ok (.iload_n 1, 1) := by decide +kernel
theorem dX7_second_5 : decode cX7_second 5 = .ok (.iload_n 2, 1) := by decide +kernel
theorem dX7_second_6 : decode cX7_second 6 = .ok (.invokevirtual 111, 3) := by decide +kernel
theorem dX7_second_9 : decode cX7_second 9 = .ok (.ifCond .ne 5, 3) := by decide +kernel
theorem dX7_second_12 : decode cX7_second 12 = .ok (.iconst (-1), 1) := by decide +kernel
theorem dX7_second_13 : decode cX7_second 13 = .ok (.ireturn, 1) := by decide +kernel
theorem dX7_second_14 : decode cX7_second 14 = .ok (.iload_n 3, 1) := by decide +kernel
theorem dX7_second_15 : decode cX7_second 15 = .ok (.invokestatic 124, 3) := by decide +kernel
theorem dX7_second_18 : decode cX7_second 18 = .ok (.ifCond .ne 6, 3) := by decide +kernel
theorem dX7_second_21 : decode cX7_second 21 = .ok (.bipush (-2), 2) := by decide +kernel
theorem dX7_second_23 : decode cX7_second 23 = .ok (.ireturn, 1) := by decide +kernel
theorem dX7_second_24 : decode cX7_second 24 = .ok (.aload_n 0, 1) := by decide +kernel
theorem dX7_second_25 : decode cX7_second 25 = .ok (.getfield 39, 3) := by decide +kernel
theorem dX7_second_28 : decode cX7_second 28 = .ok (.iconst (-1), 1) := by decide +kernel
theorem dX7_second_29 : decode cX7_second 29 = .ok (.aload_n 0, 1) := by decide +kernel
theorem dX7_second_30 : decode cX7_second 30 = .ok (.getfield 14, 3) := by decide +kernel
theorem dX7_second_33 : decode cX7_second 33 = .ok (.getfield 104, 3) := by decide +kernel
theorem dX7_second_36 : decode cX7_second 36 = .ok (.iload_n 3, 1) := by decide +kernel
theorem dX7_second_37 : decode cX7_second 37 = .ok (.iconst 1, 1) := by decide +kernel
theorem dX7_second_38 : decode cX7_second 38 = .ok (.isub, 1) := by decide +kernel
theorem dX7_second_39 : decode cX7_second 39 = .ok (.invokevirtual 131, 3) := by decide +kernel
theorem dX7_second_42 : decode cX7_second 42 = .ok (.aload_n 0, 1) := by decide +kernel
theorem dX7_second_43 : decode cX7_second 43 = .ok (.getfield 14, 3) := by decide +kernel
theorem dX7_second_46 : decode cX7_second 46 = .ok (.iload_n 1, 1) := by decide +kernel
theorem dX7_second_47 : decode cX7_second 47 = .ok (.aload_n 0, 1) := by decide +kernel
theorem dX7_second_48 : decode cX7_second 48 = .ok (.getfield 39, 3) := by decide +kernel
theorem dX7_second_51 : decode cX7_second 51 = .ok (.iload_n 3, 1) := by decide +kernel
theorem dX7_second_52 : decode cX7_second 52 = .ok (.invokevirtual 146, 3) := by decide +kernel
theorem dX7_second_55 : decode cX7_second 55 = .ok (.iload_n 1, 1) := by decide +kernel
theorem dX7_second_56 : decode cX7_second 56 = .ok (.invokestatic 121, 3) := by decide +kernel
theorem dX7_second_59 : decode cX7_second 59 = .ok (.iload_n 2, 1) := by decide +kernel
theorem dX7_second_60 : decode cX7_second 60 = .ok (.invokestatic 121, 3) := by decide +kernel
theorem dX7_second_63 : decode cX7_second 63 = .ok (.ior, 1) := by decide +kernel
theorem dX7_second_64 : decode cX7_second 64 = .ok (.iconst (-1), 1) := by decide +kernel
theorem dX7_second_65 : decode cX7_second 65 = .ok (.ixor, 1) := by decide +kernel
theorem dX7_second_66 : decode cX7_second 66 = .ok (.iand, 1) := by decide +kernel
theorem dX7_second_67 : decode cX7_second 67 = .ok (.invokevirtual 149, 3) := by decide +kernel
theorem dX7_second_70 : decode cX7_second 70 = .ok (.ireturn, 1) := by decide +kernel
theorem dX7_worth_0 : decode cX7_worth 0 = .ok (.iload_n 1, 1) := by decide +kernel
theorem dX7_worth_1 : decode cX7_worth 1 = .ok (.ifCond .lt 14, 3) := by decide +kernel
theorem dX7_worth_4 : decode cX7_worth 4 = .ok (.iload_n 1, 1) := by decide +kernel
theorem dX7_worth_5 : decode cX7_worth 5 = .ok (.aload_n 0, 1) := by decide +kernel
theorem dX7_worth_6 : decode cX7_worth 6 = .ok (.getfield 23, 3) := by decide +kernel
theorem dX7_worth_9 : decode cX7_worth 9 = .ok (.getfield 80, 3) := by decide +kernel
theorem dX7_worth_12 : decode cX7_worth 12 = .ok (.if_icmp .lt 5, 3) := by decide +kernel
theorem dX7_worth_15 : decode cX7_worth 15 = .ok (.iconst (-1), 1) := by decide +kernel
theorem dX7_worth_16 : decode cX7_worth 16 = .ok (.ireturn, 1) := by decide +kernel
theorem dX7_worth_17 : decode cX7_worth 17 = .ok (.aload_n 0, 1) := by decide +kernel
theorem dX7_worth_18 : decode cX7_worth 18 = .ok (.getfield 39, 3) := by decide +kernel
theorem dX7_worth_21 : decode cX7_worth 21 = .ok (.iconst (-1), 1) := by decide +kernel
theorem dX7_worth_22 : decode cX7_worth 22 = .ok (.aload_n 0, 1) := by decide +kernel
theorem dX7_worth_23 : decode cX7_worth 23 = .ok (.getfield 14, 3) := by decide +kernel
theorem dX7_worth_26 : decode cX7_worth 26 = .ok (.getfield 104, 3) := by decide +kernel
theorem dX7_worth_29 : decode cX7_worth 29 = .ok (.bipush 59, 2) := by decide +kernel
theorem dX7_worth_31 : decode cX7_worth 31 = .ok (.invokevirtual 131, 3) := by decide +kernel
theorem dX7_worth_34 : decode cX7_worth 34 = .ok (.aload_n 0, 1) := by decide +kernel
theorem dX7_worth_35 : decode cX7_worth 35 = .ok (.getfield 39, 3) := by decide +kernel
theorem dX7_worth_38 : decode cX7_worth 38 = .ok (.getfield 135, 3) := by decide +kernel
theorem dX7_worth_41 : decode cX7_worth 41 = .ok (.getfield 139, 3) := by decide +kernel
theorem dX7_worth_44 : decode cX7_worth 44 = .ok (.istore_n 2, 1) := by decide +kernel
theorem dX7_worth_45 : decode cX7_worth 45 = .ok (.aload_n 0, 1) := by decide +kernel
theorem dX7_worth_46 : decode cX7_worth 46 = .ok (.getfield 39, 3) := by decide +kernel
theorem dX7_worth_49 : decode cX7_worth 49 = .ok (.iload_n 1, 1) := by decide +kernel
theorem dX7_worth_50 : decode cX7_worth 50 = .ok (.invokestatic 121, 3) := by decide +kernel
theorem dX7_worth_53 : decode cX7_worth 53 = .ok (.iconst (-1), 1) := by decide +kernel
theorem dX7_worth_54 : decode cX7_worth 54 = .ok (.ixor, 1) := by decide +kernel
theorem dX7_worth_55 : decode cX7_worth 55 = .ok (.aload_n 0, 1) := by decide +kernel
theorem dX7_worth_56 : decode cX7_worth 56 = .ok (.getfield 14, 3) := by decide +kernel
theorem dX7_worth_59 : decode cX7_worth 59 = .ok (.getfield 104, 3) := by decide +kernel
theorem dX7_worth_62 : decode cX7_worth 62 = .ok (.bipush 59, 2) := by decide +kernel
theorem dX7_worth_64 : decode cX7_worth 64 = .ok (.invokevirtual 131, 3) := by decide +kernel
theorem dX7_worth_67 : decode cX7_worth 67 = .ok (.iload_n 2, 1) := by decide +kernel
theorem dX7_worth_68 : decode cX7_worth 68 = .ok (.aload_n 0, 1) := by decide +kernel
theorem dX7_worth_69 : decode cX7_worth 69 = .ok (.getfield 39, 3) := by decide +kernel
theorem dX7_worth_72 : decode cX7_worth 72 = .ok (.getfield 135, 3) := by decide +kernel
theorem dX7_worth_75 : decode cX7_worth 75 = .ok (.getfield 139, 3) := by decide +kernel
theorem dX7_worth_78 : decode cX7_worth 78 = .ok (.isub, 1) := by decide +kernel
theorem dX7_worth_79 : decode cX7_worth 79 = .ok (.sipush 1000, 3) := by decide +kernel
theorem dX7_worth_82 : decode cX7_worth 82 = .ok (.iadd, 1) := by decide +kernel
theorem dX7_worth_83 : decode cX7_worth 83 = .ok (.ireturn, 1) := by decide +kernel
theorem dX7_row_0 : decode cX7_row 0 = .ok (.aload_n 0, 1) := by decide +kernel
theorem dX7_row_1 : decode cX7_row 1 = .ok (.iconst 0, 1) := by decide +kernel
theorem dX7_row_2 : decode cX7_row 2 = .ok (.putfield 50, 3) := by decide +kernel
theorem dX7_row_5 : decode cX7_row 5 = .ok (.aload_n 0, 1) := by decide +kernel
theorem dX7_row_6 : decode cX7_row 6 = .ok (.iload_n 1, 1) := by decide +kernel
theorem dX7_row_7 : decode cX7_row 7 = .ok (.invokevirtual 54, 3) := by decide +kernel
theorem dX7_row_10 : decode cX7_row 10 = .ok (.astore 5, 2) := by decide +kernel
theorem dX7_row_12 : decode cX7_row 12 = .ok (.aload 5, 2) := by decide +kernel
theorem dX7_row_14 : decode cX7_row 14 = .ok (.ifnonnull 5, 3) := by decide +kernel
theorem dX7_row_17 : decode cX7_row 17 = .ok (.iconst (-1), 1) := by decide +kernel
theorem dX7_row_18 : decode cX7_row 18 = .ok (.ireturn, 1) := by decide +kernel
theorem dX7_row_19 : decode cX7_row 19 = .ok (.iload_n 2, 1) := by decide +kernel
theorem dX7_row_20 : decode cX7_row 20 = .ok (.invokestatic 58, 3) := by decide +kernel
theorem dX7_row_23 : decode cX7_row 23 = .ok (.ifCond .ne 6, 3) := by decide +kernel
theorem dX7_row_26 : decode cX7_row 26 = .ok (.bipush (-2), 2) := by decide +kernel
theorem dX7_row_28 : decode cX7_row 28 = .ok (.ireturn, 1) := by decide +kernel
theorem dX7_row_29 : decode cX7_row 29 = .ok (.aload 5, 2) := by decide +kernel
theorem dX7_row_31 : decode cX7_row 31 = .ok (.iload_n 2, 1) := by decide +kernel
theorem dX7_row_32 : decode cX7_row 32 = .ok (.iload_n 3, 1) := by decide +kernel
theorem dX7_row_33 : decode cX7_row 33 = .ok (.iload 4, 2) := by decide +kernel
theorem dX7_row_35 : decode cX7_row 35 = .ok (.invokevirtual 62, 3) := by decide +kernel
theorem dX7_row_38 : decode cX7_row 38 = .ok (.istore 6, 2) := by decide +kernel
theorem dX7_row_40 : decode cX7_row 40 = .ok (.iload 6, 2) := by decide +kernel
theorem dX7_row_42 : decode cX7_row 42 = .ok (.ifCond .eq 10, 3) := by decide +kernel
theorem dX7_row_45 : decode cX7_row 45 = .ok (.aload_n 0, 1) := by decide +kernel
theorem dX7_row_46 : decode cX7_row 46 = .ok (.iload 6, 2) := by decide +kernel
theorem dX7_row_48 : decode cX7_row 48 = .ok (.invokevirtual 66, 3) := by decide +kernel
theorem dX7_row_51 : decode cX7_row 51 = .ok (.ireturn, 1) := by decide +kernel
theorem dX7_row_52 : decode cX7_row 52 = .ok (.aload_n 0, 1) := by decide +kernel
theorem dX7_row_53 : decode cX7_row 53 = .ok (.invokevirtual 127, 3) := by decide +kernel
theorem dX7_row_56 : decode cX7_row 56 = .ok (.ifCond .eq 6, 3) := by decide +kernel
theorem dX7_row_59 : decode cX7_row 59 = .ok (.bipush (-3), 2) := by decide +kernel
theorem dX7_row_61 : decode cX7_row 61 = .ok (.ireturn, 1) := by decide +kernel
theorem dX7_row_62 : decode cX7_row 62 = .ok (.iconst 0, 1) := by decide +kernel
theorem dX7_row_63 : decode cX7_row 63 = .ok (.istore 7, 2) := by decide +kernel
theorem dX7_row_65 : decode cX7_row 65 = .ok (.iload 7, 2) := by decide +kernel
theorem dX7_row_67 : decode cX7_row 67 = .ok (.iload 4, 2) := by decide +kernel
theorem dX7_row_69 : decode cX7_row 69 = .ok (.if_icmp .ge 30, 3) := by decide +kernel
theorem dX7_row_72 : decode cX7_row 72 = .ok (.aload_n 0, 1) := by decide +kernel
theorem dX7_row_73 : decode cX7_row 73 = .ok (.getfield 14, 3) := by decide +kernel
theorem dX7_row_76 : decode cX7_row 76 = .ok (.aload 5, 2) := by decide +kernel
theorem dX7_row_78 : decode cX7_row 78 = .ok (.iload_n 3, 1) := by decide +kernel
theorem dX7_row_79 : decode cX7_row 79 = .ok (.iload 7, 2) := by decide +kernel
theorem dX7_row_81 : decode cX7_row 81 = .ok (.iadd, 1) := by decide +kernel
theorem dX7_row_82 : decode cX7_row 82 = .ok (.invokevirtual 177, 3) := by decide +kernel
theorem dX7_row_85 : decode cX7_row 85 = .ok (.invokevirtual 85, 3) := by decide +kernel
theorem dX7_row_88 : decode cX7_row 88 = .ok (.ifCond .ne 5, 3) := by decide +kernel
theorem dX7_row_91 : decode cX7_row 91 = .ok (.iconst (-1), 1) := by decide +kernel
theorem dX7_row_92 : decode cX7_row 92 = .ok (.ireturn, 1) := by decide +kernel
theorem dX7_row_93 : decode cX7_row 93 = .ok (.iinc 7 1, 3) := by decide +kernel
theorem dX7_row_96 : decode cX7_row 96 = .ok (.goto (-31), 3) := by decide +kernel
theorem dX7_row_99 : decode cX7_row 99 = .ok (.aload_n 0, 1) := by decide +kernel
theorem dX7_row_100 : decode cX7_row 100 = .ok (.aload 5, 2) := by decide +kernel
theorem dX7_row_102 : decode cX7_row 102 = .ok (.iload_n 3, 1) := by decide +kernel
theorem dX7_row_103 : decode cX7_row 103 = .ok (.iload 4, 2) := by decide +kernel
theorem dX7_row_105 : decode cX7_row 105 = .ok (.invokevirtual 180, 3) := by decide +kernel
theorem dX7_row_108 : decode cX7_row 108 = .ok (.ireturn, 1) := by decide +kernel
theorem dX7_freeInTurn_0 : decode cX7_freeInTurn 0 = .ok (.aload_n 0, 1) := by decide +kernel
theorem dX7_freeInTurn_1 : decode cX7_freeInTurn 1 = .ok (.getfield 39, 3) := by decide +kernel
theorem dX7_freeInTurn_4 : decode cX7_freeInTurn 4 = .ok (.iconst (-1), 1) := by decide +kernel
theorem dX7_freeInTurn_5 : decode cX7_freeInTurn 5 = .ok (.aload_n 0, 1) := by decide +kernel
theorem dX7_freeInTurn_6 : decode cX7_freeInTurn 6 = .ok (.getfield 14, 3) := by decide +kernel
theorem dX7_freeInTurn_9 : decode cX7_freeInTurn 9 = .ok (.getfield 104, 3) := by decide +kernel
theorem dX7_freeInTurn_12 : decode cX7_freeInTurn 12 = .ok (.invokevirtual 183, 3) := by decide +kernel
theorem dX7_freeInTurn_15 : decode cX7_freeInTurn 15 = .ok (.iconst 0, 1) := by decide +kernel
theorem dX7_freeInTurn_16 : decode cX7_freeInTurn 16 = .ok (.istore 4, 2) := by decide +kernel
theorem dX7_freeInTurn_18 : decode cX7_freeInTurn 18 = .ok (.iload 4, 2) := by decide +kernel
theorem dX7_freeInTurn_20 : decode cX7_freeInTurn 20 = .ok (.iload_n 3, 1) := by decide +kernel
theorem dX7_freeInTurn_21 : decode cX7_freeInTurn 21 = .ok (.if_icmp .ge 44, 3) := by decide +kernel
theorem dX7_freeInTurn_24 : decode cX7_freeInTurn 24 = .ok (.aload_n 0, 1) := by decide +kernel
theorem dX7_freeInTurn_25 : decode cX7_freeInTurn 25 = .ok (.getfield 39, 3) := by decide +kernel
theorem dX7_freeInTurn_28 : decode cX7_freeInTurn 28 = .ok (.iload 4, 2) := by decide +kernel
theorem dX7_freeInTurn_30 : decode cX7_freeInTurn 30 = .ok (.invokevirtual 146, 3) := by decide +kernel
theorem dX7_freeInTurn_33 : decode cX7_freeInTurn 33 = .ok (.aload_n 1, 1) := by decide +kernel
theorem dX7_freeInTurn_34 : decode cX7_freeInTurn 34 = .ok (.iload_n 2, 1) := by decide +kernel
theorem dX7_freeInTurn_35 : decode cX7_freeInTurn 35 = .ok (.iload 4, 2) := by decide +kernel
theorem dX7_freeInTurn_37 : decode cX7_freeInTurn 37 = .ok (.iadd, 1) := by decide +kernel
theorem dX7_freeInTurn_38 : decode cX7_freeInTurn 38 = .ok (.invokevirtual 177, 3) := by decide +kernel
theorem dX7_freeInTurn_41 : decode cX7_freeInTurn 41 = .ok (.invokestatic 107, 3) := by decide +kernel
theorem dX7_freeInTurn_44 : decode cX7_freeInTurn 44 = .ok (.ifCond .ne 6, 3) := by decide +kernel
theorem dX7_freeInTurn_47 : decode cX7_freeInTurn 47 = .ok (.iload 4, 2) := by decide +kernel
theorem dX7_freeInTurn_49 : decode cX7_freeInTurn 49 = .ok (.ireturn, 1) := by decide +kernel
theorem dX7_freeInTurn_50 : decode cX7_freeInTurn 50 = .ok (.aload_n 0, 1) := by decide +kernel
theorem dX7_freeInTurn_51 : decode cX7_freeInTurn 51 = .ok (.getfield 39, 3) := by decide +kernel
theorem dX7_freeInTurn_54 : decode cX7_freeInTurn 54 = .ok (.iload 4, 2) := by decide +kernel
theorem dX7_freeInTurn_56 : decode cX7_freeInTurn 56 = .ok (.invokevirtual 187, 3) := by decide +kernel
theorem dX7_freeInTurn_59 : decode cX7_freeInTurn 59 = .ok (.iinc 4 1, 3) := by decide +kernel
theorem dX7_freeInTurn_62 : decode cX7_freeInTurn 62 = .ok (.goto (-44), 3) := by decide +kernel
theorem dX7_freeInTurn_65 : decode cX7_freeInTurn 65 = .ok (.iload_n 3, 1) := by decide +kernel
theorem dX7_freeInTurn_66 : decode cX7_freeInTurn 66 = .ok (.ireturn, 1) := by decide +kernel
theorem dX7_sheet_0 : decode cX7_sheet 0 = .ok (.aload_n 0, 1) := by decide +kernel
theorem dX7_sheet_1 : decode cX7_sheet 1 = .ok (.iconst 0, 1) := by decide +kernel
theorem dX7_sheet_2 : decode cX7_sheet 2 = .ok (.putfield 50, 3) := by decide +kernel
theorem dX7_sheet_5 : decode cX7_sheet 5 = .ok (.aload_n 0, 1) := by decide +kernel
theorem dX7_sheet_6 : decode cX7_sheet 6 = .ok (.iload_n 1, 1) := by decide +kernel
theorem dX7_sheet_7 : decode cX7_sheet 7 = .ok (.invokevirtual 54, 3) := by decide +kernel
theorem dX7_sheet_10 : decode cX7_sheet 10 = .ok (.astore 4, 2) := by decide +kernel
theorem dX7_sheet_12 : decode cX7_sheet 12 = .ok (.aload 4, 2) := by decide +kernel
theorem dX7_sheet_14 : decode cX7_sheet 14 = .ok (.ifnonnull 5, 3) := by decide +kernel
theorem dX7_sheet_17 : decode cX7_sheet 17 = .ok (.iconst (-1), 1) := by decide +kernel
theorem dX7_sheet_18 : decode cX7_sheet 18 = .ok (.ireturn, 1) := by decide +kernel
theorem dX7_sheet_19 : decode cX7_sheet 19 = .ok (.iload_n 2, 1) := by decide +kernel
theorem dX7_sheet_20 : decode cX7_sheet 20 = .ok (.invokestatic 58, 3) := by decide +kernel
theorem dX7_sheet_23 : decode cX7_sheet 23 = .ok (.ifCond .eq 9, 3) := by decide +kernel
theorem dX7_sheet_26 : decode cX7_sheet 26 = .ok (.iload_n 3, 1) := by decide +kernel
theorem dX7_sheet_27 : decode cX7_sheet 27 = .ok (.bipush 50, 2) := by decide +kernel
theorem dX7_sheet_29 : decode cX7_sheet 29 = .ok (.if_icmp .le 6, 3) := by decide +kernel
theorem dX7_sheet_32 : decode cX7_sheet 32 = .ok (.bipush (-2), 2) := by decide +kernel
theorem dX7_sheet_34 : decode cX7_sheet 34 = .ok (.ireturn, 1) := by decide +kernel
theorem dX7_sheet_35 : decode cX7_sheet 35 = .ok (.iload_n 3, 1) := by decide +kernel
theorem dX7_sheet_36 : decode cX7_sheet 36 = .ok (.ifCond .ge 9, 3) := by decide +kernel
theorem dX7_sheet_39 : decode cX7_sheet 39 = .ok (.aload_n 0, 1) := by decide +kernel
theorem dX7_sheet_40 : decode cX7_sheet 40 = .ok (.iconst 4, 1) := by decide +kernel
theorem dX7_sheet_41 : decode cX7_sheet 41 = .ok (.invokevirtual 66, 3) := by decide +kernel
theorem dX7_sheet_44 : decode cX7_sheet 44 = .ok (.ireturn, 1) := by decide +kernel
theorem dX7_sheet_45 : decode cX7_sheet 45 = .ok (.aload 4, 2) := by decide +kernel
theorem dX7_sheet_47 : decode cX7_sheet 47 = .ok (.iload_n 2, 1) := by decide +kernel
theorem dX7_sheet_48 : decode cX7_sheet 48 = .ok (.iload_n 3, 1) := by decide +kernel
theorem dX7_sheet_49 : decode cX7_sheet 49 = .ok (.invokevirtual 190, 3) := by decide +kernel
theorem dX7_sheet_52 : decode cX7_sheet 52 = .ok (.iconst 1, 1) := by decide +kernel
theorem dX7_sheet_53 : decode cX7_sheet 53 = .ok (.ireturn, 1) := by decide +kernel
theorem dX7_put_0 : decode cX7_put 0 = .ok (.aload_n 0, 1) := by decide +kernel
theorem dX7_put_1 : decode cX7_put 1 = .ok (.iconst 0, 1) := by decide +kernel
theorem dX7_put_2 : decode cX7_put 2 = .ok (.putfield 50, 3) := by decide +kernel
theorem dX7_put_5 : decode cX7_put 5 = .ok (.aload_n 0, 1) := by decide +kernel
theorem dX7_put_6 : decode cX7_put 6 = .ok (.iload_n 1, 1) := by decide +kernel
theorem dX7_put_7 : decode cX7_put 7 = .ok (.invokevirtual 54, 3) := by decide +kernel
theorem dX7_put_10 : decode cX7_put 10 = .ok (.astore 4, 2) := by decide +kernel
theorem dX7_put_12 : decode cX7_put 12 = .ok (.aload 4, 2) := by decide +kernel
theorem dX7_put_14 : decode cX7_put 14 = .ok (.ifnonnull 5, 3) := by decide +kernel
theorem dX7_put_17 : decode cX7_put 17 = .ok (.iconst (-1), 1) := by decide +kernel
theorem dX7_put_18 : decode cX7_put 18 = .ok (.ireturn, 1) := by decide +kernel
theorem dX7_put_19 : decode cX7_put 19 = .ok (.aload 4, 2) := by decide +kernel
theorem dX7_put_21 : decode cX7_put 21 = .ok (.getfield 193, 3) := by decide +kernel
theorem dX7_put_24 : decode cX7_put 24 = .ok (.ifCond .ne 9, 3) := by decide +kernel
theorem dX7_put_27 : decode cX7_put 27 = .ok (.aload_n 0, 1) := by decide +kernel
theorem dX7_put_28 : decode cX7_put 28 = .ok (.iconst 1, 1) := by decide +kernel
theorem dX7_put_29 : decode cX7_put 29 = .ok (.invokevirtual 66, 3) := by decide +kernel
theorem dX7_put_32 : decode cX7_put 32 = .ok (.ireturn, 1) := by decide +kernel
theorem dX7_put_33 : decode cX7_put 33 = .ok (.aload 4, 2) := by decide +kernel
theorem dX7_put_35 : decode cX7_put 35 = .ok (.iload_n 2, 1) := by decide +kernel
theorem dX7_put_36 : decode cX7_put 36 = .ok (.iconst 1, 1) := by decide +kernel
theorem dX7_put_37 : decode cX7_put 37 = .ok (.invokevirtual 197, 3) := by decide +kernel
theorem dX7_put_40 : decode cX7_put 40 = .ok (.ifCond .ne 9, 3) := by decide +kernel
theorem dX7_put_43 : decode cX7_put 43 = .ok (.aload_n 0, 1) := by decide +kernel
theorem dX7_put_44 : decode cX7_put 44 = .ok (.iconst 3, 1) := by decide +kernel
theorem dX7_put_45 : decode cX7_put 45 = .ok (.invokevirtual 66, 3) := by decide +kernel
theorem dX7_put_48 : decode cX7_put 48 = .ok (.ireturn, 1) := by decide +kernel
theorem dX7_put_49 : decode cX7_put 49 = .ok (.aload 4, 2) := by decide +kernel
theorem dX7_put_51 : decode cX7_put 51 = .ok (.getfield 200, 3) := by decide +kernel
theorem dX7_put_54 : decode cX7_put 54 = .ok (.iload_n 2, 1) := by decide +kernel
theorem dX7_put_55 : decode cX7_put 55 = .ok (.iload_n 3, 1) := by decide +kernel
theorem dX7_put_56 : decode cX7_put 56 = .ok (.aload 4, 2) := by decide +kernel
theorem dX7_put_58 : decode cX7_put 58 = .ok (.getfield 203, 3) := by decide +kernel
theorem dX7_put_61 : decode cX7_put 61 = .ok (.invokestatic 206, 3) := by decide +kernel
theorem dX7_put_64 : decode cX7_put 64 = .ok (.iastore, 1) := by decide +kernel
theorem dX7_put_65 : decode cX7_put 65 = .ok (.iconst 1, 1) := by decide +kernel
theorem dX7_put_66 : decode cX7_put 66 = .ok (.ireturn, 1) := by decide +kernel
theorem dX7_many_0 : decode cX7_many 0 = .ok (.iload_n 1, 1) := by decide +kernel
theorem dX7_many_1 : decode cX7_many 1 = .ok (.tableswitch 83 0 3 #[31, 39, 47, 55], 31) := by decide +kernel
theorem dX7_many_32 : decode cX7_many 32 = .ok (.aload_n 0, 1) := by decide +kernel
theorem dX7_many_33 : decode cX7_many 33 = .ok (.getfield 14, 3) := by decide +kernel
theorem dX7_many_36 : decode cX7_many 36 = .ok (.getfield 84, 3) := by decide +kernel
theorem dX7_many_39 : decode cX7_many 39 = .ok (.ireturn, 1) := by decide +kernel
theorem dX7_many_40 : decode cX7_many 40 = .ok (.aload_n 0, 1) := by decide +kernel
theorem dX7_many_41 : decode cX7_many 41 = .ok (.getfield 23, 3) := by decide +kernel
theorem dX7_many_44 : decode cX7_many 44 = .ok (.getfield 80, 3) := by decide +kernel
theorem dX7_many_47 : decode cX7_many 47 = .ok (.ireturn, 1) := by decide +kernel
theorem dX7_many_48 : decode cX7_many 48 = .ok (.aload_n 0, 1) := by decide +kernel
theorem dX7_many_49 : decode cX7_many 49 = .ok (.getfield 30, 3) := by decide +kernel
theorem dX7_many_52 : decode cX7_many 52 = .ok (.getfield 83, 3) := by decide +kernel
theorem dX7_many_55 : decode cX7_many 55 = .ok (.ireturn, 1) := by decide +kernel
theorem dX7_many_56 : decode cX7_many 56 = .ok (.aload_n 0, 1) := by decide +kernel
theorem dX7_many_57 : decode cX7_many 57 = .ok (.getfield 39, 3) := by decide +kernel
theorem dX7_many_60 : decode cX7_many 60 = .ok (.iconst (-1), 1) := by decide +kernel
theorem dX7_many_61 : decode cX7_many 61 = .ok (.aload_n 0, 1) := by decide +kernel
theorem dX7_many_62 : decode cX7_many 62 = .ok (.getfield 14, 3) := by decide +kernel
theorem dX7_many_65 : decode cX7_many 65 = .ok (.getfield 104, 3) := by decide +kernel
theorem dX7_many_68 : decode cX7_many 68 = .ok (.bipush 59, 2) := by decide +kernel
theorem dX7_many_70 : decode cX7_many 70 = .ok (.invokevirtual 131, 3) := by decide +kernel
theorem dX7_many_73 : decode cX7_many 73 = .ok (.aload_n 0, 1) := by decide +kernel
theorem dX7_many_74 : decode cX7_many 74 = .ok (.getfield 39, 3) := by decide +kernel
theorem dX7_many_77 : decode cX7_many 77 = .ok (.getfield 135, 3) := by decide +kernel
theorem dX7_many_80 : decode cX7_many 80 = .ok (.getfield 139, 3) := by decide +kernel
theorem dX7_many_83 : decode cX7_many 83 = .ok (.ireturn, 1) := by decide +kernel
theorem dX7_many_84 : decode cX7_many 84 = .ok (.bipush (-2), 2) := by decide +kernel
theorem dX7_many_86 : decode cX7_many 86 = .ok (.ireturn, 1) := by decide +kernel
theorem dX7_isEmpty_0 : decode cX7_isEmpty 0 = .ok (.aload_n 0, 1) := by decide +kernel
theorem dX7_isEmpty_1 : decode cX7_isEmpty 1 = .ok (.getfield 14, 3) := by decide +kernel
theorem dX7_isEmpty_4 : decode cX7_isEmpty 4 = .ok (.getfield 84, 3) := by decide +kernel
theorem dX7_isEmpty_7 : decode cX7_isEmpty 7 = .ok (.ifCond .ne 7, 3) := by decide +kernel
theorem dX7_isEmpty_10 : decode cX7_isEmpty 10 = .ok (.iconst 1, 1) := by decide +kernel
theorem dX7_isEmpty_11 : decode cX7_isEmpty 11 = .ok (.goto 4, 3) := by decide +kernel
theorem dX7_isEmpty_14 : decode cX7_isEmpty 14 = .ok (.iconst 0, 1) := by decide +kernel
theorem dX7_isEmpty_15 : decode cX7_isEmpty 15 = .ok (.ireturn, 1) := by decide +kernel
theorem dX7_sheetOf_0 : decode cX7_sheetOf 0 = .ok (.iload_n 1, 1) := by decide +kernel
theorem dX7_sheetOf_1 : decode cX7_sheetOf 1 = .ok (.ifCond .lt 17, 3) := by decide +kernel
theorem dX7_sheetOf_4 : decode cX7_sheetOf 4 = .ok (.iload_n 1, 1) := by decide +kernel
theorem dX7_sheetOf_5 : decode cX7_sheetOf 5 = .ok (.iconst 4, 1) := by decide +kernel
theorem dX7_sheetOf_6 : decode cX7_sheetOf 6 = .ok (.if_icmp .ge 12, 3) := by decide +kernel
theorem dX7_sheetOf_9 : decode cX7_sheetOf 9 = .ok (.aload_n 0, 1) := by decide +kernel
theorem dX7_sheetOf_10 : decode cX7_sheetOf 10 = .ok (.getfield 45, 3) := by decide +kernel
theorem dX7_sheetOf_13 : decode cX7_sheetOf 13 = .ok (.iload_n 1, 1) := by decide +kernel
theorem dX7_sheetOf_14 : decode cX7_sheetOf 14 = .ok (.aaload, 1) := by decide +kernel
theorem dX7_sheetOf_15 : decode cX7_sheetOf 15 = .ok (.goto 4, 3) := by decide +kernel
theorem dX7_sheetOf_18 : decode cX7_sheetOf 18 = .ok (.aconst_null, 1) := by decide +kernel
theorem dX7_sheetOf_19 : decode cX7_sheetOf 19 = .ok (.areturn, 1) := by decide +kernel
theorem dX7_faulted_0 : decode cX7_faulted 0 = .ok (.aload_n 0, 1) := by decide +kernel
theorem dX7_faulted_1 : decode cX7_faulted 1 = .ok (.iload_n 1, 1) := by decide +kernel
theorem dX7_faulted_2 : decode cX7_faulted 2 = .ok (.putfield 50, 3) := by decide +kernel
theorem dX7_faulted_5 : decode cX7_faulted 5 = .ok (.bipush (-10), 2) := by decide +kernel
theorem dX7_faulted_7 : decode cX7_faulted 7 = .ok (.iload_n 1, 1) := by decide +kernel
theorem dX7_faulted_8 : decode cX7_faulted 8 = .ok (.isub, 1) := by decide +kernel
theorem dX7_faulted_9 : decode cX7_faulted 9 = .ok (.ireturn, 1) := by decide +kernel
theorem dX7_isLane_0 : decode cX7_isLane 0 = .ok (.iload_n 0, 1) := by decide +kernel
theorem dX7_isLane_1 : decode cX7_isLane 1 = .ok (.ifCond .lt 12, 3) := by decide +kernel
theorem dX7_isLane_4 : decode cX7_isLane 4 = .ok (.iload_n 0, 1) := by decide +kernel
theorem dX7_isLane_5 : decode cX7_isLane 5 = .ok (.iconst 3, 1) := by decide +kernel
theorem dX7_isLane_6 : decode cX7_isLane 6 = .ok (.if_icmp .ge 7, 3) := by decide +kernel
theorem dX7_isLane_9 : decode cX7_isLane 9 = .ok (.iconst 1, 1) := by decide +kernel
theorem dX7_isLane_10 : decode cX7_isLane 10 = .ok (.goto 4, 3) := by decide +kernel
theorem dX7_isLane_13 : decode cX7_isLane 13 = .ok (.iconst 0, 1) := by decide +kernel
theorem dX7_isLane_14 : decode cX7_isLane 14 = .ok (.ireturn, 1) := by decide +kernel
theorem dX7_isDay_0 : decode cX7_isDay 0 = .ok (.iload_n 0, 1) := by decide +kernel
theorem dX7_isDay_1 : decode cX7_isDay 1 = .ok (.ifCond .lt 13, 3) := by decide +kernel
theorem dX7_isDay_4 : decode cX7_isDay 4 = .ok (.iload_n 0, 1) := by decide +kernel
theorem dX7_isDay_5 : decode cX7_isDay 5 = .ok (.bipush 30, 2) := by decide +kernel
theorem dX7_isDay_7 : decode cX7_isDay 7 = .ok (.if_icmp .ge 7, 3) := by decide +kernel
theorem dX7_isDay_10 : decode cX7_isDay 10 = .ok (.iconst 1, 1) := by decide +kernel
theorem dX7_isDay_11 : decode cX7_isDay 11 = .ok (.goto 4, 3) := by decide +kernel
theorem dX7_isDay_14 : decode cX7_isDay 14 = .ok (.iconst 0, 1) := by decide +kernel
theorem dX7_isDay_15 : decode cX7_isDay 15 = .ok (.ireturn, 1) := by decide +kernel
theorem dX7_isDawn_0 : decode cX7_isDawn 0 = .ok (.iload_n 0, 1) := by decide +kernel
theorem dX7_isDawn_1 : decode cX7_isDawn 1 = .ok (.ifCond .lt 13, 3) := by decide +kernel
theorem dX7_isDawn_4 : decode cX7_isDawn 4 = .ok (.iload_n 0, 1) := by decide +kernel
theorem dX7_isDawn_5 : decode cX7_isDawn 5 = .ok (.bipush 60, 2) := by decide +kernel
theorem dX7_isDawn_7 : decode cX7_isDawn 7 = .ok (.if_icmp .ge 7, 3) := by decide +kernel
theorem dX7_isDawn_10 : decode cX7_isDawn 10 = .ok (.iconst 1, 1) := by decide +kernel
theorem dX7_isDawn_11 : decode cX7_isDawn 11 = .ok (.goto 4, 3) := by decide +kernel
theorem dX7_isDawn_14 : decode cX7_isDawn 14 = .ok (.iconst 0, 1) := by decide +kernel
theorem dX7_isDawn_15 : decode cX7_isDawn 15 = .ok (.ireturn, 1) := by decide +kernel
theorem dX7_bit_0 : decode cX7_bit 0 = .ok (.iconst 1, 1) := by decide +kernel
theorem dX7_bit_1 : decode cX7_bit 1 = .ok (.iload_n 0, 1) := by decide +kernel
theorem dX7_bit_2 : decode cX7_bit 2 = .ok (.ishl, 1) := by decide +kernel
theorem dX7_bit_3 : decode cX7_bit 3 = .ok (.ireturn, 1) := by decide +kernel
theorem dX7_in_0 : decode cX7_in 0 = .ok (.iload_n 0, 1) := by decide +kernel
theorem dX7_in_1 : decode cX7_in 1 = .ok (.iload_n 1, 1) := by decide +kernel
theorem dX7_in_2 : decode cX7_in 2 = .ok (.ishr, 1) := by decide +kernel
theorem dX7_in_3 : decode cX7_in 3 = .ok (.iconst 1, 1) := by decide +kernel
theorem dX7_in_4 : decode cX7_in 4 = .ok (.iand, 1) := by decide +kernel
theorem dX7_in_5 : decode cX7_in 5 = .ok (.iconst 1, 1) := by decide +kernel
theorem dX7_in_6 : decode cX7_in 6 = .ok (.if_icmp .ne 7, 3) := by decide +kernel
theorem dX7_in_9 : decode cX7_in 9 = .ok (.iconst 1, 1) := by decide +kernel
theorem dX7_in_10 : decode cX7_in 10 = .ok (.goto 4, 3) := by decide +kernel
theorem dX7_in_13 : decode cX7_in 13 = .ok (.iconst 0, 1) := by decide +kernel
theorem dX7_in_14 : decode cX7_in 14 = .ok (.ireturn, 1) := by decide +kernel
theorem dX7_cut_0 : decode cX7_cut 0 = .ok (.iload_n 1, 1) := by decide +kernel
theorem dX7_cut_1 : decode cX7_cut 1 = .ok (.lookupswitch 33 #[(0, 27), (1, 30)], 27) := by decide +kernel
theorem dX7_cut_28 : decode cX7_cut 28 = .ok (.iload_n 0, 1) := by decide +kernel
theorem dX7_cut_29 : decode cX7_cut 29 = .ok (.i2b, 1) := by decide +kernel
theorem dX7_cut_30 : decode cX7_cut 30 = .ok (.ireturn, 1) := by decide +kernel
theorem dX7_cut_31 : decode cX7_cut 31 = .ok (.iload_n 0, 1) := by decide +kernel
theorem dX7_cut_32 : decode cX7_cut 32 = .ok (.i2s, 1) := by decide +kernel
theorem dX7_cut_33 : decode cX7_cut 33 = .ok (.ireturn, 1) := by decide +kernel
theorem dX7_cut_34 : decode cX7_cut 34 = .ok (.iload_n 0, 1) := by decide +kernel
theorem dX7_cut_35 : decode cX7_cut 35 = .ok (.ireturn, 1) := by decide +kernel
theorem dJ9_abs_0f7a4_0 : decode cJ9_abs_0f7a4 0 = .ok (.iload_n 0, 1) := by decide +kernel
theorem dJ9_abs_0f7a4_1 : decode cJ9_abs_0f7a4 1 = .ok (.ifCond .ge 8, 3) := by decide +kernel
theorem dJ9_abs_0f7a4_4 : decode cJ9_abs_0f7a4 4 = .ok (.iload_n 0, 1) := by decide +kernel
theorem dJ9_abs_0f7a4_5 : decode cJ9_abs_0f7a4 5 = .ok (.ineg, 1) := by decide +kernel
theorem dJ9_abs_0f7a4_6 : decode cJ9_abs_0f7a4 6 = .ok (.goto 4, 3) := by decide +kernel
theorem dJ9_abs_0f7a4_9 : decode cJ9_abs_0f7a4 9 = .ok (.iload_n 0, 1) := by decide +kernel
theorem dJ9_abs_0f7a4_10 : decode cJ9_abs_0f7a4 10 = .ok (.ireturn, 1) := by decide +kernel
theorem dJ9_max_7cf53_0 : decode cJ9_max_7cf53 0 = .ok (.iload_n 0, 1) := by decide +kernel
theorem dJ9_max_7cf53_1 : decode cJ9_max_7cf53 1 = .ok (.iload_n 1, 1) := by decide +kernel
theorem dJ9_max_7cf53_2 : decode cJ9_max_7cf53 2 = .ok (.if_icmp .lt 7, 3) := by decide +kernel
theorem dJ9_max_7cf53_5 : decode cJ9_max_7cf53 5 = .ok (.iload_n 0, 1) := by decide +kernel
theorem dJ9_max_7cf53_6 : decode cJ9_max_7cf53 6 = .ok (.goto 4, 3) := by decide +kernel
theorem dJ9_max_7cf53_9 : decode cJ9_max_7cf53 9 = .ok (.iload_n 1, 1) := by decide +kernel
theorem dJ9_max_7cf53_10 : decode cJ9_max_7cf53 10 = .ok (.ireturn, 1) := by decide +kernel
theorem dJ9_min_7cf53_0 : decode cJ9_min_7cf53 0 = .ok (.iload_n 0, 1) := by decide +kernel
theorem dJ9_min_7cf53_1 : decode cJ9_min_7cf53 1 = .ok (.iload_n 1, 1) := by decide +kernel
theorem dJ9_min_7cf53_2 : decode cJ9_min_7cf53 2 = .ok (.if_icmp .gt 7, 3) := by decide +kernel
theorem dJ9_min_7cf53_5 : decode cJ9_min_7cf53 5 = .ok (.iload_n 0, 1) := by decide +kernel
theorem dJ9_min_7cf53_6 : decode cJ9_min_7cf53 6 = .ok (.goto 4, 3) := by decide +kernel
theorem dJ9_min_7cf53_9 : decode cJ9_min_7cf53 9 = .ok (.iload_n 1, 1) := by decide +kernel
theorem dJ9_min_7cf53_10 : decode cJ9_min_7cf53 10 = .ok (.ireturn, 1) := by decide +kernel
theorem dJ7_fill_53178_0 : decode cJ7_fill_53178 0 = .ok (.iconst 0, 1) := by decide +kernel
theorem dJ7_fill_53178_1 : decode cJ7_fill_53178 1 = .ok (.istore_n 2, 1) := by decide +kernel
theorem dJ7_fill_53178_2 : decode cJ7_fill_53178 2 = .ok (.aload_n 0, 1) := by decide +kernel
theorem dJ7_fill_53178_3 : decode cJ7_fill_53178 3 = .ok (.arraylength, 1) := by decide +kernel
theorem dJ7_fill_53178_4 : decode cJ7_fill_53178 4 = .ok (.istore_n 3, 1) := by decide +kernel
theorem dJ7_fill_53178_5 : decode cJ7_fill_53178 5 = .ok (.iload_n 2, 1) := by decide +kernel
theorem dJ7_fill_53178_6 : decode cJ7_fill_53178 6 = .ok (.iload_n 3, 1) := by decide +kernel
theorem dJ7_fill_53178_7 : decode cJ7_fill_53178 7 = .ok (.if_icmp .ge 13, 3) := by decide +kernel
theorem dJ7_fill_53178_10 : decode cJ7_fill_53178 10 = .ok (.aload_n 0, 1) := by decide +kernel
theorem dJ7_fill_53178_11 : decode cJ7_fill_53178 11 = .ok (.iload_n 2, 1) := by decide +kernel
theorem dJ7_fill_53178_12 : decode cJ7_fill_53178 12 = .ok (.iload_n 1, 1) := by decide +kernel
theorem dJ7_fill_53178_13 : decode cJ7_fill_53178 13 = .ok (.iastore, 1) := by decide +kernel
theorem dJ7_fill_53178_14 : decode cJ7_fill_53178 14 = .ok (.iinc 2 1, 3) := by decide +kernel
theorem dJ7_fill_53178_17 : decode cJ7_fill_53178 17 = .ok (.goto (-12), 3) := by decide +kernel
theorem dJ7_fill_53178_20 : decode cJ7_fill_53178 20 = .ok (.return_, 1) := by decide +kernel
end
section
theorem dL_cell_0 : decode cL_cell 0 = .ok (.iload_n 1, 1) := by decide +kernel
theorem dL_cell_1 : decode cL_cell 1 = .ok (.aload_n 0, 1) := by decide +kernel
theorem dL_cell_2 : decode cL_cell 2 = .ok (.arraylength, 1) := by decide +kernel
theorem dL_cell_3 : decode cL_cell 3 = .ok (.if_icmp .ge 9, 3) := by decide +kernel
theorem dL_cell_6 : decode cL_cell 6 = .ok (.aload_n 0, 1) := by decide +kernel
theorem dL_cell_7 : decode cL_cell 7 = .ok (.iload_n 1, 1) := by decide +kernel
theorem dL_cell_8 : decode cL_cell 8 = .ok (.iaload, 1) := by decide +kernel
theorem dL_cell_9 : decode cL_cell 9 = .ok (.goto 9, 3) := by decide +kernel
theorem dL_cell_12 : decode cL_cell 12 = .ok (.ldc 7, 2) := by decide +kernel
theorem dL_cell_14 : decode cL_cell 14 = .ok (.iload_n 1, 1) := by decide +kernel
theorem dL_cell_15 : decode cL_cell 15 = .ok (.iconst 1, 1) := by decide +kernel
theorem dL_cell_16 : decode cL_cell 16 = .ok (.iadd, 1) := by decide +kernel
theorem dL_cell_17 : decode cL_cell 17 = .ok (.imul, 1) := by decide +kernel
theorem dL_cell_18 : decode cL_cell 18 = .ok (.ireturn, 1) := by decide +kernel
theorem dL_some_0 : decode cL_some 0 = .ok (.iload_n 0, 1) := by decide +kernel
theorem dL_some_1 : decode cL_some 1 = .ok (.ldc 8, 2) := by decide +kernel
theorem dL_some_3 : decode cL_some 3 = .ok (.iand, 1) := by decide +kernel
theorem dL_some_4 : decode cL_some 4 = .ok (.iload_n 1, 1) := by decide +kernel
theorem dL_some_5 : decode cL_some 5 = .ok (.irem, 1) := by decide +kernel
theorem dL_some_6 : decode cL_some 6 = .ok (.ireturn, 1) := by decide +kernel
theorem dL_put_0 : decode cL_put 0 = .ok (.aload_n 1, 1) := by decide +kernel
theorem dL_put_1 : decode cL_put 1 = .ok (.iload_n 2, 1) := by decide +kernel
theorem dL_put_2 : decode cL_put 2 = .ok (.invokestatic 9, 3) := by decide +kernel
theorem dL_put_5 : decode cL_put 5 = .ok (.istore 5, 2) := by decide +kernel
theorem dL_put_7 : decode cL_put 7 = .ok (.aload 4, 2) := by decide +kernel
theorem dL_put_9 : decode cL_put 9 = .ok (.iconst 0, 1) := by decide +kernel
theorem dL_put_10 : decode cL_put 10 = .ok (.iconst 2, 1) := by decide +kernel
theorem dL_put_11 : decode cL_put 11 = .ok (.iload 5, 2) := by decide +kernel
theorem dL_put_13 : decode cL_put 13 = .ok (.iload_n 3, 1) := by decide +kernel
theorem dL_put_14 : decode cL_put 14 = .ok (.iconst 1, 1) := by decide +kernel
theorem dL_put_15 : decode cL_put 15 = .ok (.isub, 1) := by decide +kernel
theorem dL_put_16 : decode cL_put 16 = .ok (.invokestatic 15, 3) := by decide +kernel
theorem dL_put_19 : decode cL_put 19 = .ok (.iadd, 1) := by decide +kernel
theorem dL_put_20 : decode cL_put 20 = .ok (.iastore, 1) := by decide +kernel
theorem dL_put_21 : decode cL_put 21 = .ok (.aload 4, 2) := by decide +kernel
theorem dL_put_23 : decode cL_put 23 = .ok (.iconst 1, 1) := by decide +kernel
theorem dL_put_24 : decode cL_put 24 = .ok (.iconst 0, 1) := by decide +kernel
theorem dL_put_25 : decode cL_put 25 = .ok (.iastore, 1) := by decide +kernel
theorem dL_put_26 : decode cL_put 26 = .ok (.aload 4, 2) := by decide +kernel
theorem dL_put_28 : decode cL_put 28 = .ok (.iconst 2, 1) := by decide +kernel
theorem dL_put_29 : decode cL_put 29 = .ok (.iconst 0, 1) := by decide +kernel
theorem dL_put_30 : decode cL_put 30 = .ok (.iastore, 1) := by decide +kernel
theorem dL_put_31 : decode cL_put 31 = .ok (.aload_n 0, 1) := by decide +kernel
theorem dL_put_32 : decode cL_put 32 = .ok (.iconst 0, 1) := by decide +kernel
theorem dL_put_33 : decode cL_put 33 = .ok (.iconst 0, 1) := by decide +kernel
theorem dL_put_34 : decode cL_put 34 = .ok (.bipush 50, 2) := by decide +kernel
theorem dL_put_36 : decode cL_put 36 = .ok (.invokevirtual 19, 3) := by decide +kernel
theorem dL_put_39 : decode cL_put 39 = .ok (.iconst 1, 1) := by decide +kernel
theorem dL_put_40 : decode cL_put 40 = .ok (.if_icmp .ne 32, 3) := by decide +kernel
theorem dL_put_43 : decode cL_put 43 = .ok (.aload_n 0, 1) := by decide +kernel
theorem dL_put_44 : decode cL_put 44 = .ok (.iconst 0, 1) := by decide +kernel
theorem dL_put_45 : decode cL_put 45 = .ok (.iconst 0, 1) := by decide +kernel
theorem dL_put_46 : decode cL_put 46 = .ok (.bipush 100, 2) := by decide +kernel
theorem dL_put_48 : decode cL_put 48 = .ok (.invokevirtual 25, 3) := by decide +kernel
theorem dL_put_51 : decode cL_put 51 = .ok (.iconst 1, 1) := by decide +kernel
theorem dL_put_52 : decode cL_put 52 = .ok (.if_icmp .ne 20, 3) := by decide +kernel
theorem dL_put_55 : decode cL_put 55 = .ok (.aload_n 0, 1) := by decide +kernel
theorem dL_put_56 : decode cL_put 56 = .ok (.iconst 0, 1) := by decide +kernel
theorem dL_put_57 : decode cL_put 57 = .ok (.iconst 1, 1) := by decide +kernel
theorem dL_put_58 : decode cL_put 58 = .ok (.bipush 48, 2) := by decide +kernel
theorem dL_put_60 : decode cL_put 60 = .ok (.aload 4, 2) := by decide +kernel
theorem dL_put_62 : decode cL_put 62 = .ok (.iconst 0, 1) := by decide +kernel
theorem dL_put_63 : decode cL_put 63 = .ok (.iaload, 1) := by decide +kernel
theorem dL_put_64 : decode cL_put 64 = .ok (.iadd, 1) := by decide +kernel
theorem dL_put_65 : decode cL_put 65 = .ok (.invokevirtual 25, 3) := by decide +kernel
theorem dL_put_68 : decode cL_put 68 = .ok (.iconst 1, 1) := by decide +kernel
theorem dL_put_69 : decode cL_put 69 = .ok (.if_icmp .eq 6, 3) := by decide +kernel
theorem dL_put_72 : decode cL_put 72 = .ok (.bipush (-99), 2) := by decide +kernel
theorem dL_put_74 : decode cL_put 74 = .ok (.ireturn, 1) := by decide +kernel
theorem dL_put_75 : decode cL_put 75 = .ok (.iconst 2, 1) := by decide +kernel
theorem dL_put_76 : decode cL_put 76 = .ok (.istore 6, 2) := by decide +kernel
theorem dL_put_78 : decode cL_put 78 = .ok (.iconst 0, 1) := by decide +kernel
theorem dL_put_79 : decode cL_put 79 = .ok (.istore 7, 2) := by decide +kernel
theorem dL_put_81 : decode cL_put 81 = .ok (.iload 7, 2) := by decide +kernel
theorem dL_put_83 : decode cL_put 83 = .ok (.aload 4, 2) := by decide +kernel
theorem dL_put_85 : decode cL_put 85 = .ok (.iconst 0, 1) := by decide +kernel
theorem dL_put_86 : decode cL_put 86 = .ok (.iaload, 1) := by decide +kernel
theorem dL_put_87 : decode cL_put 87 = .ok (.if_icmp .ge 275, 3) := by decide +kernel
theorem dL_put_90 : decode cL_put 90 = .ok (.aload_n 1, 1) := by decide +kernel
theorem dL_put_91 : decode cL_put 91 = .ok (.iload_n 2, 1) := by decide +kernel
theorem dL_put_92 : decode cL_put 92 = .ok (.iconst 1, 1) := by decide +kernel
theorem dL_put_93 : decode cL_put 93 = .ok (.iadd, 1) := by decide +kernel
theorem dL_put_94 : decode cL_put 94 = .ok (.iload 7, 2) := by decide +kernel
theorem dL_put_96 : decode cL_put 96 = .ok (.iconst 3, 1) := by decide +kernel
theorem dL_put_97 : decode cL_put 97 = .ok (.irem, 1) := by decide +kernel
theorem dL_put_98 : decode cL_put 98 = .ok (.iadd, 1) := by decide +kernel
theorem dL_put_99 : decode cL_put 99 = .ok (.invokestatic 9, 3) := by decide +kernel
theorem dL_put_102 : decode cL_put 102 = .ok (.iload 7, 2) := by decide +kernel
theorem dL_put_104 : decode cL_put 104 = .ok (.iconst 3, 1) := by decide +kernel
theorem dL_put_105 : decode cL_put 105 = .ok (.idiv, 1) := by decide +kernel
theorem dL_put_106 : decode cL_put 106 = .ok (.bipush 9, 2) := by decide +kernel
theorem dL_put_108 : decode cL_put 108 = .ok (.imul, 1) := by decide +kernel
theorem dL_put_109 : decode cL_put 109 = .ok (.ishr, 1) := by decide +kernel
theorem dL_put_110 : decode cL_put 110 = .ok (.istore 8, 2) := by decide +kernel
theorem dL_put_112 : decode cL_put 112 = .ok (.aload 4, 2) := by decide +kernel
theorem dL_put_114 : decode cL_put 114 = .ok (.iconst 3, 1) := by decide +kernel
theorem dL_put_115 : decode cL_put 115 = .ok (.iload 7, 2) := by decide +kernel
theorem dL_put_117 : decode cL_put 117 = .ok (.iadd, 1) := by decide +kernel
theorem dL_put_118 : decode cL_put 118 = .ok (.iload 8, 2) := by decide +kernel
theorem dL_put_120 : decode cL_put 120 = .ok (.iconst 3, 1) := by decide +kernel
theorem dL_put_121 : decode cL_put 121 = .ok (.invokestatic 15, 3) := by decide +kernel
theorem dL_put_124 : decode cL_put 124 = .ok (.iastore, 1) := by decide +kernel
theorem dL_put_125 : decode cL_put 125 = .ok (.aload 4, 2) := by decide +kernel
theorem dL_put_127 : decode cL_put 127 = .ok (.bipush 9, 2) := by decide +kernel
theorem dL_put_129 : decode cL_put 129 = .ok (.iload 7, 2) := by decide +kernel
theorem dL_put_131 : decode cL_put 131 = .ok (.iadd, 1) := by decide +kernel
theorem dL_put_132 : decode cL_put 132 = .ok (.iconst 1, 1) := by decide +kernel
theorem dL_put_133 : decode cL_put 133 = .ok (.iload 8, 2) := by decide +kernel
theorem dL_put_135 : decode cL_put 135 = .ok (.iconst 2, 1) := by decide +kernel
theorem dL_put_136 : decode cL_put 136 = .ok (.ishr, 1) := by decide +kernel
theorem dL_put_137 : decode cL_put 137 = .ok (.bipush 9, 2) := by decide +kernel
theorem dL_put_139 : decode cL_put 139 = .ok (.invokestatic 15, 3) := by decide +kernel
theorem dL_put_142 : decode cL_put 142 = .ok (.iadd, 1) := by decide +kernel
theorem dL_put_143 : decode cL_put 143 = .ok (.iastore, 1) := by decide +kernel
theorem dL_put_144 : decode cL_put 144 = .ok (.aload 4, 2) := by decide +kernel
theorem dL_put_146 : decode cL_put 146 = .ok (.bipush 15, 2) := by decide +kernel
theorem dL_put_148 : decode cL_put 148 = .ok (.iconst 2, 1) := by decide +kernel
theorem dL_put_149 : decode cL_put 149 = .ok (.iload 7, 2) := by decide +kernel
theorem dL_put_151 : decode cL_put 151 = .ok (.imul, 1) := by decide +kernel
theorem dL_put_152 : decode cL_put 152 = .ok (.iadd, 1) := by decide +kernel
theorem dL_put_153 : decode cL_put 153 = .ok (.iload 7, 2) := by decide +kernel
theorem dL_put_155 : decode cL_put 155 = .ok (.iconst 1, 1) := by decide +kernel
theorem dL_put_156 : decode cL_put 156 = .ok (.iadd, 1) := by decide +kernel
theorem dL_put_157 : decode cL_put 157 = .ok (.iload 8, 2) := by decide +kernel
theorem dL_put_159 : decode cL_put 159 = .ok (.iconst 5, 1) := by decide +kernel
theorem dL_put_160 : decode cL_put 160 = .ok (.ishr, 1) := by decide +kernel
theorem dL_put_161 : decode cL_put 161 = .ok (.aload 4, 2) := by decide +kernel
theorem dL_put_163 : decode cL_put 163 = .ok (.iconst 0, 1) := by decide +kernel
theorem dL_put_164 : decode cL_put 164 = .ok (.iaload, 1) := by decide +kernel
theorem dL_put_165 : decode cL_put 165 = .ok (.iconst 1, 1) := by decide +kernel
theorem dL_put_166 : decode cL_put 166 = .ok (.isub, 1) := by decide +kernel
theorem dL_put_167 : decode cL_put 167 = .ok (.invokestatic 15, 3) := by decide +kernel
theorem dL_put_170 : decode cL_put 170 = .ok (.iadd, 1) := by decide +kernel
theorem dL_put_171 : decode cL_put 171 = .ok (.aload 4, 2) := by decide +kernel
theorem dL_put_173 : decode cL_put 173 = .ok (.iconst 0, 1) := by decide +kernel
theorem dL_put_174 : decode cL_put 174 = .ok (.iaload, 1) := by decide +kernel
theorem dL_put_175 : decode cL_put 175 = .ok (.irem, 1) := by decide +kernel
theorem dL_put_176 : decode cL_put 176 = .ok (.iastore, 1) := by decide +kernel
theorem dL_put_177 : decode cL_put 177 = .ok (.aload 4, 2) := by decide +kernel
theorem dL_put_179 : decode cL_put 179 = .ok (.bipush 16, 2) := by decide +kernel
theorem dL_put_181 : decode cL_put 181 = .ok (.iconst 2, 1) := by decide +kernel
theorem dL_put_182 : decode cL_put 182 = .ok (.iload 7, 2) := by decide +kernel
theorem dL_put_184 : decode cL_put 184 = .ok (.imul, 1) := by decide +kernel
theorem dL_put_185 : decode cL_put 185 = .ok (.iadd, 1) := by decide +kernel
theorem dL_put_186 : decode cL_put 186 = .ok (.iload 7, 2) := by decide +kernel
theorem dL_put_188 : decode cL_put 188 = .ok (.iconst 1, 1) := by decide +kernel
theorem dL_put_189 : decode cL_put 189 = .ok (.iadd, 1) := by decide +kernel
theorem dL_put_190 : decode cL_put 190 = .ok (.iload 8, 2) := by decide +kernel
theorem dL_put_192 : decode cL_put 192 = .ok (.bipush 7, 2) := by decide +kernel
theorem dL_put_194 : decode cL_put 194 = .ok (.ishr, 1) := by decide +kernel
theorem dL_put_195 : decode cL_put 195 = .ok (.aload 4, 2) := by decide +kernel
theorem dL_put_197 : decode cL_put 197 = .ok (.iconst 0, 1) := by decide +kernel
theorem dL_put_198 : decode cL_put 198 = .ok (.iaload, 1) := by decide +kernel
theorem dL_put_199 : decode cL_put 199 = .ok (.iconst 1, 1) := by decide +kernel
theorem dL_put_200 : decode cL_put 200 = .ok (.isub, 1) := by decide +kernel
theorem dL_put_201 : decode cL_put 201 = .ok (.invokestatic 15, 3) := by decide +kernel
theorem dL_put_204 : decode cL_put 204 = .ok (.iadd, 1) := by decide +kernel
theorem dL_put_205 : decode cL_put 205 = .ok (.aload 4, 2) := by decide +kernel
theorem dL_put_207 : decode cL_put 207 = .ok (.iconst 0, 1) := by decide +kernel
theorem dL_put_208 : decode cL_put 208 = .ok (.iaload, 1) := by decide +kernel
theorem dL_put_209 : decode cL_put 209 = .ok (.irem, 1) := by decide +kernel
theorem dL_put_210 : decode cL_put 210 = .ok (.iastore, 1) := by decide +kernel
theorem dL_put_211 : decode cL_put 211 = .ok (.aload_n 0, 1) := by decide +kernel
theorem dL_put_212 : decode cL_put 212 = .ok (.iconst 0, 1) := by decide +kernel
theorem dL_put_213 : decode cL_put 213 = .ok (.iload 6, 2) := by decide +kernel
theorem dL_put_215 : decode cL_put 215 = .ok (.iinc 6 1, 3) := by decide +kernel
theorem dL_put_218 : decode cL_put 218 = .ok (.bipush 59, 2) := by decide +kernel
theorem dL_put_220 : decode cL_put 220 = .ok (.invokevirtual 25, 3) := by decide +kernel
theorem dL_put_223 : decode cL_put 223 = .ok (.iconst 1, 1) := by decide +kernel
theorem dL_put_224 : decode cL_put 224 = .ok (.if_icmp .ne 129, 3) := by decide +kernel
theorem dL_put_227 : decode cL_put 227 = .ok (.aload_n 0, 1) := by decide +kernel
theorem dL_put_228 : decode cL_put 228 = .ok (.iconst 0, 1) := by decide +kernel
theorem dL_put_229 : decode cL_put 229 = .ok (.iload 6, 2) := by decide +kernel
theorem dL_put_231 : decode cL_put 231 = .ok (.iinc 6 1, 3) := by decide +kernel
theorem dL_put_234 : decode cL_put 234 = .ok (.aload 4, 2) := by decide +kernel
theorem dL_put_236 : decode cL_put 236 = .ok (.iconst 3, 1) := by decide +kernel
theorem dL_put_237 : decode cL_put 237 = .ok (.iload 7, 2) := by decide +kernel
theorem dL_put_239 : decode cL_put 239 = .ok (.iadd, 1) := by decide +kernel
theorem dL_put_240 : decode cL_put 240 = .ok (.iaload, 1) := by decide +kernel
theorem dL_put_241 : decode cL_put 241 = .ok (.ifCond .ne 8, 3) := by decide +kernel
theorem dL_put_244 : decode cL_put 244 = .ok (.bipush 103, 2) := by decide +kernel
theorem dL_put_246 : decode cL_put 246 = .ok (.goto 21, 3) := by decide +kernel
theorem dL_put_249 : decode cL_put 249 = .ok (.aload 4, 2) := by decide +kernel
theorem dL_put_251 : decode cL_put 251 = .ok (.iconst 3, 1) := by decide +kernel
theorem dL_put_252 : decode cL_put 252 = .ok (.iload 7, 2) := by decide +kernel
theorem dL_put_254 : decode cL_put 254 = .ok (.iadd, 1) := by decide +kernel
theorem dL_put_255 : decode cL_put 255 = .ok (.iaload, 1) := by decide +kernel
theorem dL_put_256 : decode cL_put 256 = .ok (.iconst 1, 1) := by decide +kernel
theorem dL_put_257 : decode cL_put 257 = .ok (.if_icmp .ne 8, 3) := by decide +kernel
theorem dL_put_260 : decode cL_put 260 = .ok (.bipush 104, 2) := by decide +kernel
theorem dL_put_262 : decode cL_put 262 = .ok (.goto 5, 3) := by decide +kernel
theorem dL_put_265 : decode cL_put 265 = .ok (.bipush 111, 2) := by decide +kernel
theorem dL_put_267 : decode cL_put 267 = .ok (.invokevirtual 25, 3) := by decide +kernel
theorem dL_put_270 : decode cL_put 270 = .ok (.iconst 1, 1) := by decide +kernel
theorem dL_put_271 : decode cL_put 271 = .ok (.if_icmp .ne 82, 3) := by decide +kernel
theorem dL_put_274 : decode cL_put 274 = .ok (.aload_n 0, 1) := by decide +kernel
theorem dL_put_275 : decode cL_put 275 = .ok (.iconst 0, 1) := by decide +kernel
theorem dL_put_276 : decode cL_put 276 = .ok (.iload 6, 2) := by decide +kernel
theorem dL_put_278 : decode cL_put 278 = .ok (.iinc 6 1, 3) := by decide +kernel
theorem dL_put_281 : decode cL_put 281 = .ok (.bipush 48, 2) := by decide +kernel
theorem dL_put_283 : decode cL_put 283 = .ok (.aload 4, 2) := by decide +kernel
theorem dL_put_285 : decode cL_put 285 = .ok (.bipush 9, 2) := by decide +kernel
theorem dL_put_287 : decode cL_put 287 = .ok (.iload 7, 2) := by decide +kernel
theorem dL_put_289 : decode cL_put 289 = .ok (.iadd, 1) := by decide +kernel
theorem dL_put_290 : decode cL_put 290 = .ok (.iaload, 1) := by decide +kernel
theorem dL_put_291 : decode cL_put 291 = .ok (.iadd, 1) := by decide +kernel
theorem dL_put_292 : decode cL_put 292 = .ok (.invokevirtual 25, 3) := by decide +kernel
theorem dL_put_295 : decode cL_put 295 = .ok (.iconst 1, 1) := by decide +kernel
theorem dL_put_296 : decode cL_put 296 = .ok (.if_icmp .ne 57, 3) := by decide +kernel
theorem dL_put_299 : decode cL_put 299 = .ok (.aload_n 0, 1) := by decide +kernel
theorem dL_put_300 : decode cL_put 300 = .ok (.iconst 0, 1) := by decide +kernel
theorem dL_put_301 : decode cL_put 301 = .ok (.iload 6, 2) := by decide +kernel
theorem dL_put_303 : decode cL_put 303 = .ok (.iinc 6 1, 3) := by decide +kernel
theorem dL_put_306 : decode cL_put 306 = .ok (.bipush 48, 2) := by decide +kernel
theorem dL_put_308 : decode cL_put 308 = .ok (.aload 4, 2) := by decide +kernel
theorem dL_put_310 : decode cL_put 310 = .ok (.bipush 15, 2) := by decide +kernel
theorem dL_put_312 : decode cL_put 312 = .ok (.iconst 2, 1) := by decide +kernel
theorem dL_put_313 : decode cL_put 313 = .ok (.iload 7, 2) := by decide +kernel
theorem dL_put_315 : decode cL_put 315 = .ok (.imul, 1) := by decide +kernel
theorem dL_put_316 : decode cL_put 316 = .ok (.iadd, 1) := by decide +kernel
theorem dL_put_317 : decode cL_put 317 = .ok (.iaload, 1) := by decide +kernel
theorem dL_put_318 : decode cL_put 318 = .ok (.iadd, 1) := by decide +kernel
theorem dL_put_319 : decode cL_put 319 = .ok (.invokevirtual 25, 3) := by decide +kernel
theorem dL_put_322 : decode cL_put 322 = .ok (.iconst 1, 1) := by decide +kernel
theorem dL_put_323 : decode cL_put 323 = .ok (.if_icmp .ne 30, 3) := by decide +kernel
theorem dL_put_326 : decode cL_put 326 = .ok (.aload_n 0, 1) := by decide +kernel
theorem dL_put_327 : decode cL_put 327 = .ok (.iconst 0, 1) := by decide +kernel
theorem dL_put_328 : decode cL_put 328 = .ok (.iload 6, 2) := by decide +kernel
theorem dL_put_330 : decode cL_put 330 = .ok (.iinc 6 1, 3) := by decide +kernel
theorem dL_put_333 : decode cL_put 333 = .ok (.bipush 48, 2) := by decide +kernel
theorem dL_put_335 : decode cL_put 335 = .ok (.aload 4, 2) := by decide +kernel
theorem dL_put_337 : decode cL_put 337 = .ok (.bipush 16, 2) := by decide +kernel
theorem dL_put_339 : decode cL_put 339 = .ok (.iconst 2, 1) := by decide +kernel
theorem dL_put_340 : decode cL_put 340 = .ok (.iload 7, 2) := by decide +kernel
theorem dL_put_342 : decode cL_put 342 = .ok (.imul, 1) := by decide +kernel
theorem dL_put_343 : decode cL_put 343 = .ok (.iadd, 1) := by decide +kernel
theorem dL_put_344 : decode cL_put 344 = .ok (.iaload, 1) := by decide +kernel
theorem dL_put_345 : decode cL_put 345 = .ok (.iadd, 1) := by decide +kernel
theorem dL_put_346 : decode cL_put 346 = .ok (.invokevirtual 25, 3) := by decide +kernel
theorem dL_put_349 : decode cL_put 349 = .ok (.iconst 1, 1) := by decide +kernel
theorem dL_put_350 : decode cL_put 350 = .ok (.if_icmp .eq 6, 3) := by decide +kernel
theorem dL_put_353 : decode cL_put 353 = .ok (.bipush (-99), 2) := by decide +kernel
theorem dL_put_355 : decode cL_put 355 = .ok (.ireturn, 1) := by decide +kernel
theorem dL_put_356 : decode cL_put 356 = .ok (.iinc 7 1, 3) := by decide +kernel
theorem dL_put_359 : decode cL_put 359 = .ok (.goto (-278), 3) := by decide +kernel
theorem dL_put_362 : decode cL_put 362 = .ok (.iload 6, 2) := by decide +kernel
theorem dL_put_364 : decode cL_put 364 = .ok (.ireturn, 1) := by decide +kernel
theorem dL_change_0 : decode cL_change 0 = .ok (.aload_n 3, 1) := by decide +kernel
theorem dL_change_1 : decode cL_change 1 = .ok (.iconst 1, 1) := by decide +kernel
theorem dL_change_2 : decode cL_change 2 = .ok (.iaload, 1) := by decide +kernel
theorem dL_change_3 : decode cL_change 3 = .ok (.iconst 4, 1) := by decide +kernel
theorem dL_change_4 : decode cL_change 4 = .ok (.if_icmp .gt 14, 3) := by decide +kernel
theorem dL_change_7 : decode cL_change 7 = .ok (.iload_n 1, 1) := by decide +kernel
theorem dL_change_8 : decode cL_change 8 = .ok (.bipush 19, 2) := by decide +kernel
theorem dL_change_10 : decode cL_change 10 = .ok (.ishr, 1) := by decide +kernel
theorem dL_change_11 : decode cL_change 11 = .ok (.iconst 4, 1) := by decide +kernel
theorem dL_change_12 : decode cL_change 12 = .ok (.invokestatic 15, 3) := by decide +kernel
theorem dL_change_15 : decode cL_change 15 = .ok (.ifCond .ne 42, 3) := by decide +kernel
theorem dL_change_18 : decode cL_change 18 = .ok (.iload_n 2, 1) := by decide +kernel
theorem dL_change_19 : decode cL_change 19 = .ok (.bipush 17, 2) := by decide +kernel
theorem dL_change_21 : decode cL_change 21 = .ok (.ishr, 1) := by decide +kernel
theorem dL_change_22 : decode cL_change 22 = .ok (.aload_n 3, 1) := by decide +kernel
theorem dL_change_23 : decode cL_change 23 = .ok (.iconst 1, 1) := by decide +kernel
theorem dL_change_24 : decode cL_change 24 = .ok (.iaload, 1) := by decide +kernel
theorem dL_change_25 : decode cL_change 25 = .ok (.iconst 1, 1) := by decide +kernel
theorem dL_change_26 : decode cL_change 26 = .ok (.iadd, 1) := by decide +kernel
theorem dL_change_27 : decode cL_change 27 = .ok (.invokestatic 15, 3) := by decide +kernel
theorem dL_change_30 : decode cL_change 30 = .ok (.istore 5, 2) := by decide +kernel
theorem dL_change_32 : decode cL_change 32 = .ok (.aload_n 0, 1) := by decide +kernel
theorem dL_change_33 : decode cL_change 33 = .ok (.iload 5, 2) := by decide +kernel
theorem dL_change_35 : decode cL_change 35 = .ok (.invokevirtual 28, 3) := by decide +kernel
theorem dL_change_38 : decode cL_change 38 = .ok (.aload_n 3, 1) := by decide +kernel
theorem dL_change_39 : decode cL_change 39 = .ok (.iconst 1, 1) := by decide +kernel
theorem dL_change_40 : decode cL_change 40 = .ok (.iaload, 1) := by decide +kernel
theorem dL_change_41 : decode cL_change 41 = .ok (.iload 5, 2) := by decide +kernel
theorem dL_change_43 : decode cL_change 43 = .ok (.isub, 1) := by decide +kernel
theorem dL_change_44 : decode cL_change 44 = .ok (.if_icmp .eq 5, 3) := by decide +kernel
theorem dL_change_47 : decode cL_change 47 = .ok (.iconst 0, 1) := by decide +kernel
theorem dL_change_48 : decode cL_change 48 = .ok (.ireturn, 1) := by decide +kernel
theorem dL_change_49 : decode cL_change 49 = .ok (.aload_n 3, 1) := by decide +kernel
theorem dL_change_50 : decode cL_change 50 = .ok (.iconst 1, 1) := by decide +kernel
theorem dL_change_51 : decode cL_change 51 = .ok (.dup2, 1) := by decide +kernel
theorem dL_change_52 : decode cL_change 52 = .ok (.iaload, 1) := by decide +kernel
theorem dL_change_53 : decode cL_change 53 = .ok (.iload 5, 2) := by decide +kernel
theorem dL_change_55 : decode cL_change 55 = .ok (.isub, 1) := by decide +kernel
theorem dL_change_56 : decode cL_change 56 = .ok (.iastore, 1) := by decide +kernel
theorem dL_change_57 : decode cL_change 57 = .ok (.iconst 0, 1) := by decide +kernel
theorem dL_change_58 : decode cL_change 58 = .ok (.istore 5, 2) := by decide +kernel
theorem dL_change_60 : decode cL_change 60 = .ok (.iload 5, 2) := by decide +kernel
theorem dL_change_62 : decode cL_change 62 = .ok (.iconst 3, 1) := by decide +kernel
theorem dL_change_63 : decode cL_change 63 = .ok (.if_icmp .ge 174, 3) := by decide +kernel
theorem dL_change_66 : decode cL_change 66 = .ok (.aload_n 3, 1) := by decide +kernel
theorem dL_change_67 : decode cL_change 67 = .ok (.iconst 1, 1) := by decide +kernel
theorem dL_change_68 : decode cL_change 68 = .ok (.iaload, 1) := by decide +kernel
theorem dL_change_69 : decode cL_change 69 = .ok (.bipush 8, 2) := by decide +kernel
theorem dL_change_71 : decode cL_change 71 = .ok (.if_icmp .ne 6, 3) := by decide +kernel
theorem dL_change_74 : decode cL_change 74 = .ok (.goto 157, 3) := by decide +kernel
theorem dL_change_77 : decode cL_change 77 = .ok (.iload_n 1, 1) := by decide +kernel
theorem dL_change_78 : decode cL_change 78 = .ok (.iconst 3, 1) := by decide +kernel
theorem dL_change_79 : decode cL_change 79 = .ok (.iload 5, 2) := by decide +kernel
theorem dL_change_81 : decode cL_change 81 = .ok (.imul, 1) := by decide +kernel
theorem dL_change_82 : decode cL_change 82 = .ok (.ishr, 1) := by decide +kernel
theorem dL_change_83 : decode cL_change 83 = .ok (.aload_n 3, 1) := by decide +kernel
theorem dL_change_84 : decode cL_change 84 = .ok (.iconst 0, 1) := by decide +kernel
theorem dL_change_85 : decode cL_change 85 = .ok (.iaload, 1) := by decide +kernel
theorem dL_change_86 : decode cL_change 86 = .ok (.invokestatic 15, 3) := by decide +kernel
theorem dL_change_89 : decode cL_change 89 = .ok (.istore 6, 2) := by decide +kernel
theorem dL_change_91 : decode cL_change 91 = .ok (.iload 6, 2) := by decide +kernel
theorem dL_change_93 : decode cL_change 93 = .ok (.iconst 1, 1) := by decide +kernel
theorem dL_change_94 : decode cL_change 94 = .ok (.iadd, 1) := by decide +kernel
theorem dL_change_95 : decode cL_change 95 = .ok (.iload_n 1, 1) := by decide +kernel
theorem dL_change_96 : decode cL_change 96 = .ok (.iconst 2, 1) := by decide +kernel
theorem dL_change_97 : decode cL_change 97 = .ok (.iconst 3, 1) := by decide +kernel
theorem dL_change_98 : decode cL_change 98 = .ok (.iload 5, 2) := by decide +kernel
theorem dL_change_100 : decode cL_change 100 = .ok (.imul, 1) := by decide +kernel
theorem dL_change_101 : decode cL_change 101 = .ok (.iadd, 1) := by decide +kernel
theorem dL_change_102 : decode cL_change 102 = .ok (.ishr, 1) := by decide +kernel
theorem dL_change_103 : decode cL_change 103 = .ok (.aload_n 3, 1) := by decide +kernel
theorem dL_change_104 : decode cL_change 104 = .ok (.iconst 0, 1) := by decide +kernel
theorem dL_change_105 : decode cL_change 105 = .ok (.iaload, 1) := by decide +kernel
theorem dL_change_106 : decode cL_change 106 = .ok (.iconst 1, 1) := by decide +kernel
theorem dL_change_107 : decode cL_change 107 = .ok (.isub, 1) := by decide +kernel
theorem dL_change_108 : decode cL_change 108 = .ok (.invokestatic 15, 3) := by decide +kernel
theorem dL_change_111 : decode cL_change 111 = .ok (.iadd, 1) := by decide +kernel
theorem dL_change_112 : decode cL_change 112 = .ok (.aload_n 3, 1) := by decide +kernel
theorem dL_change_113 : decode cL_change 113 = .ok (.iconst 0, 1) := by decide +kernel
theorem dL_change_114 : decode cL_change 114 = .ok (.iaload, 1) := by decide +kernel
theorem dL_change_115 : decode cL_change 115 = .ok (.irem, 1) := by decide +kernel
theorem dL_change_116 : decode cL_change 116 = .ok (.istore 7, 2) := by decide +kernel
theorem dL_change_118 : decode cL_change 118 = .ok (.iload_n 2, 1) := by decide +kernel
theorem dL_change_119 : decode cL_change 119 = .ok (.iconst 3, 1) := by decide +kernel
theorem dL_change_120 : decode cL_change 120 = .ok (.iload 5, 2) := by decide +kernel
theorem dL_change_122 : decode cL_change 122 = .ok (.imul, 1) := by decide +kernel
theorem dL_change_123 : decode cL_change 123 = .ok (.ishr, 1) := by decide +kernel
theorem dL_change_124 : decode cL_change 124 = .ok (.iload_n 1, 1) := by decide +kernel
theorem dL_change_125 : decode cL_change 125 = .ok (.bipush 17, 2) := by decide +kernel
theorem dL_change_127 : decode cL_change 127 = .ok (.ishr, 1) := by decide +kernel
theorem dL_change_128 : decode cL_change 128 = .ok (.iconst 2, 1) := by decide +kernel
theorem dL_change_129 : decode cL_change 129 = .ok (.invokestatic 15, 3) := by decide +kernel
theorem dL_change_132 : decode cL_change 132 = .ok (.ifCond .ne 8, 3) := by decide +kernel
theorem dL_change_135 : decode cL_change 135 = .ok (.bipush 30, 2) := by decide +kernel
theorem dL_change_137 : decode cL_change 137 = .ok (.goto 4, 3) := by decide +kernel
theorem dL_change_140 : decode cL_change 140 = .ok (.iconst 4, 1) := by decide +kernel
theorem dL_change_141 : decode cL_change 141 = .ok (.invokestatic 15, 3) := by decide +kernel
theorem dL_change_144 : decode cL_change 144 = .ok (.istore 8, 2) := by decide +kernel
theorem dL_change_146 : decode cL_change 146 = .ok (.iconst 1, 1) := by decide +kernel
theorem dL_change_147 : decode cL_change 147 = .ok (.iload_n 2, 1) := by decide +kernel
theorem dL_change_148 : decode cL_change 148 = .ok (.iconst 5, 1) := by decide +kernel
theorem dL_change_149 : decode cL_change 149 = .ok (.iconst 3, 1) := by decide +kernel
theorem dL_change_150 : decode cL_change 150 = .ok (.iload 5, 2) := by decide +kernel
theorem dL_change_152 : decode cL_change 152 = .ok (.imul, 1) := by decide +kernel
theorem dL_change_153 : decode cL_change 153 = .ok (.iadd, 1) := by decide +kernel
theorem dL_change_154 : decode cL_change 154 = .ok (.ishr, 1) := by decide +kernel
theorem dL_change_155 : decode cL_change 155 = .ok (.bipush 9, 2) := by decide +kernel
theorem dL_change_157 : decode cL_change 157 = .ok (.invokestatic 15, 3) := by decide +kernel
theorem dL_change_160 : decode cL_change 160 = .ok (.iadd, 1) := by decide +kernel
theorem dL_change_161 : decode cL_change 161 = .ok (.istore 9, 2) := by decide +kernel
theorem dL_change_163 : decode cL_change 163 = .ok (.aload_n 0, 1) := by decide +kernel
theorem dL_change_164 : decode cL_change 164 = .ok (.iload 6, 2) := by decide +kernel
theorem dL_change_166 : decode cL_change 166 = .ok (.iload 7, 2) := by decide +kernel
theorem dL_change_168 : decode cL_change 168 = .ok (.iload 8, 2) := by decide +kernel
theorem dL_change_170 : decode cL_change 170 = .ok (.iload 9, 2) := by decide +kernel
theorem dL_change_172 : decode cL_change 172 = .ok (.invokevirtual 32, 3) := by decide +kernel
theorem dL_change_175 : decode cL_change 175 = .ok (.aload_n 3, 1) := by decide +kernel
theorem dL_change_176 : decode cL_change 176 = .ok (.iconst 1, 1) := by decide +kernel
theorem dL_change_177 : decode cL_change 177 = .ok (.iaload, 1) := by decide +kernel
theorem dL_change_178 : decode cL_change 178 = .ok (.if_icmp .eq 5, 3) := by decide +kernel
theorem dL_change_181 : decode cL_change 181 = .ok (.iconst 0, 1) := by decide +kernel
theorem dL_change_182 : decode cL_change 182 = .ok (.ireturn, 1) := by decide +kernel
theorem dL_change_183 : decode cL_change 183 = .ok (.iconst 4, 1) := by decide +kernel
theorem dL_change_184 : decode cL_change 184 = .ok (.aload_n 3, 1) := by decide +kernel
theorem dL_change_185 : decode cL_change 185 = .ok (.iconst 1, 1) := by decide +kernel
theorem dL_change_186 : decode cL_change 186 = .ok (.iaload, 1) := by decide +kernel
theorem dL_change_187 : decode cL_change 187 = .ok (.imul, 1) := by decide +kernel
theorem dL_change_188 : decode cL_change 188 = .ok (.istore 10, 2) := by decide +kernel
theorem dL_change_190 : decode cL_change 190 = .ok (.aload 4, 2) := by decide +kernel
theorem dL_change_192 : decode cL_change 192 = .ok (.iload 10, 2) := by decide +kernel
theorem dL_change_194 : decode cL_change 194 = .ok (.iload 6, 2) := by decide +kernel
theorem dL_change_196 : decode cL_change 196 = .ok (.iastore, 1) := by decide +kernel
theorem dL_change_197 : decode cL_change 197 = .ok (.aload 4, 2) := by decide +kernel
theorem dL_change_199 : decode cL_change 199 = .ok (.iload 10, 2) := by decide +kernel
theorem dL_change_201 : decode cL_change 201 = .ok (.iconst 1, 1) := by decide +kernel
theorem dL_change_202 : decode cL_change 202 = .ok (.iadd, 1) := by decide +kernel
theorem dL_change_203 : decode cL_change 203 = .ok (.iload 7, 2) := by decide +kernel
theorem dL_change_205 : decode cL_change 205 = .ok (.iastore, 1) := by decide +kernel
theorem dL_change_206 : decode cL_change 206 = .ok (.aload 4, 2) := by decide +kernel
theorem dL_change_208 : decode cL_change 208 = .ok (.iload 10, 2) := by decide +kernel
theorem dL_change_210 : decode cL_change 210 = .ok (.iconst 2, 1) := by decide +kernel
theorem dL_change_211 : decode cL_change 211 = .ok (.iadd, 1) := by decide +kernel
theorem dL_change_212 : decode cL_change 212 = .ok (.iload 8, 2) := by decide +kernel
theorem dL_change_214 : decode cL_change 214 = .ok (.iastore, 1) := by decide +kernel
theorem dL_change_215 : decode cL_change 215 = .ok (.aload 4, 2) := by decide +kernel
theorem dL_change_217 : decode cL_change 217 = .ok (.iload 10, 2) := by decide +kernel
theorem dL_change_219 : decode cL_change 219 = .ok (.iconst 3, 1) := by decide +kernel
theorem dL_change_220 : decode cL_change 220 = .ok (.iadd, 1) := by decide +kernel
theorem dL_change_221 : decode cL_change 221 = .ok (.iload 9, 2) := by decide +kernel
theorem dL_change_223 : decode cL_change 223 = .ok (.iastore, 1) := by decide +kernel
theorem dL_change_224 : decode cL_change 224 = .ok (.aload_n 3, 1) := by decide +kernel
theorem dL_change_225 : decode cL_change 225 = .ok (.iconst 1, 1) := by decide +kernel
theorem dL_change_226 : decode cL_change 226 = .ok (.dup2, 1) := by decide +kernel
theorem dL_change_227 : decode cL_change 227 = .ok (.iaload, 1) := by decide +kernel
theorem dL_change_228 : decode cL_change 228 = .ok (.iconst 1, 1) := by decide +kernel
theorem dL_change_229 : decode cL_change 229 = .ok (.iadd, 1) := by decide +kernel
theorem dL_change_230 : decode cL_change 230 = .ok (.iastore, 1) := by decide +kernel
theorem dL_change_231 : decode cL_change 231 = .ok (.iinc 5 1, 3) := by decide +kernel
theorem dL_change_234 : decode cL_change 234 = .ok (.goto (-174), 3) := by decide +kernel
theorem dL_change_237 : decode cL_change 237 = .ok (.iload_n 2, 1) := by decide +kernel
theorem dL_change_238 : decode cL_change 238 = .ok (.bipush 13, 2) := by decide +kernel
theorem dL_change_240 : decode cL_change 240 = .ok (.ishr, 1) := by decide +kernel
theorem dL_change_241 : decode cL_change 241 = .ok (.aload_n 3, 1) := by decide +kernel
theorem dL_change_242 : decode cL_change 242 = .ok (.iconst 0, 1) := by decide +kernel
theorem dL_change_243 : decode cL_change 243 = .ok (.iaload, 1) := by decide +kernel
theorem dL_change_244 : decode cL_change 244 = .ok (.invokestatic 15, 3) := by decide +kernel
theorem dL_change_247 : decode cL_change 247 = .ok (.istore 5, 2) := by decide +kernel
theorem dL_change_249 : decode cL_change 249 = .ok (.iload_n 1, 1) := by decide +kernel
theorem dL_change_250 : decode cL_change 250 = .ok (.bipush 14, 2) := by decide +kernel
theorem dL_change_252 : decode cL_change 252 = .ok (.ishr, 1) := by decide +kernel
theorem dL_change_253 : decode cL_change 253 = .ok (.iconst 5, 1) := by decide +kernel
theorem dL_change_254 : decode cL_change 254 = .ok (.invokestatic 15, 3) := by decide +kernel
theorem dL_change_257 : decode cL_change 257 = .ok (.ifCond .ne 7, 3) := by decide +kernel
theorem dL_change_260 : decode cL_change 260 = .ok (.iconst 1, 1) := by decide +kernel
theorem dL_change_261 : decode cL_change 261 = .ok (.goto 4, 3) := by decide +kernel
theorem dL_change_264 : decode cL_change 264 = .ok (.iconst 0, 1) := by decide +kernel
theorem dL_change_265 : decode cL_change 265 = .ok (.istore 6, 2) := by decide +kernel
theorem dL_change_267 : decode cL_change 267 = .ok (.aload_n 0, 1) := by decide +kernel
theorem dL_change_268 : decode cL_change 268 = .ok (.iload 5, 2) := by decide +kernel
theorem dL_change_270 : decode cL_change 270 = .ok (.iload 6, 2) := by decide +kernel
theorem dL_change_272 : decode cL_change 272 = .ok (.invokevirtual 36, 3) := by decide +kernel
theorem dL_change_275 : decode cL_change 275 = .ok (.aload_n 3, 1) := by decide +kernel
theorem dL_change_276 : decode cL_change 276 = .ok (.iconst 2, 1) := by decide +kernel
theorem dL_change_277 : decode cL_change 277 = .ok (.iaload, 1) := by decide +kernel
theorem dL_change_278 : decode cL_change 278 = .ok (.iload 5, 2) := by decide +kernel
theorem dL_change_280 : decode cL_change 280 = .ok (.ishr, 1) := by decide +kernel
theorem dL_change_281 : decode cL_change 281 = .ok (.iconst 1, 1) := by decide +kernel
theorem dL_change_282 : decode cL_change 282 = .ok (.iand, 1) := by decide +kernel
theorem dL_change_283 : decode cL_change 283 = .ok (.iconst 1, 1) := by decide +kernel
theorem dL_change_284 : decode cL_change 284 = .ok (.if_icmp .ne 7, 3) := by decide +kernel
theorem dL_change_287 : decode cL_change 287 = .ok (.iconst 1, 1) := by decide +kernel
theorem dL_change_288 : decode cL_change 288 = .ok (.goto 4, 3) := by decide +kernel
theorem dL_change_291 : decode cL_change 291 = .ok (.iconst 0, 1) := by decide +kernel
theorem dL_change_292 : decode cL_change 292 = .ok (.iload 6, 2) := by decide +kernel
theorem dL_change_294 : decode cL_change 294 = .ok (.if_icmp .ne 7, 3) := by decide +kernel
theorem dL_change_297 : decode cL_change 297 = .ok (.iconst 0, 1) := by decide +kernel
theorem dL_change_298 : decode cL_change 298 = .ok (.goto 4, 3) := by decide +kernel
theorem dL_change_301 : decode cL_change 301 = .ok (.iconst 1, 1) := by decide +kernel
theorem dL_change_302 : decode cL_change 302 = .ok (.if_icmp .eq 5, 3) := by decide +kernel
theorem dL_change_305 : decode cL_change 305 = .ok (.iconst 0, 1) := by decide +kernel
theorem dL_change_306 : decode cL_change 306 = .ok (.ireturn, 1) := by decide +kernel
theorem dL_change_307 : decode cL_change 307 = .ok (.aload_n 3, 1) := by decide +kernel
theorem dL_change_308 : decode cL_change 308 = .ok (.iconst 2, 1) := by decide +kernel
theorem dL_change_309 : decode cL_change 309 = .ok (.iload 6, 2) := by decide +kernel
theorem dL_change_311 : decode cL_change 311 = .ok (.ifCond .eq 14, 3) := by decide +kernel
theorem dL_change_314 : decode cL_change 314 = .ok (.aload_n 3, 1) := by decide +kernel
theorem dL_change_315 : decode cL_change 315 = .ok (.iconst 2, 1) := by decide +kernel
theorem dL_change_316 : decode cL_change 316 = .ok (.iaload, 1) := by decide +kernel
theorem dL_change_317 : decode cL_change 317 = .ok (.iconst 1, 1) := by decide +kernel
theorem dL_change_318 : decode cL_change 318 = .ok (.iload 5, 2) := by decide +kernel
theorem dL_change_320 : decode cL_change 320 = .ok (.ishl, 1) := by decide +kernel
theorem dL_change_321 : decode cL_change 321 = .ok (.ior, 1) := by decide +kernel
theorem dL_change_322 : decode cL_change 322 = .ok (.goto 13, 3) := by decide +kernel
theorem dL_change_325 : decode cL_change 325 = .ok (.aload_n 3, 1) := by decide +kernel
theorem dL_change_326 : decode cL_change 326 = .ok (.iconst 2, 1) := by decide +kernel
theorem dL_change_327 : decode cL_change 327 = .ok (.iaload, 1) := by decide +kernel
theorem dL_change_328 : decode cL_change 328 = .ok (.iconst 1, 1) := by decide +kernel
theorem dL_change_329 : decode cL_change 329 = .ok (.iload 5, 2) := by decide +kernel
theorem dL_change_331 : decode cL_change 331 = .ok (.ishl, 1) := by decide +kernel
theorem dL_change_332 : decode cL_change 332 = .ok (.iconst (-1), 1) := by decide +kernel
theorem dL_change_333 : decode cL_change 333 = .ok (.ixor, 1) := by decide +kernel
theorem dL_change_334 : decode cL_change 334 = .ok (.iand, 1) := by decide +kernel
theorem dL_change_335 : decode cL_change 335 = .ok (.iastore, 1) := by decide +kernel
theorem dL_change_336 : decode cL_change 336 = .ok (.iconst 1, 1) := by decide +kernel
theorem dL_change_337 : decode cL_change 337 = .ok (.ireturn, 1) := by decide +kernel
theorem dL_touchy_0 : decode cL_touchy 0 = .ok (.bipush 10, 2) := by decide +kernel
theorem dL_touchy_2 : decode cL_touchy 2 = .ok (.aload_n 0, 1) := by decide +kernel
theorem dL_touchy_3 : decode cL_touchy 3 = .ok (.bipush 9, 2) := by decide +kernel
theorem dL_touchy_5 : decode cL_touchy 5 = .ok (.iload_n 1, 1) := by decide +kernel
theorem dL_touchy_6 : decode cL_touchy 6 = .ok (.iadd, 1) := by decide +kernel
theorem dL_touchy_7 : decode cL_touchy 7 = .ok (.iaload, 1) := by decide +kernel
theorem dL_touchy_8 : decode cL_touchy 8 = .ok (.isub, 1) := by decide +kernel
theorem dL_touchy_9 : decode cL_touchy 9 = .ok (.aload_n 0, 1) := by decide +kernel
theorem dL_touchy_10 : decode cL_touchy 10 = .ok (.iconst 3, 1) := by decide +kernel
theorem dL_touchy_11 : decode cL_touchy 11 = .ok (.iload_n 1, 1) := by decide +kernel
theorem dL_touchy_12 : decode cL_touchy 12 = .ok (.iadd, 1) := by decide +kernel
theorem dL_touchy_13 : decode cL_touchy 13 = .ok (.iaload, 1) := by decide +kernel
theorem dL_touchy_14 : decode cL_touchy 14 = .ok (.ifCond .le 7, 3) := by decide +kernel
theorem dL_touchy_17 : decode cL_touchy 17 = .ok (.iconst 2, 1) := by decide +kernel
theorem dL_touchy_18 : decode cL_touchy 18 = .ok (.goto 4, 3) := by decide +kernel
theorem dL_touchy_21 : decode cL_touchy 21 = .ok (.iconst 0, 1) := by decide +kernel
theorem dL_touchy_22 : decode cL_touchy 22 = .ok (.isub, 1) := by decide +kernel
theorem dL_touchy_23 : decode cL_touchy 23 = .ok (.istore_n 2, 1) := by decide +kernel
theorem dL_touchy_24 : decode cL_touchy 24 = .ok (.aload_n 0, 1) := by decide +kernel
theorem dL_touchy_25 : decode cL_touchy 25 = .ok (.iconst 3, 1) := by decide +kernel
theorem dL_touchy_26 : decode cL_touchy 26 = .ok (.iload_n 1, 1) := by decide +kernel
theorem dL_touchy_27 : decode cL_touchy 27 = .ok (.iadd, 1) := by decide +kernel
theorem dL_touchy_28 : decode cL_touchy 28 = .ok (.iaload, 1) := by decide +kernel
theorem dL_touchy_29 : decode cL_touchy 29 = .ok (.ifCond .le 10, 3) := by decide +kernel
theorem dL_touchy_32 : decode cL_touchy 32 = .ok (.iload_n 2, 1) := by decide +kernel
theorem dL_touchy_33 : decode cL_touchy 33 = .ok (.iconst 1, 1) := by decide +kernel
theorem dL_touchy_34 : decode cL_touchy 34 = .ok (.if_icmp .ge 5, 3) := by decide +kernel
theorem dL_touchy_37 : decode cL_touchy 37 = .ok (.iconst 1, 1) := by decide +kernel
theorem dL_touchy_38 : decode cL_touchy 38 = .ok (.istore_n 2, 1) := by decide +kernel
theorem dL_touchy_39 : decode cL_touchy 39 = .ok (.aload_n 0, 1) := by decide +kernel
theorem dL_touchy_40 : decode cL_touchy 40 = .ok (.iconst 3, 1) := by decide +kernel
theorem dL_touchy_41 : decode cL_touchy 41 = .ok (.iload_n 1, 1) := by decide +kernel
theorem dL_touchy_42 : decode cL_touchy 42 = .ok (.iadd, 1) := by decide +kernel
theorem dL_touchy_43 : decode cL_touchy 43 = .ok (.iaload, 1) := by decide +kernel
theorem dL_touchy_44 : decode cL_touchy 44 = .ok (.iconst 2, 1) := by decide +kernel
theorem dL_touchy_45 : decode cL_touchy 45 = .ok (.if_icmp .ne 14, 3) := by decide +kernel
theorem dL_touchy_48 : decode cL_touchy 48 = .ok (.iload_n 2, 1) := by decide +kernel
theorem dL_touchy_49 : decode cL_touchy 49 = .ok (.iconst 1, 1) := by decide +kernel
theorem dL_touchy_50 : decode cL_touchy 50 = .ok (.if_icmp .le 9, 3) := by decide +kernel
theorem dL_touchy_53 : decode cL_touchy 53 = .ok (.iload_n 2, 1) := by decide +kernel
theorem dL_touchy_54 : decode cL_touchy 54 = .ok (.iconst 1, 1) := by decide +kernel
theorem dL_touchy_55 : decode cL_touchy 55 = .ok (.isub, 1) := by decide +kernel
theorem dL_touchy_56 : decode cL_touchy 56 = .ok (.goto 4, 3) := by decide +kernel
theorem dL_touchy_59 : decode cL_touchy 59 = .ok (.iload_n 2, 1) := by decide +kernel
theorem dL_touchy_60 : decode cL_touchy 60 = .ok (.ireturn, 1) := by decide +kernel
theorem dL_second_0 : decode cL_second 0 = .ok (.iconst 0, 1) := by decide +kernel
theorem dL_second_1 : decode cL_second 1 = .ok (.istore 6, 2) := by decide +kernel
theorem dL_second_3 : decode cL_second 3 = .ok (.iload 6, 2) := by decide +kernel
theorem dL_second_5 : decode cL_second 5 = .ok (.bipush 6, 2) := by decide +kernel
theorem dL_second_7 : decode cL_second 7 = .ok (.if_icmp .ge 106, 3) := by decide +kernel
theorem dL_second_10 : decode cL_second 10 = .ok (.iload 6, 2) := by decide +kernel
theorem dL_second_12 : decode cL_second 12 = .ok (.iconst 2, 1) := by decide +kernel
theorem dL_second_13 : decode cL_second 13 = .ok (.if_icmp .ge 17, 3) := by decide +kernel
theorem dL_second_16 : decode cL_second 16 = .ok (.aload_n 0, 1) := by decide +kernel
theorem dL_second_17 : decode cL_second 17 = .ok (.bipush 15, 2) := by decide +kernel
theorem dL_second_19 : decode cL_second 19 = .ok (.iconst 2, 1) := by decide +kernel
theorem dL_second_20 : decode cL_second 20 = .ok (.iload_n 1, 1) := by decide +kernel
theorem dL_second_21 : decode cL_second 21 = .ok (.imul, 1) := by decide +kernel
theorem dL_second_22 : decode cL_second 22 = .ok (.iadd, 1) := by decide +kernel
theorem dL_second_23 : decode cL_second 23 = .ok (.iload 6, 2) := by decide +kernel
theorem dL_second_25 : decode cL_second 25 = .ok (.iadd, 1) := by decide +kernel
theorem dL_second_26 : decode cL_second 26 = .ok (.iaload, 1) := by decide +kernel
theorem dL_second_27 : decode cL_second 27 = .ok (.goto 30, 3) := by decide +kernel
theorem dL_second_30 : decode cL_second 30 = .ok (.aload_n 0, 1) := by decide +kernel
theorem dL_second_31 : decode cL_second 31 = .ok (.bipush 15, 2) := by decide +kernel
theorem dL_second_33 : decode cL_second 33 = .ok (.iconst 2, 1) := by decide +kernel
theorem dL_second_34 : decode cL_second 34 = .ok (.aload_n 0, 1) := by decide +kernel
theorem dL_second_35 : decode cL_second 35 = .ok (.bipush 15, 2) := by decide +kernel
theorem dL_second_37 : decode cL_second 37 = .ok (.iconst 2, 1) := by decide +kernel
theorem dL_second_38 : decode cL_second 38 = .ok (.iload_n 1, 1) := by decide +kernel
theorem dL_second_39 : decode cL_second 39 = .ok (.imul, 1) := by decide +kernel
theorem dL_second_40 : decode cL_second 40 = .ok (.iadd, 1) := by decide +kernel
theorem dL_second_41 : decode cL_second 41 = .ok (.iload 6, 2) := by decide +kernel
theorem dL_second_43 : decode cL_second 43 = .ok (.iconst 2, 1) := by decide +kernel
theorem dL_second_44 : decode cL_second 44 = .ok (.isub, 1) := by decide +kernel
theorem dL_second_45 : decode cL_second 45 = .ok (.iconst 2, 1) := by decide +kernel
theorem dL_second_46 : decode cL_second 46 = .ok (.idiv, 1) := by decide +kernel
theorem dL_second_47 : decode cL_second 47 = .ok (.iadd, 1) := by decide +kernel
theorem dL_second_48 : decode cL_second 48 = .ok (.iaload, 1) := by decide +kernel
theorem dL_second_49 : decode cL_second 49 = .ok (.imul, 1) := by decide +kernel
theorem dL_second_50 : decode cL_second 50 = .ok (.iadd, 1) := by decide +kernel
theorem dL_second_51 : decode cL_second 51 = .ok (.iload 6, 2) := by decide +kernel
theorem dL_second_53 : decode cL_second 53 = .ok (.iconst 2, 1) := by decide +kernel
theorem dL_second_54 : decode cL_second 54 = .ok (.irem, 1) := by decide +kernel
theorem dL_second_55 : decode cL_second 55 = .ok (.iadd, 1) := by decide +kernel
theorem dL_second_56 : decode cL_second 56 = .ok (.iaload, 1) := by decide +kernel
theorem dL_second_57 : decode cL_second 57 = .ok (.istore 7, 2) := by decide +kernel
theorem dL_second_59 : decode cL_second 59 = .ok (.iload 7, 2) := by decide +kernel
theorem dL_second_61 : decode cL_second 61 = .ok (.iload_n 1, 1) := by decide +kernel
theorem dL_second_62 : decode cL_second 62 = .ok (.if_icmp .eq 45, 3) := by decide +kernel
theorem dL_second_65 : decode cL_second 65 = .ok (.iload 7, 2) := by decide +kernel
theorem dL_second_67 : decode cL_second 67 = .ok (.iload_n 2, 1) := by decide +kernel
theorem dL_second_68 : decode cL_second 68 = .ok (.if_icmp .eq 39, 3) := by decide +kernel
theorem dL_second_71 : decode cL_second 71 = .ok (.iload_n 3, 1) := by decide +kernel
theorem dL_second_72 : decode cL_second 72 = .ok (.iload 7, 2) := by decide +kernel
theorem dL_second_74 : decode cL_second 74 = .ok (.ishr, 1) := by decide +kernel
theorem dL_second_75 : decode cL_second 75 = .ok (.iconst 1, 1) := by decide +kernel
theorem dL_second_76 : decode cL_second 76 = .ok (.iand, 1) := by decide +kernel
theorem dL_second_77 : decode cL_second 77 = .ok (.ifCond .ne 30, 3) := by decide +kernel
theorem dL_second_80 : decode cL_second 80 = .ok (.aload_n 0, 1) := by decide +kernel
theorem dL_second_81 : decode cL_second 81 = .ok (.iconst 2, 1) := by decide +kernel
theorem dL_second_82 : decode cL_second 82 = .ok (.iaload, 1) := by decide +kernel
theorem dL_second_83 : decode cL_second 83 = .ok (.iload 7, 2) := by decide +kernel
theorem dL_second_85 : decode cL_second 85 = .ok (.ishr, 1) := by decide +kernel
theorem dL_second_86 : decode cL_second 86 = .ok (.iconst 1, 1) := by decide +kernel
theorem dL_second_87 : decode cL_second 87 = .ok (.iand, 1) := by decide +kernel
theorem dL_second_88 : decode cL_second 88 = .ok (.ifCond .ne 19, 3) := by decide +kernel
theorem dL_second_91 : decode cL_second 91 = .ok (.aload 5, 2) := by decide +kernel
theorem dL_second_93 : decode cL_second 93 = .ok (.bipush 8, 2) := by decide +kernel
theorem dL_second_95 : decode cL_second 95 = .ok (.iload 7, 2) := by decide +kernel
theorem dL_second_97 : decode cL_second 97 = .ok (.iadd, 1) := by decide +kernel
theorem dL_second_98 : decode cL_second 98 = .ok (.iaload, 1) := by decide +kernel
theorem dL_second_99 : decode cL_second 99 = .ok (.iload 4, 2) := by decide +kernel
theorem dL_second_101 : decode cL_second 101 = .ok (.if_icmp .gt 6, 3) := by decide +kernel
theorem dL_second_104 : decode cL_second 104 = .ok (.iload 7, 2) := by decide +kernel
theorem dL_second_106 : decode cL_second 106 = .ok (.ireturn, 1) := by decide +kernel
theorem dL_second_107 : decode cL_second 107 = .ok (.iinc 6 1, 3) := by decide +kernel
theorem dL_second_110 : decode cL_second 110 = .ok (.goto (-107), 3) := by decide +kernel
theorem dL_second_113 : decode cL_second 113 = .ok (.bipush (-9), 2) := by decide +kernel
theorem dL_second_115 : decode cL_second 115 = .ok (.ireturn, 1) := by decide +kernel
theorem dL_go_0 : decode cL_go 0 = .ok (.aload 6, 2) := by decide +kernel
theorem dL_go_2 : decode cL_go 2 = .ok (.iconst 0, 1) := by decide +kernel
theorem dL_go_3 : decode cL_go 3 = .ok (.iconst 0, 1) := by decide +kernel
theorem dL_go_4 : decode cL_go 4 = .ok (.iastore, 1) := by decide +kernel
theorem dL_go_5 : decode cL_go 5 = .ok (.aload 6, 2) := by decide +kernel
theorem dL_go_7 : decode cL_go 7 = .ok (.bipush 7, 2) := by decide +kernel
theorem dL_go_9 : decode cL_go 9 = .ok (.iconst 0, 1) := by decide +kernel
theorem dL_go_10 : decode cL_go 10 = .ok (.iastore, 1) := by decide +kernel
theorem dL_go_11 : decode cL_go 11 = .ok (.iconst 0, 1) := by decide +kernel
theorem dL_go_12 : decode cL_go 12 = .ok (.istore 8, 2) := by decide +kernel
theorem dL_go_14 : decode cL_go 14 = .ok (.iload 8, 2) := by decide +kernel
theorem dL_go_16 : decode cL_go 16 = .ok (.bipush 6, 2) := by decide +kernel
theorem dL_go_18 : decode cL_go 18 = .ok (.if_icmp .ge 18, 3) := by decide +kernel
theorem dL_go_21 : decode cL_go 21 = .ok (.aload 6, 2) := by decide +kernel
theorem dL_go_23 : decode cL_go 23 = .ok (.bipush 8, 2) := by decide +kernel
theorem dL_go_25 : decode cL_go 25 = .ok (.iload 8, 2) := by decide +kernel
theorem dL_go_27 : decode cL_go 27 = .ok (.iadd, 1) := by decide +kernel
theorem dL_go_28 : decode cL_go 28 = .ok (.iconst 0, 1) := by decide +kernel
theorem dL_go_29 : decode cL_go 29 = .ok (.iastore, 1) := by decide +kernel
theorem dL_go_30 : decode cL_go 30 = .ok (.iinc 8 1, 3) := by decide +kernel
theorem dL_go_33 : decode cL_go 33 = .ok (.goto (-19), 3) := by decide +kernel
theorem dL_go_36 : decode cL_go 36 = .ok (.aload 6, 2) := by decide +kernel
theorem dL_go_38 : decode cL_go 38 = .ok (.bipush 14, 2) := by decide +kernel
theorem dL_go_40 : decode cL_go 40 = .ok (.iconst 0, 1) := by decide +kernel
theorem dL_go_41 : decode cL_go 41 = .ok (.iastore, 1) := by decide +kernel
theorem dL_go_42 : decode cL_go 42 = .ok (.aload 6, 2) := by decide +kernel
theorem dL_go_44 : decode cL_go 44 = .ok (.bipush 15, 2) := by decide +kernel
theorem dL_go_46 : decode cL_go 46 = .ok (.iconst 0, 1) := by decide +kernel
theorem dL_go_47 : decode cL_go 47 = .ok (.iastore, 1) := by decide +kernel
theorem dL_go_48 : decode cL_go 48 = .ok (.iconst 0, 1) := by decide +kernel
theorem dL_go_49 : decode cL_go 49 = .ok (.istore 8, 2) := by decide +kernel
theorem dL_go_51 : decode cL_go 51 = .ok (.iconst 0, 1) := by decide +kernel
theorem dL_go_52 : decode cL_go 52 = .ok (.istore 9, 2) := by decide +kernel
theorem dL_go_54 : decode cL_go 54 = .ok (.iload 9, 2) := by decide +kernel
theorem dL_go_56 : decode cL_go 56 = .ok (.iload 4, 2) := by decide +kernel
theorem dL_go_58 : decode cL_go 58 = .ok (.if_icmp .gt 558, 3) := by decide +kernel
theorem dL_go_61 : decode cL_go 61 = .ok (.aload 6, 2) := by decide +kernel
theorem dL_go_63 : decode cL_go 63 = .ok (.bipush 7, 2) := by decide +kernel
theorem dL_go_65 : decode cL_go 65 = .ok (.iconst 0, 1) := by decide +kernel
theorem dL_go_66 : decode cL_go 66 = .ok (.iastore, 1) := by decide +kernel
theorem dL_go_67 : decode cL_go 67 = .ok (.iconst 0, 1) := by decide +kernel
theorem dL_go_68 : decode cL_go 68 = .ok (.istore 10, 2) := by decide +kernel
theorem dL_go_70 : decode cL_go 70 = .ok (.iconst 0, 1) := by decide +kernel
theorem dL_go_71 : decode cL_go 71 = .ok (.istore 11, 2) := by decide +kernel
theorem dL_go_73 : decode cL_go 73 = .ok (.iload 11, 2) := by decide +kernel
theorem dL_go_75 : decode cL_go 75 = .ok (.iload_n 2, 1) := by decide +kernel
theorem dL_go_76 : decode cL_go 76 = .ok (.iload 8, 2) := by decide +kernel
theorem dL_go_78 : decode cL_go 78 = .ok (.iadd, 1) := by decide +kernel
theorem dL_go_79 : decode cL_go 79 = .ok (.if_icmp .ge 496, 3) := by decide +kernel
theorem dL_go_82 : decode cL_go 82 = .ok (.iload 11, 2) := by decide +kernel
theorem dL_go_84 : decode cL_go 84 = .ok (.iload_n 2, 1) := by decide +kernel
theorem dL_go_85 : decode cL_go 85 = .ok (.if_icmp .ge 12, 3) := by decide +kernel
theorem dL_go_88 : decode cL_go 88 = .ok (.aload_n 1, 1) := by decide +kernel
theorem dL_go_89 : decode cL_go 89 = .ok (.iconst 4, 1) := by decide +kernel
theorem dL_go_90 : decode cL_go 90 = .ok (.iload 11, 2) := by decide +kernel
theorem dL_go_92 : decode cL_go 92 = .ok (.imul, 1) := by decide +kernel
theorem dL_go_93 : decode cL_go 93 = .ok (.iaload, 1) := by decide +kernel
theorem dL_go_94 : decode cL_go 94 = .ok (.goto 12, 3) := by decide +kernel
theorem dL_go_97 : decode cL_go 97 = .ok (.aload 7, 2) := by decide +kernel
theorem dL_go_99 : decode cL_go 99 = .ok (.iconst 3, 1) := by decide +kernel
theorem dL_go_100 : decode cL_go 100 = .ok (.iload 11, 2) := by decide +kernel
theorem dL_go_102 : decode cL_go 102 = .ok (.iload_n 2, 1) := by decide +kernel
theorem dL_go_103 : decode cL_go 103 = .ok (.isub, 1) := by decide +kernel
theorem dL_go_104 : decode cL_go 104 = .ok (.imul, 1) := by decide +kernel
theorem dL_go_105 : decode cL_go 105 = .ok (.iaload, 1) := by decide +kernel
theorem dL_go_106 : decode cL_go 106 = .ok (.istore 12, 2) := by decide +kernel
theorem dL_go_108 : decode cL_go 108 = .ok (.iload 11, 2) := by decide +kernel
theorem dL_go_110 : decode cL_go 110 = .ok (.iload_n 2, 1) := by decide +kernel
theorem dL_go_111 : decode cL_go 111 = .ok (.if_icmp .ge 14, 3) := by decide +kernel
theorem dL_go_114 : decode cL_go 114 = .ok (.aload_n 1, 1) := by decide +kernel
theorem dL_go_115 : decode cL_go 115 = .ok (.iconst 4, 1) := by decide +kernel
theorem dL_go_116 : decode cL_go 116 = .ok (.iload 11, 2) := by decide +kernel
theorem dL_go_118 : decode cL_go 118 = .ok (.imul, 1) := by decide +kernel
theorem dL_go_119 : decode cL_go 119 = .ok (.iconst 1, 1) := by decide +kernel
theorem dL_go_120 : decode cL_go 120 = .ok (.iadd, 1) := by decide +kernel
theorem dL_go_121 : decode cL_go 121 = .ok (.iaload, 1) := by decide +kernel
theorem dL_go_122 : decode cL_go 122 = .ok (.goto 14, 3) := by decide +kernel
theorem dL_go_125 : decode cL_go 125 = .ok (.aload 7, 2) := by decide +kernel
theorem dL_go_127 : decode cL_go 127 = .ok (.iconst 3, 1) := by decide +kernel
theorem dL_go_128 : decode cL_go 128 = .ok (.iload 11, 2) := by decide +kernel
theorem dL_go_130 : decode cL_go 130 = .ok (.iload_n 2, 1) := by decide +kernel
theorem dL_go_131 : decode cL_go 131 = .ok (.isub, 1) := by decide +kernel
theorem dL_go_132 : decode cL_go 132 = .ok (.imul, 1) := by decide +kernel
theorem dL_go_133 : decode cL_go 133 = .ok (.iconst 1, 1) := by decide +kernel
theorem dL_go_134 : decode cL_go 134 = .ok (.iadd, 1) := by decide +kernel
theorem dL_go_135 : decode cL_go 135 = .ok (.iaload, 1) := by decide +kernel
theorem dL_go_136 : decode cL_go 136 = .ok (.istore 13, 2) := by decide +kernel
theorem dL_go_138 : decode cL_go 138 = .ok (.iload 11, 2) := by decide +kernel
theorem dL_go_140 : decode cL_go 140 = .ok (.iload_n 2, 1) := by decide +kernel
theorem dL_go_141 : decode cL_go 141 = .ok (.if_icmp .ge 14, 3) := by decide +kernel
theorem dL_go_144 : decode cL_go 144 = .ok (.aload_n 1, 1) := by decide +kernel
theorem dL_go_145 : decode cL_go 145 = .ok (.iconst 4, 1) := by decide +kernel
theorem dL_go_146 : decode cL_go 146 = .ok (.iload 11, 2) := by decide +kernel
theorem dL_go_148 : decode cL_go 148 = .ok (.imul, 1) := by decide +kernel
theorem dL_go_149 : decode cL_go 149 = .ok (.iconst 3, 1) := by decide +kernel
theorem dL_go_150 : decode cL_go 150 = .ok (.iadd, 1) := by decide +kernel
theorem dL_go_151 : decode cL_go 151 = .ok (.iaload, 1) := by decide +kernel
theorem dL_go_152 : decode cL_go 152 = .ok (.goto 14, 3) := by decide +kernel
theorem dL_go_155 : decode cL_go 155 = .ok (.aload 7, 2) := by decide +kernel
theorem dL_go_157 : decode cL_go 157 = .ok (.iconst 3, 1) := by decide +kernel
theorem dL_go_158 : decode cL_go 158 = .ok (.iload 11, 2) := by decide +kernel
theorem dL_go_160 : decode cL_go 160 = .ok (.iload_n 2, 1) := by decide +kernel
theorem dL_go_161 : decode cL_go 161 = .ok (.isub, 1) := by decide +kernel
theorem dL_go_162 : decode cL_go 162 = .ok (.imul, 1) := by decide +kernel
theorem dL_go_163 : decode cL_go 163 = .ok (.iconst 2, 1) := by decide +kernel
theorem dL_go_164 : decode cL_go 164 = .ok (.iadd, 1) := by decide +kernel
theorem dL_go_165 : decode cL_go 165 = .ok (.iaload, 1) := by decide +kernel
theorem dL_go_166 : decode cL_go 166 = .ok (.istore 14, 2) := by decide +kernel
theorem dL_go_168 : decode cL_go 168 = .ok (.iload 11, 2) := by decide +kernel
theorem dL_go_170 : decode cL_go 170 = .ok (.iload_n 2, 1) := by decide +kernel
theorem dL_go_171 : decode cL_go 171 = .ok (.if_icmp .ge 28, 3) := by decide +kernel
theorem dL_go_174 : decode cL_go 174 = .ok (.aload_n 1, 1) := by decide +kernel
theorem dL_go_175 : decode cL_go 175 = .ok (.iconst 4, 1) := by decide +kernel
theorem dL_go_176 : decode cL_go 176 = .ok (.iload 11, 2) := by decide +kernel
theorem dL_go_178 : decode cL_go 178 = .ok (.imul, 1) := by decide +kernel
theorem dL_go_179 : decode cL_go 179 = .ok (.iconst 2, 1) := by decide +kernel
theorem dL_go_180 : decode cL_go 180 = .ok (.iadd, 1) := by decide +kernel
theorem dL_go_181 : decode cL_go 181 = .ok (.iaload, 1) := by decide +kernel
theorem dL_go_182 : decode cL_go 182 = .ok (.iconst 1, 1) := by decide +kernel
theorem dL_go_183 : decode cL_go 183 = .ok (.iadd, 1) := by decide +kernel
theorem dL_go_184 : decode cL_go 184 = .ok (.iload 9, 2) := by decide +kernel
theorem dL_go_186 : decode cL_go 186 = .ok (.if_icmp .ne 383, 3) := by decide +kernel
theorem dL_go_189 : decode cL_go 189 = .ok (.iload_n 3, 1) := by decide +kernel
theorem dL_go_190 : decode cL_go 190 = .ok (.iload 11, 2) := by decide +kernel
theorem dL_go_192 : decode cL_go 192 = .ok (.ishr, 1) := by decide +kernel
theorem dL_go_193 : decode cL_go 193 = .ok (.iconst 1, 1) := by decide +kernel
theorem dL_go_194 : decode cL_go 194 = .ok (.iand, 1) := by decide +kernel
theorem dL_go_195 : decode cL_go 195 = .ok (.iconst 1, 1) := by decide +kernel
theorem dL_go_196 : decode cL_go 196 = .ok (.if_icmp .eq 373, 3) := by decide +kernel
theorem dL_go_199 : decode cL_go 199 = .ok (.iload 14, 2) := by decide +kernel
theorem dL_go_201 : decode cL_go 201 = .ok (.aload_n 0, 1) := by decide +kernel
theorem dL_go_202 : decode cL_go 202 = .ok (.iload 13, 2) := by decide +kernel
theorem dL_go_204 : decode cL_go 204 = .ok (.invokestatic 40, 3) := by decide +kernel
theorem dL_go_207 : decode cL_go 207 = .ok (.if_icmp .ge 6, 3) := by decide +kernel
theorem dL_go_210 : decode cL_go 210 = .ok (.goto 359, 3) := by decide +kernel
theorem dL_go_213 : decode cL_go 213 = .ok (.aload_n 0, 1) := by decide +kernel
theorem dL_go_214 : decode cL_go 214 = .ok (.iload 13, 2) := by decide +kernel
theorem dL_go_216 : decode cL_go 216 = .ok (.iload 12, 2) := by decide +kernel
theorem dL_go_218 : decode cL_go 218 = .ok (.aload 6, 2) := by decide +kernel
theorem dL_go_220 : decode cL_go 220 = .ok (.bipush 7, 2) := by decide +kernel
theorem dL_go_222 : decode cL_go 222 = .ok (.iaload, 1) := by decide +kernel
theorem dL_go_223 : decode cL_go 223 = .ok (.iload 9, 2) := by decide +kernel
theorem dL_go_225 : decode cL_go 225 = .ok (.aload 6, 2) := by decide +kernel
theorem dL_go_227 : decode cL_go 227 = .ok (.invokestatic 43, 3) := by decide +kernel
theorem dL_go_230 : decode cL_go 230 = .ok (.istore 15, 2) := by decide +kernel
theorem dL_go_232 : decode cL_go 232 = .ok (.iload 15, 2) := by decide +kernel
theorem dL_go_234 : decode cL_go 234 = .ok (.ifCond .ge 6, 3) := by decide +kernel
theorem dL_go_237 : decode cL_go 237 = .ok (.goto 332, 3) := by decide +kernel
theorem dL_go_240 : decode cL_go 240 = .ok (.aload_n 0, 1) := by decide +kernel
theorem dL_go_241 : decode cL_go 241 = .ok (.iload 12, 2) := by decide +kernel
theorem dL_go_243 : decode cL_go 243 = .ok (.iload 13, 2) := by decide +kernel
theorem dL_go_245 : decode cL_go 245 = .ok (.aload 6, 2) := by decide +kernel
theorem dL_go_247 : decode cL_go 247 = .ok (.bipush 7, 2) := by decide +kernel
theorem dL_go_249 : decode cL_go 249 = .ok (.iaload, 1) := by decide +kernel
theorem dL_go_250 : decode cL_go 250 = .ok (.iconst 1, 1) := by decide +kernel
theorem dL_go_251 : decode cL_go 251 = .ok (.iload 15, 2) := by decide +kernel
theorem dL_go_253 : decode cL_go 253 = .ok (.ishl, 1) := by decide +kernel
theorem dL_go_254 : decode cL_go 254 = .ok (.ior, 1) := by decide +kernel
theorem dL_go_255 : decode cL_go 255 = .ok (.iload 9, 2) := by decide +kernel
theorem dL_go_257 : decode cL_go 257 = .ok (.aload 6, 2) := by decide +kernel
theorem dL_go_259 : decode cL_go 259 = .ok (.invokestatic 43, 3) := by decide +kernel
theorem dL_go_262 : decode cL_go 262 = .ok (.istore 16, 2) := by decide +kernel
theorem dL_go_264 : decode cL_go 264 = .ok (.iload 16, 2) := by decide +kernel
theorem dL_go_266 : decode cL_go 266 = .ok (.ifCond .ge 6, 3) := by decide +kernel
theorem dL_go_269 : decode cL_go 269 = .ok (.goto 300, 3) := by decide +kernel
theorem dL_go_272 : decode cL_go 272 = .ok (.aload 6, 2) := by decide +kernel
theorem dL_go_274 : decode cL_go 274 = .ok (.bipush 7, 2) := by decide +kernel
theorem dL_go_276 : decode cL_go 276 = .ok (.dup2, 1) := by decide +kernel
theorem dL_go_277 : decode cL_go 277 = .ok (.iaload, 1) := by decide +kernel
theorem dL_go_278 : decode cL_go 278 = .ok (.iconst 1, 1) := by decide +kernel
theorem dL_go_279 : decode cL_go 279 = .ok (.iload 15, 2) := by decide +kernel
theorem dL_go_281 : decode cL_go 281 = .ok (.ishl, 1) := by decide +kernel
theorem dL_go_282 : decode cL_go 282 = .ok (.iconst 1, 1) := by decide +kernel
theorem dL_go_283 : decode cL_go 283 = .ok (.iload 16, 2) := by decide +kernel
theorem dL_go_285 : decode cL_go 285 = .ok (.ishl, 1) := by decide +kernel
theorem dL_go_286 : decode cL_go 286 = .ok (.ior, 1) := by decide +kernel
theorem dL_go_287 : decode cL_go 287 = .ok (.ior, 1) := by decide +kernel
theorem dL_go_288 : decode cL_go 288 = .ok (.iastore, 1) := by decide +kernel
theorem dL_go_289 : decode cL_go 289 = .ok (.aload_n 0, 1) := by decide +kernel
theorem dL_go_290 : decode cL_go 290 = .ok (.bipush 9, 2) := by decide +kernel
theorem dL_go_292 : decode cL_go 292 = .ok (.iload 15, 2) := by decide +kernel
theorem dL_go_294 : decode cL_go 294 = .ok (.iadd, 1) := by decide +kernel
theorem dL_go_295 : decode cL_go 295 = .ok (.iaload, 1) := by decide +kernel
theorem dL_go_296 : decode cL_go 296 = .ok (.aload_n 0, 1) := by decide +kernel
theorem dL_go_297 : decode cL_go 297 = .ok (.bipush 9, 2) := by decide +kernel
theorem dL_go_299 : decode cL_go 299 = .ok (.iload 16, 2) := by decide +kernel
theorem dL_go_301 : decode cL_go 301 = .ok (.iadd, 1) := by decide +kernel
theorem dL_go_302 : decode cL_go 302 = .ok (.iaload, 1) := by decide +kernel
theorem dL_go_303 : decode cL_go 303 = .ok (.if_icmp .ge 8, 3) := by decide +kernel
theorem dL_go_306 : decode cL_go 306 = .ok (.iload 15, 2) := by decide +kernel
theorem dL_go_308 : decode cL_go 308 = .ok (.goto 27, 3) := by decide +kernel
theorem dL_go_311 : decode cL_go 311 = .ok (.aload_n 0, 1) := by decide +kernel
theorem dL_go_312 : decode cL_go 312 = .ok (.bipush 9, 2) := by decide +kernel
theorem dL_go_314 : decode cL_go 314 = .ok (.iload 16, 2) := by decide +kernel
theorem dL_go_316 : decode cL_go 316 = .ok (.iadd, 1) := by decide +kernel
theorem dL_go_317 : decode cL_go 317 = .ok (.iaload, 1) := by decide +kernel
theorem dL_go_318 : decode cL_go 318 = .ok (.aload_n 0, 1) := by decide +kernel
theorem dL_go_319 : decode cL_go 319 = .ok (.bipush 9, 2) := by decide +kernel
theorem dL_go_321 : decode cL_go 321 = .ok (.iload 15, 2) := by decide +kernel
theorem dL_go_323 : decode cL_go 323 = .ok (.iadd, 1) := by decide +kernel
theorem dL_go_324 : decode cL_go 324 = .ok (.iaload, 1) := by decide +kernel
theorem dL_go_325 : decode cL_go 325 = .ok (.if_icmp .ge 8, 3) := by decide +kernel
theorem dL_go_328 : decode cL_go 328 = .ok (.iload 16, 2) := by decide +kernel
theorem dL_go_330 : decode cL_go 330 = .ok (.goto 5, 3) := by decide +kernel
theorem dL_go_333 : decode cL_go 333 = .ok (.bipush (-9), 2) := by decide +kernel
theorem dL_go_335 : decode cL_go 335 = .ok (.istore 17, 2) := by decide +kernel
theorem dL_go_337 : decode cL_go 337 = .ok (.aload 6, 2) := by decide +kernel
theorem dL_go_339 : decode cL_go 339 = .ok (.iconst 0, 1) := by decide +kernel
theorem dL_go_340 : decode cL_go 340 = .ok (.iaload, 1) := by decide +kernel
theorem dL_go_341 : decode cL_go 341 = .ok (.iload 5, 2) := by decide +kernel
theorem dL_go_343 : decode cL_go 343 = .ok (.if_icmp .ne 40, 3) := by decide +kernel
theorem dL_go_346 : decode cL_go 346 = .ok (.aload 6, 2) := by decide +kernel
theorem dL_go_348 : decode cL_go 348 = .ok (.iconst 1, 1) := by decide +kernel
theorem dL_go_349 : decode cL_go 349 = .ok (.iload 9, 2) := by decide +kernel
theorem dL_go_351 : decode cL_go 351 = .ok (.iastore, 1) := by decide +kernel
theorem dL_go_352 : decode cL_go 352 = .ok (.aload 6, 2) := by decide +kernel
theorem dL_go_354 : decode cL_go 354 = .ok (.iconst 2, 1) := by decide +kernel
theorem dL_go_355 : decode cL_go 355 = .ok (.iload 15, 2) := by decide +kernel
theorem dL_go_357 : decode cL_go 357 = .ok (.iastore, 1) := by decide +kernel
theorem dL_go_358 : decode cL_go 358 = .ok (.aload 6, 2) := by decide +kernel
theorem dL_go_360 : decode cL_go 360 = .ok (.iconst 3, 1) := by decide +kernel
theorem dL_go_361 : decode cL_go 361 = .ok (.iload 16, 2) := by decide +kernel
theorem dL_go_363 : decode cL_go 363 = .ok (.iastore, 1) := by decide +kernel
theorem dL_go_364 : decode cL_go 364 = .ok (.aload 6, 2) := by decide +kernel
theorem dL_go_366 : decode cL_go 366 = .ok (.iconst 4, 1) := by decide +kernel
theorem dL_go_367 : decode cL_go 367 = .ok (.iload 13, 2) := by decide +kernel
theorem dL_go_369 : decode cL_go 369 = .ok (.iastore, 1) := by decide +kernel
theorem dL_go_370 : decode cL_go 370 = .ok (.aload 6, 2) := by decide +kernel
theorem dL_go_372 : decode cL_go 372 = .ok (.iconst 5, 1) := by decide +kernel
theorem dL_go_373 : decode cL_go 373 = .ok (.iload 12, 2) := by decide +kernel
theorem dL_go_375 : decode cL_go 375 = .ok (.iastore, 1) := by decide +kernel
theorem dL_go_376 : decode cL_go 376 = .ok (.aload 6, 2) := by decide +kernel
theorem dL_go_378 : decode cL_go 378 = .ok (.bipush 6, 2) := by decide +kernel
theorem dL_go_380 : decode cL_go 380 = .ok (.iload 17, 2) := by decide +kernel
theorem dL_go_382 : decode cL_go 382 = .ok (.iastore, 1) := by decide +kernel
theorem dL_go_383 : decode cL_go 383 = .ok (.aload 6, 2) := by decide +kernel
theorem dL_go_385 : decode cL_go 385 = .ok (.iconst 0, 1) := by decide +kernel
theorem dL_go_386 : decode cL_go 386 = .ok (.dup2, 1) := by decide +kernel
theorem dL_go_387 : decode cL_go 387 = .ok (.iaload, 1) := by decide +kernel
theorem dL_go_388 : decode cL_go 388 = .ok (.iconst 1, 1) := by decide +kernel
theorem dL_go_389 : decode cL_go 389 = .ok (.iadd, 1) := by decide +kernel
theorem dL_go_390 : decode cL_go 390 = .ok (.iastore, 1) := by decide +kernel
theorem dL_go_391 : decode cL_go 391 = .ok (.iload 9, 2) := by decide +kernel
theorem dL_go_393 : decode cL_go 393 = .ok (.aload 6, 2) := by decide +kernel
theorem dL_go_395 : decode cL_go 395 = .ok (.bipush 18, 2) := by decide +kernel
theorem dL_go_397 : decode cL_go 397 = .ok (.iaload, 1) := by decide +kernel
theorem dL_go_398 : decode cL_go 398 = .ok (.if_icmp .le 49, 3) := by decide +kernel
theorem dL_go_401 : decode cL_go 401 = .ok (.iload 15, 2) := by decide +kernel
theorem dL_go_403 : decode cL_go 403 = .ok (.aload 6, 2) := by decide +kernel
theorem dL_go_405 : decode cL_go 405 = .ok (.bipush 16, 2) := by decide +kernel
theorem dL_go_407 : decode cL_go 407 = .ok (.iaload, 1) := by decide +kernel
theorem dL_go_408 : decode cL_go 408 = .ok (.if_icmp .ne 13, 3) := by decide +kernel
theorem dL_go_411 : decode cL_go 411 = .ok (.iload 16, 2) := by decide +kernel
theorem dL_go_413 : decode cL_go 413 = .ok (.aload 6, 2) := by decide +kernel
theorem dL_go_415 : decode cL_go 415 = .ok (.bipush 17, 2) := by decide +kernel
theorem dL_go_417 : decode cL_go 417 = .ok (.iaload, 1) := by decide +kernel
theorem dL_go_418 : decode cL_go 418 = .ok (.if_icmp .eq 23, 3) := by decide +kernel
theorem dL_go_421 : decode cL_go 421 = .ok (.iload 15, 2) := by decide +kernel
theorem dL_go_423 : decode cL_go 423 = .ok (.aload 6, 2) := by decide +kernel
theorem dL_go_425 : decode cL_go 425 = .ok (.bipush 17, 2) := by decide +kernel
theorem dL_go_427 : decode cL_go 427 = .ok (.iaload, 1) := by decide +kernel
theorem dL_go_428 : decode cL_go 428 = .ok (.if_icmp .ne 19, 3) := by decide +kernel
theorem dL_go_431 : decode cL_go 431 = .ok (.iload 16, 2) := by decide +kernel
theorem dL_go_433 : decode cL_go 433 = .ok (.aload 6, 2) := by decide +kernel
theorem dL_go_435 : decode cL_go 435 = .ok (.bipush 16, 2) := by decide +kernel
theorem dL_go_437 : decode cL_go 437 = .ok (.iaload, 1) := by decide +kernel
theorem dL_go_438 : decode cL_go 438 = .ok (.if_icmp .ne 9, 3) := by decide +kernel
theorem dL_go_441 : decode cL_go 441 = .ok (.aload 6, 2) := by decide +kernel
theorem dL_go_443 : decode cL_go 443 = .ok (.bipush 15, 2) := by decide +kernel
theorem dL_go_445 : decode cL_go 445 = .ok (.iconst 1, 1) := by decide +kernel
theorem dL_go_446 : decode cL_go 446 = .ok (.iastore, 1) := by decide +kernel
theorem dL_go_447 : decode cL_go 447 = .ok (.iload 17, 2) := by decide +kernel
theorem dL_go_449 : decode cL_go 449 = .ok (.ifCond .ge 6, 3) := by decide +kernel
theorem dL_go_452 : decode cL_go 452 = .ok (.goto 117, 3) := by decide +kernel
theorem dL_go_455 : decode cL_go 455 = .ok (.iload 15, 2) := by decide +kernel
theorem dL_go_457 : decode cL_go 457 = .ok (.iload 16, 2) := by decide +kernel
theorem dL_go_459 : decode cL_go 459 = .ok (.iadd, 1) := by decide +kernel
theorem dL_go_460 : decode cL_go 460 = .ok (.iload 17, 2) := by decide +kernel
theorem dL_go_462 : decode cL_go 462 = .ok (.isub, 1) := by decide +kernel
theorem dL_go_463 : decode cL_go 463 = .ok (.istore 18, 2) := by decide +kernel
theorem dL_go_465 : decode cL_go 465 = .ok (.aload_n 0, 1) := by decide +kernel
theorem dL_go_466 : decode cL_go 466 = .ok (.bipush 9, 2) := by decide +kernel
theorem dL_go_468 : decode cL_go 468 = .ok (.iload 18, 2) := by decide +kernel
theorem dL_go_470 : decode cL_go 470 = .ok (.iadd, 1) := by decide +kernel
theorem dL_go_471 : decode cL_go 471 = .ok (.iaload, 1) := by decide +kernel
theorem dL_go_472 : decode cL_go 472 = .ok (.aload_n 0, 1) := by decide +kernel
theorem dL_go_473 : decode cL_go 473 = .ok (.bipush 9, 2) := by decide +kernel
theorem dL_go_475 : decode cL_go 475 = .ok (.iload 17, 2) := by decide +kernel
theorem dL_go_477 : decode cL_go 477 = .ok (.iadd, 1) := by decide +kernel
theorem dL_go_478 : decode cL_go 478 = .ok (.iaload, 1) := by decide +kernel
theorem dL_go_479 : decode cL_go 479 = .ok (.isub, 1) := by decide +kernel
theorem dL_go_480 : decode cL_go 480 = .ok (.istore 19, 2) := by decide +kernel
theorem dL_go_482 : decode cL_go 482 = .ok (.aload 6, 2) := by decide +kernel
theorem dL_go_484 : decode cL_go 484 = .ok (.bipush 8, 2) := by decide +kernel
theorem dL_go_486 : decode cL_go 486 = .ok (.iload 17, 2) := by decide +kernel
theorem dL_go_488 : decode cL_go 488 = .ok (.iadd, 1) := by decide +kernel
theorem dL_go_489 : decode cL_go 489 = .ok (.iload 9, 2) := by decide +kernel
theorem dL_go_491 : decode cL_go 491 = .ok (.iload 19, 2) := by decide +kernel
theorem dL_go_493 : decode cL_go 493 = .ok (.iadd, 1) := by decide +kernel
theorem dL_go_494 : decode cL_go 494 = .ok (.iconst 2, 1) := by decide +kernel
theorem dL_go_495 : decode cL_go 495 = .ok (.iadd, 1) := by decide +kernel
theorem dL_go_496 : decode cL_go 496 = .ok (.iastore, 1) := by decide +kernel
theorem dL_go_497 : decode cL_go 497 = .ok (.aload 6, 2) := by decide +kernel
theorem dL_go_499 : decode cL_go 499 = .ok (.bipush 14, 2) := by decide +kernel
theorem dL_go_501 : decode cL_go 501 = .ok (.dup2, 1) := by decide +kernel
theorem dL_go_502 : decode cL_go 502 = .ok (.iaload, 1) := by decide +kernel
theorem dL_go_503 : decode cL_go 503 = .ok (.iconst 1, 1) := by decide +kernel
theorem dL_go_504 : decode cL_go 504 = .ok (.iload 17, 2) := by decide +kernel
theorem dL_go_506 : decode cL_go 506 = .ok (.ishl, 1) := by decide +kernel
theorem dL_go_507 : decode cL_go 507 = .ok (.ior, 1) := by decide +kernel
theorem dL_go_508 : decode cL_go 508 = .ok (.iastore, 1) := by decide +kernel
theorem dL_go_509 : decode cL_go 509 = .ok (.aload_n 0, 1) := by decide +kernel
theorem dL_go_510 : decode cL_go 510 = .ok (.bipush 15, 2) := by decide +kernel
theorem dL_go_512 : decode cL_go 512 = .ok (.iconst 2, 1) := by decide +kernel
theorem dL_go_513 : decode cL_go 513 = .ok (.iload 17, 2) := by decide +kernel
theorem dL_go_515 : decode cL_go 515 = .ok (.imul, 1) := by decide +kernel
theorem dL_go_516 : decode cL_go 516 = .ok (.iadd, 1) := by decide +kernel
theorem dL_go_517 : decode cL_go 517 = .ok (.iaload, 1) := by decide +kernel
theorem dL_go_518 : decode cL_go 518 = .ok (.istore 20, 2) := by decide +kernel
theorem dL_go_520 : decode cL_go 520 = .ok (.iload 20, 2) := by decide +kernel
theorem dL_go_522 : decode cL_go 522 = .ok (.iload 18, 2) := by decide +kernel
theorem dL_go_524 : decode cL_go 524 = .ok (.if_icmp .ne 6, 3) := by decide +kernel
theorem dL_go_527 : decode cL_go 527 = .ok (.goto 42, 3) := by decide +kernel
theorem dL_go_530 : decode cL_go 530 = .ok (.aload 7, 2) := by decide +kernel
theorem dL_go_532 : decode cL_go 532 = .ok (.bipush 12, 2) := by decide +kernel
theorem dL_go_534 : decode cL_go 534 = .ok (.iconst 3, 1) := by decide +kernel
theorem dL_go_535 : decode cL_go 535 = .ok (.iload 10, 2) := by decide +kernel
theorem dL_go_537 : decode cL_go 537 = .ok (.imul, 1) := by decide +kernel
theorem dL_go_538 : decode cL_go 538 = .ok (.iadd, 1) := by decide +kernel
theorem dL_go_539 : decode cL_go 539 = .ok (.iload 18, 2) := by decide +kernel
theorem dL_go_541 : decode cL_go 541 = .ok (.iastore, 1) := by decide +kernel
theorem dL_go_542 : decode cL_go 542 = .ok (.aload 7, 2) := by decide +kernel
theorem dL_go_544 : decode cL_go 544 = .ok (.bipush 13, 2) := by decide +kernel
theorem dL_go_546 : decode cL_go 546 = .ok (.iconst 3, 1) := by decide +kernel
theorem dL_go_547 : decode cL_go 547 = .ok (.iload 10, 2) := by decide +kernel
theorem dL_go_549 : decode cL_go 549 = .ok (.imul, 1) := by decide +kernel
theorem dL_go_550 : decode cL_go 550 = .ok (.iadd, 1) := by decide +kernel
theorem dL_go_551 : decode cL_go 551 = .ok (.iload 20, 2) := by decide +kernel
theorem dL_go_553 : decode cL_go 553 = .ok (.iastore, 1) := by decide +kernel
theorem dL_go_554 : decode cL_go 554 = .ok (.aload 7, 2) := by decide +kernel
theorem dL_go_556 : decode cL_go 556 = .ok (.bipush 14, 2) := by decide +kernel
theorem dL_go_558 : decode cL_go 558 = .ok (.iconst 3, 1) := by decide +kernel
theorem dL_go_559 : decode cL_go 559 = .ok (.iload 10, 2) := by decide +kernel
theorem dL_go_561 : decode cL_go 561 = .ok (.imul, 1) := by decide +kernel
theorem dL_go_562 : decode cL_go 562 = .ok (.iadd, 1) := by decide +kernel
theorem dL_go_563 : decode cL_go 563 = .ok (.iload 19, 2) := by decide +kernel
theorem dL_go_565 : decode cL_go 565 = .ok (.iastore, 1) := by decide +kernel
theorem dL_go_566 : decode cL_go 566 = .ok (.iinc 10 1, 3) := by decide +kernel
theorem dL_go_569 : decode cL_go 569 = .ok (.iinc 11 1, 3) := by decide +kernel
theorem dL_go_572 : decode cL_go 572 = .ok (.goto (-499), 3) := by decide +kernel
theorem dL_go_575 : decode cL_go 575 = .ok (.iconst 0, 1) := by decide +kernel
theorem dL_go_576 : decode cL_go 576 = .ok (.istore 11, 2) := by decide +kernel
theorem dL_go_578 : decode cL_go 578 = .ok (.iload 11, 2) := by decide +kernel
theorem dL_go_580 : decode cL_go 580 = .ok (.iconst 3, 1) := by decide +kernel
theorem dL_go_581 : decode cL_go 581 = .ok (.iload 10, 2) := by decide +kernel
theorem dL_go_583 : decode cL_go 583 = .ok (.imul, 1) := by decide +kernel
theorem dL_go_584 : decode cL_go 584 = .ok (.if_icmp .ge 22, 3) := by decide +kernel
theorem dL_go_587 : decode cL_go 587 = .ok (.aload 7, 2) := by decide +kernel
theorem dL_go_589 : decode cL_go 589 = .ok (.iload 11, 2) := by decide +kernel
theorem dL_go_591 : decode cL_go 591 = .ok (.aload 7, 2) := by decide +kernel
theorem dL_go_593 : decode cL_go 593 = .ok (.bipush 12, 2) := by decide +kernel
theorem dL_go_595 : decode cL_go 595 = .ok (.iload 11, 2) := by decide +kernel
theorem dL_go_597 : decode cL_go 597 = .ok (.iadd, 1) := by decide +kernel
theorem dL_go_598 : decode cL_go 598 = .ok (.iaload, 1) := by decide +kernel
theorem dL_go_599 : decode cL_go 599 = .ok (.iastore, 1) := by decide +kernel
theorem dL_go_600 : decode cL_go 600 = .ok (.iinc 11 1, 3) := by decide +kernel
theorem dL_go_603 : decode cL_go 603 = .ok (.goto (-25), 3) := by decide +kernel
theorem dL_go_606 : decode cL_go 606 = .ok (.iload 10, 2) := by decide +kernel
theorem dL_go_608 : decode cL_go 608 = .ok (.istore 8, 2) := by decide +kernel
theorem dL_go_610 : decode cL_go 610 = .ok (.iinc 9 1, 3) := by decide +kernel
theorem dL_go_613 : decode cL_go 613 = .ok (.goto (-559), 3) := by decide +kernel
theorem dL_go_616 : decode cL_go 616 = .ok (.return_, 1) := by decide +kernel
theorem dL_law_0 : decode cL_law 0 = .ok (.new 20, 3) := by decide +kernel
theorem dL_law_3 : decode cL_law 3 = .ok (.dup, 1) := by decide +kernel
theorem dL_law_4 : decode cL_law 4 = .ok (.invokespecial 47, 3) := by decide +kernel
theorem dL_law_7 : decode cL_law 7 = .ok (.astore_n 1, 1) := by decide +kernel
theorem dL_law_8 : decode cL_law 8 = .ok (.bipush 27, 2) := by decide +kernel
theorem dL_law_10 : decode cL_law 10 = .ok (.newarray .int, 2) := by decide +kernel
theorem dL_law_12 : decode cL_law 12 = .ok (.astore_n 2, 1) := by decide +kernel
theorem dL_law_13 : decode cL_law 13 = .ok (.aload_n 1, 1) := by decide +kernel
theorem dL_law_14 : decode cL_law 14 = .ok (.aload_n 0, 1) := by decide +kernel
theorem dL_law_15 : decode cL_law 15 = .ok (.iconst 0, 1) := by decide +kernel
theorem dL_law_16 : decode cL_law 16 = .ok (.bipush 6, 2) := by decide +kernel
theorem dL_law_18 : decode cL_law 18 = .ok (.aload_n 2, 1) := by decide +kernel
theorem dL_law_19 : decode cL_law 19 = .ok (.invokestatic 48, 3) := by decide +kernel
theorem dL_law_22 : decode cL_law 22 = .ok (.istore_n 3, 1) := by decide +kernel
theorem dL_law_23 : decode cL_law 23 = .ok (.aload_n 2, 1) := by decide +kernel
theorem dL_law_24 : decode cL_law 24 = .ok (.iconst 0, 1) := by decide +kernel
theorem dL_law_25 : decode cL_law 25 = .ok (.iaload, 1) := by decide +kernel
theorem dL_law_26 : decode cL_law 26 = .ok (.istore 4, 2) := by decide +kernel
theorem dL_law_28 : decode cL_law 28 = .ok (.iload_n 3, 1) := by decide +kernel
theorem dL_law_29 : decode cL_law 29 = .ok (.bipush 12, 2) := by decide +kernel
theorem dL_law_31 : decode cL_law 31 = .ok (.if_icmp .lt 16, 3) := by decide +kernel
theorem dL_law_34 : decode cL_law 34 = .ok (.aload_n 1, 1) := by decide +kernel
theorem dL_law_35 : decode cL_law 35 = .ok (.iconst 0, 1) := by decide +kernel
theorem dL_law_36 : decode cL_law 36 = .ok (.iconst 0, 1) := by decide +kernel
theorem dL_law_37 : decode cL_law 37 = .ok (.iconst 0, 1) := by decide +kernel
theorem dL_law_38 : decode cL_law 38 = .ok (.iload_n 3, 1) := by decide +kernel
theorem dL_law_39 : decode cL_law 39 = .ok (.invokevirtual 51, 3) := by decide +kernel
theorem dL_law_42 : decode cL_law 42 = .ok (.iload 4, 2) := by decide +kernel
theorem dL_law_44 : decode cL_law 44 = .ok (.if_icmp .eq 5, 3) := by decide +kernel
theorem dL_law_47 : decode cL_law 47 = .ok (.iconst 0, 1) := by decide +kernel
theorem dL_law_48 : decode cL_law 48 = .ok (.ireturn, 1) := by decide +kernel
theorem dL_law_49 : decode cL_law 49 = .ok (.bipush 36, 2) := by decide +kernel
theorem dL_law_51 : decode cL_law 51 = .ok (.newarray .int, 2) := by decide +kernel
theorem dL_law_53 : decode cL_law 53 = .ok (.astore 5, 2) := by decide +kernel
theorem dL_law_55 : decode cL_law 55 = .ok (.bipush 19, 2) := by decide +kernel
theorem dL_law_57 : decode cL_law 57 = .ok (.newarray .int, 2) := by decide +kernel
theorem dL_law_59 : decode cL_law 59 = .ok (.astore 6, 2) := by decide +kernel
theorem dL_law_61 : decode cL_law 61 = .ok (.bipush 24, 2) := by decide +kernel
theorem dL_law_63 : decode cL_law 63 = .ok (.newarray .int, 2) := by decide +kernel
theorem dL_law_65 : decode cL_law 65 = .ok (.astore 7, 2) := by decide +kernel
theorem dL_law_67 : decode cL_law 67 = .ok (.iconst 0, 1) := by decide +kernel
theorem dL_law_68 : decode cL_law 68 = .ok (.istore 8, 2) := by decide +kernel
theorem dL_law_70 : decode cL_law 70 = .ok (.iload 8, 2) := by decide +kernel
theorem dL_law_72 : decode cL_law 72 = .ok (.iconst 4, 1) := by decide +kernel
theorem dL_law_73 : decode cL_law 73 = .ok (.if_icmp .ge 726, 3) := by decide +kernel
theorem dL_law_76 : decode cL_law 76 = .ok (.aload_n 1, 1) := by decide +kernel
theorem dL_law_77 : decode cL_law 77 = .ok (.aload_n 0, 1) := by decide +kernel
theorem dL_law_78 : decode cL_law 78 = .ok (.iconst 4, 1) := by decide +kernel
theorem dL_law_79 : decode cL_law 79 = .ok (.iload 8, 2) := by decide +kernel
theorem dL_law_81 : decode cL_law 81 = .ok (.iadd, 1) := by decide +kernel
theorem dL_law_82 : decode cL_law 82 = .ok (.invokestatic 9, 3) := by decide +kernel
theorem dL_law_85 : decode cL_law 85 = .ok (.aload_n 0, 1) := by decide +kernel
theorem dL_law_86 : decode cL_law 86 = .ok (.bipush 8, 2) := by decide +kernel
theorem dL_law_88 : decode cL_law 88 = .ok (.iload 8, 2) := by decide +kernel
theorem dL_law_90 : decode cL_law 90 = .ok (.iadd, 1) := by decide +kernel
theorem dL_law_91 : decode cL_law 91 = .ok (.invokestatic 9, 3) := by decide +kernel
theorem dL_law_94 : decode cL_law 94 = .ok (.aload_n 2, 1) := by decide +kernel
theorem dL_law_95 : decode cL_law 95 = .ok (.aload 5, 2) := by decide +kernel
theorem dL_law_97 : decode cL_law 97 = .ok (.invokestatic 54, 3) := by decide +kernel
theorem dL_law_100 : decode cL_law 100 = .ok (.ifCond .ne 5, 3) := by decide +kernel
theorem dL_law_103 : decode cL_law 103 = .ok (.iconst 0, 1) := by decide +kernel
theorem dL_law_104 : decode cL_law 104 = .ok (.ireturn, 1) := by decide +kernel
theorem dL_law_105 : decode cL_law 105 = .ok (.iconst 0, 1) := by decide +kernel
theorem dL_law_106 : decode cL_law 106 = .ok (.istore 9, 2) := by decide +kernel
theorem dL_law_108 : decode cL_law 108 = .ok (.iload 9, 2) := by decide +kernel
theorem dL_law_110 : decode cL_law 110 = .ok (.iload 4, 2) := by decide +kernel
theorem dL_law_112 : decode cL_law 112 = .ok (.if_icmp .ge 116, 3) := by decide +kernel
theorem dL_law_115 : decode cL_law 115 = .ok (.aload_n 1, 1) := by decide +kernel
theorem dL_law_116 : decode cL_law 116 = .ok (.iload 9, 2) := by decide +kernel
theorem dL_law_118 : decode cL_law 118 = .ok (.iconst 0, 1) := by decide +kernel
theorem dL_law_119 : decode cL_law 119 = .ok (.invokevirtual 58, 3) := by decide +kernel
theorem dL_law_122 : decode cL_law 122 = .ok (.aload_n 2, 1) := by decide +kernel
theorem dL_law_123 : decode cL_law 123 = .ok (.iconst 3, 1) := by decide +kernel
theorem dL_law_124 : decode cL_law 124 = .ok (.iload 9, 2) := by decide +kernel
theorem dL_law_126 : decode cL_law 126 = .ok (.iadd, 1) := by decide +kernel
theorem dL_law_127 : decode cL_law 127 = .ok (.iaload, 1) := by decide +kernel
theorem dL_law_128 : decode cL_law 128 = .ok (.if_icmp .ne 92, 3) := by decide +kernel
theorem dL_law_131 : decode cL_law 131 = .ok (.aload_n 1, 1) := by decide +kernel
theorem dL_law_132 : decode cL_law 132 = .ok (.iload 9, 2) := by decide +kernel
theorem dL_law_134 : decode cL_law 134 = .ok (.iconst 1, 1) := by decide +kernel
theorem dL_law_135 : decode cL_law 135 = .ok (.invokevirtual 58, 3) := by decide +kernel
theorem dL_law_138 : decode cL_law 138 = .ok (.aload_n 2, 1) := by decide +kernel
theorem dL_law_139 : decode cL_law 139 = .ok (.bipush 9, 2) := by decide +kernel
theorem dL_law_141 : decode cL_law 141 = .ok (.iload 9, 2) := by decide +kernel
theorem dL_law_143 : decode cL_law 143 = .ok (.iadd, 1) := by decide +kernel
theorem dL_law_144 : decode cL_law 144 = .ok (.iaload, 1) := by decide +kernel
theorem dL_law_145 : decode cL_law 145 = .ok (.if_icmp .ne 75, 3) := by decide +kernel
theorem dL_law_148 : decode cL_law 148 = .ok (.aload_n 1, 1) := by decide +kernel
theorem dL_law_149 : decode cL_law 149 = .ok (.iload 9, 2) := by decide +kernel
theorem dL_law_151 : decode cL_law 151 = .ok (.iconst 2, 1) := by decide +kernel
theorem dL_law_152 : decode cL_law 152 = .ok (.invokevirtual 58, 3) := by decide +kernel
theorem dL_law_155 : decode cL_law 155 = .ok (.aload_n 2, 1) := by decide +kernel
theorem dL_law_156 : decode cL_law 156 = .ok (.bipush 15, 2) := by decide +kernel
theorem dL_law_158 : decode cL_law 158 = .ok (.iconst 2, 1) := by decide +kernel
theorem dL_law_159 : decode cL_law 159 = .ok (.iload 9, 2) := by decide +kernel
theorem dL_law_161 : decode cL_law 161 = .ok (.imul, 1) := by decide +kernel
theorem dL_law_162 : decode cL_law 162 = .ok (.iadd, 1) := by decide +kernel
theorem dL_law_163 : decode cL_law 163 = .ok (.iaload, 1) := by decide +kernel
theorem dL_law_164 : decode cL_law 164 = .ok (.if_icmp .ne 56, 3) := by decide +kernel
theorem dL_law_167 : decode cL_law 167 = .ok (.aload_n 1, 1) := by decide +kernel
theorem dL_law_168 : decode cL_law 168 = .ok (.iload 9, 2) := by decide +kernel
theorem dL_law_170 : decode cL_law 170 = .ok (.iconst 3, 1) := by decide +kernel
theorem dL_law_171 : decode cL_law 171 = .ok (.invokevirtual 58, 3) := by decide +kernel
theorem dL_law_174 : decode cL_law 174 = .ok (.aload_n 2, 1) := by decide +kernel
theorem dL_law_175 : decode cL_law 175 = .ok (.bipush 16, 2) := by decide +kernel
theorem dL_law_177 : decode cL_law 177 = .ok (.iconst 2, 1) := by decide +kernel
theorem dL_law_178 : decode cL_law 178 = .ok (.iload 9, 2) := by decide +kernel
theorem dL_law_180 : decode cL_law 180 = .ok (.imul, 1) := by decide +kernel
theorem dL_law_181 : decode cL_law 181 = .ok (.iadd, 1) := by decide +kernel
theorem dL_law_182 : decode cL_law 182 = .ok (.iaload, 1) := by decide +kernel
theorem dL_law_183 : decode cL_law 183 = .ok (.if_icmp .ne 37, 3) := by decide +kernel
theorem dL_law_186 : decode cL_law 186 = .ok (.aload_n 1, 1) := by decide +kernel
theorem dL_law_187 : decode cL_law 187 = .ok (.iload 9, 2) := by decide +kernel
theorem dL_law_189 : decode cL_law 189 = .ok (.iconst 4, 1) := by decide +kernel
theorem dL_law_190 : decode cL_law 190 = .ok (.invokevirtual 58, 3) := by decide +kernel
theorem dL_law_193 : decode cL_law 193 = .ok (.aload_n 2, 1) := by decide +kernel
theorem dL_law_194 : decode cL_law 194 = .ok (.iload 9, 2) := by decide +kernel
theorem dL_law_196 : decode cL_law 196 = .ok (.invokestatic 40, 3) := by decide +kernel
theorem dL_law_199 : decode cL_law 199 = .ok (.if_icmp .ne 21, 3) := by decide +kernel
theorem dL_law_202 : decode cL_law 202 = .ok (.aload_n 1, 1) := by decide +kernel
theorem dL_law_203 : decode cL_law 203 = .ok (.iload 9, 2) := by decide +kernel
theorem dL_law_205 : decode cL_law 205 = .ok (.iconst 5, 1) := by decide +kernel
theorem dL_law_206 : decode cL_law 206 = .ok (.invokevirtual 58, 3) := by decide +kernel
theorem dL_law_209 : decode cL_law 209 = .ok (.aload_n 2, 1) := by decide +kernel
theorem dL_law_210 : decode cL_law 210 = .ok (.iconst 2, 1) := by decide +kernel
theorem dL_law_211 : decode cL_law 211 = .ok (.iaload, 1) := by decide +kernel
theorem dL_law_212 : decode cL_law 212 = .ok (.iload 9, 2) := by decide +kernel
theorem dL_law_214 : decode cL_law 214 = .ok (.ishr, 1) := by decide +kernel
theorem dL_law_215 : decode cL_law 215 = .ok (.iconst 1, 1) := by decide +kernel
theorem dL_law_216 : decode cL_law 216 = .ok (.iand, 1) := by decide +kernel
theorem dL_law_217 : decode cL_law 217 = .ok (.if_icmp .eq 5, 3) := by decide +kernel
theorem dL_law_220 : decode cL_law 220 = .ok (.iconst 0, 1) := by decide +kernel
theorem dL_law_221 : decode cL_law 221 = .ok (.ireturn, 1) := by decide +kernel
theorem dL_law_222 : decode cL_law 222 = .ok (.iinc 9 1, 3) := by decide +kernel
theorem dL_law_225 : decode cL_law 225 = .ok (.goto (-117), 3) := by decide +kernel
theorem dL_law_228 : decode cL_law 228 = .ok (.aload_n 2, 1) := by decide +kernel
theorem dL_law_229 : decode cL_law 229 = .ok (.aload 5, 2) := by decide +kernel
theorem dL_law_231 : decode cL_law 231 = .ok (.aload_n 2, 1) := by decide +kernel
theorem dL_law_232 : decode cL_law 232 = .ok (.iconst 1, 1) := by decide +kernel
theorem dL_law_233 : decode cL_law 233 = .ok (.iaload, 1) := by decide +kernel
theorem dL_law_234 : decode cL_law 234 = .ok (.iconst 0, 1) := by decide +kernel
theorem dL_law_235 : decode cL_law 235 = .ok (.bipush 59, 2) := by decide +kernel
theorem dL_law_237 : decode cL_law 237 = .ok (.iconst (-1), 1) := by decide +kernel
theorem dL_law_238 : decode cL_law 238 = .ok (.aload 6, 2) := by decide +kernel
theorem dL_law_240 : decode cL_law 240 = .ok (.aload 7, 2) := by decide +kernel
theorem dL_law_242 : decode cL_law 242 = .ok (.invokestatic 61, 3) := by decide +kernel
theorem dL_law_245 : decode cL_law 245 = .ok (.aload 6, 2) := by decide +kernel
theorem dL_law_247 : decode cL_law 247 = .ok (.iconst 0, 1) := by decide +kernel
theorem dL_law_248 : decode cL_law 248 = .ok (.iaload, 1) := by decide +kernel
theorem dL_law_249 : decode cL_law 249 = .ok (.istore 9, 2) := by decide +kernel
theorem dL_law_251 : decode cL_law 251 = .ok (.aload_n 1, 1) := by decide +kernel
theorem dL_law_252 : decode cL_law 252 = .ok (.iconst 3, 1) := by decide +kernel
theorem dL_law_253 : decode cL_law 253 = .ok (.invokevirtual 65, 3) := by decide +kernel
theorem dL_law_256 : decode cL_law 256 = .ok (.iload 9, 2) := by decide +kernel
theorem dL_law_258 : decode cL_law 258 = .ok (.if_icmp .ne 24, 3) := by decide +kernel
theorem dL_law_261 : decode cL_law 261 = .ok (.aload_n 1, 1) := by decide +kernel
theorem dL_law_262 : decode cL_law 262 = .ok (.iload 9, 2) := by decide +kernel
theorem dL_law_264 : decode cL_law 264 = .ok (.iconst 0, 1) := by decide +kernel
theorem dL_law_265 : decode cL_law 265 = .ok (.invokevirtual 68, 3) := by decide +kernel
theorem dL_law_268 : decode cL_law 268 = .ok (.iconst (-1), 1) := by decide +kernel
theorem dL_law_269 : decode cL_law 269 = .ok (.if_icmp .ne 13, 3) := by decide +kernel
theorem dL_law_272 : decode cL_law 272 = .ok (.aload_n 1, 1) := by decide +kernel
theorem dL_law_273 : decode cL_law 273 = .ok (.iconst (-1), 1) := by decide +kernel
theorem dL_law_274 : decode cL_law 274 = .ok (.iconst 0, 1) := by decide +kernel
theorem dL_law_275 : decode cL_law 275 = .ok (.invokevirtual 68, 3) := by decide +kernel
theorem dL_law_278 : decode cL_law 278 = .ok (.iconst (-1), 1) := by decide +kernel
theorem dL_law_279 : decode cL_law 279 = .ok (.if_icmp .eq 5, 3) := by decide +kernel
theorem dL_law_282 : decode cL_law 282 = .ok (.iconst 0, 1) := by decide +kernel
theorem dL_law_283 : decode cL_law 283 = .ok (.ireturn, 1) := by decide +kernel
theorem dL_law_284 : decode cL_law 284 = .ok (.iconst 0, 1) := by decide +kernel
theorem dL_law_285 : decode cL_law 285 = .ok (.istore 10, 2) := by decide +kernel
theorem dL_law_287 : decode cL_law 287 = .ok (.iload 10, 2) := by decide +kernel
theorem dL_law_289 : decode cL_law 289 = .ok (.iload 9, 2) := by decide +kernel
theorem dL_law_291 : decode cL_law 291 = .ok (.if_icmp .ge 70, 3) := by decide +kernel
theorem dL_law_294 : decode cL_law 294 = .ok (.iload 10, 2) := by decide +kernel
theorem dL_law_296 : decode cL_law 296 = .ok (.bipush 9, 2) := by decide +kernel
theorem dL_law_298 : decode cL_law 298 = .ok (.if_icmp .ge 63, 3) := by decide +kernel
theorem dL_law_301 : decode cL_law 301 = .ok (.aload_n 2, 1) := by decide +kernel
theorem dL_law_302 : decode cL_law 302 = .ok (.aload 5, 2) := by decide +kernel
theorem dL_law_304 : decode cL_law 304 = .ok (.aload_n 2, 1) := by decide +kernel
theorem dL_law_305 : decode cL_law 305 = .ok (.iconst 1, 1) := by decide +kernel
theorem dL_law_306 : decode cL_law 306 = .ok (.iaload, 1) := by decide +kernel
theorem dL_law_307 : decode cL_law 307 = .ok (.iconst 0, 1) := by decide +kernel
theorem dL_law_308 : decode cL_law 308 = .ok (.bipush 59, 2) := by decide +kernel
theorem dL_law_310 : decode cL_law 310 = .ok (.iload 10, 2) := by decide +kernel
theorem dL_law_312 : decode cL_law 312 = .ok (.aload 6, 2) := by decide +kernel
theorem dL_law_314 : decode cL_law 314 = .ok (.aload 7, 2) := by decide +kernel
theorem dL_law_316 : decode cL_law 316 = .ok (.invokestatic 61, 3) := by decide +kernel
theorem dL_law_319 : decode cL_law 319 = .ok (.iconst 0, 1) := by decide +kernel
theorem dL_law_320 : decode cL_law 320 = .ok (.istore 11, 2) := by decide +kernel
theorem dL_law_322 : decode cL_law 322 = .ok (.iload 11, 2) := by decide +kernel
theorem dL_law_324 : decode cL_law 324 = .ok (.bipush 6, 2) := by decide +kernel
theorem dL_law_326 : decode cL_law 326 = .ok (.if_icmp .ge 29, 3) := by decide +kernel
theorem dL_law_329 : decode cL_law 329 = .ok (.aload_n 1, 1) := by decide +kernel
theorem dL_law_330 : decode cL_law 330 = .ok (.iload 10, 2) := by decide +kernel
theorem dL_law_332 : decode cL_law 332 = .ok (.iload 11, 2) := by decide +kernel
theorem dL_law_334 : decode cL_law 334 = .ok (.invokevirtual 68, 3) := by decide +kernel
theorem dL_law_337 : decode cL_law 337 = .ok (.aload 6, 2) := by decide +kernel
theorem dL_law_339 : decode cL_law 339 = .ok (.iconst 1, 1) := by decide +kernel
theorem dL_law_340 : decode cL_law 340 = .ok (.iload 11, 2) := by decide +kernel
theorem dL_law_342 : decode cL_law 342 = .ok (.iadd, 1) := by decide +kernel
theorem dL_law_343 : decode cL_law 343 = .ok (.iaload, 1) := by decide +kernel
theorem dL_law_344 : decode cL_law 344 = .ok (.if_icmp .eq 5, 3) := by decide +kernel
theorem dL_law_347 : decode cL_law 347 = .ok (.iconst 0, 1) := by decide +kernel
theorem dL_law_348 : decode cL_law 348 = .ok (.ireturn, 1) := by decide +kernel
theorem dL_law_349 : decode cL_law 349 = .ok (.iinc 11 1, 3) := by decide +kernel
theorem dL_law_352 : decode cL_law 352 = .ok (.goto (-30), 3) := by decide +kernel
theorem dL_law_355 : decode cL_law 355 = .ok (.iinc 10 1, 3) := by decide +kernel
theorem dL_law_358 : decode cL_law 358 = .ok (.goto (-71), 3) := by decide +kernel
theorem dL_law_361 : decode cL_law 361 = .ok (.iload 8, 2) := by decide +kernel
theorem dL_law_363 : decode cL_law 363 = .ok (.istore 10, 2) := by decide +kernel
theorem dL_law_365 : decode cL_law 365 = .ok (.iload 10, 2) := by decide +kernel
theorem dL_law_367 : decode cL_law 367 = .ok (.bipush 60, 2) := by decide +kernel
theorem dL_law_369 : decode cL_law 369 = .ok (.if_icmp .ge 189, 3) := by decide +kernel
theorem dL_law_372 : decode cL_law 372 = .ok (.aload_n 2, 1) := by decide +kernel
theorem dL_law_373 : decode cL_law 373 = .ok (.aload 5, 2) := by decide +kernel
theorem dL_law_375 : decode cL_law 375 = .ok (.aload_n 2, 1) := by decide +kernel
theorem dL_law_376 : decode cL_law 376 = .ok (.iconst 1, 1) := by decide +kernel
theorem dL_law_377 : decode cL_law 377 = .ok (.iaload, 1) := by decide +kernel
theorem dL_law_378 : decode cL_law 378 = .ok (.iconst 0, 1) := by decide +kernel
theorem dL_law_379 : decode cL_law 379 = .ok (.iload 10, 2) := by decide +kernel
theorem dL_law_381 : decode cL_law 381 = .ok (.iconst (-1), 1) := by decide +kernel
theorem dL_law_382 : decode cL_law 382 = .ok (.aload 6, 2) := by decide +kernel
theorem dL_law_384 : decode cL_law 384 = .ok (.aload 7, 2) := by decide +kernel
theorem dL_law_386 : decode cL_law 386 = .ok (.invokestatic 61, 3) := by decide +kernel
theorem dL_law_389 : decode cL_law 389 = .ok (.aload_n 1, 1) := by decide +kernel
theorem dL_law_390 : decode cL_law 390 = .ok (.iload 10, 2) := by decide +kernel
theorem dL_law_392 : decode cL_law 392 = .ok (.invokevirtual 71, 3) := by decide +kernel
theorem dL_law_395 : decode cL_law 395 = .ok (.aload 6, 2) := by decide +kernel
theorem dL_law_397 : decode cL_law 397 = .ok (.iconst 0, 1) := by decide +kernel
theorem dL_law_398 : decode cL_law 398 = .ok (.iaload, 1) := by decide +kernel
theorem dL_law_399 : decode cL_law 399 = .ok (.if_icmp .eq 5, 3) := by decide +kernel
theorem dL_law_402 : decode cL_law 402 = .ok (.iconst 0, 1) := by decide +kernel
theorem dL_law_403 : decode cL_law 403 = .ok (.ireturn, 1) := by decide +kernel
theorem dL_law_404 : decode cL_law 404 = .ok (.aload_n 2, 1) := by decide +kernel
theorem dL_law_405 : decode cL_law 405 = .ok (.aload 5, 2) := by decide +kernel
theorem dL_law_407 : decode cL_law 407 = .ok (.aload_n 2, 1) := by decide +kernel
theorem dL_law_408 : decode cL_law 408 = .ok (.iconst 1, 1) := by decide +kernel
theorem dL_law_409 : decode cL_law 409 = .ok (.iaload, 1) := by decide +kernel
theorem dL_law_410 : decode cL_law 410 = .ok (.iconst 0, 1) := by decide +kernel
theorem dL_law_411 : decode cL_law 411 = .ok (.iload 10, 2) := by decide +kernel
theorem dL_law_413 : decode cL_law 413 = .ok (.iconst 1, 1) := by decide +kernel
theorem dL_law_414 : decode cL_law 414 = .ok (.isub, 1) := by decide +kernel
theorem dL_law_415 : decode cL_law 415 = .ok (.iconst (-1), 1) := by decide +kernel
theorem dL_law_416 : decode cL_law 416 = .ok (.aload 6, 2) := by decide +kernel
theorem dL_law_418 : decode cL_law 418 = .ok (.aload 7, 2) := by decide +kernel
theorem dL_law_420 : decode cL_law 420 = .ok (.invokestatic 61, 3) := by decide +kernel
theorem dL_law_423 : decode cL_law 423 = .ok (.iconst 0, 1) := by decide +kernel
theorem dL_law_424 : decode cL_law 424 = .ok (.istore 11, 2) := by decide +kernel
theorem dL_law_426 : decode cL_law 426 = .ok (.iload 11, 2) := by decide +kernel
theorem dL_law_428 : decode cL_law 428 = .ok (.iload 4, 2) := by decide +kernel
theorem dL_law_430 : decode cL_law 430 = .ok (.if_icmp .ge 114, 3) := by decide +kernel
theorem dL_law_433 : decode cL_law 433 = .ok (.aload_n 2, 1) := by decide +kernel
theorem dL_law_434 : decode cL_law 434 = .ok (.iconst 2, 1) := by decide +kernel
theorem dL_law_435 : decode cL_law 435 = .ok (.iaload, 1) := by decide +kernel
theorem dL_law_436 : decode cL_law 436 = .ok (.iload 11, 2) := by decide +kernel
theorem dL_law_438 : decode cL_law 438 = .ok (.ishr, 1) := by decide +kernel
theorem dL_law_439 : decode cL_law 439 = .ok (.iconst 1, 1) := by decide +kernel
theorem dL_law_440 : decode cL_law 440 = .ok (.iand, 1) := by decide +kernel
theorem dL_law_441 : decode cL_law 441 = .ok (.ifCond .ne 20, 3) := by decide +kernel
theorem dL_law_444 : decode cL_law 444 = .ok (.aload 6, 2) := by decide +kernel
theorem dL_law_446 : decode cL_law 446 = .ok (.bipush 8, 2) := by decide +kernel
theorem dL_law_448 : decode cL_law 448 = .ok (.iload 11, 2) := by decide +kernel
theorem dL_law_450 : decode cL_law 450 = .ok (.iadd, 1) := by decide +kernel
theorem dL_law_451 : decode cL_law 451 = .ok (.iaload, 1) := by decide +kernel
theorem dL_law_452 : decode cL_law 452 = .ok (.iload 10, 2) := by decide +kernel
theorem dL_law_454 : decode cL_law 454 = .ok (.if_icmp .gt 7, 3) := by decide +kernel
theorem dL_law_457 : decode cL_law 457 = .ok (.iconst 1, 1) := by decide +kernel
theorem dL_law_458 : decode cL_law 458 = .ok (.goto 4, 3) := by decide +kernel
theorem dL_law_461 : decode cL_law 461 = .ok (.iconst 0, 1) := by decide +kernel
theorem dL_law_462 : decode cL_law 462 = .ok (.istore 12, 2) := by decide +kernel
theorem dL_law_464 : decode cL_law 464 = .ok (.aload_n 1, 1) := by decide +kernel
theorem dL_law_465 : decode cL_law 465 = .ok (.iload 11, 2) := by decide +kernel
theorem dL_law_467 : decode cL_law 467 = .ok (.iload 10, 2) := by decide +kernel
theorem dL_law_469 : decode cL_law 469 = .ok (.invokevirtual 74, 3) := by decide +kernel
theorem dL_law_472 : decode cL_law 472 = .ok (.iload 12, 2) := by decide +kernel
theorem dL_law_474 : decode cL_law 474 = .ok (.ifCond .eq 7, 3) := by decide +kernel
theorem dL_law_477 : decode cL_law 477 = .ok (.iconst 1, 1) := by decide +kernel
theorem dL_law_478 : decode cL_law 478 = .ok (.goto 4, 3) := by decide +kernel
theorem dL_law_481 : decode cL_law 481 = .ok (.iconst 0, 1) := by decide +kernel
theorem dL_law_482 : decode cL_law 482 = .ok (.if_icmp .eq 5, 3) := by decide +kernel
theorem dL_law_485 : decode cL_law 485 = .ok (.iconst 0, 1) := by decide +kernel
theorem dL_law_486 : decode cL_law 486 = .ok (.ireturn, 1) := by decide +kernel
theorem dL_law_487 : decode cL_law 487 = .ok (.iload 11, 2) := by decide +kernel
theorem dL_law_489 : decode cL_law 489 = .ok (.iconst 1, 1) := by decide +kernel
theorem dL_law_490 : decode cL_law 490 = .ok (.iadd, 1) := by decide +kernel
theorem dL_law_491 : decode cL_law 491 = .ok (.iload 8, 2) := by decide +kernel
theorem dL_law_493 : decode cL_law 493 = .ok (.iadd, 1) := by decide +kernel
theorem dL_law_494 : decode cL_law 494 = .ok (.iload 4, 2) := by decide +kernel
theorem dL_law_496 : decode cL_law 496 = .ok (.irem, 1) := by decide +kernel
theorem dL_law_497 : decode cL_law 497 = .ok (.istore 13, 2) := by decide +kernel
theorem dL_law_499 : decode cL_law 499 = .ok (.aload_n 1, 1) := by decide +kernel
theorem dL_law_500 : decode cL_law 500 = .ok (.iload 11, 2) := by decide +kernel
theorem dL_law_502 : decode cL_law 502 = .ok (.iload 13, 2) := by decide +kernel
theorem dL_law_504 : decode cL_law 504 = .ok (.iload 10, 2) := by decide +kernel
theorem dL_law_506 : decode cL_law 506 = .ok (.invokevirtual 77, 3) := by decide +kernel
theorem dL_law_509 : decode cL_law 509 = .ok (.iload 13, 2) := by decide +kernel
theorem dL_law_511 : decode cL_law 511 = .ok (.iload 11, 2) := by decide +kernel
theorem dL_law_513 : decode cL_law 513 = .ok (.if_icmp .ne 7, 3) := by decide +kernel
theorem dL_law_516 : decode cL_law 516 = .ok (.iconst (-1), 1) := by decide +kernel
theorem dL_law_517 : decode cL_law 517 = .ok (.goto 16, 3) := by decide +kernel
theorem dL_law_520 : decode cL_law 520 = .ok (.aload_n 2, 1) := by decide +kernel
theorem dL_law_521 : decode cL_law 521 = .ok (.iload 11, 2) := by decide +kernel
theorem dL_law_523 : decode cL_law 523 = .ok (.iload 13, 2) := by decide +kernel
theorem dL_law_525 : decode cL_law 525 = .ok (.iconst 0, 1) := by decide +kernel
theorem dL_law_526 : decode cL_law 526 = .ok (.iload 10, 2) := by decide +kernel
theorem dL_law_528 : decode cL_law 528 = .ok (.aload 6, 2) := by decide +kernel
theorem dL_law_530 : decode cL_law 530 = .ok (.invokestatic 43, 3) := by decide +kernel
theorem dL_law_533 : decode cL_law 533 = .ok (.if_icmp .eq 5, 3) := by decide +kernel
theorem dL_law_536 : decode cL_law 536 = .ok (.iconst 0, 1) := by decide +kernel
theorem dL_law_537 : decode cL_law 537 = .ok (.ireturn, 1) := by decide +kernel
theorem dL_law_538 : decode cL_law 538 = .ok (.iinc 11 1, 3) := by decide +kernel
theorem dL_law_541 : decode cL_law 541 = .ok (.goto (-115), 3) := by decide +kernel
theorem dL_law_544 : decode cL_law 544 = .ok (.iload 10, 2) := by decide +kernel
theorem dL_law_546 : decode cL_law 546 = .ok (.iconst 1, 1) := by decide +kernel
theorem dL_law_547 : decode cL_law 547 = .ok (.iload 10, 2) := by decide +kernel
theorem dL_law_549 : decode cL_law 549 = .ok (.iconst 4, 1) := by decide +kernel
theorem dL_law_550 : decode cL_law 550 = .ok (.idiv, 1) := by decide +kernel
theorem dL_law_551 : decode cL_law 551 = .ok (.iadd, 1) := by decide +kernel
theorem dL_law_552 : decode cL_law 552 = .ok (.iadd, 1) := by decide +kernel
theorem dL_law_553 : decode cL_law 553 = .ok (.istore 10, 2) := by decide +kernel
theorem dL_law_555 : decode cL_law 555 = .ok (.goto (-190), 3) := by decide +kernel
theorem dL_law_558 : decode cL_law 558 = .ok (.iconst 0, 1) := by decide +kernel
theorem dL_law_559 : decode cL_law 559 = .ok (.istore 10, 2) := by decide +kernel
theorem dL_law_561 : decode cL_law 561 = .ok (.iload 10, 2) := by decide +kernel
theorem dL_law_563 : decode cL_law 563 = .ok (.aload_n 2, 1) := by decide +kernel
theorem dL_law_564 : decode cL_law 564 = .ok (.iconst 1, 1) := by decide +kernel
theorem dL_law_565 : decode cL_law 565 = .ok (.iaload, 1) := by decide +kernel
theorem dL_law_566 : decode cL_law 566 = .ok (.if_icmp .ge 51, 3) := by decide +kernel
theorem dL_law_569 : decode cL_law 569 = .ok (.aload_n 2, 1) := by decide +kernel
theorem dL_law_570 : decode cL_law 570 = .ok (.aload 5, 2) := by decide +kernel
theorem dL_law_572 : decode cL_law 572 = .ok (.aload_n 2, 1) := by decide +kernel
theorem dL_law_573 : decode cL_law 573 = .ok (.iconst 1, 1) := by decide +kernel
theorem dL_law_574 : decode cL_law 574 = .ok (.iaload, 1) := by decide +kernel
theorem dL_law_575 : decode cL_law 575 = .ok (.iconst 1, 1) := by decide +kernel
theorem dL_law_576 : decode cL_law 576 = .ok (.iload 10, 2) := by decide +kernel
theorem dL_law_578 : decode cL_law 578 = .ok (.ishl, 1) := by decide +kernel
theorem dL_law_579 : decode cL_law 579 = .ok (.bipush 59, 2) := by decide +kernel
theorem dL_law_581 : decode cL_law 581 = .ok (.iconst (-1), 1) := by decide +kernel
theorem dL_law_582 : decode cL_law 582 = .ok (.aload 6, 2) := by decide +kernel
theorem dL_law_584 : decode cL_law 584 = .ok (.aload 7, 2) := by decide +kernel
theorem dL_law_586 : decode cL_law 586 = .ok (.invokestatic 61, 3) := by decide +kernel
theorem dL_law_589 : decode cL_law 589 = .ok (.aload_n 1, 1) := by decide +kernel
theorem dL_law_590 : decode cL_law 590 = .ok (.iload 10, 2) := by decide +kernel
theorem dL_law_592 : decode cL_law 592 = .ok (.invokevirtual 79, 3) := by decide +kernel
theorem dL_law_595 : decode cL_law 595 = .ok (.sipush 1000, 3) := by decide +kernel
theorem dL_law_598 : decode cL_law 598 = .ok (.iload 9, 2) := by decide +kernel
theorem dL_law_600 : decode cL_law 600 = .ok (.iadd, 1) := by decide +kernel
theorem dL_law_601 : decode cL_law 601 = .ok (.aload 6, 2) := by decide +kernel
theorem dL_law_603 : decode cL_law 603 = .ok (.iconst 0, 1) := by decide +kernel
theorem dL_law_604 : decode cL_law 604 = .ok (.iaload, 1) := by decide +kernel
theorem dL_law_605 : decode cL_law 605 = .ok (.isub, 1) := by decide +kernel
theorem dL_law_606 : decode cL_law 606 = .ok (.if_icmp .eq 5, 3) := by decide +kernel
theorem dL_law_609 : decode cL_law 609 = .ok (.iconst 0, 1) := by decide +kernel
theorem dL_law_610 : decode cL_law 610 = .ok (.ireturn, 1) := by decide +kernel
theorem dL_law_611 : decode cL_law 611 = .ok (.iinc 10 1, 3) := by decide +kernel
theorem dL_law_614 : decode cL_law 614 = .ok (.goto (-53), 3) := by decide +kernel
theorem dL_law_617 : decode cL_law 617 = .ok (.aload_n 0, 1) := by decide +kernel
theorem dL_law_618 : decode cL_law 618 = .ok (.bipush 12, 2) := by decide +kernel
theorem dL_law_620 : decode cL_law 620 = .ok (.iload 8, 2) := by decide +kernel
theorem dL_law_622 : decode cL_law 622 = .ok (.iadd, 1) := by decide +kernel
theorem dL_law_623 : decode cL_law 623 = .ok (.invokestatic 9, 3) := by decide +kernel
theorem dL_law_626 : decode cL_law 626 = .ok (.bipush 9, 2) := by decide +kernel
theorem dL_law_628 : decode cL_law 628 = .ok (.invokestatic 15, 3) := by decide +kernel
theorem dL_law_631 : decode cL_law 631 = .ok (.istore 10, 2) := by decide +kernel
theorem dL_law_633 : decode cL_law 633 = .ok (.iconst 0, 1) := by decide +kernel
theorem dL_law_634 : decode cL_law 634 = .ok (.istore 11, 2) := by decide +kernel
theorem dL_law_636 : decode cL_law 636 = .ok (.iconst 1, 1) := by decide +kernel
theorem dL_law_637 : decode cL_law 637 = .ok (.istore 12, 2) := by decide +kernel
theorem dL_law_639 : decode cL_law 639 = .ok (.aload_n 1, 1) := by decide +kernel
theorem dL_law_640 : decode cL_law 640 = .ok (.iconst 1, 1) := by decide +kernel
theorem dL_law_641 : decode cL_law 641 = .ok (.iconst 1, 1) := by decide +kernel
theorem dL_law_642 : decode cL_law 642 = .ok (.bipush 12, 2) := by decide +kernel
theorem dL_law_644 : decode cL_law 644 = .ok (.invokevirtual 19, 3) := by decide +kernel
theorem dL_law_647 : decode cL_law 647 = .ok (.iconst 1, 1) := by decide +kernel
theorem dL_law_648 : decode cL_law 648 = .ok (.if_icmp .eq 5, 3) := by decide +kernel
theorem dL_law_651 : decode cL_law 651 = .ok (.iconst 0, 1) := by decide +kernel
theorem dL_law_652 : decode cL_law 652 = .ok (.ireturn, 1) := by decide +kernel
theorem dL_law_653 : decode cL_law 653 = .ok (.iconst 0, 1) := by decide +kernel
theorem dL_law_654 : decode cL_law 654 = .ok (.istore 13, 2) := by decide +kernel
theorem dL_law_656 : decode cL_law 656 = .ok (.iload 13, 2) := by decide +kernel
theorem dL_law_658 : decode cL_law 658 = .ok (.iload 10, 2) := by decide +kernel
theorem dL_law_660 : decode cL_law 660 = .ok (.if_icmp .ge 117, 3) := by decide +kernel
theorem dL_law_663 : decode cL_law 663 = .ok (.aload_n 0, 1) := by decide +kernel
theorem dL_law_664 : decode cL_law 664 = .ok (.bipush 12, 2) := by decide +kernel
theorem dL_law_666 : decode cL_law 666 = .ok (.iload 8, 2) := by decide +kernel
theorem dL_law_668 : decode cL_law 668 = .ok (.iadd, 1) := by decide +kernel
theorem dL_law_669 : decode cL_law 669 = .ok (.invokestatic 9, 3) := by decide +kernel
theorem dL_law_672 : decode cL_law 672 = .ok (.iconst 3, 1) := by decide +kernel
theorem dL_law_673 : decode cL_law 673 = .ok (.iload 13, 2) := by decide +kernel
theorem dL_law_675 : decode cL_law 675 = .ok (.iadd, 1) := by decide +kernel
theorem dL_law_676 : decode cL_law 676 = .ok (.ishr, 1) := by decide +kernel
theorem dL_law_677 : decode cL_law 677 = .ok (.iload 4, 2) := by decide +kernel
theorem dL_law_679 : decode cL_law 679 = .ok (.invokestatic 15, 3) := by decide +kernel
theorem dL_law_682 : decode cL_law 682 = .ok (.istore 14, 2) := by decide +kernel
theorem dL_law_684 : decode cL_law 684 = .ok (.aload_n 1, 1) := by decide +kernel
theorem dL_law_685 : decode cL_law 685 = .ok (.iconst 1, 1) := by decide +kernel
theorem dL_law_686 : decode cL_law 686 = .ok (.iconst 2, 1) := by decide +kernel
theorem dL_law_687 : decode cL_law 687 = .ok (.iload 13, 2) := by decide +kernel
theorem dL_law_689 : decode cL_law 689 = .ok (.iadd, 1) := by decide +kernel
theorem dL_law_690 : decode cL_law 690 = .ok (.iload 14, 2) := by decide +kernel
theorem dL_law_692 : decode cL_law 692 = .ok (.invokevirtual 25, 3) := by decide +kernel
theorem dL_law_695 : decode cL_law 695 = .ok (.iconst 1, 1) := by decide +kernel
theorem dL_law_696 : decode cL_law 696 = .ok (.if_icmp .eq 5, 3) := by decide +kernel
theorem dL_law_699 : decode cL_law 699 = .ok (.iconst 0, 1) := by decide +kernel
theorem dL_law_700 : decode cL_law 700 = .ok (.ireturn, 1) := by decide +kernel
theorem dL_law_701 : decode cL_law 701 = .ok (.aload_n 2, 1) := by decide +kernel
theorem dL_law_702 : decode cL_law 702 = .ok (.aload 5, 2) := by decide +kernel
theorem dL_law_704 : decode cL_law 704 = .ok (.aload_n 2, 1) := by decide +kernel
theorem dL_law_705 : decode cL_law 705 = .ok (.iconst 1, 1) := by decide +kernel
theorem dL_law_706 : decode cL_law 706 = .ok (.iaload, 1) := by decide +kernel
theorem dL_law_707 : decode cL_law 707 = .ok (.iconst 0, 1) := by decide +kernel
theorem dL_law_708 : decode cL_law 708 = .ok (.iload 13, 2) := by decide +kernel
theorem dL_law_710 : decode cL_law 710 = .ok (.iconst 1, 1) := by decide +kernel
theorem dL_law_711 : decode cL_law 711 = .ok (.isub, 1) := by decide +kernel
theorem dL_law_712 : decode cL_law 712 = .ok (.iconst (-1), 1) := by decide +kernel
theorem dL_law_713 : decode cL_law 713 = .ok (.aload 6, 2) := by decide +kernel
theorem dL_law_715 : decode cL_law 715 = .ok (.aload 7, 2) := by decide +kernel
theorem dL_law_717 : decode cL_law 717 = .ok (.invokestatic 61, 3) := by decide +kernel
theorem dL_law_720 : decode cL_law 720 = .ok (.iload 12, 2) := by decide +kernel
theorem dL_law_722 : decode cL_law 722 = .ok (.ifCond .eq 31, 3) := by decide +kernel
theorem dL_law_725 : decode cL_law 725 = .ok (.aload_n 2, 1) := by decide +kernel
theorem dL_law_726 : decode cL_law 726 = .ok (.iconst 2, 1) := by decide +kernel
theorem dL_law_727 : decode cL_law 727 = .ok (.iaload, 1) := by decide +kernel
theorem dL_law_728 : decode cL_law 728 = .ok (.iload 14, 2) := by decide +kernel
theorem dL_law_730 : decode cL_law 730 = .ok (.ishr, 1) := by decide +kernel
theorem dL_law_731 : decode cL_law 731 = .ok (.iconst 1, 1) := by decide +kernel
theorem dL_law_732 : decode cL_law 732 = .ok (.iand, 1) := by decide +kernel
theorem dL_law_733 : decode cL_law 733 = .ok (.ifCond .ne 20, 3) := by decide +kernel
theorem dL_law_736 : decode cL_law 736 = .ok (.aload 6, 2) := by decide +kernel
theorem dL_law_738 : decode cL_law 738 = .ok (.bipush 8, 2) := by decide +kernel
theorem dL_law_740 : decode cL_law 740 = .ok (.iload 14, 2) := by decide +kernel
theorem dL_law_742 : decode cL_law 742 = .ok (.iadd, 1) := by decide +kernel
theorem dL_law_743 : decode cL_law 743 = .ok (.iaload, 1) := by decide +kernel
theorem dL_law_744 : decode cL_law 744 = .ok (.iload 13, 2) := by decide +kernel
theorem dL_law_746 : decode cL_law 746 = .ok (.if_icmp .gt 7, 3) := by decide +kernel
theorem dL_law_749 : decode cL_law 749 = .ok (.iconst 1, 1) := by decide +kernel
theorem dL_law_750 : decode cL_law 750 = .ok (.goto 4, 3) := by decide +kernel
theorem dL_law_753 : decode cL_law 753 = .ok (.iconst 0, 1) := by decide +kernel
theorem dL_law_754 : decode cL_law 754 = .ok (.istore 12, 2) := by decide +kernel
theorem dL_law_756 : decode cL_law 756 = .ok (.iload 11, 2) := by decide +kernel
theorem dL_law_758 : decode cL_law 758 = .ok (.iload 12, 2) := by decide +kernel
theorem dL_law_760 : decode cL_law 760 = .ok (.ifCond .eq 7, 3) := by decide +kernel
theorem dL_law_763 : decode cL_law 763 = .ok (.iconst 1, 1) := by decide +kernel
theorem dL_law_764 : decode cL_law 764 = .ok (.goto 4, 3) := by decide +kernel
theorem dL_law_767 : decode cL_law 767 = .ok (.iconst 0, 1) := by decide +kernel
theorem dL_law_768 : decode cL_law 768 = .ok (.iadd, 1) := by decide +kernel
theorem dL_law_769 : decode cL_law 769 = .ok (.istore 11, 2) := by decide +kernel
theorem dL_law_771 : decode cL_law 771 = .ok (.iinc 13 1, 3) := by decide +kernel
theorem dL_law_774 : decode cL_law 774 = .ok (.goto (-118), 3) := by decide +kernel
theorem dL_law_777 : decode cL_law 777 = .ok (.aload_n 1, 1) := by decide +kernel
theorem dL_law_778 : decode cL_law 778 = .ok (.iconst 1, 1) := by decide +kernel
theorem dL_law_779 : decode cL_law 779 = .ok (.iconst 1, 1) := by decide +kernel
theorem dL_law_780 : decode cL_law 780 = .ok (.iconst 2, 1) := by decide +kernel
theorem dL_law_781 : decode cL_law 781 = .ok (.iload 10, 2) := by decide +kernel
theorem dL_law_783 : decode cL_law 783 = .ok (.invokevirtual 82, 3) := by decide +kernel
theorem dL_law_786 : decode cL_law 786 = .ok (.iload 11, 2) := by decide +kernel
theorem dL_law_788 : decode cL_law 788 = .ok (.if_icmp .eq 5, 3) := by decide +kernel
theorem dL_law_791 : decode cL_law 791 = .ok (.iconst 0, 1) := by decide +kernel
theorem dL_law_792 : decode cL_law 792 = .ok (.ireturn, 1) := by decide +kernel
theorem dL_law_793 : decode cL_law 793 = .ok (.iinc 8 1, 3) := by decide +kernel
theorem dL_law_796 : decode cL_law 796 = .ok (.goto (-726), 3) := by decide +kernel
theorem dL_law_799 : decode cL_law 799 = .ok (.aload_n 1, 1) := by decide +kernel
theorem dL_law_800 : decode cL_law 800 = .ok (.iload 4, 2) := by decide +kernel
theorem dL_law_802 : decode cL_law 802 = .ok (.iconst 0, 1) := by decide +kernel
theorem dL_law_803 : decode cL_law 803 = .ok (.invokevirtual 58, 3) := by decide +kernel
theorem dL_law_806 : decode cL_law 806 = .ok (.iconst (-1), 1) := by decide +kernel
theorem dL_law_807 : decode cL_law 807 = .ok (.if_icmp .ne 324, 3) := by decide +kernel
theorem dL_law_810 : decode cL_law 810 = .ok (.aload_n 1, 1) := by decide +kernel
theorem dL_law_811 : decode cL_law 811 = .ok (.iconst 0, 1) := by decide +kernel
theorem dL_law_812 : decode cL_law 812 = .ok (.bipush 6, 2) := by decide +kernel
theorem dL_law_814 : decode cL_law 814 = .ok (.invokevirtual 58, 3) := by decide +kernel
theorem dL_law_817 : decode cL_law 817 = .ok (.bipush (-2), 2) := by decide +kernel
theorem dL_law_819 : decode cL_law 819 = .ok (.if_icmp .ne 312, 3) := by decide +kernel
theorem dL_law_822 : decode cL_law 822 = .ok (.aload_n 1, 1) := by decide +kernel
theorem dL_law_823 : decode cL_law 823 = .ok (.iload 4, 2) := by decide +kernel
theorem dL_law_825 : decode cL_law 825 = .ok (.iconst 0, 1) := by decide +kernel
theorem dL_law_826 : decode cL_law 826 = .ok (.iconst 0, 1) := by decide +kernel
theorem dL_law_827 : decode cL_law 827 = .ok (.iconst 1, 1) := by decide +kernel
theorem dL_law_828 : decode cL_law 828 = .ok (.invokevirtual 32, 3) := by decide +kernel
theorem dL_law_831 : decode cL_law 831 = .ok (.iconst (-1), 1) := by decide +kernel
theorem dL_law_832 : decode cL_law 832 = .ok (.if_icmp .ne 299, 3) := by decide +kernel
theorem dL_law_835 : decode cL_law 835 = .ok (.aload_n 1, 1) := by decide +kernel
theorem dL_law_836 : decode cL_law 836 = .ok (.iconst 0, 1) := by decide +kernel
theorem dL_law_837 : decode cL_law 837 = .ok (.iconst 0, 1) := by decide +kernel
theorem dL_law_838 : decode cL_law 838 = .ok (.iconst 0, 1) := by decide +kernel
theorem dL_law_839 : decode cL_law 839 = .ok (.iconst 1, 1) := by decide +kernel
theorem dL_law_840 : decode cL_law 840 = .ok (.invokevirtual 32, 3) := by decide +kernel
theorem dL_law_843 : decode cL_law 843 = .ok (.iconst (-1), 1) := by decide +kernel
theorem dL_law_844 : decode cL_law 844 = .ok (.if_icmp .ne 287, 3) := by decide +kernel
theorem dL_law_847 : decode cL_law 847 = .ok (.aload_n 1, 1) := by decide +kernel
theorem dL_law_848 : decode cL_law 848 = .ok (.iconst 0, 1) := by decide +kernel
theorem dL_law_849 : decode cL_law 849 = .ok (.iconst 1, 1) := by decide +kernel
theorem dL_law_850 : decode cL_law 850 = .ok (.bipush 30, 2) := by decide +kernel
theorem dL_law_852 : decode cL_law 852 = .ok (.iconst 1, 1) := by decide +kernel
theorem dL_law_853 : decode cL_law 853 = .ok (.invokevirtual 32, 3) := by decide +kernel
theorem dL_law_856 : decode cL_law 856 = .ok (.bipush (-2), 2) := by decide +kernel
theorem dL_law_858 : decode cL_law 858 = .ok (.if_icmp .ne 273, 3) := by decide +kernel
theorem dL_law_861 : decode cL_law 861 = .ok (.aload_n 1, 1) := by decide +kernel
theorem dL_law_862 : decode cL_law 862 = .ok (.iconst 0, 1) := by decide +kernel
theorem dL_law_863 : decode cL_law 863 = .ok (.iconst 1, 1) := by decide +kernel
theorem dL_law_864 : decode cL_law 864 = .ok (.iconst 0, 1) := by decide +kernel
theorem dL_law_865 : decode cL_law 865 = .ok (.iconst 0, 1) := by decide +kernel
theorem dL_law_866 : decode cL_law 866 = .ok (.invokevirtual 32, 3) := by decide +kernel
theorem dL_law_869 : decode cL_law 869 = .ok (.bipush (-2), 2) := by decide +kernel
theorem dL_law_871 : decode cL_law 871 = .ok (.if_icmp .ne 260, 3) := by decide +kernel
theorem dL_law_874 : decode cL_law 874 = .ok (.aload_n 1, 1) := by decide +kernel
theorem dL_law_875 : decode cL_law 875 = .ok (.iconst 0, 1) := by decide +kernel
theorem dL_law_876 : decode cL_law 876 = .ok (.iconst 1, 1) := by decide +kernel
theorem dL_law_877 : decode cL_law 877 = .ok (.iconst 0, 1) := by decide +kernel
theorem dL_law_878 : decode cL_law 878 = .ok (.bipush 10, 2) := by decide +kernel
theorem dL_law_880 : decode cL_law 880 = .ok (.invokevirtual 32, 3) := by decide +kernel
theorem dL_law_883 : decode cL_law 883 = .ok (.bipush (-2), 2) := by decide +kernel
theorem dL_law_885 : decode cL_law 885 = .ok (.if_icmp .ne 246, 3) := by decide +kernel
theorem dL_law_888 : decode cL_law 888 = .ok (.aload_n 1, 1) := by decide +kernel
theorem dL_law_889 : decode cL_law 889 = .ok (.aload_n 2, 1) := by decide +kernel
theorem dL_law_890 : decode cL_law 890 = .ok (.iconst 1, 1) := by decide +kernel
theorem dL_law_891 : decode cL_law 891 = .ok (.iaload, 1) := by decide +kernel
theorem dL_law_892 : decode cL_law 892 = .ok (.iconst 1, 1) := by decide +kernel
theorem dL_law_893 : decode cL_law 893 = .ok (.iadd, 1) := by decide +kernel
theorem dL_law_894 : decode cL_law 894 = .ok (.invokevirtual 28, 3) := by decide +kernel
theorem dL_law_897 : decode cL_law 897 = .ok (.bipush (-2), 2) := by decide +kernel
theorem dL_law_899 : decode cL_law 899 = .ok (.if_icmp .ne 232, 3) := by decide +kernel
theorem dL_law_902 : decode cL_law 902 = .ok (.aload_n 1, 1) := by decide +kernel
theorem dL_law_903 : decode cL_law 903 = .ok (.iconst (-1), 1) := by decide +kernel
theorem dL_law_904 : decode cL_law 904 = .ok (.invokevirtual 28, 3) := by decide +kernel
theorem dL_law_907 : decode cL_law 907 = .ok (.bipush (-2), 2) := by decide +kernel
theorem dL_law_909 : decode cL_law 909 = .ok (.if_icmp .ne 222, 3) := by decide +kernel
theorem dL_law_912 : decode cL_law 912 = .ok (.aload_n 1, 1) := by decide +kernel
theorem dL_law_913 : decode cL_law 913 = .ok (.iload 4, 2) := by decide +kernel
theorem dL_law_915 : decode cL_law 915 = .ok (.iconst 1, 1) := by decide +kernel
theorem dL_law_916 : decode cL_law 916 = .ok (.invokevirtual 36, 3) := by decide +kernel
theorem dL_law_919 : decode cL_law 919 = .ok (.iconst (-1), 1) := by decide +kernel
theorem dL_law_920 : decode cL_law 920 = .ok (.if_icmp .ne 211, 3) := by decide +kernel
theorem dL_law_923 : decode cL_law 923 = .ok (.aload_n 1, 1) := by decide +kernel
theorem dL_law_924 : decode cL_law 924 = .ok (.bipush 60, 2) := by decide +kernel
theorem dL_law_926 : decode cL_law 926 = .ok (.invokevirtual 71, 3) := by decide +kernel
theorem dL_law_929 : decode cL_law 929 = .ok (.bipush (-2), 2) := by decide +kernel
theorem dL_law_931 : decode cL_law 931 = .ok (.if_icmp .ne 200, 3) := by decide +kernel
theorem dL_law_934 : decode cL_law 934 = .ok (.aload_n 1, 1) := by decide +kernel
theorem dL_law_935 : decode cL_law 935 = .ok (.iconst (-1), 1) := by decide +kernel
theorem dL_law_936 : decode cL_law 936 = .ok (.invokevirtual 71, 3) := by decide +kernel
theorem dL_law_939 : decode cL_law 939 = .ok (.bipush (-2), 2) := by decide +kernel
theorem dL_law_941 : decode cL_law 941 = .ok (.if_icmp .ne 190, 3) := by decide +kernel
theorem dL_law_944 : decode cL_law 944 = .ok (.aload_n 1, 1) := by decide +kernel
theorem dL_law_945 : decode cL_law 945 = .ok (.iload 4, 2) := by decide +kernel
theorem dL_law_947 : decode cL_law 947 = .ok (.iconst 0, 1) := by decide +kernel
theorem dL_law_948 : decode cL_law 948 = .ok (.invokevirtual 74, 3) := by decide +kernel
theorem dL_law_951 : decode cL_law 951 = .ok (.iconst (-1), 1) := by decide +kernel
theorem dL_law_952 : decode cL_law 952 = .ok (.if_icmp .ne 179, 3) := by decide +kernel
theorem dL_law_955 : decode cL_law 955 = .ok (.aload_n 1, 1) := by decide +kernel
theorem dL_law_956 : decode cL_law 956 = .ok (.iconst 0, 1) := by decide +kernel
theorem dL_law_957 : decode cL_law 957 = .ok (.bipush 60, 2) := by decide +kernel
theorem dL_law_959 : decode cL_law 959 = .ok (.invokevirtual 74, 3) := by decide +kernel
theorem dL_law_962 : decode cL_law 962 = .ok (.bipush (-2), 2) := by decide +kernel
theorem dL_law_964 : decode cL_law 964 = .ok (.if_icmp .ne 167, 3) := by decide +kernel
theorem dL_law_967 : decode cL_law 967 = .ok (.aload_n 1, 1) := by decide +kernel
theorem dL_law_968 : decode cL_law 968 = .ok (.iconst 0, 1) := by decide +kernel
theorem dL_law_969 : decode cL_law 969 = .ok (.iconst 0, 1) := by decide +kernel
theorem dL_law_970 : decode cL_law 970 = .ok (.iconst 0, 1) := by decide +kernel
theorem dL_law_971 : decode cL_law 971 = .ok (.invokevirtual 77, 3) := by decide +kernel
theorem dL_law_974 : decode cL_law 974 = .ok (.iconst (-1), 1) := by decide +kernel
theorem dL_law_975 : decode cL_law 975 = .ok (.if_icmp .ne 156, 3) := by decide +kernel
theorem dL_law_978 : decode cL_law 978 = .ok (.aload_n 1, 1) := by decide +kernel
theorem dL_law_979 : decode cL_law 979 = .ok (.iconst 0, 1) := by decide +kernel
theorem dL_law_980 : decode cL_law 980 = .ok (.iload 4, 2) := by decide +kernel
theorem dL_law_982 : decode cL_law 982 = .ok (.iconst 0, 1) := by decide +kernel
theorem dL_law_983 : decode cL_law 983 = .ok (.invokevirtual 77, 3) := by decide +kernel
theorem dL_law_986 : decode cL_law 986 = .ok (.iconst (-1), 1) := by decide +kernel
theorem dL_law_987 : decode cL_law 987 = .ok (.if_icmp .ne 144, 3) := by decide +kernel
theorem dL_law_990 : decode cL_law 990 = .ok (.aload_n 1, 1) := by decide +kernel
theorem dL_law_991 : decode cL_law 991 = .ok (.iconst 0, 1) := by decide +kernel
theorem dL_law_992 : decode cL_law 992 = .ok (.iconst 1, 1) := by decide +kernel
theorem dL_law_993 : decode cL_law 993 = .ok (.bipush 60, 2) := by decide +kernel
theorem dL_law_995 : decode cL_law 995 = .ok (.invokevirtual 77, 3) := by decide +kernel
theorem dL_law_998 : decode cL_law 998 = .ok (.bipush (-2), 2) := by decide +kernel
theorem dL_law_1000 : decode cL_law 1000 = .ok (.if_icmp .ne 131, 3) := by decide +kernel
theorem dL_law_1003 : decode cL_law 1003 = .ok (.aload_n 1, 1) := by decide +kernel
theorem dL_law_1004 : decode cL_law 1004 = .ok (.aload_n 2, 1) := by decide +kernel
theorem dL_law_1005 : decode cL_law 1005 = .ok (.iconst 1, 1) := by decide +kernel
theorem dL_law_1006 : decode cL_law 1006 = .ok (.iaload, 1) := by decide +kernel
theorem dL_law_1007 : decode cL_law 1007 = .ok (.invokevirtual 79, 3) := by decide +kernel
theorem dL_law_1010 : decode cL_law 1010 = .ok (.iconst (-1), 1) := by decide +kernel
theorem dL_law_1011 : decode cL_law 1011 = .ok (.if_icmp .ne 120, 3) := by decide +kernel
theorem dL_law_1014 : decode cL_law 1014 = .ok (.aload_n 1, 1) := by decide +kernel
theorem dL_law_1015 : decode cL_law 1015 = .ok (.iconst 4, 1) := by decide +kernel
theorem dL_law_1016 : decode cL_law 1016 = .ok (.iconst 1, 1) := by decide +kernel
theorem dL_law_1017 : decode cL_law 1017 = .ok (.iconst 2, 1) := by decide +kernel
theorem dL_law_1018 : decode cL_law 1018 = .ok (.iconst 0, 1) := by decide +kernel
theorem dL_law_1019 : decode cL_law 1019 = .ok (.invokevirtual 82, 3) := by decide +kernel
theorem dL_law_1022 : decode cL_law 1022 = .ok (.iconst (-1), 1) := by decide +kernel
theorem dL_law_1023 : decode cL_law 1023 = .ok (.if_icmp .ne 108, 3) := by decide +kernel
theorem dL_law_1026 : decode cL_law 1026 = .ok (.aload_n 1, 1) := by decide +kernel
theorem dL_law_1027 : decode cL_law 1027 = .ok (.iconst 1, 1) := by decide +kernel
theorem dL_law_1028 : decode cL_law 1028 = .ok (.iconst 3, 1) := by decide +kernel
theorem dL_law_1029 : decode cL_law 1029 = .ok (.iconst 2, 1) := by decide +kernel
theorem dL_law_1030 : decode cL_law 1030 = .ok (.iconst 0, 1) := by decide +kernel
theorem dL_law_1031 : decode cL_law 1031 = .ok (.invokevirtual 82, 3) := by decide +kernel
theorem dL_law_1034 : decode cL_law 1034 = .ok (.bipush (-2), 2) := by decide +kernel
theorem dL_law_1036 : decode cL_law 1036 = .ok (.if_icmp .ne 95, 3) := by decide +kernel
theorem dL_law_1039 : decode cL_law 1039 = .ok (.aload_n 1, 1) := by decide +kernel
theorem dL_law_1040 : decode cL_law 1040 = .ok (.iconst 1, 1) := by decide +kernel
theorem dL_law_1041 : decode cL_law 1041 = .ok (.iconst 2, 1) := by decide +kernel
theorem dL_law_1042 : decode cL_law 1042 = .ok (.iconst 2, 1) := by decide +kernel
theorem dL_law_1043 : decode cL_law 1043 = .ok (.iconst 0, 1) := by decide +kernel
theorem dL_law_1044 : decode cL_law 1044 = .ok (.invokevirtual 82, 3) := by decide +kernel
theorem dL_law_1047 : decode cL_law 1047 = .ok (.bipush (-12), 2) := by decide +kernel
theorem dL_law_1049 : decode cL_law 1049 = .ok (.if_icmp .ne 82, 3) := by decide +kernel
theorem dL_law_1052 : decode cL_law 1052 = .ok (.aload_n 1, 1) := by decide +kernel
theorem dL_law_1053 : decode cL_law 1053 = .ok (.iconst 2, 1) := by decide +kernel
theorem dL_law_1054 : decode cL_law 1054 = .ok (.iconst 2, 1) := by decide +kernel
theorem dL_law_1055 : decode cL_law 1055 = .ok (.iconst 2, 1) := by decide +kernel
theorem dL_law_1056 : decode cL_law 1056 = .ok (.iconst 0, 1) := by decide +kernel
theorem dL_law_1057 : decode cL_law 1057 = .ok (.invokevirtual 82, 3) := by decide +kernel
theorem dL_law_1060 : decode cL_law 1060 = .ok (.bipush (-11), 2) := by decide +kernel
theorem dL_law_1062 : decode cL_law 1062 = .ok (.if_icmp .ne 69, 3) := by decide +kernel
theorem dL_law_1065 : decode cL_law 1065 = .ok (.aload_n 1, 1) := by decide +kernel
theorem dL_law_1066 : decode cL_law 1066 = .ok (.iconst 1, 1) := by decide +kernel
theorem dL_law_1067 : decode cL_law 1067 = .ok (.iconst 1, 1) := by decide +kernel
theorem dL_law_1068 : decode cL_law 1068 = .ok (.iconst 2, 1) := by decide +kernel
theorem dL_law_1069 : decode cL_law 1069 = .ok (.iconst (-1), 1) := by decide +kernel
theorem dL_law_1070 : decode cL_law 1070 = .ok (.invokevirtual 82, 3) := by decide +kernel
theorem dL_law_1073 : decode cL_law 1073 = .ok (.bipush (-14), 2) := by decide +kernel
theorem dL_law_1075 : decode cL_law 1075 = .ok (.if_icmp .ne 56, 3) := by decide +kernel
theorem dL_law_1078 : decode cL_law 1078 = .ok (.aload_n 1, 1) := by decide +kernel
theorem dL_law_1079 : decode cL_law 1079 = .ok (.iconst 1, 1) := by decide +kernel
theorem dL_law_1080 : decode cL_law 1080 = .ok (.iconst 1, 1) := by decide +kernel
theorem dL_law_1081 : decode cL_law 1081 = .ok (.iconst 2, 1) := by decide +kernel
theorem dL_law_1082 : decode cL_law 1082 = .ok (.bipush 11, 2) := by decide +kernel
theorem dL_law_1084 : decode cL_law 1084 = .ok (.invokevirtual 82, 3) := by decide +kernel
theorem dL_law_1087 : decode cL_law 1087 = .ok (.bipush (-13), 2) := by decide +kernel
theorem dL_law_1089 : decode cL_law 1089 = .ok (.if_icmp .ne 42, 3) := by decide +kernel
theorem dL_law_1092 : decode cL_law 1092 = .ok (.aload_n 1, 1) := by decide +kernel
theorem dL_law_1093 : decode cL_law 1093 = .ok (.iconst 1, 1) := by decide +kernel
theorem dL_law_1094 : decode cL_law 1094 = .ok (.iconst 1, 1) := by decide +kernel
theorem dL_law_1095 : decode cL_law 1095 = .ok (.iconst 2, 1) := by decide +kernel
theorem dL_law_1096 : decode cL_law 1096 = .ok (.iconst 0, 1) := by decide +kernel
theorem dL_law_1097 : decode cL_law 1097 = .ok (.invokevirtual 82, 3) := by decide +kernel
theorem dL_law_1100 : decode cL_law 1100 = .ok (.ifCond .ne 31, 3) := by decide +kernel
theorem dL_law_1103 : decode cL_law 1103 = .ok (.aload_n 1, 1) := by decide +kernel
theorem dL_law_1104 : decode cL_law 1104 = .ok (.iconst 1, 1) := by decide +kernel
theorem dL_law_1105 : decode cL_law 1105 = .ok (.iconst 2, 1) := by decide +kernel
theorem dL_law_1106 : decode cL_law 1106 = .ok (.iload 4, 2) := by decide +kernel
theorem dL_law_1108 : decode cL_law 1108 = .ok (.invokevirtual 25, 3) := by decide +kernel
theorem dL_law_1111 : decode cL_law 1111 = .ok (.iconst 1, 1) := by decide +kernel
theorem dL_law_1112 : decode cL_law 1112 = .ok (.if_icmp .ne 19, 3) := by decide +kernel
theorem dL_law_1115 : decode cL_law 1115 = .ok (.aload_n 1, 1) := by decide +kernel
theorem dL_law_1116 : decode cL_law 1116 = .ok (.iconst 1, 1) := by decide +kernel
theorem dL_law_1117 : decode cL_law 1117 = .ok (.iconst 1, 1) := by decide +kernel
theorem dL_law_1118 : decode cL_law 1118 = .ok (.iconst 2, 1) := by decide +kernel
theorem dL_law_1119 : decode cL_law 1119 = .ok (.iconst 1, 1) := by decide +kernel
theorem dL_law_1120 : decode cL_law 1120 = .ok (.invokevirtual 82, 3) := by decide +kernel
theorem dL_law_1123 : decode cL_law 1123 = .ok (.iconst (-1), 1) := by decide +kernel
theorem dL_law_1124 : decode cL_law 1124 = .ok (.if_icmp .ne 7, 3) := by decide +kernel
theorem dL_law_1127 : decode cL_law 1127 = .ok (.iconst 1, 1) := by decide +kernel
theorem dL_law_1128 : decode cL_law 1128 = .ok (.goto 4, 3) := by decide +kernel
theorem dL_law_1131 : decode cL_law 1131 = .ok (.iconst 0, 1) := by decide +kernel
theorem dL_law_1132 : decode cL_law 1132 = .ok (.ireturn, 1) := by decide +kernel
end
section
/-! ===== the judgement: a method's body over a world of fixed shape ===== -/
/-- what a field holds: none: an int; some none: a long; some (some r): cell r -/
abbrev kF : Type := Option (Option Nat)
/-- a cell's shape: an object (kind, fields), an array of numbers (type, length), an array of references -/
abbrev kE : Type := (Nat × List kF) ⊕ ((Nat × Nat) ⊕ (Nat × Nat × (Nat → Option Nat)))
/-- what the cells hold: ints, longs, by cell and place -/
abbrev kW : Type := (Nat → Nat → Int32) × (Nat → Nat → Int64)
def k_val (ad : Nat → Nat) (w : kW) (c j : Nat) (f : kF) : Value := match f with
  | none => .int (w.1 c j)
  | some none => .long (w.2 c j)
  | some (some r) => .ref (ad r)
def k_ent (ad : Nat → Nat) (ca : Nat → ClassId) (w : kW) (c : Nat) (e : kE) : va_E := match e with
  | .inl q => .inr (q.1, q.2.mapIdx (fun j f => k_val ad w c j f))
  | .inr (.inl q) => .inl (ca q.1, q.2, .inl (w.1 c))
  | .inr (.inr q) => .inl (ca q.1, q.2.1, .inr (.inr (.inr (.inr (fun i => (q.2.2 i).map ad)))))
def k_wd (ad : Nat → Nat) (ca : Nat → ClassId) (sh : List kE) (w : kW) : va_W := sh.mapIdx (fun c e => (ad c, k_ent ad ca w c e))
def k_v (ad : Nat → Nat) (v : Value) : Value := match v with
  | .ref r => .ref (ad r)
  | v => v
def k_L (ad : Nat → Nat) (L : List (Nat × Value)) : List (Nat × Value) := L.map (fun q => (q.1, k_v ad q.2))
def k_tys (ca : Nat → ClassId) : List (ClassId × FieldType) := [(ca 0, .int), (ca 1, .boolean), (ca 2, .object "DuelSeconds$Sheet"), (ca 3, .array .int)]
def k_up {α : Type} (f : Nat → Nat → α) (c k : Nat) (v : α) : Nat → Nat → α := fun c' k' => if c' = c then (if k' = k then v else f c' k') else f c' k'
theorem k_up_same {α : Type} (f : Nat → Nat → α) (c k : Nat) (v : α) : k_up f c k v c k = v := by simp [k_up]
theorem k_up_row {α : Type} (f : Nat → Nat → α) (c k : Nat) (v : α) {c' : Nat} (h : c' ≠ c) : k_up f c k v c' = f c' := by
  funext j
  simp [k_up, h]
theorem k_wd_get {ad : Nat → Nat} {ca : Nat → ClassId} {sh : List kE} {w : kW} {c : Nat} {e : kE} (h : sh[c]? = some e) : (k_wd ad ca sh w)[c]? = some (ad c, k_ent ad ca w c e) := by
  simp [k_wd, List.getElem?_mapIdx, h]
theorem k_ent_row {ad : Nat → Nat} {ca : Nat → ClassId} {w w' : kW} {c : Nat} (e : kE) (h1 : w'.1 c = w.1 c) (h2 : w'.2 c = w.2 c) : k_ent ad ca w' c e = k_ent ad ca w c e := by
  have hv : ∀ j f, k_val ad w' c j f = k_val ad w c j f := by
    intro j f
    match f with
    | none => simp [k_val, h1]
    | some none => simp [k_val, h2]
    | some (some r) => rfl
  match e with
  | .inl q => simp [k_ent, hv]
  | .inr (.inl q) => simp [k_ent, h1]
  | .inr (.inr q) => rfl
theorem k_wd_set {ad : Nat → Nat} {ca : Nat → ClassId} {sh : List kE} {w w' : kW} {c : Nat} {e : kE} (h : sh[c]? = some e) (h1 : ∀ c', c' ≠ c → w'.1 c' = w.1 c') (h2 : ∀ c', c' ≠ c → w'.2 c' = w.2 c') {x : va_E} (hx : x = k_ent ad ca w' c e) : (k_wd ad ca sh w).set c (ad c, x) = k_wd ad ca sh w' := by
  subst hx
  apply List.ext_getElem?
  intro i
  have hl : c < sh.length := (List.getElem?_eq_some_iff.mp h).1
  by_cases hi : c = i
  · subst hi
    rw [List.getElem?_set_self (by simpa [k_wd] using hl), k_wd_get h]
  · rw [List.getElem?_set_ne hi]
    simp only [k_wd, List.getElem?_mapIdx]
    cases hs : sh[i]? with
    | none => rfl
    | some y => simp only [Option.map_some]; rw [k_ent_row y (h1 i (Ne.symm hi)) (h2 i (Ne.symm hi))]
theorem k_wd_addr {ad : Nat → Nat} {ca : Nat → ClassId} {sh : List kE} {w : kW} {k : Nat} {q : Nat × va_E} (h : (k_wd ad ca sh w)[k]? = some q) : k < sh.length ∧ q.1 = ad k := by
  simp only [k_wd, List.getElem?_mapIdx] at h
  cases hs : sh[k]? with
  | none => rw [hs] at h; cases h
  | some y =>
    rw [hs] at h
    cases h
    exact ⟨(List.getElem?_eq_some_iff.mp hs).1, rfl⟩
def k_A (sh : List kE) (ad : Nat → Nat) (sz : Nat) : Nat → Prop := fun q => (∃ c, c < sh.length ∧ q = ad c) ∨ sz ≤ q
theorem k_D_of {A B : Nat → Prop} {ad : Nat → Nat} {ca : Nat → ClassId} {sh : List kE} {w w' : kW} (h : va_D A (k_wd ad ca sh w)) (hB : ∀ c, c < sh.length → B (ad c)) : va_D B (k_wd ad ca sh w') := by
  have key : ∀ (k : Nat) (q : Nat × va_E), (k_wd ad ca sh w')[k]? = some q → ∃ q0, (k_wd ad ca sh w)[k]? = some q0 ∧ q0.1 = q.1 := by
    intro k q hk
    obtain ⟨hl, he⟩ := k_wd_addr hk
    obtain ⟨y, hy⟩ : ∃ y, sh[k]? = some y := ⟨_, List.getElem?_eq_getElem hl⟩
    exact ⟨_, k_wd_get hy, he.symm⟩
  refine ⟨fun i j p q hi hj hpq => ?_, fun k q hk => ?_⟩
  · obtain ⟨p0, a1, a2⟩ := key i p hi
    obtain ⟨q0, b1, b2⟩ := key j q hj
    exact h.1 i j p0 q0 a1 b1 (a2.trans (hpq.trans b2.symm))
  · obtain ⟨hl, he⟩ := k_wd_addr hk
    rw [he]
    exact hB k hl
theorem k_D_self {A : Nat → Prop} {ad : Nat → Nat} {ca : Nat → ClassId} {sh : List kE} {w w' : kW} {sz : Nat} (h : va_D A (k_wd ad ca sh w)) : va_D (k_A sh ad sz) (k_wd ad ca sh w') := k_D_of h (fun c hc => Or.inl ⟨c, hc, rfl⟩)
/-- calls of private static methods of a nest mate, by entry -/
def nst : List (String × Nat × MethodName × String) := [(RX7, 13, yX2_init, RX7), (RX7, 29, yX3_init, RX7), (RX4, 11, yX1_init, RX7), (RX7, 49, yX5_init, RX7), (RX4, 59, yX7_in, RX7), (RX4, 93, yX7_bit, RX7), (RX2, 38, yX7_in, RX7)]
def k_N (U : State) : Prop := ∀ q ∈ nst, va_Nw (.methodLinkNest q.1 q.2.1 q.2.2.1 q.2.2.2) U
theorem k_N.warm {s U : State} (hW : s.WarmedH U.vm) (h : k_N s) : k_N U := fun q hq => va_Nw.warmM hW (h q hq)
theorem k_N.same {s U : State} (e : s.vm = U.vm) (h : k_N s) : k_N U := fun q hq => va_Nw.same rfl e (h q hq)
def k_K (D : va_G) (ca : Nat → ClassId) (U : State) : Prop := va_K D vwCl (k_tys ca) U ∧ k_N U
theorem k_K.warm {s U : State} {D : va_G} {ca : Nat → ClassId} (hW : s.WarmedH U.vm) (h : k_K D ca s) : k_K D ca U := ⟨va_K.moved hW.alike h.1, k_N.warm hW h.2⟩
def k_Pc (sh : List kE) (D : va_G) (ca : Nat → ClassId) (ad : Nat → Nat) (sz : Nat) (As : List Value) (w : kW) : Array Value → State → Prop := va_Pc (As.map (k_v ad)) (fun U => U.heap.size = sz ∧ va_P D vwCl (k_wd ad ca sh w) U.heap ∧ k_K D ca U ∧ va_D (fun _ => True) (k_wd ad ca sh w))
def k_Qc (sh : List kE) (D : va_G) (ca : Nat → ClassId) (ad : Nat → Nat) (sz : Nat) (Φ : Option Value → kW → Prop) : Array Value → State → Outcome → State → Prop := fun _ st oc t => (∃ (r : Option Value) (w' : kW), oc = .returned (r.map (k_v ad)) ∧ Φ r w' ∧ va_P D vwCl (k_wd ad ca sh w') t.heap ∧ va_K D vwCl (k_tys ca) t) ∧ va_F (k_A sh ad sz) st t
/-- a method's contract at given arguments and world: it returns, and Φ holds of its answer and of the world behind it -/
def Spec (sh : List kE) (y : MethodName) (cc : ByteArray) (n : Nat) (rt : Option FieldType) (fr lo : Nat) (As : List Value) (w : kW) (Φ : Option Value → kW → Prop) : Prop :=
  ∀ (l : Launch) (D : va_G) (ca : Nat → ClassId) (ad : Nat → Nat) (sz : Nat), Met l y (.code y cc n rt :: cw) ({ frames := fr, cells := 0, slots := 0, locals := lo } : Room) (k_Pc sh D ca ad sz As w) (k_Qc sh D ca ad sz Φ) 0 0 (k_A sh ad sz)
def k_cx (p : Program) (s : State) (m : MethodId) (args : Array Value) (meth : Method) (c : Code) (own : String) (cc : ByteArray) (n : Nat) (rt : Option FieldType) (D : va_G) (ca : Nat → ClassId) : Prop :=
  p.tables.exec = Jvm.exec ∧ c.code = cc ∧ c.maxLocals = n ∧ s.vm.findClass own = some m.cls ∧ (∀ w ∈ cw, w.before args s = true) ∧ meth.sig.returnType = rt ∧ meth.locks = false ∧ k_K D ca s
/-- from pc on, with these locals, this stack and this world, the method returns, and Φ holds -/
def BS (sh : List kE) (own : String) (cc : ByteArray) (n : Nat) (rt : Option FieldType) (fr lo : Nat) (Φ : Option Value → kW → Prop) (pc : Nat) (L : List (Nat × Value)) (st : List Value) (w : kW) : Prop :=
  ∀ (p : Program) (l : Launch) (e : Env) (s : State) (m : MethodId) (args : Array Value) (below : List Frame) (meth : Method) (c : Code) (D : va_G) (ca : Nat → ClassId) (ad : Nat → Nat) (H : Heap) (locs : List Loc) (ls : Array Slot),
    k_cx p s m args meth c own cc n rt D ca → va_P D vwCl (k_wd ad ca sh w) H → va_D (k_A sh ad s.heap.size) (k_wd ad ca sh w) → va_S (k_A sh ad s.heap.size) s.heap H locs → lv_has ls n (k_L ad L) →
    W p l e ({ frames := fr, cells := 0, slots := 0, locals := lo } : Room) s m args below meth c H locs 0 0 (MQ below (k_Qc sh D ca ad s.heap.size Φ) args s 0 0 (k_A sh ad s.heap.size)) (F0 m pc ls (st.map (k_v ad)))
theorem k_v_cat (ad : Nat → Nat) (v : Value) : (k_v ad v).category = v.category := by cases v <;> rfl
theorem k_args (ad : Nat → Nat) : ∀ (vs : List Value) (i : Nat), lv_args i (vs.map (k_v ad)) = k_L ad (lv_args i vs)
  | [], _ => rfl
  | v :: vs, i => by
    show (i, k_v ad v) :: lv_args _ (vs.map (k_v ad)) = (i, k_v ad v) :: k_L ad (lv_args _ vs)
    rw [k_v_cat, k_args ad vs]
theorem k_sl_len (ad : Nat → Nat) : ∀ (vs : List Value), (lg_sl (vs.map (k_v ad))).length = (lg_sl vs).length
  | [] => rfl
  | v :: vs => by
    have ih := k_sl_len ad vs
    simp only [lg_sl, List.map_cons, List.flatMap_cons, List.length_append, k_v_cat] at ih ⊢
    rw [ih]
    split <;> rfl
theorem k_cats (ad : Nat → Nat) (st : List Value) : ((st.map (k_v ad)).map fun v => v.category) = st.map fun v => v.category := by
  rw [List.map_map]
  apply List.map_congr_left
  intro v _
  exact k_v_cat ad v
theorem k_blind {sh : List kE} {D : va_G} {ca : Nat → ClassId} {ad : Nat → Nat} {sz : Nat} {As : List Value} {w : kW} : FrameBlind (k_Pc sh D ca ad sz As w) := by
  intro a U g mk q
  obtain ⟨q0, q1, qP, qK, qD⟩ := q
  exact ⟨q0, q1, qP, ⟨va_K.moved (u := U) (U := U.calling g mk a) (Vm.Alike.refl U.vm) qK.1, k_N.same (s := U) (U := U.calling g mk a) rfl qK.2⟩, qD⟩
theorem k_enter {sh : List kE} {y : MethodName} {cc : ByteArray} {n : Nat} {rt : Option FieldType} {fr lo : Nat} {As : List Value} {w : kW} {Φ : Option Value → kW → Prop} (hy : plainName y.cls = true) (hn : (lg_sl As).length ≤ n) (h : BS sh y.cls cc n rt fr lo Φ 0 (lv_args 0 As) [] w) : Spec sh y cc n rt fr lo As w Φ := by
  intro l D ca ad sz
  refine Met.ofW (cc := cc) (maxL := n) (ret := rt) hy rfl ?_
  intro p e s m args below meth c s₁ B hml hv
  obtain ⟨rfl, hsz, hP, hK, hD0⟩ := hv
  subst hsz
  have hts0 := atoms_spec (ws := .code y cc n rt :: cw) B.pre
  have hts : ∀ w ∈ cw, w.before (As.map (k_v ad)).toArray s = true := fun w hw => hts0 w (List.mem_cons_of_mem _ hw)
  have hl := lv_entry (As.map (k_v ad)) (n := n) (by rw [k_sl_len]; exact hn)
  rw [lg_entry_eq]
  rw [k_args] at hl
  exact h p l e s m _ below meth c D ca ad s.heap [] _ ⟨B.exec, B.bytes, hml, findClass_of_methodNamed B.named, hts, B.returns, B.notSynchronized, hK⟩ hP (k_D_self hD0) va_S.rf hl
section KB
variable {sh : List kE} {own : String} {cc : ByteArray} {n : Nat} {rt : Option FieldType} {fr lo : Nat} {Φ : Option Value → kW → Prop} {pc : Nat} {L : List (Nat × Value)} {st : List Value} {w : kW}
theorem BS.mono {Ψ : Option Value → kW → Prop} (h : ∀ r w', Φ r w' → Ψ r w') (hb : BS sh own cc n rt fr lo Φ pc L st w) : BS sh own cc n rt fr lo Ψ pc L st w := by
  intro p l e s m args below meth co D ca ad H locs ls cx hP hD hS hl T hT X
  obtain ⟨t, a, o, b1, b2, ⟨⟨⟨r, w', c1, c2, c3⟩, c4⟩, b4⟩⟩ := hb p l e s m args below meth co D ca ad H locs ls cx hP hD hS hl T hT X
  exact ⟨t, a, o, b1, b2, ⟨⟨r, w', c1, h r w' c2, c3⟩, c4⟩, b4⟩
/-- the locals: place i holds v now -/
def k_st1 (L : List (Nat × Value)) (i : Nat) (v : Value) : List (Nat × Value) := (i, v) :: L.filter (fun q => !(q.1 == i) && !(q.1 + 1 == i && q.2.category == 2))
def k_st2 (L : List (Nat × Value)) (i : Nat) (v : Value) : List (Nat × Value) := (i, v) :: L.filter (fun q => !(q.1 == i) && (!(q.1 == i + 1) && !(q.1 + 1 == i && q.2.category == 2)))
theorem k_st1_L (ad : Nat → Nat) (i : Nat) (v : Value) : (i, k_v ad v) :: (k_L ad L).filter (fun q => !(q.1 == i) && !(q.1 + 1 == i && q.2.category == 2)) = k_L ad (k_st1 L i v) := by
  simp only [k_L, k_st1, List.map_cons, List.filter_map]
  congr 2
  apply List.filter_congr
  intro q _
  simp [Function.comp, k_v_cat]
theorem k_st2_L (ad : Nat → Nat) (i : Nat) (v : Value) : (i, k_v ad v) :: (k_L ad L).filter (fun q => !(q.1 == i) && (!(q.1 == i + 1) && !(q.1 + 1 == i && q.2.category == 2))) = k_L ad (k_st2 L i v) := by
  simp only [k_L, k_st2, List.map_cons, List.filter_map]
  congr 2
  apply List.filter_congr
  intro q _
  simp [Function.comp, k_v_cat]
theorem k_lget {ad : Nat → Nat} {ls : Array Slot} {i : Nat} {v : Value} (hl : lv_has ls n (k_L ad L)) (h : L.lookup i = some v) : ls[i]? = some (.val (k_v ad v)) := by
  have hm : (i, v) ∈ L := by
    clear hl
    induction L with
    | nil => cases h
    | cons a t ih =>
      obtain ⟨a1, a2⟩ := a
      rw [List.lookup_cons] at h
      by_cases hb : (i == a1) = true
      · rw [hb] at h
        cases h
        rw [beq_iff_eq] at hb
        subst hb
        exact List.mem_cons_self
      · rw [Bool.not_eq_true] at hb
        rw [hb] at h
        exact List.mem_cons_of_mem _ (ih h)
  exact hl.2.2 (i, k_v ad v) (List.mem_map.mpr ⟨(i, v), hm, rfl⟩)
theorem b_iconst {k : Int} {v : Int32} (hd : decode cc pc = .ok (.iconst k, 1)) (hv : Int32.ofInt k = v) (kk : BS sh own cc n rt fr lo Φ (pc + 1) L (.int v :: st) w) : BS sh own cc n rt fr lo Φ pc L st w := by
  intro p l e s m args below meth co D ca ad H locs ls cx hP hD hS hl
  exact lv_iconst cx.1 cx.2.1 hd hv (kk p l e s m args below meth co D ca ad H locs ls cx hP hD hS hl)
theorem b_bipush {k : Int} {v : Int32} (hd : decode cc pc = .ok (.bipush k, 2)) (hv : (Int8.ofInt k).toInt32 = v) (kk : BS sh own cc n rt fr lo Φ (pc + 2) L (.int v :: st) w) : BS sh own cc n rt fr lo Φ pc L st w := by
  intro p l e s m args below meth co D ca ad H locs ls cx hP hD hS hl
  exact lv_bipush cx.1 cx.2.1 hd hv (kk p l e s m args below meth co D ca ad H locs ls cx hP hD hS hl)
theorem b_sipush {k : Int} {v : Int32} (hd : decode cc pc = .ok (.sipush k, 3)) (hv : (Int16.ofInt k).toInt32 = v) (kk : BS sh own cc n rt fr lo Φ (pc + 3) L (.int v :: st) w) : BS sh own cc n rt fr lo Φ pc L st w := by
  intro p l e s m args below meth co D ca ad H locs ls cx hP hD hS hl
  exact lv_sipush cx.1 cx.2.1 hd hv (kk p l e s m args below meth co D ca ad H locs ls cx hP hD hS hl)
theorem b_lconst {k : Fin 2} {v : Int64} (hd : decode cc pc = .ok (.lconst k, 1)) (hv : Int64.ofNat (k : Nat) = v) (kk : BS sh own cc n rt fr lo Φ (pc + 1) L (.long v :: st) w) : BS sh own cc n rt fr lo Φ pc L st w := by
  intro p l e s m args below meth co D ca ad H locs ls cx hP hD hS hl
  exact lv_lconst cx.1 cx.2.1 hd hv (kk p l e s m args below meth co D ca ad H locs ls cx hP hD hS hl)
theorem b_ldc2 {ix : Nat} {v : Int64} (hd : decode cc pc = .ok (.ldc2_w ix, 3)) (hc : Cond.constantLong own ix v ∈ cw) (kk : BS sh own cc n rt fr lo Φ (pc + 3) L (.long v :: st) w) : BS sh own cc n rt fr lo Φ pc L st w := by
  intro p l e s m args below meth co D ca ad H locs ls cx hP hD hS hl
  exact lv_ldc2 cx.1 cx.2.1 cx.2.2.2.1 (cx.2.2.2.2.1 _ hc) hd (kk p l e s m args below meth co D ca ad H locs ls cx hP hD hS hl)
theorem b_ldcw {ix : Nat} {v : Int32} (hd : decode cc pc = .ok (.ldc_w ix, 3)) (hc : Cond.constant own ix v ∈ cw) (kk : BS sh own cc n rt fr lo Φ (pc + 3) L (.int v :: st) w) : BS sh own cc n rt fr lo Φ pc L st w := by
  intro p l e s m args below meth co D ca ad H locs ls cx hP hD hS hl
  exact lv_ldcw cx.1 cx.2.1 cx.2.2.2.1 (cx.2.2.2.2.1 _ hc) hd (kk p l e s m args below meth co D ca ad H locs ls cx hP hD hS hl)
theorem b_null (hd : decode cc pc = .ok (.aconst_null, 1)) (kk : BS sh own cc n rt fr lo Φ (pc + 1) L (.null :: st) w) : BS sh own cc n rt fr lo Φ pc L st w := by
  intro p l e s m args below meth co D ca ad H locs ls cx hP hD hS hl
  exact lv_null cx.1 cx.2.1 hd (kk p l e s m args below meth co D ca ad H locs ls cx hP hD hS hl)
theorem b_iload_n {k : Fin 4} {x : Int32} (hd : decode cc pc = .ok (.iload_n k, 1)) (hv : L.lookup (k : Nat) = some (.int x)) (kk : BS sh own cc n rt fr lo Φ (pc + 1) L (.int x :: st) w) : BS sh own cc n rt fr lo Φ pc L st w := by
  intro p l e s m args below meth co D ca ad H locs ls cx hP hD hS hl
  exact lv_iload_n cx.1 cx.2.1 hd rfl (k_lget hl hv) (kk p l e s m args below meth co D ca ad H locs ls cx hP hD hS hl)
theorem b_iload {k : Nat} {x : Int32} (hd : decode cc pc = .ok (.iload k, 2)) (hv : L.lookup k = some (.int x)) (kk : BS sh own cc n rt fr lo Φ (pc + 2) L (.int x :: st) w) : BS sh own cc n rt fr lo Φ pc L st w := by
  intro p l e s m args below meth co D ca ad H locs ls cx hP hD hS hl
  exact lv_iload cx.1 cx.2.1 hd (k_lget hl hv) (kk p l e s m args below meth co D ca ad H locs ls cx hP hD hS hl)
theorem b_lload_n {k : Fin 4} {x : Int64} (hd : decode cc pc = .ok (.lload_n k, 1)) (hv : L.lookup (k : Nat) = some (.long x)) (kk : BS sh own cc n rt fr lo Φ (pc + 1) L (.long x :: st) w) : BS sh own cc n rt fr lo Φ pc L st w := by
  intro p l e s m args below meth co D ca ad H locs ls cx hP hD hS hl
  exact lv_lload_n cx.1 cx.2.1 hd rfl (k_lget hl hv) (kk p l e s m args below meth co D ca ad H locs ls cx hP hD hS hl)
theorem b_lload {k : Nat} {x : Int64} (hd : decode cc pc = .ok (.lload k, 2)) (hv : L.lookup k = some (.long x)) (kk : BS sh own cc n rt fr lo Φ (pc + 2) L (.long x :: st) w) : BS sh own cc n rt fr lo Φ pc L st w := by
  intro p l e s m args below meth co D ca ad H locs ls cx hP hD hS hl
  exact lv_lload cx.1 cx.2.1 hd (k_lget hl hv) (kk p l e s m args below meth co D ca ad H locs ls cx hP hD hS hl)
theorem b_aload_n {k : Fin 4} {x : Nat} (hd : decode cc pc = .ok (.aload_n k, 1)) (hv : L.lookup (k : Nat) = some (.ref x)) (kk : BS sh own cc n rt fr lo Φ (pc + 1) L (.ref x :: st) w) : BS sh own cc n rt fr lo Φ pc L st w := by
  intro p l e s m args below meth co D ca ad H locs ls cx hP hD hS hl
  exact lv_aload_n cx.1 cx.2.1 hd rfl (k_lget hl hv) (kk p l e s m args below meth co D ca ad H locs ls cx hP hD hS hl)
theorem b_aload {k : Nat} {x : Nat} (hd : decode cc pc = .ok (.aload k, 2)) (hv : L.lookup k = some (.ref x)) (kk : BS sh own cc n rt fr lo Φ (pc + 2) L (.ref x :: st) w) : BS sh own cc n rt fr lo Φ pc L st w := by
  intro p l e s m args below meth co D ca ad H locs ls cx hP hD hS hl
  exact lv_aload cx.1 cx.2.1 hd (k_lget hl hv) (kk p l e s m args below meth co D ca ad H locs ls cx hP hD hS hl)
theorem b_aload_nN {k : Fin 4} (hd : decode cc pc = .ok (.aload_n k, 1)) (hv : L.lookup (k : Nat) = some .null) (kk : BS sh own cc n rt fr lo Φ (pc + 1) L (.null :: st) w) : BS sh own cc n rt fr lo Φ pc L st w := by
  intro p l e s m args below meth co D ca ad H locs ls cx hP hD hS hl
  exact lv_aload_nN cx.1 cx.2.1 hd rfl (k_lget hl hv) (kk p l e s m args below meth co D ca ad H locs ls cx hP hD hS hl)
theorem b_aloadN {k : Nat} (hd : decode cc pc = .ok (.aload k, 2)) (hv : L.lookup k = some .null) (kk : BS sh own cc n rt fr lo Φ (pc + 2) L (.null :: st) w) : BS sh own cc n rt fr lo Φ pc L st w := by
  intro p l e s m args below meth co D ca ad H locs ls cx hP hD hS hl
  exact lv_aloadN cx.1 cx.2.1 hd (k_lget hl hv) (kk p l e s m args below meth co D ca ad H locs ls cx hP hD hS hl)
theorem b_istore_n {k : Fin 4} {x : Int32} (hd : decode cc pc = .ok (.istore_n k, 1)) (hn : (k : Nat) < n) (kk : BS sh own cc n rt fr lo Φ (pc + 1) (k_st1 L k (.int x)) st w) : BS sh own cc n rt fr lo Φ pc L (.int x :: st) w := by
  intro p l e s m args below meth co D ca ad H locs ls cx hP hD hS hl
  exact lv_istore_n cx.1 cx.2.1 hd rfl hl hn (k_st1_L ad k (.int x)) (fun ls9 hl9 => kk p l e s m args below meth co D ca ad H locs ls9 cx hP hD hS hl9)
theorem b_istore {k : Nat} {x : Int32} (hd : decode cc pc = .ok (.istore k, 2)) (hn : k < n) (kk : BS sh own cc n rt fr lo Φ (pc + 2) (k_st1 L k (.int x)) st w) : BS sh own cc n rt fr lo Φ pc L (.int x :: st) w := by
  intro p l e s m args below meth co D ca ad H locs ls cx hP hD hS hl
  exact lv_istore cx.1 cx.2.1 hd hl hn (k_st1_L ad k (.int x)) (fun ls9 hl9 => kk p l e s m args below meth co D ca ad H locs ls9 cx hP hD hS hl9)
theorem b_lstore_n {k : Fin 4} {x : Int64} (hd : decode cc pc = .ok (.lstore_n k, 1)) (hn : (k : Nat) + 1 < n) (kk : BS sh own cc n rt fr lo Φ (pc + 1) (k_st2 L k (.long x)) st w) : BS sh own cc n rt fr lo Φ pc L (.long x :: st) w := by
  intro p l e s m args below meth co D ca ad H locs ls cx hP hD hS hl
  exact lv_lstore_n cx.1 cx.2.1 hd rfl hl hn (k_st2_L ad k (.long x)) (fun ls9 hl9 => kk p l e s m args below meth co D ca ad H locs ls9 cx hP hD hS hl9)
theorem b_lstore {k : Nat} {x : Int64} (hd : decode cc pc = .ok (.lstore k, 2)) (hn : k + 1 < n) (kk : BS sh own cc n rt fr lo Φ (pc + 2) (k_st2 L k (.long x)) st w) : BS sh own cc n rt fr lo Φ pc L (.long x :: st) w := by
  intro p l e s m args below meth co D ca ad H locs ls cx hP hD hS hl
  exact lv_lstore cx.1 cx.2.1 hd hl hn (k_st2_L ad k (.long x)) (fun ls9 hl9 => kk p l e s m args below meth co D ca ad H locs ls9 cx hP hD hS hl9)
theorem b_astore_n {k : Fin 4} {x : Nat} (hd : decode cc pc = .ok (.astore_n k, 1)) (hn : (k : Nat) < n) (kk : BS sh own cc n rt fr lo Φ (pc + 1) (k_st1 L k (.ref x)) st w) : BS sh own cc n rt fr lo Φ pc L (.ref x :: st) w := by
  intro p l e s m args below meth co D ca ad H locs ls cx hP hD hS hl
  exact lv_astore_n cx.1 cx.2.1 hd rfl hl hn (k_st1_L ad k (.ref x)) (fun ls9 hl9 => kk p l e s m args below meth co D ca ad H locs ls9 cx hP hD hS hl9)
theorem b_astore {k : Nat} {x : Nat} (hd : decode cc pc = .ok (.astore k, 2)) (hn : k < n) (kk : BS sh own cc n rt fr lo Φ (pc + 2) (k_st1 L k (.ref x)) st w) : BS sh own cc n rt fr lo Φ pc L (.ref x :: st) w := by
  intro p l e s m args below meth co D ca ad H locs ls cx hP hD hS hl
  exact lv_astore cx.1 cx.2.1 hd hl hn (k_st1_L ad k (.ref x)) (fun ls9 hl9 => kk p l e s m args below meth co D ca ad H locs ls9 cx hP hD hS hl9)
theorem b_astore_nN {k : Fin 4} (hd : decode cc pc = .ok (.astore_n k, 1)) (hn : (k : Nat) < n) (kk : BS sh own cc n rt fr lo Φ (pc + 1) (k_st1 L k .null) st w) : BS sh own cc n rt fr lo Φ pc L (.null :: st) w := by
  intro p l e s m args below meth co D ca ad H locs ls cx hP hD hS hl
  exact lv_astore_nN cx.1 cx.2.1 hd rfl hl hn (k_st1_L ad k .null) (fun ls9 hl9 => kk p l e s m args below meth co D ca ad H locs ls9 cx hP hD hS hl9)
theorem b_astoreN {k : Nat} (hd : decode cc pc = .ok (.astore k, 2)) (hn : k < n) (kk : BS sh own cc n rt fr lo Φ (pc + 2) (k_st1 L k .null) st w) : BS sh own cc n rt fr lo Φ pc L (.null :: st) w := by
  intro p l e s m args below meth co D ca ad H locs ls cx hP hD hS hl
  exact lv_astoreN cx.1 cx.2.1 hd hl hn (k_st1_L ad k .null) (fun ls9 hl9 => kk p l e s m args below meth co D ca ad H locs ls9 cx hP hD hS hl9)
theorem b_iinc {k : Nat} {d : Int} {x v : Int32} (hd : decode cc pc = .ok (.iinc k d, 3)) (hv : L.lookup k = some (.int x)) (he : x + Int32.ofInt d = v) (hn : k < n) (kk : BS sh own cc n rt fr lo Φ (pc + 3) (k_st1 L k (.int v)) st w) : BS sh own cc n rt fr lo Φ pc L st w := by
  intro p l e s m args below meth co D ca ad H locs ls cx hP hD hS hl
  have hm : ls[k]? = some (.val (k_v ad (.int x))) := k_lget hl hv
  obtain ⟨j, hj⟩ : ∃ j, ((k, Value.int x) :: k_L ad L)[j]? = some (k, Value.int x) := ⟨0, rfl⟩
  have hl2 : lv_has ls n ((k, Value.int x) :: k_L ad L) := ⟨hl.1, hl.2.1, fun q hq => by
    rcases List.mem_cons.mp hq with h | h
    · rw [h]; exact hm
    · exact hl.2.2 q h⟩
  refine lv_iinc cx.1 cx.2.1 hd hl2 hj he hn (lv' := k_L ad (k_st1 L k (.int v))) ?_ (fun ls9 hl9 => kk p l e s m args below meth co D ca ad H locs ls9 cx hP hD hS hl9)
  rw [← k_st1_L ad k (.int v), List.filter_cons_of_neg (by simp)]
  rfl
theorem b_iadd {x y : Int32} (hd : decode cc pc = .ok (.iadd, 1)) (kk : BS sh own cc n rt fr lo Φ (pc + 1) L (.int (x + y) :: st) w) : BS sh own cc n rt fr lo Φ pc L (.int y :: .int x :: st) w := by
  intro p l e s m args below meth co D ca ad H locs ls cx hP hD hS hl
  exact lv_iadd cx.1 cx.2.1 hd (kk p l e s m args below meth co D ca ad H locs ls cx hP hD hS hl)
theorem b_isub {x y : Int32} (hd : decode cc pc = .ok (.isub, 1)) (kk : BS sh own cc n rt fr lo Φ (pc + 1) L (.int (x - y) :: st) w) : BS sh own cc n rt fr lo Φ pc L (.int y :: .int x :: st) w := by
  intro p l e s m args below meth co D ca ad H locs ls cx hP hD hS hl
  exact lv_isub cx.1 cx.2.1 hd (kk p l e s m args below meth co D ca ad H locs ls cx hP hD hS hl)
theorem b_imul {x y : Int32} (hd : decode cc pc = .ok (.imul, 1)) (kk : BS sh own cc n rt fr lo Φ (pc + 1) L (.int (x * y) :: st) w) : BS sh own cc n rt fr lo Φ pc L (.int y :: .int x :: st) w := by
  intro p l e s m args below meth co D ca ad H locs ls cx hP hD hS hl
  exact lv_imul cx.1 cx.2.1 hd (kk p l e s m args below meth co D ca ad H locs ls cx hP hD hS hl)
theorem b_iand {x y : Int32} (hd : decode cc pc = .ok (.iand, 1)) (kk : BS sh own cc n rt fr lo Φ (pc + 1) L (.int (x &&& y) :: st) w) : BS sh own cc n rt fr lo Φ pc L (.int y :: .int x :: st) w := by
  intro p l e s m args below meth co D ca ad H locs ls cx hP hD hS hl
  exact lv_iand cx.1 cx.2.1 hd (kk p l e s m args below meth co D ca ad H locs ls cx hP hD hS hl)
theorem b_ior {x y : Int32} (hd : decode cc pc = .ok (.ior, 1)) (kk : BS sh own cc n rt fr lo Φ (pc + 1) L (.int (x ||| y) :: st) w) : BS sh own cc n rt fr lo Φ pc L (.int y :: .int x :: st) w := by
  intro p l e s m args below meth co D ca ad H locs ls cx hP hD hS hl
  exact lv_ior cx.1 cx.2.1 hd (kk p l e s m args below meth co D ca ad H locs ls cx hP hD hS hl)
theorem b_ixor {x y : Int32} (hd : decode cc pc = .ok (.ixor, 1)) (kk : BS sh own cc n rt fr lo Φ (pc + 1) L (.int (x ^^^ y) :: st) w) : BS sh own cc n rt fr lo Φ pc L (.int y :: .int x :: st) w := by
  intro p l e s m args below meth co D ca ad H locs ls cx hP hD hS hl
  exact lv_ixor cx.1 cx.2.1 hd (kk p l e s m args below meth co D ca ad H locs ls cx hP hD hS hl)
theorem b_ishl {x y : Int32} (hd : decode cc pc = .ok (.ishl, 1)) (kk : BS sh own cc n rt fr lo Φ (pc + 1) L (.int (x <<< (y &&& 31)) :: st) w) : BS sh own cc n rt fr lo Φ pc L (.int y :: .int x :: st) w := by
  intro p l e s m args below meth co D ca ad H locs ls cx hP hD hS hl
  exact lv_ishl cx.1 cx.2.1 hd (kk p l e s m args below meth co D ca ad H locs ls cx hP hD hS hl)
theorem b_ishr {x y : Int32} (hd : decode cc pc = .ok (.ishr, 1)) (kk : BS sh own cc n rt fr lo Φ (pc + 1) L (.int (x >>> (y &&& 31)) :: st) w) : BS sh own cc n rt fr lo Φ pc L (.int y :: .int x :: st) w := by
  intro p l e s m args below meth co D ca ad H locs ls cx hP hD hS hl
  exact lv_ishr cx.1 cx.2.1 hd (kk p l e s m args below meth co D ca ad H locs ls cx hP hD hS hl)
theorem b_idiv {x y : Int32} (hd : decode cc pc = .ok (.idiv, 1)) (hne : ¬ y = 0) (kk : BS sh own cc n rt fr lo Φ (pc + 1) L (.int (x / y) :: st) w) : BS sh own cc n rt fr lo Φ pc L (.int y :: .int x :: st) w := by
  intro p l e s m args below meth co D ca ad H locs ls cx hP hD hS hl
  exact lv_idiv cx.1 cx.2.1 hd hne (kk p l e s m args below meth co D ca ad H locs ls cx hP hD hS hl)
theorem b_irem {x y : Int32} (hd : decode cc pc = .ok (.irem, 1)) (hne : ¬ y = 0) (kk : BS sh own cc n rt fr lo Φ (pc + 1) L (.int (x - x / y * y) :: st) w) : BS sh own cc n rt fr lo Φ pc L (.int y :: .int x :: st) w := by
  intro p l e s m args below meth co D ca ad H locs ls cx hP hD hS hl
  exact lv_irem cx.1 cx.2.1 hd hne (kk p l e s m args below meth co D ca ad H locs ls cx hP hD hS hl)
theorem b_ladd {x y : Int64} (hd : decode cc pc = .ok (.ladd, 1)) (kk : BS sh own cc n rt fr lo Φ (pc + 1) L (.long (x + y) :: st) w) : BS sh own cc n rt fr lo Φ pc L (.long y :: .long x :: st) w := by
  intro p l e s m args below meth co D ca ad H locs ls cx hP hD hS hl
  exact lv_ladd cx.1 cx.2.1 hd (kk p l e s m args below meth co D ca ad H locs ls cx hP hD hS hl)
theorem b_land {x y : Int64} (hd : decode cc pc = .ok (.land, 1)) (kk : BS sh own cc n rt fr lo Φ (pc + 1) L (.long (x &&& y) :: st) w) : BS sh own cc n rt fr lo Φ pc L (.long y :: .long x :: st) w := by
  intro p l e s m args below meth co D ca ad H locs ls cx hP hD hS hl
  exact lv_land cx.1 cx.2.1 hd (kk p l e s m args below meth co D ca ad H locs ls cx hP hD hS hl)
theorem b_lor {x y : Int64} (hd : decode cc pc = .ok (.lor, 1)) (kk : BS sh own cc n rt fr lo Φ (pc + 1) L (.long (x ||| y) :: st) w) : BS sh own cc n rt fr lo Φ pc L (.long y :: .long x :: st) w := by
  intro p l e s m args below meth co D ca ad H locs ls cx hP hD hS hl
  exact lv_lor cx.1 cx.2.1 hd (kk p l e s m args below meth co D ca ad H locs ls cx hP hD hS hl)
theorem b_ldiv {x y : Int64} (hd : decode cc pc = .ok (.ldiv, 1)) (hne : ¬ y = 0) (kk : BS sh own cc n rt fr lo Φ (pc + 1) L (.long (x / y) :: st) w) : BS sh own cc n rt fr lo Φ pc L (.long y :: .long x :: st) w := by
  intro p l e s m args below meth co D ca ad H locs ls cx hP hD hS hl
  exact lv_ldiv cx.1 cx.2.1 hd hne (kk p l e s m args below meth co D ca ad H locs ls cx hP hD hS hl)
theorem b_lrem {x y : Int64} (hd : decode cc pc = .ok (.lrem, 1)) (hne : ¬ y = 0) (kk : BS sh own cc n rt fr lo Φ (pc + 1) L (.long (x - x / y * y) :: st) w) : BS sh own cc n rt fr lo Φ pc L (.long y :: .long x :: st) w := by
  intro p l e s m args below meth co D ca ad H locs ls cx hP hD hS hl
  exact lv_lrem cx.1 cx.2.1 hd hne (kk p l e s m args below meth co D ca ad H locs ls cx hP hD hS hl)
theorem b_lcmp {x y : Int64} (hd : decode cc pc = .ok (.lcmp, 1)) (kk : BS sh own cc n rt fr lo Φ (pc + 1) L (.int (lg_cmp x y) :: st) w) : BS sh own cc n rt fr lo Φ pc L (.long y :: .long x :: st) w := by
  intro p l e s m args below meth co D ca ad H locs ls cx hP hD hS hl
  exact W.lcmp cx.1 cx.2.1 hd (kk p l e s m args below meth co D ca ad H locs ls cx hP hD hS hl)
theorem b_lshl {x : Int64} {y : Int32} (hd : decode cc pc = .ok (.lshl, 1)) (kk : BS sh own cc n rt fr lo Φ (pc + 1) L (.long (x <<< (y.toInt64 &&& 63)) :: st) w) : BS sh own cc n rt fr lo Φ pc L (.int y :: .long x :: st) w := by
  intro p l e s m args below meth co D ca ad H locs ls cx hP hD hS hl
  exact lv_lshl cx.1 cx.2.1 hd rfl (kk p l e s m args below meth co D ca ad H locs ls cx hP hD hS hl)
theorem b_lshr {x : Int64} {y : Int32} (hd : decode cc pc = .ok (.lshr, 1)) (kk : BS sh own cc n rt fr lo Φ (pc + 1) L (.long (x >>> (y.toInt64 &&& 63)) :: st) w) : BS sh own cc n rt fr lo Φ pc L (.int y :: .long x :: st) w := by
  intro p l e s m args below meth co D ca ad H locs ls cx hP hD hS hl
  exact lv_lshr cx.1 cx.2.1 hd rfl (kk p l e s m args below meth co D ca ad H locs ls cx hP hD hS hl)
theorem b_iushr {x y : Int32} (hd : decode cc pc = .ok (.iushr, 1)) (kk : BS sh own cc n rt fr lo Φ (pc + 1) L (.int (x.toUInt32 >>> (y.toUInt32 &&& Int32.toUInt32 31)).toInt32 :: st) w) : BS sh own cc n rt fr lo Φ pc L (.int y :: .int x :: st) w := by
  intro p l e s m args below meth co D ca ad H locs ls cx hP hD hS hl
  exact lv_iushr cx.1 cx.2.1 hd rfl (kk p l e s m args below meth co D ca ad H locs ls cx hP hD hS hl)
theorem b_i2l {x : Int32} (hd : decode cc pc = .ok (.i2l, 1)) (kk : BS sh own cc n rt fr lo Φ (pc + 1) L (.long x.toInt64 :: st) w) : BS sh own cc n rt fr lo Φ pc L (.int x :: st) w := by
  intro p l e s m args below meth co D ca ad H locs ls cx hP hD hS hl
  exact lv_i2l cx.1 cx.2.1 hd rfl (kk p l e s m args below meth co D ca ad H locs ls cx hP hD hS hl)
theorem b_i2b {x : Int32} (hd : decode cc pc = .ok (.i2b, 1)) (kk : BS sh own cc n rt fr lo Φ (pc + 1) L (.int x.toInt8.toInt32 :: st) w) : BS sh own cc n rt fr lo Φ pc L (.int x :: st) w := by
  intro p l e s m args below meth co D ca ad H locs ls cx hP hD hS hl
  exact lv_i2b cx.1 cx.2.1 hd rfl (kk p l e s m args below meth co D ca ad H locs ls cx hP hD hS hl)
theorem b_i2s {x : Int32} (hd : decode cc pc = .ok (.i2s, 1)) (kk : BS sh own cc n rt fr lo Φ (pc + 1) L (.int x.toInt16.toInt32 :: st) w) : BS sh own cc n rt fr lo Φ pc L (.int x :: st) w := by
  intro p l e s m args below meth co D ca ad H locs ls cx hP hD hS hl
  exact lv_i2s cx.1 cx.2.1 hd rfl (kk p l e s m args below meth co D ca ad H locs ls cx hP hD hS hl)
theorem b_dup {v : Value} (hd : decode cc pc = .ok (.dup, 1)) (hv : v.category = 1) (kk : BS sh own cc n rt fr lo Φ (pc + 1) L (v :: v :: st) w) : BS sh own cc n rt fr lo Φ pc L (v :: st) w := by
  intro p l e s m args below meth co D ca ad H locs ls cx hP hD hS hl
  exact lv_dup cx.1 cx.2.1 hd (by rw [k_v_cat]; exact hv) (kk p l e s m args below meth co D ca ad H locs ls cx hP hD hS hl)
theorem b_if_eq {x : Int32} {off : Int} {tgt : Nat} (hd : decode cc pc = .ok (.ifCond .eq off, 3)) (ht : (pc : Int) + off = (tgt : Int)) (kt : x = 0 → BS sh own cc n rt fr lo Φ tgt L st w) (kf : ¬ x = 0 → BS sh own cc n rt fr lo Φ (pc + 3) L st w) : BS sh own cc n rt fr lo Φ pc L (.int x :: st) w := by
  intro p l e s m args below meth co D ca ad H locs ls cx hP hD hS hl
  exact lv_if_eq cx.1 cx.2.1 hd ht (fun h9 => kt h9 p l e s m args below meth co D ca ad H locs ls cx hP hD hS hl) (fun h9 => kf h9 p l e s m args below meth co D ca ad H locs ls cx hP hD hS hl)
theorem b_icmp_eq {x y : Int32} {off : Int} {tgt : Nat} (hd : decode cc pc = .ok (.if_icmp .eq off, 3)) (ht : (pc : Int) + off = (tgt : Int)) (kt : x = y → BS sh own cc n rt fr lo Φ tgt L st w) (kf : ¬ x = y → BS sh own cc n rt fr lo Φ (pc + 3) L st w) : BS sh own cc n rt fr lo Φ pc L (.int y :: .int x :: st) w := by
  intro p l e s m args below meth co D ca ad H locs ls cx hP hD hS hl
  exact lv_icmp_eq cx.1 cx.2.1 hd ht (fun h9 => kt h9 p l e s m args below meth co D ca ad H locs ls cx hP hD hS hl) (fun h9 => kf h9 p l e s m args below meth co D ca ad H locs ls cx hP hD hS hl)
theorem b_if_ne {x : Int32} {off : Int} {tgt : Nat} (hd : decode cc pc = .ok (.ifCond .ne off, 3)) (ht : (pc : Int) + off = (tgt : Int)) (kt : ¬ x = 0 → BS sh own cc n rt fr lo Φ tgt L st w) (kf : x = 0 → BS sh own cc n rt fr lo Φ (pc + 3) L st w) : BS sh own cc n rt fr lo Φ pc L (.int x :: st) w := by
  intro p l e s m args below meth co D ca ad H locs ls cx hP hD hS hl
  exact lv_if_ne cx.1 cx.2.1 hd ht (fun h9 => kt h9 p l e s m args below meth co D ca ad H locs ls cx hP hD hS hl) (fun h9 => kf h9 p l e s m args below meth co D ca ad H locs ls cx hP hD hS hl)
theorem b_icmp_ne {x y : Int32} {off : Int} {tgt : Nat} (hd : decode cc pc = .ok (.if_icmp .ne off, 3)) (ht : (pc : Int) + off = (tgt : Int)) (kt : ¬ x = y → BS sh own cc n rt fr lo Φ tgt L st w) (kf : x = y → BS sh own cc n rt fr lo Φ (pc + 3) L st w) : BS sh own cc n rt fr lo Φ pc L (.int y :: .int x :: st) w := by
  intro p l e s m args below meth co D ca ad H locs ls cx hP hD hS hl
  exact lv_icmp_ne cx.1 cx.2.1 hd ht (fun h9 => kt h9 p l e s m args below meth co D ca ad H locs ls cx hP hD hS hl) (fun h9 => kf h9 p l e s m args below meth co D ca ad H locs ls cx hP hD hS hl)
theorem b_if_lt {x : Int32} {off : Int} {tgt : Nat} (hd : decode cc pc = .ok (.ifCond .lt off, 3)) (ht : (pc : Int) + off = (tgt : Int)) (kt : x < 0 → BS sh own cc n rt fr lo Φ tgt L st w) (kf : ¬ x < 0 → BS sh own cc n rt fr lo Φ (pc + 3) L st w) : BS sh own cc n rt fr lo Φ pc L (.int x :: st) w := by
  intro p l e s m args below meth co D ca ad H locs ls cx hP hD hS hl
  exact lv_if_lt cx.1 cx.2.1 hd ht (fun h9 => kt h9 p l e s m args below meth co D ca ad H locs ls cx hP hD hS hl) (fun h9 => kf h9 p l e s m args below meth co D ca ad H locs ls cx hP hD hS hl)
theorem b_icmp_lt {x y : Int32} {off : Int} {tgt : Nat} (hd : decode cc pc = .ok (.if_icmp .lt off, 3)) (ht : (pc : Int) + off = (tgt : Int)) (kt : x < y → BS sh own cc n rt fr lo Φ tgt L st w) (kf : ¬ x < y → BS sh own cc n rt fr lo Φ (pc + 3) L st w) : BS sh own cc n rt fr lo Φ pc L (.int y :: .int x :: st) w := by
  intro p l e s m args below meth co D ca ad H locs ls cx hP hD hS hl
  exact lv_icmp_lt cx.1 cx.2.1 hd ht (fun h9 => kt h9 p l e s m args below meth co D ca ad H locs ls cx hP hD hS hl) (fun h9 => kf h9 p l e s m args below meth co D ca ad H locs ls cx hP hD hS hl)
theorem b_if_ge {x : Int32} {off : Int} {tgt : Nat} (hd : decode cc pc = .ok (.ifCond .ge off, 3)) (ht : (pc : Int) + off = (tgt : Int)) (kt : 0 ≤ x → BS sh own cc n rt fr lo Φ tgt L st w) (kf : ¬ 0 ≤ x → BS sh own cc n rt fr lo Φ (pc + 3) L st w) : BS sh own cc n rt fr lo Φ pc L (.int x :: st) w := by
  intro p l e s m args below meth co D ca ad H locs ls cx hP hD hS hl
  exact lv_if_ge cx.1 cx.2.1 hd ht (fun h9 => kt h9 p l e s m args below meth co D ca ad H locs ls cx hP hD hS hl) (fun h9 => kf h9 p l e s m args below meth co D ca ad H locs ls cx hP hD hS hl)
theorem b_icmp_ge {x y : Int32} {off : Int} {tgt : Nat} (hd : decode cc pc = .ok (.if_icmp .ge off, 3)) (ht : (pc : Int) + off = (tgt : Int)) (kt : y ≤ x → BS sh own cc n rt fr lo Φ tgt L st w) (kf : ¬ y ≤ x → BS sh own cc n rt fr lo Φ (pc + 3) L st w) : BS sh own cc n rt fr lo Φ pc L (.int y :: .int x :: st) w := by
  intro p l e s m args below meth co D ca ad H locs ls cx hP hD hS hl
  exact lv_icmp_ge cx.1 cx.2.1 hd ht (fun h9 => kt h9 p l e s m args below meth co D ca ad H locs ls cx hP hD hS hl) (fun h9 => kf h9 p l e s m args below meth co D ca ad H locs ls cx hP hD hS hl)
theorem b_if_gt {x : Int32} {off : Int} {tgt : Nat} (hd : decode cc pc = .ok (.ifCond .gt off, 3)) (ht : (pc : Int) + off = (tgt : Int)) (kt : 0 < x → BS sh own cc n rt fr lo Φ tgt L st w) (kf : ¬ 0 < x → BS sh own cc n rt fr lo Φ (pc + 3) L st w) : BS sh own cc n rt fr lo Φ pc L (.int x :: st) w := by
  intro p l e s m args below meth co D ca ad H locs ls cx hP hD hS hl
  exact lv_if_gt cx.1 cx.2.1 hd ht (fun h9 => kt h9 p l e s m args below meth co D ca ad H locs ls cx hP hD hS hl) (fun h9 => kf h9 p l e s m args below meth co D ca ad H locs ls cx hP hD hS hl)
theorem b_icmp_gt {x y : Int32} {off : Int} {tgt : Nat} (hd : decode cc pc = .ok (.if_icmp .gt off, 3)) (ht : (pc : Int) + off = (tgt : Int)) (kt : y < x → BS sh own cc n rt fr lo Φ tgt L st w) (kf : ¬ y < x → BS sh own cc n rt fr lo Φ (pc + 3) L st w) : BS sh own cc n rt fr lo Φ pc L (.int y :: .int x :: st) w := by
  intro p l e s m args below meth co D ca ad H locs ls cx hP hD hS hl
  exact lv_icmp_gt cx.1 cx.2.1 hd ht (fun h9 => kt h9 p l e s m args below meth co D ca ad H locs ls cx hP hD hS hl) (fun h9 => kf h9 p l e s m args below meth co D ca ad H locs ls cx hP hD hS hl)
theorem b_if_le {x : Int32} {off : Int} {tgt : Nat} (hd : decode cc pc = .ok (.ifCond .le off, 3)) (ht : (pc : Int) + off = (tgt : Int)) (kt : x ≤ 0 → BS sh own cc n rt fr lo Φ tgt L st w) (kf : ¬ x ≤ 0 → BS sh own cc n rt fr lo Φ (pc + 3) L st w) : BS sh own cc n rt fr lo Φ pc L (.int x :: st) w := by
  intro p l e s m args below meth co D ca ad H locs ls cx hP hD hS hl
  exact lv_if_le cx.1 cx.2.1 hd ht (fun h9 => kt h9 p l e s m args below meth co D ca ad H locs ls cx hP hD hS hl) (fun h9 => kf h9 p l e s m args below meth co D ca ad H locs ls cx hP hD hS hl)
theorem b_icmp_le {x y : Int32} {off : Int} {tgt : Nat} (hd : decode cc pc = .ok (.if_icmp .le off, 3)) (ht : (pc : Int) + off = (tgt : Int)) (kt : x ≤ y → BS sh own cc n rt fr lo Φ tgt L st w) (kf : ¬ x ≤ y → BS sh own cc n rt fr lo Φ (pc + 3) L st w) : BS sh own cc n rt fr lo Φ pc L (.int y :: .int x :: st) w := by
  intro p l e s m args below meth co D ca ad H locs ls cx hP hD hS hl
  exact lv_icmp_le cx.1 cx.2.1 hd ht (fun h9 => kt h9 p l e s m args below meth co D ca ad H locs ls cx hP hD hS hl) (fun h9 => kf h9 p l e s m args below meth co D ca ad H locs ls cx hP hD hS hl)
theorem b_goto {off : Int} {tgt : Nat} (hd : decode cc pc = .ok (.goto off, 3)) (ht : (pc : Int) + off = (tgt : Int)) (kk : BS sh own cc n rt fr lo Φ tgt L st w) : BS sh own cc n rt fr lo Φ pc L st w := by
  intro p l e s m args below meth co D ca ad H locs ls cx hP hD hS hl
  exact lv_goto cx.1 cx.2.1 hd ht (kk p l e s m args below meth co D ca ad H locs ls cx hP hD hS hl)
theorem b_ifnull {x : Nat} {off : Int} (hd : decode cc pc = .ok (.ifnull off, 3)) (kk : BS sh own cc n rt fr lo Φ (pc + 3) L st w) : BS sh own cc n rt fr lo Φ pc L (.ref x :: st) w := by
  intro p l e s m args below meth co D ca ad H locs ls cx hP hD hS hl
  exact lv_ifnull cx.1 cx.2.1 hd (kk p l e s m args below meth co D ca ad H locs ls cx hP hD hS hl)
theorem b_ifnullN {off : Int} {tgt : Nat} (hd : decode cc pc = .ok (.ifnull off, 3)) (ht : (pc : Int) + off = (tgt : Int)) (kk : BS sh own cc n rt fr lo Φ tgt L st w) : BS sh own cc n rt fr lo Φ pc L (.null :: st) w := by
  intro p l e s m args below meth co D ca ad H locs ls cx hP hD hS hl
  exact lv_ifnullN cx.1 cx.2.1 hd ht (kk p l e s m args below meth co D ca ad H locs ls cx hP hD hS hl)
theorem b_ifnonnull {x : Nat} {off : Int} {tgt : Nat} (hd : decode cc pc = .ok (.ifnonnull off, 3)) (ht : (pc : Int) + off = (tgt : Int)) (kk : BS sh own cc n rt fr lo Φ tgt L st w) : BS sh own cc n rt fr lo Φ pc L (.ref x :: st) w := by
  intro p l e s m args below meth co D ca ad H locs ls cx hP hD hS hl
  exact lv_ifnonnull cx.1 cx.2.1 hd ht (kk p l e s m args below meth co D ca ad H locs ls cx hP hD hS hl)
theorem b_ifnonnullN {off : Int} (hd : decode cc pc = .ok (.ifnonnull off, 3)) (kk : BS sh own cc n rt fr lo Φ (pc + 3) L st w) : BS sh own cc n rt fr lo Φ pc L (.null :: st) w := by
  intro p l e s m args below meth co D ca ad H locs ls cx hP hD hS hl
  exact lv_ifnonnullN cx.1 cx.2.1 hd (kk p l e s m args below meth co D ca ad H locs ls cx hP hD hS hl)
theorem b_tsIn {dflt lw hg : Int} {offs : Array Int} {len : Nat} {x : Int32} {off : Int} {tgt : Nat} (hd : decode cc pc = .ok (.tableswitch dflt lw hg offs, len)) (h1 : ¬ x.toInt < lw) (h2 : ¬ hg < x.toInt) (ho : offs[(x.toInt - lw).toNat]? = some off) (ht : (pc : Int) + off = (tgt : Int)) (kk : BS sh own cc n rt fr lo Φ tgt L st w) : BS sh own cc n rt fr lo Φ pc L (.int x :: st) w := by
  intro p l e s m args below meth co D ca ad H locs ls cx hP hD hS hl
  exact lv_tableIn cx.1 cx.2.1 hd h1 h2 ho ht (kk p l e s m args below meth co D ca ad H locs ls cx hP hD hS hl)
theorem b_tsOut {dflt lw hg : Int} {offs : Array Int} {len : Nat} {x : Int32} {tgt : Nat} (hd : decode cc pc = .ok (.tableswitch dflt lw hg offs, len)) (h : x.toInt < lw ∨ hg < x.toInt) (ht : (pc : Int) + dflt = (tgt : Int)) (kk : BS sh own cc n rt fr lo Φ tgt L st w) : BS sh own cc n rt fr lo Φ pc L (.int x :: st) w := by
  intro p l e s m args below meth co D ca ad H locs ls cx hP hD hS hl
  exact lv_tableOut cx.1 cx.2.1 hd h ht (kk p l e s m args below meth co D ca ad H locs ls cx hP hD hS hl)
theorem b_lsw {dflt : Int} {ps : Array (Int × Int)} {len : Nat} {x : Int32} {off : Int} {tgt : Nat} (hd : decode cc pc = .ok (.lookupswitch dflt ps, len)) (hp : (ps.toList.zip (ps.toList.drop 1)).all (fun (a, next) => a.1 < next.1) = true) (ho : Op.lookupswitch.offset ps.toList dflt x.toInt = off) (ht : (pc : Int) + off = (tgt : Int)) (kk : BS sh own cc n rt fr lo Φ tgt L st w) : BS sh own cc n rt fr lo Φ pc L (.int x :: st) w := by
  intro p l e s m args below meth co D ca ad H locs ls cx hP hD hS hl
  exact lv_lookup cx.1 cx.2.1 hd hp ho ht (kk p l e s m args below meth co D ca ad H locs ls cx hP hD hS hl)
/-- field k of kind ci, under the entry ix of own's pool -/
def k_fld (own : String) (ix ci k : Nat) : Prop := ∃ (C : String) (T : u_T) (N : Nat), vwCl[ci]? = some (C, T, N) ∧ (∀ w ∈ u_ws C T N, w ∈ cw) ∧ k < N ∧ Cond.fieldLink own ix (T k).1 (T k).2.1 (T k).2.2.1 ∈ cw
/-- what a store into it wants: its type, not final -/
def k_fst (ci k : Nat) (ty : FieldType) : Prop := ∃ (C : String) (T : u_T) (N : Nat) (t0 : Nat → FieldType), vwCl[ci]? = some (C, T, N) ∧ (∀ a, a < N → parseFieldDescriptor (T a).2.2.1 = some (t0 a)) ∧ (∀ a, a < N → ∀ b, b < N → a ≠ b → (T a).2.1 ≠ (T b).2.1) ∧ t0 k = ty ∧ (T k).2.2.2 = false
theorem k_obj {ad : Nat → Nat} {ca : Nat → ClassId} {c ci : Nat} {fs : List kF} (hc : sh[c]? = some (.inl (ci, fs))) : (k_wd ad ca sh w)[c]? = some (ad c, .inr (ci, fs.mapIdx (fun j f => k_val ad w c j f))) := k_wd_get hc
theorem k_fs {ad : Nat → Nat} {c k : Nat} {fs : List kF} {f : kF} (hf : fs[k]? = some f) : (fs.mapIdx (fun j f => k_val ad w c j f))[k]? = some (k_val ad w c k f) := by
  rw [List.getElem?_mapIdx, hf]; rfl
theorem b_geti {ix c ci k : Nat} {fs : List kF} (hd : decode cc pc = .ok (.getfield ix, 3)) (hF : k_fld own ix ci k) (hc : sh[c]? = some (.inl (ci, fs))) (hf : fs[k]? = some none) (kk : BS sh own cc n rt fr lo Φ (pc + 3) L ((.int (w.1 c k)) :: st) w) : BS sh own cc n rt fr lo Φ pc L (.ref c :: st) w := by
  intro p l e s m args below meth co D ca ad H locs ls cx hP hD hS hl
  obtain ⟨C, T, N, hcl, hin, hk, hlk⟩ := hF
  exact va_get cx.1 cx.2.1 cx.2.2.2.2.1 hin cx.2.2.2.1 cx.2.2.2.2.2.2.2.1 hP c (k_obj hc) hcl k hk (cx.2.2.2.2.1 _ hlk) (fun x h => h) (k_fs hf) hd (kk p l e s m args below meth co D ca ad H locs ls cx hP hD hS hl)
theorem b_getl {ix c ci k : Nat} {fs : List kF} (hd : decode cc pc = .ok (.getfield ix, 3)) (hF : k_fld own ix ci k) (hc : sh[c]? = some (.inl (ci, fs))) (hf : fs[k]? = some (some none)) (kk : BS sh own cc n rt fr lo Φ (pc + 3) L ((.long (w.2 c k)) :: st) w) : BS sh own cc n rt fr lo Φ pc L (.ref c :: st) w := by
  intro p l e s m args below meth co D ca ad H locs ls cx hP hD hS hl
  obtain ⟨C, T, N, hcl, hin, hk, hlk⟩ := hF
  exact va_get cx.1 cx.2.1 cx.2.2.2.2.1 hin cx.2.2.2.1 cx.2.2.2.2.2.2.2.1 hP c (k_obj hc) hcl k hk (cx.2.2.2.2.1 _ hlk) (fun x h => h) (k_fs hf) hd (kk p l e s m args below meth co D ca ad H locs ls cx hP hD hS hl)
theorem b_getr {ix c ci k : Nat} {r : Nat} {fs : List kF} (hd : decode cc pc = .ok (.getfield ix, 3)) (hF : k_fld own ix ci k) (hc : sh[c]? = some (.inl (ci, fs))) (hf : fs[k]? = some (some (some r))) (kk : BS sh own cc n rt fr lo Φ (pc + 3) L ((.ref r) :: st) w) : BS sh own cc n rt fr lo Φ pc L (.ref c :: st) w := by
  intro p l e s m args below meth co D ca ad H locs ls cx hP hD hS hl
  obtain ⟨C, T, N, hcl, hin, hk, hlk⟩ := hF
  exact va_get cx.1 cx.2.1 cx.2.2.2.2.1 hin cx.2.2.2.1 cx.2.2.2.2.2.2.2.1 hP c (k_obj hc) hcl k hk (cx.2.2.2.2.1 _ hlk) (fun x h => h) (k_fs hf) hd (kk p l e s m args below meth co D ca ad H locs ls cx hP hD hS hl)
theorem k_set_i {ad : Nat → Nat} {ca : Nat → ClassId} {c ci k : Nat} {fs : List kF} {v : Int32} (hc : sh[c]? = some (.inl (ci, fs))) (hf : fs[k]? = some none) : (k_wd ad ca sh w).set c (ad c, .inr (ci, (fs.mapIdx (fun j f => k_val ad w c j f)).set k (.int v))) = k_wd ad ca sh (k_up w.1 c k v, w.2) := by
  refine k_wd_set (w := w) (w' := (k_up w.1 c k v, w.2)) hc (fun c' h => k_up_row _ _ _ _ h) (fun _ _ => rfl) ?_
  show Sum.inr (ci, _) = Sum.inr (ci, _)
  congr 2
  apply List.ext_getElem?
  intro i
  have hl := (List.getElem?_eq_some_iff.mp hf).1
  by_cases hi : k = i
  · subst hi
    rw [List.getElem?_set_self (by simpa using hl), List.getElem?_mapIdx, hf]
    simp [k_val, k_up]
  · rw [List.getElem?_set_ne hi, List.getElem?_mapIdx, List.getElem?_mapIdx]
    cases hs : fs[i]? with
    | none => rfl
    | some f =>
      match f with
      | none => simp [k_val, k_up, Ne.symm hi]
      | some none => rfl
      | some (some r) => rfl
theorem k_set_l {ad : Nat → Nat} {ca : Nat → ClassId} {c ci k : Nat} {fs : List kF} {v : Int64} (hc : sh[c]? = some (.inl (ci, fs))) (hf : fs[k]? = some (some none)) : (k_wd ad ca sh w).set c (ad c, .inr (ci, (fs.mapIdx (fun j f => k_val ad w c j f)).set k (.long v))) = k_wd ad ca sh (w.1, k_up w.2 c k v) := by
  refine k_wd_set (w := w) (w' := (w.1, k_up w.2 c k v)) hc (fun _ _ => rfl) (fun c' h => k_up_row _ _ _ _ h) ?_
  show Sum.inr (ci, _) = Sum.inr (ci, _)
  congr 2
  apply List.ext_getElem?
  intro i
  have hl := (List.getElem?_eq_some_iff.mp hf).1
  by_cases hi : k = i
  · subst hi
    rw [List.getElem?_set_self (by simpa using hl), List.getElem?_mapIdx, hf]
    simp [k_val, k_up]
  · rw [List.getElem?_set_ne hi, List.getElem?_mapIdx, List.getElem?_mapIdx]
    cases hs : fs[i]? with
    | none => rfl
    | some f =>
      match f with
      | none => rfl
      | some none => simp [k_val, k_up, Ne.symm hi]
      | some (some r) => rfl
theorem k_arr {ad : Nat → Nat} {ca : Nat → ClassId} {c t N : Nat} (hc : sh[c]? = some (.inr (.inl (t, N)))) : (k_wd ad ca sh w)[c]? = some (ad c, .inl (ca t, N, .inl (w.1 c))) := k_wd_get hc
theorem k_set_a {ad : Nat → Nat} {ca : Nat → ClassId} {c t N i : Nat} {v : Int32} (hc : sh[c]? = some (.inr (.inl (t, N)))) : (k_wd ad ca sh w).set c (ad c, .inl (ca t, N, .inl (upd (w.1 c) i v))) = k_wd ad ca sh (k_up w.1 c i v, w.2) := by
  refine k_wd_set (w := w) (w' := (k_up w.1 c i v, w.2)) hc (fun c' h => k_up_row _ _ _ _ h) (fun _ _ => rfl) ?_
  show Sum.inl (ca t, N, Sum.inl _) = Sum.inl (ca t, N, Sum.inl _)
  refine congrArg (fun f => Sum.inl (ca t, N, Sum.inl f)) ?_
  funext j
  simp [upd, k_up]
theorem b_puti {ix c ci k : Nat} {v : Int32} {fs : List kF} (hd : decode cc pc = .ok (.putfield ix, 3)) (hF : k_fld own ix ci k) (hG : k_fst ci k .int) (hc : sh[c]? = some (.inl (ci, fs))) (hf : fs[k]? = some none) (kk : BS sh own cc n rt fr lo Φ (pc + 3) L st (k_up w.1 c k v, w.2)) : BS sh own cc n rt fr lo Φ pc L (.int v :: .ref c :: st) w := by
  intro p l e s m args below meth co D ca ad H locs ls cx hP hD hS hl
  obtain ⟨C, T, N, hcl, hin, hk, hlk⟩ := hF
  obtain ⟨C', T', N', t0, hcl', hty, hnm, hkt, hfin⟩ := hG
  cases hcl.symm.trans hcl'
  have hl9 : k < (fs.mapIdx (fun j f => k_val ad w c j f)).length := by simpa using (List.getElem?_eq_some_iff.mp hf).1
  refine va_put (ty := .int) cx.1 cx.2.1 cx.2.2.2.2.1 hin t0 hty hnm cx.2.2.2.1 cx.2.2.2.2.2.2.2.1 hP hD hS c (k_obj hc) hcl k hk (cx.2.2.2.2.1 _ hlk) (fun x h => h) hfin (by rw [hty k hk, hkt]) rfl rfl hl9 hd (fun H1 locs1 hP1 hD1 hS1 => ?_)
  have e9 := k_set_i (w := w) (ad := ad) (ca := ca) (v := v) hc hf
  exact kk p l e s m args below meth co D ca ad H1 locs1 ls cx (e9 ▸ hP1) (k_D_self hD) hS1 hl
theorem b_putz {ix c ci k : Nat} {v : Int32} {fs : List kF} (hd : decode cc pc = .ok (.putfield ix, 3)) (hF : k_fld own ix ci k) (hG : k_fst ci k .boolean) (hc : sh[c]? = some (.inl (ci, fs))) (hf : fs[k]? = some none) (hv : v = 0 ∨ v = 1) (kk : BS sh own cc n rt fr lo Φ (pc + 3) L st (k_up w.1 c k v, w.2)) : BS sh own cc n rt fr lo Φ pc L (.int v :: .ref c :: st) w := by
  intro p l e s m args below meth co D ca ad H locs ls cx hP hD hS hl
  obtain ⟨C, T, N, hcl, hin, hk, hlk⟩ := hF
  obtain ⟨C', T', N', t0, hcl', hty, hnm, hkt, hfin⟩ := hG
  cases hcl.symm.trans hcl'
  have hl9 : k < (fs.mapIdx (fun j f => k_val ad w c j f)).length := by simpa using (List.getElem?_eq_some_iff.mp hf).1
  refine va_put (ty := .boolean) cx.1 cx.2.1 cx.2.2.2.2.1 hin t0 hty hnm cx.2.2.2.1 cx.2.2.2.2.2.2.2.1 hP hD hS c (k_obj hc) hcl k hk (cx.2.2.2.2.1 _ hlk) (fun x h => h) hfin (by rw [hty k hk, hkt]) (by rcases hv with rfl | rfl <;> rfl) (by rcases hv with rfl | rfl <;> rfl) hl9 hd (fun H1 locs1 hP1 hD1 hS1 => ?_)
  have e9 := k_set_i (w := w) (ad := ad) (ca := ca) (v := v) hc hf
  exact kk p l e s m args below meth co D ca ad H1 locs1 ls cx (e9 ▸ hP1) (k_D_self hD) hS1 hl
theorem b_putl {ix c ci k : Nat} {v : Int64} {fs : List kF} (hd : decode cc pc = .ok (.putfield ix, 3)) (hF : k_fld own ix ci k) (hG : k_fst ci k .long) (hc : sh[c]? = some (.inl (ci, fs))) (hf : fs[k]? = some (some none)) (kk : BS sh own cc n rt fr lo Φ (pc + 3) L st (w.1, k_up w.2 c k v)) : BS sh own cc n rt fr lo Φ pc L (.long v :: .ref c :: st) w := by
  intro p l e s m args below meth co D ca ad H locs ls cx hP hD hS hl
  obtain ⟨C, T, N, hcl, hin, hk, hlk⟩ := hF
  obtain ⟨C', T', N', t0, hcl', hty, hnm, hkt, hfin⟩ := hG
  cases hcl.symm.trans hcl'
  have hl9 : k < (fs.mapIdx (fun j f => k_val ad w c j f)).length := by simpa using (List.getElem?_eq_some_iff.mp hf).1
  refine va_put (ty := .long) cx.1 cx.2.1 cx.2.2.2.2.1 hin t0 hty hnm cx.2.2.2.1 cx.2.2.2.2.2.2.2.1 hP hD hS c (k_obj hc) hcl k hk (cx.2.2.2.2.1 _ hlk) (fun x h => h) hfin (by rw [hty k hk, hkt]) rfl rfl hl9 hd (fun H1 locs1 hP1 hD1 hS1 => ?_)
  have e9 := k_set_l (w := w) (ad := ad) (ca := ca) (v := v) hc hf
  exact kk p l e s m args below meth co D ca ad H1 locs1 ls cx (e9 ▸ hP1) (k_D_self hD) hS1 hl
theorem b_iald {c N : Nat} {i : Int32} (hd : decode cc pc = .ok (.iaload, 1)) (hc : sh[c]? = some (.inr (.inl (0, N)))) (hi : vp_in i N) (kk : BS sh own cc n rt fr lo Φ (pc + 1) L (.int (w.1 c i.toNatClampNeg) :: st) w) : BS sh own cc n rt fr lo Φ pc L (.int i :: .ref c :: st) w := by
  intro p l e s m args below meth co D ca ad H locs ls cx hP hD hS hl
  exact va_iald cx.1 cx.2.1 cx.2.2.2.2.2.2.2.1 hP c 0 (k_arr hc) rfl hi hd (kk p l e s m args below meth co D ca ad H locs ls cx hP hD hS hl)
theorem b_zald {c N : Nat} {i : Int32} (hd : decode cc pc = .ok (.baload, 1)) (hc : sh[c]? = some (.inr (.inl (1, N)))) (hi : vp_in i N) (kk : BS sh own cc n rt fr lo Φ (pc + 1) L (.int (w.1 c i.toNatClampNeg) :: st) w) : BS sh own cc n rt fr lo Φ pc L (.int i :: .ref c :: st) w := by
  intro p l e s m args below meth co D ca ad H locs ls cx hP hD hS hl
  exact va_zald cx.1 cx.2.1 cx.2.2.2.2.2.2.2.1 hP c 1 (k_arr hc) rfl hi hd (kk p l e s m args below meth co D ca ad H locs ls cx hP hD hS hl)
theorem b_iast {c N : Nat} {i x : Int32} (hd : decode cc pc = .ok (.iastore, 1)) (hc : sh[c]? = some (.inr (.inl (0, N)))) (hi : vp_in i N) (kk : BS sh own cc n rt fr lo Φ (pc + 1) L st (k_up w.1 c i.toNatClampNeg x, w.2)) : BS sh own cc n rt fr lo Φ pc L (.int x :: .int i :: .ref c :: st) w := by
  intro p l e s m args below meth co D ca ad H locs ls cx hP hD hS hl
  refine va_iast cx.1 cx.2.1 cx.2.2.2.2.2.2.2.1 hP hD hS c 0 (k_arr hc) rfl hi hd (fun H1 locs1 hP1 hD1 hS1 => ?_)
  have e9 := k_set_a (w := w) (ad := ad) (ca := ca) (i := i.toNatClampNeg) (v := x) hc
  exact kk p l e s m args below meth co D ca ad H1 locs1 ls cx (e9 ▸ hP1) (k_D_self hD) hS1 hl
theorem b_zast {c N : Nat} {i x : Int32} (hd : decode cc pc = .ok (.bastore, 1)) (hc : sh[c]? = some (.inr (.inl (1, N)))) (hi : vp_in i N) (hx : vp_nar .boolean x = x) (kk : BS sh own cc n rt fr lo Φ (pc + 1) L st (k_up w.1 c i.toNatClampNeg x, w.2)) : BS sh own cc n rt fr lo Φ pc L (.int x :: .int i :: .ref c :: st) w := by
  intro p l e s m args below meth co D ca ad H locs ls cx hP hD hS hl
  refine va_zast cx.1 cx.2.1 cx.2.2.2.2.2.2.2.1 hP hD hS c 1 (k_arr hc) rfl hi hd (fun H1 locs1 hP1 hD1 hS1 => ?_)
  rw [hx] at hP1
  have e9 := k_set_a (w := w) (ad := ad) (ca := ca) (i := i.toNatClampNeg) (v := x) hc
  exact kk p l e s m args below meth co D ca ad H1 locs1 ls cx (e9 ▸ hP1) (k_D_self hD) hS1 hl
theorem b_alen {c t N : Nat} {v : Int32} (hd : decode cc pc = .ok (.arraylength, 1)) (hc : sh[c]? = some (.inr (.inl (t, N)))) (ht : t < 4) (hv : Int32.ofNat N = v) (kk : BS sh own cc n rt fr lo Φ (pc + 1) L (.int v :: st) w) : BS sh own cc n rt fr lo Φ pc L (.ref c :: st) w := by
  intro p l e s m args below meth co D ca ad H locs ls cx hP hD hS hl
  obtain ⟨ty, hty⟩ : ∃ ty, (k_tys ca)[t]? = some (ca t, ty) := by
    rcases (show t = 0 ∨ t = 1 ∨ t = 2 ∨ t = 3 by omega) with rfl | rfl | rfl | rfl <;> exact ⟨_, rfl⟩
  exact va_alen cx.1 cx.2.1 cx.2.2.2.2.2.2.2.1 hP c t (k_arr hc) hty hv hd (kk p l e s m args below meth co D ca ad H locs ls cx hP hD hS hl)
theorem b_aald {c t N r : Nat} {i : Int32} {f : Nat → Option Nat} (hd : decode cc pc = .ok (.aaload, 1)) (hc : sh[c]? = some (.inr (.inr (t, N, f)))) (ht : t = 2 ∨ t = 3) (hi : vp_in i N) (hf : f i.toNatClampNeg = some r) (kk : BS sh own cc n rt fr lo Φ (pc + 1) L (.ref r :: st) w) : BS sh own cc n rt fr lo Φ pc L (.int i :: .ref c :: st) w := by
  intro p l e s m args below meth co D ca ad H locs ls cx hP hD hS hl
  have hlt : i.toNatClampNeg < N := Nat.not_le.mp fun q => hi (Or.inr q)
  have hg : (k_wd ad ca sh w)[c]? = some (ad c, .inl (ca t, N, .inr (.inr (.inr (.inr (fun i => (f i).map ad)))))) := k_wd_get hc
  obtain ⟨ty, hty, hr⟩ : ∃ ty : FieldType, (k_tys ca)[t]? = some (ca t, ty) ∧ ty.isReference = true := by
    rcases ht with rfl | rfl <;> exact ⟨_, rfl, rfl⟩
  refine W.aald (v := .ref (ad r)) (ty := ty) cx.1 cx.2.1 (hP c _ hg) ((cx.2.2.2.2.2.2.2.1.2 t _ hty).1 N (fun j => va_rf ((f j).map ad))) hr (fun q => by cases q) (by show ¬ (i < 0 ∨ (arrV _ _ _).slots.size ≤ _); rw [arrV_size]; exact hi) ?_ rfl rfl hd (kk p l e s m args below meth co D ca ad H locs ls cx hP hD hS hl)
  show (arrV _ _ _).slots[_]? = _
  rw [arrV_read _ _ hlt]
  show some (va_rf ((f i.toNatClampNeg).map ad)) = _
  rw [hf]
  rfl
theorem b_iret {v : Int32} (hd : decode cc pc = .ok (.ireturn, 1)) (hr : rt = some .int) (h : Φ (some (.int v)) w) : BS sh own cc n rt fr lo Φ pc L [(.int v)] w := by
  intro p l e s m args below meth co D ca ad H locs ls cx hP hD hS hl
  exact W.iret cx.1 cx.2.1 (cx.2.2.2.2.2.1.trans hr) (fun t ht hW => ⟨⟨some (.int v), w, rfl, h, by rw [ht]; exact hP, va_K.moved hW.alike cx.2.2.2.2.2.2.2.1⟩, hS.F ht⟩) hS.2.2 hd cx.2.2.2.2.2.2.1
theorem b_zret {v : Int32} (hv : v = 0 ∨ v = 1) (hd : decode cc pc = .ok (.ireturn, 1)) (hr : rt = some .boolean) (h : Φ (some (.int v)) w) : BS sh own cc n rt fr lo Φ pc L [(.int v)] w := by
  intro p l e s m args below meth co D ca ad H locs ls cx hP hD hS hl
  exact W.zret cx.1 cx.2.1 (cx.2.2.2.2.2.1.trans hr) (by rcases hv with rfl | rfl <;> rfl) (fun t ht hW => ⟨⟨some (.int v), w, rfl, h, by rw [ht]; exact hP, va_K.moved hW.alike cx.2.2.2.2.2.2.2.1⟩, hS.F ht⟩) hS.2.2 hd cx.2.2.2.2.2.2.1
theorem b_lret {v : Int64} (hd : decode cc pc = .ok (.lreturn, 1)) (hr : rt = some .long) (h : Φ (some (.long v)) w) : BS sh own cc n rt fr lo Φ pc L [(.long v)] w := by
  intro p l e s m args below meth co D ca ad H locs ls cx hP hD hS hl
  exact W.lret cx.1 cx.2.1 (cx.2.2.2.2.2.1.trans hr) (fun t ht hW => ⟨⟨some (.long v), w, rfl, h, by rw [ht]; exact hP, va_K.moved hW.alike cx.2.2.2.2.2.2.2.1⟩, hS.F ht⟩) hS.2.2 hd cx.2.2.2.2.2.2.1
theorem b_vret (hd : decode cc pc = .ok (.return_, 1)) (hr : rt = none) (h : Φ none w) : BS sh own cc n rt fr lo Φ pc L [] w := by
  intro p l e s m args below meth co D ca ad H locs ls cx hP hD hS hl
  exact W.vret cx.1 cx.2.1 (cx.2.2.2.2.2.1.trans hr) (fun t ht hW => ⟨⟨none, w, rfl, h, by rw [ht]; exact hP, va_K.moved hW.alike cx.2.2.2.2.2.2.2.1⟩, hS.F ht⟩) hS.2.2 hd cx.2.2.2.2.2.2.1
theorem b_aret {v : Value} {C : String} (hd : decode cc pc = .ok (.areturn, 1)) (hr : rt = some (.object C)) (hv : v = .null ∨ ∃ a, v = .ref a) (h : Φ (some v) w) : BS sh own cc n rt fr lo Φ pc L [v] w := by
  intro p l e s m args below meth co D ca ad H locs ls cx hP hD hS hl
  exact W.aret cx.1 cx.2.1 (cx.2.2.2.2.2.1.trans hr) (Or.inl ⟨_, rfl⟩) (by rcases hv with rfl | ⟨a, rfl⟩; exact Or.inl rfl; exact Or.inr ⟨_, rfl⟩) (fun t ht hW => ⟨⟨some v, w, rfl, h, by rw [ht]; exact hP, va_K.moved hW.alike cx.2.2.2.2.2.2.2.1⟩, hS.F ht⟩) hS.2.2 hd cx.2.2.2.2.2.2.1

theorem k_goodIn {z : MethodName} {zc : ByteArray} {zn : Nat} {zr : Option FieldType} (h : Cond.code z zc zn zr ∈ cw) : GoodIn cw (.code z zc zn zr :: cw) := by
  intro v hv
  rcases List.mem_cons.mp hv with e | e
  · subst e
    exact ⟨h, good_of_word (cw_good h)⟩
  · exact ⟨e, good_of_word (cw_good e)⟩
/-- a call's words: entry ix of own's pool is z, z's code, its parameters -/
def k_lkC (own : String) (ix : Nat) (z : MethodName) (zc : ByteArray) (zn : Nat) (zr : Option FieldType) (a : Nat) : Prop := Cond.methodLink own ix z ∈ cw ∧ Cond.initialized z.cls ∈ cw ∧ Cond.code z zc zn zr ∈ cw ∧ z.cls ≠ "java/lang/invoke/MethodHandle" ∧ z.cls ≠ "java/lang/invoke/VarHandle" ∧ (parseMethodDescriptor z.desc).map (fun d => d.parameters.length) = some a
def k_lkV (own : String) (ix : Nat) (z : MethodName) (zc : ByteArray) (zn : Nat) (zr : Option FieldType) (a : Nat) : Prop := k_lkC own ix z zc zn zr a ∧ Cond.instanceMethod z ∈ cw ∧ Cond.selects z.cls z z ∈ cw
def k_lkS (own : String) (ix : Nat) (z : MethodName) (zc : ByteArray) (zn : Nat) (zr : Option FieldType) (a : Nat) : Prop := k_lkC own ix z zc zn zr a ∧ Cond.static z ∈ cw
theorem k_goes {p : Program} {l : Launch} {e : Env} {R : Room} {s : State} {m : MethodId} {args : Array Value} {below : List Frame} {meth : Method} {c : Code} {H H0 : Heap} {locs : List Loc} {Q : State → Prop} {ls : Array Slot} {st0 rest : List Value} {D : va_G} {ca : Nat → ClassId} {ad : Nat → Nat} {Ψ : Option Value → kW → Prop} {a : Array Value}
    (hr : va_Run p l e R s m args below meth c H locs 0 0 0 0 (F0 m pc ls st0) (rest.map (k_v ad)) (k_Qc sh D ca ad H.size Ψ a) (k_A sh ad H.size)) (hS : va_S (k_A sh ad H0.size) H0 H locs)
    (kk : ∀ (r : Option Value) (w' : kW) (H1 : Heap) (locs1 : List Loc), Ψ r w' → va_P D vwCl (k_wd ad ca sh w') H1 → va_S (k_A sh ad H0.size) H0 H1 locs1 → W p l e R s m args below meth c H1 locs1 0 0 Q (F0 m (pc + 3) ls ((r.toList ++ rest).map (k_v ad)))) : W p l e R s m args below meth c H locs 0 0 Q (F0 m pc ls st0) := by
  intro T hT X
  obtain ⟨v, st₀, t, T', L, h0, X', hL, e1, e2, ⟨⟨r, w', hv, hp, hb, hK⟩, hz, hk⟩, st⟩ := hr T hT X
  cases hv
  rw [h0] at hz hk
  have hA : ∀ q, k_A sh ad H.size q → k_A sh ad H0.size q := fun q h => h.elim Or.inl (fun h => Or.inr (Nat.le_trans hS.1 h))
  obtain ⟨t2, a1, b1⟩ := kk r w' T'.heap (locs ++ L) hp (by rw [e1]; exact hb)
    ⟨Nat.le_trans hS.1 (by rw [e1]; exact hz), fun q h1 h2 => by rw [e1, hk q (Nat.lt_of_lt_of_le h1 hS.1) (fun z => h2 (hA q z))]; exact hS.2.1 q h1 h2, fun q hq => by
      rcases List.mem_append.mp hq with h | h
      · exact hS.2.2 q h
      · exact hA _ (hL q h)⟩ T' rfl X'
  refine ⟨t2, st t2 ?_, b1⟩
  have e9 : (r.map (k_v ad)).toList ++ rest.map (k_v ad) = (r.toList ++ rest).map (k_v ad) := by cases r <;> rfl
  rw [e9]
  exact a1
theorem b_callV {z : MethodName} {zc : ByteArray} {zn zf zl ix a b ci : Nat} {zr : Option FieldType} {fs : List kF} {q : vw_C} {As : List Value} {Ψ : Option Value → kW → Prop} (hd : decode cc pc = .ok (.invokevirtual ix, 3)) (hF : k_lkV own ix z zc zn zr a) (hn : As.length = a) (hc : sh[b]? = some (.inl (ci, fs))) (hq : vwCl[ci]? = some q) (hz : q.1 = z.cls) (hR : zf + 1 ≤ fr ∧ 8 + (zn + 11) + zl ≤ lo) (hs : (st.map fun v => v.category).sum ≤ 8) (hM : Spec sh z zc zn zr zf zl (.ref b :: As) w Ψ) (kk : ∀ (r : Option Value) (w' : kW), Ψ r w' → BS sh own cc n rt fr lo Φ (pc + 3) L (r.toList ++ st) w') : BS sh own cc n rt fr lo Φ pc L (As.reverse ++ .ref b :: st) w := by
  intro p l e s m args below meth co D ca ad H locs ls cx hP hD hS hl
  obtain ⟨⟨h1, h2, h3, h4, h5, h6⟩, h7, h8⟩ := hF
  have hts := cx.2.2.2.2.1
  have hK := cx.2.2.2.2.2.2.2
  refine k_goes (va_runV (As := As.map (k_v ad)) (rest := st.map (k_v ad)) (b := ad b) ⟨cx.1, cx.2.1, cx.2.2.1, cx.2.2.2.1, hts⟩ (hM l D ca ad H.size) ⟨callB_of a hts (k_goodIn h3) rfl rfl rfl (hts _ h2) (hts _ h1) ⟨h4, h5, h6⟩ hR, hts _ h7, hts _ h8⟩ ⟨k_blind, ?_, fun U hU hW => ⟨rfl, by rw [hU], by rw [hU]; exact hP, k_K.warm hW hK, k_D_of hD (fun _ _ => trivial)⟩⟩ rfl (by rw [List.length_map]; exact hn) hl.1 (by simp [k_v]) (lv_room (by rw [k_cats]; exact hs)) hd ⟨Nat.le_refl _, Nat.le_refl _⟩) hS (fun r w' H1 locs1 hp hP1 hS1 => kk r w' hp p l e s m args below meth co D ca ad H1 locs1 ls cx hP1 (k_D_self hD) hS1 hl)
  have h9 := va_recv hK.1 hP hq (k_obj hc)
  rw [hz] at h9
  exact h9
theorem b_callS {z : MethodName} {zc : ByteArray} {zn zf zl ix a : Nat} {zr : Option FieldType} {As : List Value} {Ψ : Option Value → kW → Prop} (hd : decode cc pc = .ok (.invokestatic ix, 3)) (hF : k_lkS own ix z zc zn zr a) (hn : As.length = a) (hR : zf + 1 ≤ fr ∧ 8 + (zn + 11) + zl ≤ lo) (hs : (st.map fun v => v.category).sum ≤ 8) (hM : Spec sh z zc zn zr zf zl As w Ψ) (kk : ∀ (r : Option Value) (w' : kW), Ψ r w' → BS sh own cc n rt fr lo Φ (pc + 3) L (r.toList ++ st) w') : BS sh own cc n rt fr lo Φ pc L (As.reverse ++ st) w := by
  intro p l e s m args below meth co D ca ad H locs ls cx hP hD hS hl
  obtain ⟨⟨h1, h2, h3, h4, h5, h6⟩, h7⟩ := hF
  have hts := cx.2.2.2.2.1
  have hK := cx.2.2.2.2.2.2.2
  exact k_goes (va_runS (As := As.map (k_v ad)) (rest := st.map (k_v ad)) ⟨cx.1, cx.2.1, cx.2.2.1, cx.2.2.2.1, hts⟩ (hM l D ca ad H.size) ⟨callB_of a hts (k_goodIn h3) rfl rfl rfl (hts _ h2) (hts _ h1) ⟨h4, h5, h6⟩ hR, hts _ h7⟩ ⟨k_blind, fun U hU hW => ⟨rfl, by rw [hU], by rw [hU]; exact hP, k_K.warm hW hK, k_D_of hD (fun _ _ => trivial)⟩⟩ rfl (by rw [List.length_map]; exact hn) hl.1 (by simp) (lv_room (by rw [k_cats]; exact hs)) hd ⟨Nat.le_refl _, Nat.le_refl _⟩) hS (fun r w' H1 locs1 hp hP1 hS1 => kk r w' hp p l e s m args below meth co D ca ad H1 locs1 ls cx hP1 (k_D_self hD) hS1 hl)
def k_lkN (own : String) (ix : Nat) (z : MethodName) (zc : ByteArray) (zn : Nat) (zr : Option FieldType) (a : Nat) : Prop := ∃ host : String, (own, ix, z, host) ∈ nst ∧ Cond.initialized z.cls ∈ cw ∧ Cond.code z zc zn zr ∈ cw ∧ (z.cls ≠ "java/lang/invoke/MethodHandle" ∧ z.cls ≠ "java/lang/invoke/VarHandle" ∧ (parseMethodDescriptor z.desc).map (fun d => d.parameters.length) = some a) ∧ Cond.static z ∈ cw
theorem b_callSN {z : MethodName} {zc : ByteArray} {zn zf zl ix a : Nat} {zr : Option FieldType} {As : List Value} {Ψ : Option Value → kW → Prop} (hd : decode cc pc = .ok (.invokestatic ix, 3)) (hF : k_lkN own ix z zc zn zr a) (hn : As.length = a) (hR : zf + 1 ≤ fr ∧ 8 + (zn + 11) + zl ≤ lo) (hs : (st.map fun v => v.category).sum ≤ 8) (hM : Spec sh z zc zn zr zf zl As w Ψ) (kk : ∀ (r : Option Value) (w' : kW), Ψ r w' → BS sh own cc n rt fr lo Φ (pc + 3) L (r.toList ++ st) w') : BS sh own cc n rt fr lo Φ pc L (As.reverse ++ st) w := by
  intro p l e s m args below meth co D ca ad H locs ls cx hP hD hS hl
  obtain ⟨host, h1, h2, h3, h4, h7⟩ := hF
  have hts := cx.2.2.2.2.1
  have hK := cx.2.2.2.2.2.2.2
  exact k_goes (va_runSN (As := As.map (k_v ad)) (rest := st.map (k_v ad)) ⟨cx.1, cx.2.1, cx.2.2.1, cx.2.2.2.1, hts⟩ (hM l D ca ad H.size) ⟨va_cnB a hts (k_goodIn h3) rfl rfl rfl (hK.2 _ h1) (hts _ h2) h4 hR, hts _ h7, trivial⟩ ⟨k_blind, fun U hU hW => ⟨rfl, by rw [hU], by rw [hU]; exact hP, k_K.warm hW hK, k_D_of hD (fun _ _ => trivial)⟩⟩ rfl (by rw [List.length_map]; exact hn) hl.1 (by simp) (lv_room (by rw [k_cats]; exact hs)) hd ⟨Nat.le_refl _, Nat.le_refl _⟩) hS (fun r w' H1 locs1 hp hP1 hS1 => kk r w' hp p l e s m args below meth co D ca ad H1 locs1 ls cx hP1 (k_D_self hD) hS1 hl)
theorem b_callV0 {z : MethodName} {zc : ByteArray} {zn zf zl ix b ci : Nat} {zr : Option FieldType} {fs : List kF} {q : vw_C} {Ψ : Option Value → kW → Prop} (hd : decode cc pc = .ok (.invokevirtual ix, 3)) (hF : k_lkV own ix z zc zn zr 0) (hc : sh[b]? = some (.inl (ci, fs))) (hq : vwCl[ci]? = some q) (hz : q.1 = z.cls) (hR : zf + 1 ≤ fr ∧ 8 + (zn + 11) + zl ≤ lo) (hs : (st.map fun v => v.category).sum ≤ 8) (hM : Spec sh z zc zn zr zf zl (.ref b :: []) w Ψ) (kk : ∀ (r : Option Value) (w' : kW), Ψ r w' → BS sh own cc n rt fr lo Φ (pc + 3) L (r.toList ++ st) w') : BS sh own cc n rt fr lo Φ pc L (.ref b :: st) w := b_callV (As := []) hd hF rfl hc hq hz hR hs hM kk
theorem b_callS0 {z : MethodName} {zc : ByteArray} {zn zf zl ix : Nat} {zr : Option FieldType} {Ψ : Option Value → kW → Prop} (hd : decode cc pc = .ok (.invokestatic ix, 3)) (hF : k_lkS own ix z zc zn zr 0) (hR : zf + 1 ≤ fr ∧ 8 + (zn + 11) + zl ≤ lo) (hs : (st.map fun v => v.category).sum ≤ 8) (hM : Spec sh z zc zn zr zf zl [] w Ψ) (kk : ∀ (r : Option Value) (w' : kW), Ψ r w' → BS sh own cc n rt fr lo Φ (pc + 3) L (r.toList ++ st) w') : BS sh own cc n rt fr lo Φ pc L (st) w := b_callS (As := []) hd hF rfl hR hs hM kk
theorem b_callV1 {z : MethodName} {zc : ByteArray} {zn zf zl ix b ci : Nat} {zr : Option FieldType} {fs : List kF} {q : vw_C} {x0 : Value} {Ψ : Option Value → kW → Prop} (hd : decode cc pc = .ok (.invokevirtual ix, 3)) (hF : k_lkV own ix z zc zn zr 1) (hc : sh[b]? = some (.inl (ci, fs))) (hq : vwCl[ci]? = some q) (hz : q.1 = z.cls) (hR : zf + 1 ≤ fr ∧ 8 + (zn + 11) + zl ≤ lo) (hs : (st.map fun v => v.category).sum ≤ 8) (hM : Spec sh z zc zn zr zf zl (.ref b :: [x0]) w Ψ) (kk : ∀ (r : Option Value) (w' : kW), Ψ r w' → BS sh own cc n rt fr lo Φ (pc + 3) L (r.toList ++ st) w') : BS sh own cc n rt fr lo Φ pc L (x0 :: .ref b :: st) w := b_callV (As := [x0]) hd hF rfl hc hq hz hR hs hM kk
theorem b_callSN1 {z : MethodName} {zc : ByteArray} {zn zf zl ix : Nat} {zr : Option FieldType} {x0 : Value} {Ψ : Option Value → kW → Prop} (hd : decode cc pc = .ok (.invokestatic ix, 3)) (hF : k_lkN own ix z zc zn zr 1) (hR : zf + 1 ≤ fr ∧ 8 + (zn + 11) + zl ≤ lo) (hs : (st.map fun v => v.category).sum ≤ 8) (hM : Spec sh z zc zn zr zf zl [x0] w Ψ) (kk : ∀ (r : Option Value) (w' : kW), Ψ r w' → BS sh own cc n rt fr lo Φ (pc + 3) L (r.toList ++ st) w') : BS sh own cc n rt fr lo Φ pc L (x0 :: st) w := b_callSN (As := [x0]) hd hF rfl hR hs hM kk
theorem b_callS1 {z : MethodName} {zc : ByteArray} {zn zf zl ix : Nat} {zr : Option FieldType} {x0 : Value} {Ψ : Option Value → kW → Prop} (hd : decode cc pc = .ok (.invokestatic ix, 3)) (hF : k_lkS own ix z zc zn zr 1) (hR : zf + 1 ≤ fr ∧ 8 + (zn + 11) + zl ≤ lo) (hs : (st.map fun v => v.category).sum ≤ 8) (hM : Spec sh z zc zn zr zf zl [x0] w Ψ) (kk : ∀ (r : Option Value) (w' : kW), Ψ r w' → BS sh own cc n rt fr lo Φ (pc + 3) L (r.toList ++ st) w') : BS sh own cc n rt fr lo Φ pc L (x0 :: st) w := b_callS (As := [x0]) hd hF rfl hR hs hM kk
theorem b_callV2 {z : MethodName} {zc : ByteArray} {zn zf zl ix b ci : Nat} {zr : Option FieldType} {fs : List kF} {q : vw_C} {x0 x1 : Value} {Ψ : Option Value → kW → Prop} (hd : decode cc pc = .ok (.invokevirtual ix, 3)) (hF : k_lkV own ix z zc zn zr 2) (hc : sh[b]? = some (.inl (ci, fs))) (hq : vwCl[ci]? = some q) (hz : q.1 = z.cls) (hR : zf + 1 ≤ fr ∧ 8 + (zn + 11) + zl ≤ lo) (hs : (st.map fun v => v.category).sum ≤ 8) (hM : Spec sh z zc zn zr zf zl (.ref b :: [x0, x1]) w Ψ) (kk : ∀ (r : Option Value) (w' : kW), Ψ r w' → BS sh own cc n rt fr lo Φ (pc + 3) L (r.toList ++ st) w') : BS sh own cc n rt fr lo Φ pc L (x1 :: x0 :: .ref b :: st) w := b_callV (As := [x0, x1]) hd hF rfl hc hq hz hR hs hM kk
theorem b_callSN2 {z : MethodName} {zc : ByteArray} {zn zf zl ix : Nat} {zr : Option FieldType} {x0 x1 : Value} {Ψ : Option Value → kW → Prop} (hd : decode cc pc = .ok (.invokestatic ix, 3)) (hF : k_lkN own ix z zc zn zr 2) (hR : zf + 1 ≤ fr ∧ 8 + (zn + 11) + zl ≤ lo) (hs : (st.map fun v => v.category).sum ≤ 8) (hM : Spec sh z zc zn zr zf zl [x0, x1] w Ψ) (kk : ∀ (r : Option Value) (w' : kW), Ψ r w' → BS sh own cc n rt fr lo Φ (pc + 3) L (r.toList ++ st) w') : BS sh own cc n rt fr lo Φ pc L (x1 :: x0 :: st) w := b_callSN (As := [x0, x1]) hd hF rfl hR hs hM kk
theorem b_callS2 {z : MethodName} {zc : ByteArray} {zn zf zl ix : Nat} {zr : Option FieldType} {x0 x1 : Value} {Ψ : Option Value → kW → Prop} (hd : decode cc pc = .ok (.invokestatic ix, 3)) (hF : k_lkS own ix z zc zn zr 2) (hR : zf + 1 ≤ fr ∧ 8 + (zn + 11) + zl ≤ lo) (hs : (st.map fun v => v.category).sum ≤ 8) (hM : Spec sh z zc zn zr zf zl [x0, x1] w Ψ) (kk : ∀ (r : Option Value) (w' : kW), Ψ r w' → BS sh own cc n rt fr lo Φ (pc + 3) L (r.toList ++ st) w') : BS sh own cc n rt fr lo Φ pc L (x1 :: x0 :: st) w := b_callS (As := [x0, x1]) hd hF rfl hR hs hM kk
theorem b_callV3 {z : MethodName} {zc : ByteArray} {zn zf zl ix b ci : Nat} {zr : Option FieldType} {fs : List kF} {q : vw_C} {x0 x1 x2 : Value} {Ψ : Option Value → kW → Prop} (hd : decode cc pc = .ok (.invokevirtual ix, 3)) (hF : k_lkV own ix z zc zn zr 3) (hc : sh[b]? = some (.inl (ci, fs))) (hq : vwCl[ci]? = some q) (hz : q.1 = z.cls) (hR : zf + 1 ≤ fr ∧ 8 + (zn + 11) + zl ≤ lo) (hs : (st.map fun v => v.category).sum ≤ 8) (hM : Spec sh z zc zn zr zf zl (.ref b :: [x0, x1, x2]) w Ψ) (kk : ∀ (r : Option Value) (w' : kW), Ψ r w' → BS sh own cc n rt fr lo Φ (pc + 3) L (r.toList ++ st) w') : BS sh own cc n rt fr lo Φ pc L (x2 :: x1 :: x0 :: .ref b :: st) w := b_callV (As := [x0, x1, x2]) hd hF rfl hc hq hz hR hs hM kk
theorem b_callS3 {z : MethodName} {zc : ByteArray} {zn zf zl ix : Nat} {zr : Option FieldType} {x0 x1 x2 : Value} {Ψ : Option Value → kW → Prop} (hd : decode cc pc = .ok (.invokestatic ix, 3)) (hF : k_lkS own ix z zc zn zr 3) (hR : zf + 1 ≤ fr ∧ 8 + (zn + 11) + zl ≤ lo) (hs : (st.map fun v => v.category).sum ≤ 8) (hM : Spec sh z zc zn zr zf zl [x0, x1, x2] w Ψ) (kk : ∀ (r : Option Value) (w' : kW), Ψ r w' → BS sh own cc n rt fr lo Φ (pc + 3) L (r.toList ++ st) w') : BS sh own cc n rt fr lo Φ pc L (x2 :: x1 :: x0 :: st) w := b_callS (As := [x0, x1, x2]) hd hF rfl hR hs hM kk
theorem b_callV4 {z : MethodName} {zc : ByteArray} {zn zf zl ix b ci : Nat} {zr : Option FieldType} {fs : List kF} {q : vw_C} {x0 x1 x2 x3 : Value} {Ψ : Option Value → kW → Prop} (hd : decode cc pc = .ok (.invokevirtual ix, 3)) (hF : k_lkV own ix z zc zn zr 4) (hc : sh[b]? = some (.inl (ci, fs))) (hq : vwCl[ci]? = some q) (hz : q.1 = z.cls) (hR : zf + 1 ≤ fr ∧ 8 + (zn + 11) + zl ≤ lo) (hs : (st.map fun v => v.category).sum ≤ 8) (hM : Spec sh z zc zn zr zf zl (.ref b :: [x0, x1, x2, x3]) w Ψ) (kk : ∀ (r : Option Value) (w' : kW), Ψ r w' → BS sh own cc n rt fr lo Φ (pc + 3) L (r.toList ++ st) w') : BS sh own cc n rt fr lo Φ pc L (x3 :: x2 :: x1 :: x0 :: .ref b :: st) w := b_callV (As := [x0, x1, x2, x3]) hd hF rfl hc hq hz hR hs hM kk
theorem b_callS4 {z : MethodName} {zc : ByteArray} {zn zf zl ix : Nat} {zr : Option FieldType} {x0 x1 x2 x3 : Value} {Ψ : Option Value → kW → Prop} (hd : decode cc pc = .ok (.invokestatic ix, 3)) (hF : k_lkS own ix z zc zn zr 4) (hR : zf + 1 ≤ fr ∧ 8 + (zn + 11) + zl ≤ lo) (hs : (st.map fun v => v.category).sum ≤ 8) (hM : Spec sh z zc zn zr zf zl [x0, x1, x2, x3] w Ψ) (kk : ∀ (r : Option Value) (w' : kW), Ψ r w' → BS sh own cc n rt fr lo Φ (pc + 3) L (r.toList ++ st) w') : BS sh own cc n rt fr lo Φ pc L (x3 :: x2 :: x1 :: x0 :: st) w := b_callS (As := [x0, x1, x2, x3]) hd hF rfl hR hs hM kk
theorem b_callV5 {z : MethodName} {zc : ByteArray} {zn zf zl ix b ci : Nat} {zr : Option FieldType} {fs : List kF} {q : vw_C} {x0 x1 x2 x3 x4 : Value} {Ψ : Option Value → kW → Prop} (hd : decode cc pc = .ok (.invokevirtual ix, 3)) (hF : k_lkV own ix z zc zn zr 5) (hc : sh[b]? = some (.inl (ci, fs))) (hq : vwCl[ci]? = some q) (hz : q.1 = z.cls) (hR : zf + 1 ≤ fr ∧ 8 + (zn + 11) + zl ≤ lo) (hs : (st.map fun v => v.category).sum ≤ 8) (hM : Spec sh z zc zn zr zf zl (.ref b :: [x0, x1, x2, x3, x4]) w Ψ) (kk : ∀ (r : Option Value) (w' : kW), Ψ r w' → BS sh own cc n rt fr lo Φ (pc + 3) L (r.toList ++ st) w') : BS sh own cc n rt fr lo Φ pc L (x4 :: x3 :: x2 :: x1 :: x0 :: .ref b :: st) w := b_callV (As := [x0, x1, x2, x3, x4]) hd hF rfl hc hq hz hR hs hM kk
theorem b_callS5 {z : MethodName} {zc : ByteArray} {zn zf zl ix : Nat} {zr : Option FieldType} {x0 x1 x2 x3 x4 : Value} {Ψ : Option Value → kW → Prop} (hd : decode cc pc = .ok (.invokestatic ix, 3)) (hF : k_lkS own ix z zc zn zr 5) (hR : zf + 1 ≤ fr ∧ 8 + (zn + 11) + zl ≤ lo) (hs : (st.map fun v => v.category).sum ≤ 8) (hM : Spec sh z zc zn zr zf zl [x0, x1, x2, x3, x4] w Ψ) (kk : ∀ (r : Option Value) (w' : kW), Ψ r w' → BS sh own cc n rt fr lo Φ (pc + 3) L (r.toList ++ st) w') : BS sh own cc n rt fr lo Φ pc L (x4 :: x3 :: x2 :: x1 :: x0 :: st) w := b_callS (As := [x0, x1, x2, x3, x4]) hd hF rfl hR hs hM kk
theorem b_callV6 {z : MethodName} {zc : ByteArray} {zn zf zl ix b ci : Nat} {zr : Option FieldType} {fs : List kF} {q : vw_C} {x0 x1 x2 x3 x4 x5 : Value} {Ψ : Option Value → kW → Prop} (hd : decode cc pc = .ok (.invokevirtual ix, 3)) (hF : k_lkV own ix z zc zn zr 6) (hc : sh[b]? = some (.inl (ci, fs))) (hq : vwCl[ci]? = some q) (hz : q.1 = z.cls) (hR : zf + 1 ≤ fr ∧ 8 + (zn + 11) + zl ≤ lo) (hs : (st.map fun v => v.category).sum ≤ 8) (hM : Spec sh z zc zn zr zf zl (.ref b :: [x0, x1, x2, x3, x4, x5]) w Ψ) (kk : ∀ (r : Option Value) (w' : kW), Ψ r w' → BS sh own cc n rt fr lo Φ (pc + 3) L (r.toList ++ st) w') : BS sh own cc n rt fr lo Φ pc L (x5 :: x4 :: x3 :: x2 :: x1 :: x0 :: .ref b :: st) w := b_callV (As := [x0, x1, x2, x3, x4, x5]) hd hF rfl hc hq hz hR hs hM kk
theorem b_callS6 {z : MethodName} {zc : ByteArray} {zn zf zl ix : Nat} {zr : Option FieldType} {x0 x1 x2 x3 x4 x5 : Value} {Ψ : Option Value → kW → Prop} (hd : decode cc pc = .ok (.invokestatic ix, 3)) (hF : k_lkS own ix z zc zn zr 6) (hR : zf + 1 ≤ fr ∧ 8 + (zn + 11) + zl ≤ lo) (hs : (st.map fun v => v.category).sum ≤ 8) (hM : Spec sh z zc zn zr zf zl [x0, x1, x2, x3, x4, x5] w Ψ) (kk : ∀ (r : Option Value) (w' : kW), Ψ r w' → BS sh own cc n rt fr lo Φ (pc + 3) L (r.toList ++ st) w') : BS sh own cc n rt fr lo Φ pc L (x5 :: x4 :: x3 :: x2 :: x1 :: x0 :: st) w := b_callS (As := [x0, x1, x2, x3, x4, x5]) hd hF rfl hR hs hM kk
theorem b_callS7 {z : MethodName} {zc : ByteArray} {zn zf zl ix : Nat} {zr : Option FieldType} {x0 x1 x2 x3 x4 x5 x6 : Value} {Ψ : Option Value → kW → Prop} (hd : decode cc pc = .ok (.invokestatic ix, 3)) (hF : k_lkS own ix z zc zn zr 7) (hR : zf + 1 ≤ fr ∧ 8 + (zn + 11) + zl ≤ lo) (hs : (st.map fun v => v.category).sum ≤ 8) (hM : Spec sh z zc zn zr zf zl [x0, x1, x2, x3, x4, x5, x6] w Ψ) (kk : ∀ (r : Option Value) (w' : kW), Ψ r w' → BS sh own cc n rt fr lo Φ (pc + 3) L (r.toList ++ st) w') : BS sh own cc n rt fr lo Φ pc L (x6 :: x5 :: x4 :: x3 :: x2 :: x1 :: x0 :: st) w := b_callS (As := [x0, x1, x2, x3, x4, x5, x6]) hd hF rfl hR hs hM kk
def k_lkM_max (own : String) (ix : Nat) : Prop := Cond.methodLink own ix Lib.Math.max.name ∈ cw ∧ Cond.static Lib.Math.max.name ∈ cw ∧ Cond.initialized "java/lang/Math" ∈ cw ∧ Cond.code Lib.Math.max.name Lib.Math.max.code 2 (some .int) ∈ cw
theorem b_max {ix : Nat} {x y : Int32} (hd : decode cc pc = .ok (.invokestatic ix, 3)) (hF : k_lkM_max own ix) (hR : 1 ≤ fr) (hs : (st.map fun v => v.category).sum + 13 ≤ lo) (kk : BS sh own cc n rt fr lo Φ (pc + 3) L (.int (if x < y then y else x) :: st) w) : BS sh own cc n rt fr lo Φ pc L (.int y :: .int x :: st) w := by
  intro p l e s m args below meth co D ca ad H locs ls cx hP hD hS hl
  obtain ⟨h1, h2, h3, h4⟩ := hF
  have hts := cx.2.2.2.2.1
  exact va_mmax cx.1 cx.2.1 (by rw [cx.2.2.1]; exact hl.1.symm) cx.2.2.2.1 (hts _ h1) (hts _ h2) (hts _ h3) (hts _ h4) hR (by rw [k_cats]; exact hs) (Nat.le_refl _) (Nat.le_refl _) hd (kk p l e s m args below meth co D ca ad H locs ls cx hP hD hS hl)
def k_lkM_min (own : String) (ix : Nat) : Prop := Cond.methodLink own ix Lib.Math.min.name ∈ cw ∧ Cond.static Lib.Math.min.name ∈ cw ∧ Cond.initialized "java/lang/Math" ∈ cw ∧ Cond.code Lib.Math.min.name Lib.Math.min.code 2 (some .int) ∈ cw
theorem b_min {ix : Nat} {x y : Int32} (hd : decode cc pc = .ok (.invokestatic ix, 3)) (hF : k_lkM_min own ix) (hR : 1 ≤ fr) (hs : (st.map fun v => v.category).sum + 13 ≤ lo) (kk : BS sh own cc n rt fr lo Φ (pc + 3) L (.int (if y < x then y else x) :: st) w) : BS sh own cc n rt fr lo Φ pc L (.int y :: .int x :: st) w := by
  intro p l e s m args below meth co D ca ad H locs ls cx hP hD hS hl
  obtain ⟨h1, h2, h3, h4⟩ := hF
  have hts := cx.2.2.2.2.1
  exact va_mmin cx.1 cx.2.1 (by rw [cx.2.2.1]; exact hl.1.symm) cx.2.2.2.1 (hts _ h1) (hts _ h2) (hts _ h3) (hts _ h4) hR (by rw [k_cats]; exact hs) (Nat.le_refl _) (Nat.le_refl _) hd (kk p l e s m args below meth co D ca ad H locs ls cx hP hD hS hl)
def k_lkM_abs (own : String) (ix : Nat) : Prop := Cond.methodLink own ix Lib.Math.abs.name ∈ cw ∧ Cond.static Lib.Math.abs.name ∈ cw ∧ Cond.initialized "java/lang/Math" ∈ cw ∧ Cond.code Lib.Math.abs.name Lib.Math.abs.code 1 (some .int) ∈ cw
theorem b_abs {ix : Nat} {x : Int32} (hd : decode cc pc = .ok (.invokestatic ix, 3)) (hF : k_lkM_abs own ix) (hR : 1 ≤ fr) (hs : (st.map fun v => v.category).sum + 13 ≤ lo) (kk : BS sh own cc n rt fr lo Φ (pc + 3) L (.int (if 0 ≤ x then x else 0 - x) :: st) w) : BS sh own cc n rt fr lo Φ pc L (.int x :: st) w := by
  intro p l e s m args below meth co D ca ad H locs ls cx hP hD hS hl
  obtain ⟨h1, h2, h3, h4⟩ := hF
  have hts := cx.2.2.2.2.1
  exact va_mabs cx.1 cx.2.1 (by rw [cx.2.2.1]; exact hl.1.symm) cx.2.2.2.1 (hts _ h1) (hts _ h2) (hts _ h3) (hts _ h4) hR (by rw [k_cats]; exact hs) (Nat.le_refl _) (Nat.le_refl _) hd (kk p l e s m args below meth co D ca ad H locs ls cx hP hD hS hl)
def k_lkCp (own : String) (ix : Nat) : Prop := Cond.methodLink own ix arraycopyName ∈ cw ∧ Cond.native arraycopyName ∈ cw ∧ Cond.static arraycopyName ∈ cw ∧ Cond.initialized "java/lang/System" ∈ cw
def k_cpy (f : Nat → Nat → Int32) (c0 c1 sp dp n : Nat) : Nat → Nat → Int32 := fun c k => if c = c1 then (if dp ≤ k ∧ k < dp + n then f c0 (sp + (k - dp)) else f c k) else f c k
theorem k_set_c {ad : Nat → Nat} {ca : Nat → ClassId} {c0 c t N sp dp z : Nat} (hc : sh[c]? = some (.inr (.inl (t, N)))) : (k_wd ad ca sh w).set c (ad c, .inl (ca t, N, .inl (va_cpy (w.1 c0) (w.1 c) sp dp z))) = k_wd ad ca sh (k_cpy w.1 c0 c sp dp z, w.2) := by
  refine k_wd_set (w := w) (w' := (k_cpy w.1 c0 c sp dp z, w.2)) hc (fun c' h => by funext j; simp [k_cpy, h]) (fun _ _ => rfl) ?_
  show Sum.inl (ca t, N, Sum.inl _) = Sum.inl (ca t, N, Sum.inl _)
  refine congrArg (fun f => Sum.inl (ca t, N, Sum.inl f)) ?_
  funext j
  simp [va_cpy, k_cpy]
theorem b_copyi {ix c0 c1 N0 N1 : Nat} {sp dp z : Int32} (hd : decode cc pc = .ok (.invokestatic ix, 3)) (hF : k_lkCp own ix) (hc0 : sh[c0]? = some (.inr (.inl (0, N0)))) (hc1 : sh[c1]? = some (.inr (.inl (0, N1)))) (h1 : ¬ sp < 0) (h2 : ¬ dp < 0) (h3 : ¬ z < 0) (h4 : sp.toNatClampNeg + z.toNatClampNeg ≤ N0) (h5 : dp.toNatClampNeg + z.toNatClampNeg ≤ N1) (hR : 1 ≤ fr) (hs : (st.map fun v => v.category).sum + (nativeFrameWords "java/lang/System" "arraycopy" 5 + 11) ≤ lo) (kk : BS sh own cc n rt fr lo Φ (pc + 3) L st (k_cpy w.1 c0 c1 sp.toNatClampNeg dp.toNatClampNeg z.toNatClampNeg, w.2)) : BS sh own cc n rt fr lo Φ pc L (.int z :: .int dp :: .ref c1 :: .int sp :: .ref c0 :: st) w := by
  intro p l e s m args below meth co D ca ad H locs ls cx hP hD hS hl
  obtain ⟨g1, g2, g3, g4⟩ := hF
  have hts := cx.2.2.2.2.1
  refine va_copyi cx.1 cx.2.1 (by rw [cx.2.2.1]; exact hl.1.symm) cx.2.2.2.1 (hts _ g1) (hts _ g2) (hts _ g3) (hts _ g4) cx.2.2.2.2.2.2.2.1 hP hD hS c0 c1 0 0 (k_arr hc0) (k_arr hc1) rfl rfl rfl h1 h2 h3 h4 h5 (fun _ _ => rfl) hR (by rw [k_cats]; exact hs) hd (fun H1 locs1 hP1 hD1 hS1 => ?_)
  have e9 := k_set_c (w := w) (ad := ad) (ca := ca) (c0 := c0) (sp := sp.toNatClampNeg) (dp := dp.toNatClampNeg) (z := z.toNatClampNeg) hc1
  exact kk p l e s m args below meth co D ca ad H1 locs1 ls cx (e9 ▸ hP1) (k_D_self hD) hS1 hl
end KB
end
section
theorem in_X0 : ∀ w ∈ u_ws RX0 TX0 5, w ∈ cw := by
  intro w hw
  obtain ⟨k, hk, rfl⟩ := List.mem_map.mp hw
  have hk := List.mem_range.mp hk
  rcases (show k = 0 ∨ k = 1 ∨ k = 2 ∨ k = 3 ∨ k = 4 by omega) with rfl | rfl | rfl | rfl | rfl
  · exact cw_1 76 rfl rfl
  · exact cw_1 78 rfl rfl
  · exact cw_1 80 rfl rfl
  · exact cw_1 82 rfl rfl
  · exact cw_1 84 rfl rfl
theorem gs_X0_0 : k_fst 0 0 .int := ⟨RX0, TX0, 5, tyX0, rfl, tyX0_ok, nmX0, rfl, rfl⟩
theorem in_X1 : ∀ w ∈ u_ws RX1 TX1 2, w ∈ cw := by
  intro w hw
  obtain ⟨k, hk, rfl⟩ := List.mem_map.mp hw
  have hk := List.mem_range.mp hk
  rcases (show k = 0 ∨ k = 1 by omega) with rfl | rfl
  · exact cw_1 126 rfl rfl
  · exact cw_1 128 rfl rfl
theorem gs_X1_0 : k_fst 1 0 .int := ⟨RX1, TX1, 2, tyX1, rfl, tyX1_ok, nmX1, rfl, rfl⟩
theorem in_X2 : ∀ w ∈ u_ws RX2 TX2 6, w ∈ cw := by
  intro w hw
  obtain ⟨k, hk, rfl⟩ := List.mem_map.mp hw
  have hk := List.mem_range.mp hk
  rcases (show k = 0 ∨ k = 1 ∨ k = 2 ∨ k = 3 ∨ k = 4 ∨ k = 5 by omega) with rfl | rfl | rfl | rfl | rfl | rfl
  · exact cw_1 45 rfl rfl
  · exact cw_1 47 rfl rfl
  · exact cw_1 49 rfl rfl
  · exact cw_1 51 rfl rfl
  · exact cw_1 53 rfl rfl
  · exact cw_1 55 rfl rfl
theorem gs_X2_0 : k_fst 2 0 .int := ⟨RX2, TX2, 6, tyX2, rfl, tyX2_ok, nmX2, rfl, rfl⟩
theorem gs_X2_1 : k_fst 2 1 .int := ⟨RX2, TX2, 6, tyX2, rfl, tyX2_ok, nmX2, rfl, rfl⟩
theorem in_X3 : ∀ w ∈ u_ws RX3 TX3 4, w ∈ cw := by
  intro w hw
  obtain ⟨k, hk, rfl⟩ := List.mem_map.mp hw
  have hk := List.mem_range.mp hk
  rcases (show k = 0 ∨ k = 1 ∨ k = 2 ∨ k = 3 by omega) with rfl | rfl | rfl | rfl
  · exact cw_1 97 rfl rfl
  · exact cw_1 99 rfl rfl
  · exact cw_1 101 rfl rfl
  · exact cw_1 103 rfl rfl
theorem gs_X3_0 : k_fst 3 0 .int := ⟨RX3, TX3, 4, tyX3, rfl, tyX3_ok, nmX3, rfl, rfl⟩
theorem in_X4 : ∀ w ∈ u_ws RX4 TX4 11, w ∈ cw := by
  intro w hw
  obtain ⟨k, hk, rfl⟩ := List.mem_map.mp hw
  have hk := List.mem_range.mp hk
  rcases (show k = 0 ∨ k = 1 ∨ k = 2 ∨ k = 3 ∨ k = 4 ∨ k = 5 ∨ k = 6 ∨ k = 7 ∨ k = 8 ∨ k = 9 ∨ k = 10 by omega) with rfl | rfl | rfl | rfl | rfl | rfl | rfl | rfl | rfl | rfl | rfl
  · exact cw_1 145 rfl rfl
  · exact cw_1 147 rfl rfl
  · exact cw_1 149 rfl rfl
  · exact cw_1 151 rfl rfl
  · exact cw_1 153 rfl rfl
  · exact cw_1 155 rfl rfl
  · exact cw_1 157 rfl rfl
  · exact cw_1 159 rfl rfl
  · exact cw_1 161 rfl rfl
  · exact cw_1 163 rfl rfl
  · exact cw_1 165 rfl rfl
theorem gs_X4_1 : k_fst 4 1 .int := ⟨RX4, TX4, 11, tyX4, rfl, tyX4_ok, nmX4, rfl, rfl⟩
theorem gs_X4_5 : k_fst 4 5 .int := ⟨RX4, TX4, 11, tyX4, rfl, tyX4_ok, nmX4, rfl, rfl⟩
theorem gs_X4_7 : k_fst 4 7 .int := ⟨RX4, TX4, 11, tyX4, rfl, tyX4_ok, nmX4, rfl, rfl⟩
theorem gs_X4_8 : k_fst 4 8 .long := ⟨RX4, TX4, 11, tyX4, rfl, tyX4_ok, nmX4, rfl, rfl⟩
theorem gs_X4_9 : k_fst 4 9 .int := ⟨RX4, TX4, 11, tyX4, rfl, tyX4_ok, nmX4, rfl, rfl⟩
theorem gs_X4_10 : k_fst 4 10 .int := ⟨RX4, TX4, 11, tyX4, rfl, tyX4_ok, nmX4, rfl, rfl⟩
theorem in_X5 : ∀ w ∈ u_ws RX5 TX5 4, w ∈ cw := by
  intro w hw
  obtain ⟨k, hk, rfl⟩ := List.mem_map.mp hw
  have hk := List.mem_range.mp hk
  rcases (show k = 0 ∨ k = 1 ∨ k = 2 ∨ k = 3 by omega) with rfl | rfl | rfl | rfl
  · exact cw_1 182 rfl rfl
  · exact cw_1 184 rfl rfl
  · exact cw_1 186 rfl rfl
  · exact cw_1 188 rfl rfl
theorem gs_X5_0 : k_fst 5 0 .boolean := ⟨RX5, TX5, 4, tyX5, rfl, tyX5_ok, nmX5, rfl, rfl⟩
theorem gs_X5_1 : k_fst 5 1 .int := ⟨RX5, TX5, 4, tyX5, rfl, tyX5_ok, nmX5, rfl, rfl⟩
theorem gs_X5_2 : k_fst 5 2 .int := ⟨RX5, TX5, 4, tyX5, rfl, tyX5_ok, nmX5, rfl, rfl⟩
theorem in_X7 : ∀ w ∈ u_ws RX7 TX7 7, w ∈ cw := by
  intro w hw
  obtain ⟨k, hk, rfl⟩ := List.mem_map.mp hw
  have hk := List.mem_range.mp hk
  rcases (show k = 0 ∨ k = 1 ∨ k = 2 ∨ k = 3 ∨ k = 4 ∨ k = 5 ∨ k = 6 by omega) with rfl | rfl | rfl | rfl | rfl | rfl | rfl
  · exact cw_1 197 rfl rfl
  · exact cw_1 199 rfl rfl
  · exact cw_1 201 rfl rfl
  · exact cw_1 203 rfl rfl
  · exact cw_1 205 rfl rfl
  · exact cw_1 207 rfl rfl
  · exact cw_1 209 rfl rfl
theorem gs_X7_5 : k_fst 6 5 .int := ⟨RX7, TX7, 7, tyX7, rfl, tyX7_ok, nmX7, rfl, rfl⟩
theorem gs_X7_6 : k_fst 6 6 .int := ⟨RX7, TX7, 7, tyX7, rfl, tyX7_ok, nmX7, rfl, rfl⟩
theorem gf_X2_24 : k_fld RX2 24 2 0 := ⟨RX2, TX2, 6, rfl, in_X2, by decide, cw_1 25 rfl rfl⟩
theorem gf_X7_84 : k_fld RX7 84 2 0 := ⟨RX2, TX2, 6, rfl, in_X2, by decide, cw_1 26 rfl rfl⟩
theorem gf_X4_90 : k_fld RX4 90 2 0 := ⟨RX2, TX2, 6, rfl, in_X2, by decide, cw_1 27 rfl rfl⟩
theorem gf_X6_36 : k_fld RX6 36 2 0 := ⟨RX2, TX2, 6, rfl, in_X2, by decide, cw_1 28 rfl rfl⟩
theorem gf_X7_104 : k_fld RX7 104 2 1 := ⟨RX2, TX2, 6, rfl, in_X2, by decide, cw_1 29 rfl rfl⟩
theorem gf_X6_42 : k_fld RX6 42 2 1 := ⟨RX2, TX2, 6, rfl, in_X2, by decide, cw_1 30 rfl rfl⟩
theorem gf_X2_9 : k_fld RX2 9 2 2 := ⟨RX2, TX2, 6, rfl, in_X2, by decide, cw_1 31 rfl rfl⟩
theorem gf_X7_88 : k_fld RX7 88 2 2 := ⟨RX2, TX2, 6, rfl, in_X2, by decide, cw_1 32 rfl rfl⟩
theorem gf_X6_45 : k_fld RX6 45 2 2 := ⟨RX2, TX2, 6, rfl, in_X2, by decide, cw_1 33 rfl rfl⟩
theorem gf_X2_15 : k_fld RX2 15 2 3 := ⟨RX2, TX2, 6, rfl, in_X2, by decide, cw_1 34 rfl rfl⟩
theorem gf_X7_92 : k_fld RX7 92 2 3 := ⟨RX2, TX2, 6, rfl, in_X2, by decide, cw_1 35 rfl rfl⟩
theorem gf_X6_49 : k_fld RX6 49 2 3 := ⟨RX2, TX2, 6, rfl, in_X2, by decide, cw_1 36 rfl rfl⟩
theorem gf_X4_120 : k_fld RX4 120 2 3 := ⟨RX2, TX2, 6, rfl, in_X2, by decide, cw_1 37 rfl rfl⟩
theorem gf_X2_18 : k_fld RX2 18 2 4 := ⟨RX2, TX2, 6, rfl, in_X2, by decide, cw_1 38 rfl rfl⟩
theorem gf_X7_95 : k_fld RX7 95 2 4 := ⟨RX2, TX2, 6, rfl, in_X2, by decide, cw_1 39 rfl rfl⟩
theorem gf_X6_52 : k_fld RX6 52 2 4 := ⟨RX2, TX2, 6, rfl, in_X2, by decide, cw_1 40 rfl rfl⟩
theorem gf_X4_128 : k_fld RX4 128 2 4 := ⟨RX2, TX2, 6, rfl, in_X2, by decide, cw_1 41 rfl rfl⟩
theorem gf_X2_21 : k_fld RX2 21 2 5 := ⟨RX2, TX2, 6, rfl, in_X2, by decide, cw_1 42 rfl rfl⟩
theorem gf_X7_98 : k_fld RX7 98 2 5 := ⟨RX2, TX2, 6, rfl, in_X2, by decide, cw_1 43 rfl rfl⟩
theorem gf_X6_55 : k_fld RX6 55 2 5 := ⟨RX2, TX2, 6, rfl, in_X2, by decide, cw_1 44 rfl rfl⟩
theorem gf_X0_22 : k_fld RX0 22 0 0 := ⟨RX0, TX0, 5, rfl, in_X0, by decide, cw_1 65 rfl rfl⟩
theorem gf_X7_80 : k_fld RX7 80 0 0 := ⟨RX0, TX0, 5, rfl, in_X0, by decide, cw_1 66 rfl rfl⟩
theorem gf_X4_56 : k_fld RX4 56 0 0 := ⟨RX0, TX0, 5, rfl, in_X0, by decide, cw_1 67 rfl rfl⟩
theorem gf_X0_7 : k_fld RX0 7 0 1 := ⟨RX0, TX0, 5, rfl, in_X0, by decide, cw_1 68 rfl rfl⟩
theorem gf_X4_96 : k_fld RX4 96 0 1 := ⟨RX0, TX0, 5, rfl, in_X0, by decide, cw_1 69 rfl rfl⟩
theorem gf_X0_13 : k_fld RX0 13 0 2 := ⟨RX0, TX0, 5, rfl, in_X0, by decide, cw_1 70 rfl rfl⟩
theorem gf_X4_99 : k_fld RX4 99 0 2 := ⟨RX0, TX0, 5, rfl, in_X0, by decide, cw_1 71 rfl rfl⟩
theorem gf_X0_16 : k_fld RX0 16 0 3 := ⟨RX0, TX0, 5, rfl, in_X0, by decide, cw_1 72 rfl rfl⟩
theorem gf_X4_63 : k_fld RX4 63 0 3 := ⟨RX0, TX0, 5, rfl, in_X0, by decide, cw_1 73 rfl rfl⟩
theorem gf_X0_19 : k_fld RX0 19 0 4 := ⟨RX0, TX0, 5, rfl, in_X0, by decide, cw_1 74 rfl rfl⟩
theorem gf_X4_102 : k_fld RX4 102 0 4 := ⟨RX0, TX0, 5, rfl, in_X0, by decide, cw_1 75 rfl rfl⟩
theorem gf_X7_83 : k_fld RX7 83 3 0 := ⟨RX3, TX3, 4, rfl, in_X3, by decide, cw_1 93 rfl rfl⟩
theorem gf_X3_9 : k_fld RX3 9 3 1 := ⟨RX3, TX3, 4, rfl, in_X3, by decide, cw_1 94 rfl rfl⟩
theorem gf_X3_15 : k_fld RX3 15 3 2 := ⟨RX3, TX3, 4, rfl, in_X3, by decide, cw_1 95 rfl rfl⟩
theorem gf_X3_18 : k_fld RX3 18 3 3 := ⟨RX3, TX3, 4, rfl, in_X3, by decide, cw_1 96 rfl rfl⟩
theorem gf_X1_16 : k_fld RX1 16 1 0 := ⟨RX1, TX1, 2, rfl, in_X1, by decide, cw_1 121 rfl rfl⟩
theorem gf_X4_66 : k_fld RX4 66 1 0 := ⟨RX1, TX1, 2, rfl, in_X1, by decide, cw_1 122 rfl rfl⟩
theorem gf_X7_139 : k_fld RX7 139 1 0 := ⟨RX1, TX1, 2, rfl, in_X1, by decide, cw_1 123 rfl rfl⟩
theorem gf_X1_11 : k_fld RX1 11 1 1 := ⟨RX1, TX1, 2, rfl, in_X1, by decide, cw_1 124 rfl rfl⟩
theorem gf_X7_142 : k_fld RX7 142 1 1 := ⟨RX1, TX1, 2, rfl, in_X1, by decide, cw_1 125 rfl rfl⟩
theorem gf_X4_12 : k_fld RX4 12 4 0 := ⟨RX4, TX4, 11, rfl, in_X4, by decide, cw_1 133 rfl rfl⟩
theorem gf_X7_135 : k_fld RX7 135 4 0 := ⟨RX4, TX4, 11, rfl, in_X4, by decide, cw_1 134 rfl rfl⟩
theorem gf_X4_70 : k_fld RX4 70 4 1 := ⟨RX4, TX4, 11, rfl, in_X4, by decide, cw_1 135 rfl rfl⟩
theorem gf_X4_31 : k_fld RX4 31 4 2 := ⟨RX4, TX4, 11, rfl, in_X4, by decide, cw_1 136 rfl rfl⟩
theorem gf_X4_35 : k_fld RX4 35 4 3 := ⟨RX4, TX4, 11, rfl, in_X4, by decide, cw_1 137 rfl rfl⟩
theorem gf_X4_23 : k_fld RX4 23 4 4 := ⟨RX4, TX4, 11, rfl, in_X4, by decide, cw_1 138 rfl rfl⟩
theorem gf_X4_67 : k_fld RX4 67 4 5 := ⟨RX4, TX4, 11, rfl, in_X4, by decide, cw_1 139 rfl rfl⟩
theorem gf_X4_27 : k_fld RX4 27 4 6 := ⟨RX4, TX4, 11, rfl, in_X4, by decide, cw_1 140 rfl rfl⟩
theorem gf_X4_45 : k_fld RX4 45 4 7 := ⟨RX4, TX4, 11, rfl, in_X4, by decide, cw_1 141 rfl rfl⟩
theorem gf_X4_52 : k_fld RX4 52 4 8 := ⟨RX4, TX4, 11, rfl, in_X4, by decide, cw_1 142 rfl rfl⟩
theorem gf_X4_49 : k_fld RX4 49 4 9 := ⟨RX4, TX4, 11, rfl, in_X4, by decide, cw_1 143 rfl rfl⟩
theorem gf_X4_83 : k_fld RX4 83 4 10 := ⟨RX4, TX4, 11, rfl, in_X4, by decide, cw_1 144 rfl rfl⟩
theorem gf_X5_15 : k_fld RX5 15 5 0 := ⟨RX5, TX5, 4, rfl, in_X5, by decide, cw_1 175 rfl rfl⟩
theorem gf_X7_193 : k_fld RX7 193 5 0 := ⟨RX5, TX5, 4, rfl, in_X5, by decide, cw_1 176 rfl rfl⟩
theorem gf_X5_19 : k_fld RX5 19 5 1 := ⟨RX5, TX5, 4, rfl, in_X5, by decide, cw_1 177 rfl rfl⟩
theorem gf_X7_203 : k_fld RX7 203 5 1 := ⟨RX5, TX5, 4, rfl, in_X5, by decide, cw_1 178 rfl rfl⟩
theorem gf_X5_32 : k_fld RX5 32 5 2 := ⟨RX5, TX5, 4, rfl, in_X5, by decide, cw_1 179 rfl rfl⟩
theorem gf_X5_9 : k_fld RX5 9 5 3 := ⟨RX5, TX5, 4, rfl, in_X5, by decide, cw_1 180 rfl rfl⟩
theorem gf_X7_200 : k_fld RX7 200 5 3 := ⟨RX5, TX5, 4, rfl, in_X5, by decide, cw_1 181 rfl rfl⟩
theorem gf_X7_14 : k_fld RX7 14 6 0 := ⟨RX7, TX7, 7, rfl, in_X7, by decide, cw_1 191 rfl rfl⟩
theorem gf_X7_23 : k_fld RX7 23 6 1 := ⟨RX7, TX7, 7, rfl, in_X7, by decide, cw_1 192 rfl rfl⟩
theorem gf_X7_30 : k_fld RX7 30 6 2 := ⟨RX7, TX7, 7, rfl, in_X7, by decide, cw_1 193 rfl rfl⟩
theorem gf_X7_39 : k_fld RX7 39 6 3 := ⟨RX7, TX7, 7, rfl, in_X7, by decide, cw_1 194 rfl rfl⟩
theorem gf_X7_45 : k_fld RX7 45 6 4 := ⟨RX7, TX7, 7, rfl, in_X7, by decide, cw_1 195 rfl rfl⟩
theorem gf_X7_50 : k_fld RX7 50 6 6 := ⟨RX7, TX7, 7, rfl, in_X7, by decide, cw_1 196 rfl rfl⟩
theorem lk_L_51 : k_lkV RL 51 yX7_coast cX7_coast 8 (some .int) 4 := ⟨⟨cw_1 212 rfl rfl, cw_1 1 rfl rfl, cw_1 215 rfl rfl, by decide +kernel, by decide +kernel, by decide +kernel⟩, cw_1 213 rfl rfl, cw_1 214 rfl rfl⟩
theorem lk_X7_54 : k_lkV RX7 54 yX7_sheetOf cX7_sheetOf 2 (some (.object "DuelSeconds$Sheet")) 1 := ⟨⟨cw_1 216 rfl rfl, cw_1 1 rfl rfl, cw_1 219 rfl rfl, by decide +kernel, by decide +kernel, by decide +kernel⟩, cw_1 218 rfl rfl, cw_0 0 rfl rfl⟩
theorem lk_X7_58 : k_lkS RX7 58 yX7_isLane cX7_isLane 1 (some .boolean) 1 := ⟨⟨cw_1 220 rfl rfl, cw_1 1 rfl rfl, cw_1 222 rfl rfl, by decide +kernel, by decide +kernel, by decide +kernel⟩, cw_1 221 rfl rfl⟩
theorem lk_X7_62 : k_lkV RX7 62 yX5_faultOfTaking cX5_faultOfTaking 4 (some .int) 3 := ⟨⟨cw_1 223 rfl rfl, cw_1 7 rfl rfl, cw_1 226 rfl rfl, by decide +kernel, by decide +kernel, by decide +kernel⟩, cw_1 224 rfl rfl, cw_1 225 rfl rfl⟩
theorem lk_X5_41 : k_lkV RX5 41 yX5_holds cX5_holds 3 (some .boolean) 2 := ⟨⟨cw_1 227 rfl rfl, cw_1 7 rfl rfl, cw_1 230 rfl rfl, by decide +kernel, by decide +kernel, by decide +kernel⟩, cw_1 228 rfl rfl, cw_1 229 rfl rfl⟩
theorem lk_X7_66 : k_lkV RX7 66 yX7_faulted cX7_faulted 2 (some .int) 1 := ⟨⟨cw_1 231 rfl rfl, cw_1 1 rfl rfl, cw_1 234 rfl rfl, by decide +kernel, by decide +kernel, by decide +kernel⟩, cw_1 233 rfl rfl, cw_0 1 rfl rfl⟩
theorem lk_X7_70 : k_lkS RX7 70 yX6_firstFault cX6_firstFault 4 (some .int) 3 := ⟨⟨cw_1 235 rfl rfl, cw_1 10 rfl rfl, cw_1 237 rfl rfl, by decide +kernel, by decide +kernel, by decide +kernel⟩, cw_1 236 rfl rfl⟩
theorem lk_X6_9 : k_lkS RX6 9 yX6_goesOn cX6_goesOn 6 (some .boolean) 3 := ⟨⟨cw_1 238 rfl rfl, cw_1 10 rfl rfl, cw_2 0 rfl rfl, by decide +kernel, by decide +kernel, by decide +kernel⟩, cw_1 239 rfl rfl⟩
theorem lk_X6_15 : k_lkV RX6 15 yX5_at cX5_at 2 (some .int) 1 := ⟨⟨cw_2 1 rfl rfl, cw_1 7 rfl rfl, cw_2 4 rfl rfl, by decide +kernel, by decide +kernel, by decide +kernel⟩, cw_2 2 rfl rfl, cw_2 3 rfl rfl⟩
theorem lk_X6_21 : k_lkS RX6 21 yX6_digit cX6_digit 1 (some .int) 1 := ⟨⟨cw_2 5 rfl rfl, cw_1 10 rfl rfl, cw_2 7 rfl rfl, by decide +kernel, by decide +kernel, by decide +kernel⟩, cw_2 6 rfl rfl⟩
theorem lk_X6_24 : k_lkS RX6 24 yX6_kindOf cX6_kindOf 1 (some .int) 1 := ⟨⟨cw_2 8 rfl rfl, cw_1 10 rfl rfl, cw_2 10 rfl rfl, by decide +kernel, by decide +kernel, by decide +kernel⟩, cw_2 9 rfl rfl⟩
theorem lk_X7_76 : k_lkS RX7 76 yX6_read cX6_read 5 none 3 := ⟨⟨cw_2 11 rfl rfl, cw_1 10 rfl rfl, cw_2 13 rfl rfl, by decide +kernel, by decide +kernel, by decide +kernel⟩, cw_2 12 rfl rfl⟩
theorem lk_X6_27 : k_lkM_min RX6 27 := ⟨cw_2 14 rfl rfl, cw_2 15 rfl rfl, cw_1 8 rfl rfl, cw_2 16 rfl rfl⟩
theorem lk_X6_33 : k_lkM_max RX6 33 := ⟨cw_2 17 rfl rfl, cw_2 18 rfl rfl, cw_1 8 rfl rfl, cw_2 19 rfl rfl⟩
theorem lk_L_58 : k_lkV RL 58 yX7_ofPerson cX7_ofPerson 3 (some .int) 2 := ⟨⟨cw_2 20 rfl rfl, cw_1 1 rfl rfl, cw_2 23 rfl rfl, by decide +kernel, by decide +kernel, by decide +kernel⟩, cw_2 21 rfl rfl, cw_2 22 rfl rfl⟩
theorem lk_X7_85 : k_lkV RX7 85 yX2_has cX2_has 2 (some .boolean) 1 := ⟨⟨cw_2 24 rfl rfl, cw_1 2 rfl rfl, cw_2 27 rfl rfl, by decide +kernel, by decide +kernel, by decide +kernel⟩, cw_2 25 rfl rfl, cw_2 26 rfl rfl⟩
theorem lk_X7_101 : k_lkV RX7 101 yX2_touchiness cX2_touchiness 4 (some .int) 1 := ⟨⟨cw_2 28 rfl rfl, cw_1 2 rfl rfl, cw_2 31 rfl rfl, by decide +kernel, by decide +kernel, by decide +kernel⟩, cw_2 29 rfl rfl, cw_2 30 rfl rfl⟩
theorem lk_X2_32 : k_lkM_max RX2 32 := ⟨cw_2 32 rfl rfl, cw_2 18 rfl rfl, cw_1 8 rfl rfl, cw_2 19 rfl rfl⟩
theorem lk_X7_107 : k_lkS RX7 107 yX7_in cX7_in 2 (some .boolean) 2 := ⟨⟨cw_2 33 rfl rfl, cw_1 1 rfl rfl, cw_2 35 rfl rfl, by decide +kernel, by decide +kernel, by decide +kernel⟩, cw_2 34 rfl rfl⟩
theorem lk_L_32 : k_lkV RL 32 yX7_insult cX7_insult 5 (some .int) 4 := ⟨⟨cw_2 36 rfl rfl, cw_1 1 rfl rfl, cw_2 39 rfl rfl, by decide +kernel, by decide +kernel, by decide +kernel⟩, cw_2 37 rfl rfl, cw_2 38 rfl rfl⟩
theorem lk_X7_111 : k_lkV RX7 111 yX2_hasTwo cX2_hasTwo 3 (some .boolean) 2 := ⟨⟨cw_2 40 rfl rfl, cw_1 2 rfl rfl, cw_2 43 rfl rfl, by decide +kernel, by decide +kernel, by decide +kernel⟩, cw_2 41 rfl rfl, cw_2 42 rfl rfl⟩
theorem lk_X2_28 : k_lkV RX2 28 yX2_has cX2_has 2 (some .boolean) 1 := ⟨⟨cw_2 44 rfl rfl, cw_1 2 rfl rfl, cw_2 27 rfl rfl, by decide +kernel, by decide +kernel, by decide +kernel⟩, cw_2 25 rfl rfl, cw_2 26 rfl rfl⟩
theorem lk_X7_114 : k_lkS RX7 114 yX7_isDay cX7_isDay 1 (some .boolean) 1 := ⟨⟨cw_2 45 rfl rfl, cw_1 1 rfl rfl, cw_2 47 rfl rfl, by decide +kernel, by decide +kernel, by decide +kernel⟩, cw_2 46 rfl rfl⟩
theorem lk_X7_117 : k_lkV RX7 117 yX0_add cX0_add 5 none 4 := ⟨⟨cw_2 48 rfl rfl, cw_1 3 rfl rfl, cw_2 51 rfl rfl, by decide +kernel, by decide +kernel, by decide +kernel⟩, cw_2 49 rfl rfl, cw_2 50 rfl rfl⟩
theorem lk_L_28 : k_lkV RL 28 yX7_sorry cX7_sorry 2 (some .int) 1 := ⟨⟨cw_2 52 rfl rfl, cw_1 1 rfl rfl, cw_2 55 rfl rfl, by decide +kernel, by decide +kernel, by decide +kernel⟩, cw_2 53 rfl rfl, cw_2 54 rfl rfl⟩
theorem lk_L_36 : k_lkV RL 36 yX7_arrest cX7_arrest 3 (some .int) 2 := ⟨⟨cw_2 56 rfl rfl, cw_1 1 rfl rfl, cw_2 59 rfl rfl, by decide +kernel, by decide +kernel, by decide +kernel⟩, cw_2 57 rfl rfl, cw_2 58 rfl rfl⟩
theorem lk_X7_121 : k_lkS RX7 121 yX7_bit cX7_bit 1 (some .int) 1 := ⟨⟨cw_2 60 rfl rfl, cw_1 1 rfl rfl, cw_2 62 rfl rfl, by decide +kernel, by decide +kernel, by decide +kernel⟩, cw_2 61 rfl rfl⟩
theorem lk_L_71 : k_lkV RL 71 yX7_meetings cX7_meetings 2 (some .int) 1 := ⟨⟨cw_2 63 rfl rfl, cw_1 1 rfl rfl, cw_2 66 rfl rfl, by decide +kernel, by decide +kernel, by decide +kernel⟩, cw_2 64 rfl rfl, cw_2 65 rfl rfl⟩
theorem lk_X7_124 : k_lkS RX7 124 yX7_isDawn cX7_isDawn 1 (some .boolean) 1 := ⟨⟨cw_2 67 rfl rfl, cw_1 1 rfl rfl, cw_2 69 rfl rfl, by decide +kernel, by decide +kernel, by decide +kernel⟩, cw_2 68 rfl rfl⟩
theorem lk_X7_127 : k_lkV RX7 127 yX7_isEmpty cX7_isEmpty 1 (some .boolean) 0 := ⟨⟨cw_2 70 rfl rfl, cw_1 1 rfl rfl, cw_2 73 rfl rfl, by decide +kernel, by decide +kernel, by decide +kernel⟩, cw_2 72 rfl rfl, cw_0 2 rfl rfl⟩
theorem lk_X7_131 : k_lkV RX7 131 yX4_live cX4_live 5 none 3 := ⟨⟨cw_2 74 rfl rfl, cw_1 5 rfl rfl, cw_2 77 rfl rfl, by decide +kernel, by decide +kernel, by decide +kernel⟩, cw_2 75 rfl rfl, cw_2 76 rfl rfl⟩
theorem lk_X4_38 : k_lkV RX4 38 yX4_begin cX4_begin 4 none 2 := ⟨⟨cw_2 78 rfl rfl, cw_1 5 rfl rfl, cw_2 81 rfl rfl, by decide +kernel, by decide +kernel, by decide +kernel⟩, cw_2 79 rfl rfl, cw_2 80 rfl rfl⟩
theorem lk_X4_73 : k_lkS RX4 73 yJ7_fill_53178 cJ7_fill_53178 4 none 2 := ⟨⟨cw_2 83 rfl rfl, cw_1 9 rfl rfl, cw_2 85 rfl rfl, by decide +kernel, by decide +kernel, by decide +kernel⟩, cw_2 84 rfl rfl⟩
theorem lk_X4_42 : k_lkV RX4 42 yX4_pass cX4_pass 5 none 1 := ⟨⟨cw_2 86 rfl rfl, cw_1 5 rfl rfl, cw_2 89 rfl rfl, by decide +kernel, by decide +kernel, by decide +kernel⟩, cw_2 87 rfl rfl, cw_2 88 rfl rfl⟩
theorem lk_X4_79 : k_lkV RX4 79 yX4_freeAhead cX4_freeAhead 4 (some .int) 1 := ⟨⟨cw_2 90 rfl rfl, cw_1 5 rfl rfl, cw_2 93 rfl rfl, by decide +kernel, by decide +kernel, by decide +kernel⟩, cw_2 91 rfl rfl, cw_2 92 rfl rfl⟩
theorem lk_X4_86 : k_lkV RX4 86 yX4_answer cX4_answer 10 none 3 := ⟨⟨cw_2 95 rfl rfl, cw_1 5 rfl rfl, cw_2 98 rfl rfl, by decide +kernel, by decide +kernel, by decide +kernel⟩, cw_2 97 rfl rfl, cw_0 3 rfl rfl⟩
theorem lk_X4_105 : k_lkV RX4 105 yX2_touchiness cX2_touchiness 4 (some .int) 1 := ⟨⟨cw_2 99 rfl rfl, cw_1 2 rfl rfl, cw_2 31 rfl rfl, by decide +kernel, by decide +kernel, by decide +kernel⟩, cw_2 29 rfl rfl, cw_2 30 rfl rfl⟩
theorem lk_X4_108 : k_lkV RX4 108 yX2_secondAmong cX2_secondAmong 5 (some .int) 2 := ⟨⟨cw_2 100 rfl rfl, cw_1 2 rfl rfl, cw_2 103 rfl rfl, by decide +kernel, by decide +kernel, by decide +kernel⟩, cw_2 101 rfl rfl, cw_2 102 rfl rfl⟩
theorem lk_X4_112 : k_lkV RX4 112 yX4_shoot cX4_shoot 9 (some .int) 3 := ⟨⟨cw_2 105 rfl rfl, cw_1 5 rfl rfl, cw_2 108 rfl rfl, by decide +kernel, by decide +kernel, by decide +kernel⟩, cw_2 107 rfl rfl, cw_0 4 rfl rfl⟩
theorem lk_X4_123 : k_lkM_abs RX4 123 := ⟨cw_2 109 rfl rfl, cw_2 110 rfl rfl, cw_1 8 rfl rfl, cw_2 111 rfl rfl⟩
theorem lk_X4_131 : k_lkV RX4 131 yX0_add cX0_add 5 none 4 := ⟨⟨cw_2 112 rfl rfl, cw_1 3 rfl rfl, cw_2 51 rfl rfl, by decide +kernel, by decide +kernel, by decide +kernel⟩, cw_2 49 rfl rfl, cw_2 50 rfl rfl⟩
theorem lk_X4_116 : k_lkV RX4 116 yX1_add cX1_add 7 none 6 := ⟨⟨cw_2 113 rfl rfl, cw_1 6 rfl rfl, cw_2 116 rfl rfl, by decide +kernel, by decide +kernel, by decide +kernel⟩, cw_2 114 rfl rfl, cw_2 115 rfl rfl⟩
theorem lk_L_68 : k_lkV RL 68 yX7_met cX7_met 3 (some .int) 2 := ⟨⟨cw_2 117 rfl rfl, cw_1 1 rfl rfl, cw_2 120 rfl rfl, by decide +kernel, by decide +kernel, by decide +kernel⟩, cw_2 118 rfl rfl, cw_2 119 rfl rfl⟩
theorem lk_L_74 : k_lkV RL 74 yX7_free cX7_free 3 (some .int) 2 := ⟨⟨cw_2 121 rfl rfl, cw_1 1 rfl rfl, cw_2 124 rfl rfl, by decide +kernel, by decide +kernel, by decide +kernel⟩, cw_2 122 rfl rfl, cw_2 123 rfl rfl⟩
theorem lk_X7_146 : k_lkV RX7 146 yX4_freeAhead cX4_freeAhead 4 (some .int) 1 := ⟨⟨cw_2 125 rfl rfl, cw_1 5 rfl rfl, cw_2 93 rfl rfl, by decide +kernel, by decide +kernel, by decide +kernel⟩, cw_2 91 rfl rfl, cw_2 92 rfl rfl⟩
theorem lk_L_77 : k_lkV RL 77 yX7_second cX7_second 4 (some .int) 3 := ⟨⟨cw_2 126 rfl rfl, cw_1 1 rfl rfl, cw_2 129 rfl rfl, by decide +kernel, by decide +kernel, by decide +kernel⟩, cw_2 127 rfl rfl, cw_2 128 rfl rfl⟩
theorem lk_X7_149 : k_lkV RX7 149 yX2_secondAmong cX2_secondAmong 5 (some .int) 2 := ⟨⟨cw_2 130 rfl rfl, cw_1 2 rfl rfl, cw_2 103 rfl rfl, by decide +kernel, by decide +kernel, by decide +kernel⟩, cw_2 101 rfl rfl, cw_2 102 rfl rfl⟩
theorem lk_L_79 : k_lkV RL 79 yX7_worth cX7_worth 3 (some .int) 1 := ⟨⟨cw_2 131 rfl rfl, cw_1 1 rfl rfl, cw_2 134 rfl rfl, by decide +kernel, by decide +kernel, by decide +kernel⟩, cw_2 132 rfl rfl, cw_2 133 rfl rfl⟩
theorem lk_L_82 : k_lkV RL 82 yX7_row cX7_row 8 (some .int) 4 := ⟨⟨cw_2 135 rfl rfl, cw_1 1 rfl rfl, cw_2 138 rfl rfl, by decide +kernel, by decide +kernel, by decide +kernel⟩, cw_2 136 rfl rfl, cw_2 137 rfl rfl⟩
theorem lk_X7_177 : k_lkV RX7 177 yX5_at cX5_at 2 (some .int) 1 := ⟨⟨cw_2 139 rfl rfl, cw_1 7 rfl rfl, cw_2 4 rfl rfl, by decide +kernel, by decide +kernel, by decide +kernel⟩, cw_2 2 rfl rfl, cw_2 3 rfl rfl⟩
theorem lk_X7_180 : k_lkV RX7 180 yX7_freeInTurn cX7_freeInTurn 5 (some .int) 3 := ⟨⟨cw_2 140 rfl rfl, cw_1 1 rfl rfl, cw_2 143 rfl rfl, by decide +kernel, by decide +kernel, by decide +kernel⟩, cw_2 142 rfl rfl, cw_0 5 rfl rfl⟩
theorem lk_X7_183 : k_lkV RX7 183 yX4_begin cX4_begin 4 none 2 := ⟨⟨cw_2 144 rfl rfl, cw_1 5 rfl rfl, cw_2 81 rfl rfl, by decide +kernel, by decide +kernel, by decide +kernel⟩, cw_2 79 rfl rfl, cw_2 80 rfl rfl⟩
theorem lk_X7_187 : k_lkV RX7 187 yX4_pass cX4_pass 5 none 1 := ⟨⟨cw_2 145 rfl rfl, cw_1 5 rfl rfl, cw_2 89 rfl rfl, by decide +kernel, by decide +kernel, by decide +kernel⟩, cw_2 87 rfl rfl, cw_2 88 rfl rfl⟩
theorem lk_L_19 : k_lkV RL 19 yX7_sheet cX7_sheet 5 (some .int) 3 := ⟨⟨cw_2 146 rfl rfl, cw_1 1 rfl rfl, cw_2 149 rfl rfl, by decide +kernel, by decide +kernel, by decide +kernel⟩, cw_2 147 rfl rfl, cw_2 148 rfl rfl⟩
theorem lk_X7_190 : k_lkV RX7 190 yX5_renew cX5_renew 3 none 2 := ⟨⟨cw_2 150 rfl rfl, cw_1 7 rfl rfl, cw_2 153 rfl rfl, by decide +kernel, by decide +kernel, by decide +kernel⟩, cw_2 151 rfl rfl, cw_2 152 rfl rfl⟩
theorem lk_X5_23 : k_lkM_min RX5 23 := ⟨cw_2 154 rfl rfl, cw_2 15 rfl rfl, cw_1 8 rfl rfl, cw_2 16 rfl rfl⟩
theorem lk_X5_29 : k_lkM_max RX5 29 := ⟨cw_2 155 rfl rfl, cw_2 18 rfl rfl, cw_1 8 rfl rfl, cw_2 19 rfl rfl⟩
theorem lk_X5_35 : k_lkS RX5 35 yJ7_fill_53178 cJ7_fill_53178 4 none 2 := ⟨⟨cw_2 156 rfl rfl, cw_1 9 rfl rfl, cw_2 85 rfl rfl, by decide +kernel, by decide +kernel, by decide +kernel⟩, cw_2 84 rfl rfl⟩
theorem lk_L_25 : k_lkV RL 25 yX7_put cX7_put 5 (some .int) 3 := ⟨⟨cw_2 157 rfl rfl, cw_1 1 rfl rfl, cw_2 160 rfl rfl, by decide +kernel, by decide +kernel, by decide +kernel⟩, cw_2 158 rfl rfl, cw_2 159 rfl rfl⟩
theorem lk_X7_197 : k_lkV RX7 197 yX5_holds cX5_holds 3 (some .boolean) 2 := ⟨⟨cw_2 161 rfl rfl, cw_1 7 rfl rfl, cw_1 230 rfl rfl, by decide +kernel, by decide +kernel, by decide +kernel⟩, cw_1 228 rfl rfl, cw_1 229 rfl rfl⟩
theorem lk_X7_206 : k_lkS RX7 206 yX7_cut cX7_cut 2 (some .int) 2 := ⟨⟨cw_2 162 rfl rfl, cw_1 1 rfl rfl, cw_2 164 rfl rfl, by decide +kernel, by decide +kernel, by decide +kernel⟩, cw_2 163 rfl rfl⟩
theorem lk_L_65 : k_lkV RL 65 yX7_many cX7_many 2 (some .int) 1 := ⟨⟨cw_2 165 rfl rfl, cw_1 1 rfl rfl, cw_2 168 rfl rfl, by decide +kernel, by decide +kernel, by decide +kernel⟩, cw_2 166 rfl rfl, cw_2 167 rfl rfl⟩
theorem lk_L_9 : k_lkS RL 9 yL_cell cL_cell 2 (some .int) 2 := ⟨⟨cw_2 169 rfl rfl, cw_1 0 rfl rfl, cw_2 171 rfl rfl, by decide +kernel, by decide +kernel, by decide +kernel⟩, cw_2 170 rfl rfl⟩
theorem lk_L_15 : k_lkS RL 15 yL_some cL_some 2 (some .int) 2 := ⟨⟨cw_2 173 rfl rfl, cw_1 0 rfl rfl, cw_2 175 rfl rfl, by decide +kernel, by decide +kernel, by decide +kernel⟩, cw_2 174 rfl rfl⟩
theorem lk_L_48 : k_lkS RL 48 yL_put cL_put 9 (some .int) 5 := ⟨⟨cw_2 177 rfl rfl, cw_1 0 rfl rfl, cw_2 179 rfl rfl, by decide +kernel, by decide +kernel, by decide +kernel⟩, cw_2 178 rfl rfl⟩
theorem lk_L_54 : k_lkS RL 54 yL_change cL_change 11 (some .boolean) 5 := ⟨⟨cw_2 180 rfl rfl, cw_1 0 rfl rfl, cw_2 182 rfl rfl, by decide +kernel, by decide +kernel, by decide +kernel⟩, cw_2 181 rfl rfl⟩
theorem lk_L_40 : k_lkS RL 40 yL_touchy cL_touchy 3 (some .int) 2 := ⟨⟨cw_2 183 rfl rfl, cw_1 0 rfl rfl, cw_2 185 rfl rfl, by decide +kernel, by decide +kernel, by decide +kernel⟩, cw_2 184 rfl rfl⟩
theorem lk_L_43 : k_lkS RL 43 yL_second cL_second 8 (some .int) 6 := ⟨⟨cw_2 186 rfl rfl, cw_1 0 rfl rfl, cw_2 188 rfl rfl, by decide +kernel, by decide +kernel, by decide +kernel⟩, cw_2 187 rfl rfl⟩
theorem lk_L_61 : k_lkS RL 61 yL_go cL_go 21 none 8 := ⟨⟨cw_2 189 rfl rfl, cw_1 0 rfl rfl, cw_2 191 rfl rfl, by decide +kernel, by decide +kernel, by decide +kernel⟩, cw_2 190 rfl rfl⟩
theorem lk_X4_59 : k_lkN RX4 59 yX7_in cX7_in 2 (some .boolean) 2 := ⟨RX7, List.mem_of_getElem? (i := 4) rfl, cw_1 1 rfl rfl, cw_2 35 rfl rfl, ⟨by decide +kernel, by decide +kernel, by decide +kernel⟩, cw_2 34 rfl rfl⟩
theorem lk_X4_93 : k_lkN RX4 93 yX7_bit cX7_bit 1 (some .int) 1 := ⟨RX7, List.mem_of_getElem? (i := 5) rfl, cw_1 1 rfl rfl, cw_2 62 rfl rfl, ⟨by decide +kernel, by decide +kernel, by decide +kernel⟩, cw_2 61 rfl rfl⟩
theorem lk_X2_38 : k_lkN RX2 38 yX7_in cX7_in 2 (some .boolean) 2 := ⟨RX7, List.mem_of_getElem? (i := 6) rfl, cw_1 1 rfl rfl, cw_2 35 rfl rfl, ⟨by decide +kernel, by decide +kernel, by decide +kernel⟩, cw_2 34 rfl rfl⟩
theorem lc_L_7 : Cond.constant RL 7 (747796405) ∈ cw := cw_2 172 rfl rfl
theorem lc_L_8 : Cond.constant RL 8 (2147483647) ∈ cw := cw_2 176 rfl rfl
def shC : List kE := [
  .inl (6, [some (some 1), some (some 6), some (some 11), some (some 15), some (some 30), none, none]),
  .inl (2, [none, none, some (some 2), some (some 3), some (some 4), some (some 5)]),
  .inr (.inl (0, 6)),
  .inr (.inl (0, 6)),
  .inr (.inl (0, 6)),
  .inr (.inl (0, 6)),
  .inl (0, [none, some (some 7), some (some 8), some (some 9), some (some 10)]),
  .inr (.inl (0, 9)),
  .inr (.inl (0, 9)),
  .inr (.inl (0, 9)),
  .inr (.inl (0, 9)),
  .inl (3, [none, some (some 12), some (some 13), some (some 14)]),
  .inr (.inl (0, 8)),
  .inr (.inl (0, 8)),
  .inr (.inl (1, 8)),
  .inl (4, [some (some 16), none, some (some 1), some (some 6), some (some 24), none, some (some 29), none, some none, none, none]),
  .inl (1, [none, some (some 17)]),
  .inr (.inr (3, 6, fun i => if i < 6 then some (18 + i) else none)),
  .inr (.inl (0, 180)),
  .inr (.inl (0, 180)),
  .inr (.inl (0, 180)),
  .inr (.inl (0, 180)),
  .inr (.inl (0, 180)),
  .inr (.inl (0, 180)),
  .inl (0, [none, some (some 25), some (some 26), some (some 27), some (some 28)]),
  .inr (.inl (0, 180)),
  .inr (.inl (0, 180)),
  .inr (.inl (0, 180)),
  .inr (.inl (0, 180)),
  .inr (.inl (0, 6)),
  .inr (.inr (2, 4, fun i => if i < 4 then some (31 + i) else none)),
  .inl (5, [none, none, none, some (some 35)]),
  .inl (5, [none, none, none, some (some 36)]),
  .inl (5, [none, none, none, some (some 37)]),
  .inl (5, [none, none, none, some (some 38)]),
  .inr (.inl (0, 50)),
  .inr (.inl (0, 50)),
  .inr (.inl (0, 50)),
  .inr (.inl (0, 50))]
def shG : List kE := shC ++ [
  .inr (.inl (0, 27))]
def shL : List kE := shC ++ [
  .inr (.inl (0, 27)),
  .inr (.inl (0, 36)),
  .inr (.inl (0, 19)),
  .inr (.inl (0, 24))]
end
section
theorem pn_X0 : plainName RX0 = true := by decide +kernel
theorem pn_X1 : plainName RX1 = true := by decide +kernel
theorem pn_X2 : plainName RX2 = true := by decide +kernel
theorem pn_X3 : plainName RX3 = true := by decide +kernel
theorem pn_X4 : plainName RX4 = true := by decide +kernel
theorem pn_X5 : plainName RX5 = true := by decide +kernel
theorem pn_X6 : plainName RX6 = true := by decide +kernel
theorem pn_X7 : plainName RX7 = true := by decide +kernel
theorem pn_J7 : plainName RJ7 = true := by decide +kernel
theorem nI_inj {a b : Nat} (ha : a < 2 ^ 31) (hb : b < 2 ^ 31) (h : nI a = nI b) : a = b := (nI_eq ha hb).mp h
theorem nI_mul (a b : Nat) : nI a * nI b = nI (a * b) := by
  unfold nI
  exact (Int32.ofNat_mul a b).symm
theorem nI_sub {a b : Nat} (h : b ≤ a) : nI a - nI b = nI (a - b) := by
  have e : nI (a - b) + nI b = nI a := by rw [nI_add, Nat.sub_add_cancel h]
  rw [← e, Int32.add_sub_cancel]
/-- an int between two bounds is a number -/
theorem nI_between {x : Int32} {N : Nat} (h0 : ¬ x < 0) (h1 : x < nI N) (hN : N < 2 ^ 31) : ∃ j, j < N ∧ x = nI j := by
  obtain ⟨j, hj, rfl⟩ := nI_of h0
  exact ⟨j, (nI_ltI hj hN).mp h1, rfl⟩
section KN
variable {sh : List kE} {own : String} {cc : ByteArray} {n : Nat} {rt : Option FieldType} {fr lo : Nat} {Φ : Option Value → kW → Prop} {pc : Nat} {L : List (Nat × Value)} {st : List Value} {w : kW}
theorem b_topi {x y : Int32} (h : x = y) (kk : BS sh own cc n rt fr lo Φ pc L (.int y :: st) w) : BS sh own cc n rt fr lo Φ pc L (.int x :: st) w := h ▸ kk
theorem b_topl {x y : Int64} (h : x = y) (kk : BS sh own cc n rt fr lo Φ pc L (.long y :: st) w) : BS sh own cc n rt fr lo Φ pc L (.long x :: st) w := h ▸ kk
theorem b_wd {w' : kW} (h : w = w') (kk : BS sh own cc n rt fr lo Φ pc L st w') : BS sh own cc n rt fr lo Φ pc L st w := h ▸ kk
theorem b_sub {L' : List (Nat × Value)} (ks : List Nat) (h : lv_pick L ks = L') (kk : BS sh own cc n rt fr lo Φ pc L' st w) : BS sh own cc n rt fr lo Φ pc L st w := by
  intro p l e s m args below meth co D ca ad H locs ls cx hP hD hS hl
  refine kk p l e s m args below meth co D ca ad H locs ls cx hP hD hS (lv_sub hl ks ?_)
  subst h
  simp only [lv_pick, k_L, List.getElem?_map, List.map_filterMap]
theorem vp_nI {j N : Nat} (h : j < N ∧ N ≤ 1000) : vp_in (nI j) N := by
  rintro (h1 | h1)
  · exact nI_pos (by omega) h1
  · rw [nI_clamp (by omega)] at h1
    omega
theorem b_ialdN {c N j : Nat} (hd : decode cc pc = .ok (.iaload, 1)) (hc : sh[c]? = some (.inr (.inl (0, N)))) (hi : j < N ∧ N ≤ 1000) (kk : BS sh own cc n rt fr lo Φ (pc + 1) L (.int (w.1 c j) :: st) w) : BS sh own cc n rt fr lo Φ pc L (.int (nI j) :: .ref c :: st) w := by
  refine b_iald hd hc (vp_nI hi) ?_
  rw [nI_clamp (by omega)]
  exact kk
theorem b_iastN {c N j : Nat} {x : Int32} (hd : decode cc pc = .ok (.iastore, 1)) (hc : sh[c]? = some (.inr (.inl (0, N)))) (hi : j < N ∧ N ≤ 1000) (kk : BS sh own cc n rt fr lo Φ (pc + 1) L st (k_up w.1 c j x, w.2)) : BS sh own cc n rt fr lo Φ pc L (.int x :: .int (nI j) :: .ref c :: st) w := by
  refine b_iast hd hc (vp_nI hi) ?_
  rw [nI_clamp (by omega)]
  exact kk
end KN
end
section
def bt (x : Int32) (i : Nat) : Bool := x.toBitVec.getLsbD i
theorem b_ext {x y : Int32} (h : ∀ i, i < 32 → bt x i = bt y i) : x = y := Int32.toBitVec_inj.mp (BitVec.eq_of_getLsbD_eq (fun i hi => h i hi))
theorem b_or (x y : Int32) (i : Nat) : bt (x ||| y) i = (bt x i || bt y i) := by unfold bt; rw [Int32.toBitVec_or, BitVec.getLsbD_or]
theorem b_and (x y : Int32) (i : Nat) : bt (x &&& y) i = (bt x i && bt y i) := by unfold bt; rw [Int32.toBitVec_and, BitVec.getLsbD_and]
theorem b_xor (x y : Int32) (i : Nat) : bt (x ^^^ y) i = (bt x i ^^ bt y i) := by unfold bt; rw [Int32.toBitVec_xor, BitVec.getLsbD_xor]
theorem b_m1 : ∀ i, i < 32 → bt (-1) i = true := by decide +kernel
theorem b_0 (i : Nat) : bt 0 i = false := BitVec.getLsbD_zero
theorem s_l : ∀ n, n < 32 → ((nI n &&& 31).toBitVec.smod 32).toNat = n := by decide +kernel
theorem b_shl (n : Nat) (hn : n < 32) (x : Int32) {i : Nat} (hi : i < 32) : bt (x <<< (nI n &&& 31)) i = (decide (n ≤ i) && bt x (i - n)) := by
  unfold bt
  rw [Int32.toBitVec_shiftLeft]
  show (x.toBitVec <<< ((nI n &&& 31).toBitVec.smod 32).toNat).getLsbD i = _
  rw [s_l n hn, BitVec.getLsbD_shiftLeft]
  rcases Nat.lt_or_ge i n with h | h
  · simp [h, Nat.not_le.mpr h]
  · simp [hi, h, Nat.not_lt.mpr h]
theorem b_sshr (n : Nat) (hn : n < 32) (x : Int32) {i : Nat} (hi : i < 32) : bt (x >>> (nI n &&& 31)) i = if n + i < 32 then bt x (n + i) else bt x 31 := by
  unfold bt
  rw [Int32.toBitVec_shiftRight]
  show (x.toBitVec.sshiftRight ((nI n &&& 31).toBitVec.smod 32).toNat).getLsbD i = _
  rw [s_l n hn, BitVec.getLsbD_sshiftRight, BitVec.msb_eq_getLsbD_last]
  simp [hi]
/-- one bit, asked for -/
theorem bit_1 (x : Int32) {k : Nat} (hk : k < 32) : (x >>> (nI k &&& 31)) &&& 1 = 1 ↔ bt x k = true := by
  have e : ∀ i, i < 32 → bt ((x >>> (nI k &&& 31)) &&& 1) i = (decide (i = 0) && bt x k) := by
    intro i hi
    rw [b_and, b_sshr k hk x hi]
    by_cases h : i = 0
    · subst h
      simp [hk, show bt 1 0 = true from by decide]
    · have h1 : bt 1 i = false := by
        have : ∀ i, i < 32 → i ≠ 0 → bt 1 i = false := by decide +kernel
        exact this i hi h
      simp [h, h1]
  constructor
  · intro h
    have h0 := e 0 (by omega)
    rw [h] at h0
    simpa [show bt 1 0 = true from by decide] using h0.symm
  · intro h
    apply b_ext
    intro i hi
    rw [e i hi, h]
    have : ∀ i, i < 32 → (decide (i = 0) && true) = bt 1 i := by decide +kernel
    exact this i hi
theorem bit_one {k : Nat} (hk : k < 32) {i : Nat} (hi : i < 32) : bt (1 <<< (nI k &&& 31)) i = decide (i = k) := by
  rw [b_shl k hk 1 hi]
  have : ∀ j, j < 32 → bt 1 j = decide (j = 0) := by decide +kernel
  rw [this (i - k) (by omega)]
  by_cases h : k ≤ i
  · simp only [h, decide_true, Bool.true_and]
    by_cases h2 : i = k
    · simp [h2]
    · simp [h2]; omega
  · simp [h]; omega
theorem bt_nI {s i : Nat} (hi : i < 32) : bt (nI s) i = s.testBit i := by
  show (BitVec.ofNat 32 s).getLsbD i = _
  rw [BitVec.getLsbD_ofNat, decide_eq_true hi, Bool.true_and]
/-- cells after a store -/
def kset (w : kW) (c k : Nat) (v : Int32) : kW := (k_up w.1 c k v, w.2)
theorem kset_1 (w : kW) (c k : Nat) (v : Int32) (c' k' : Nat) : (kset w c k v).1 c' k' = if c' = c then (if k' = k then v else w.1 c' k') else w.1 c' k' := rfl
theorem kset_2 (w : kW) (c k : Nat) (v : Int32) : (kset w c k v).2 = w.2 := rfl
theorem kset_row (w : kW) (c k : Nat) (v : Int32) {c' : Nat} (h : c' ≠ c) : (kset w c k v).1 c' = w.1 c' := by
  funext j
  rw [kset_1, if_neg h]
theorem kset_ne (w : kW) {c k c' k' : Nat} (v : Int32) (h : c' ≠ c ∨ k' ≠ k) : (kset w c k v).1 c' k' = w.1 c' k' := by
  rw [kset_1]
  rcases h with h | h <;> simp [h]
theorem kset_eq (w : kW) (c k : Nat) (v : Int32) : (kset w c k v).1 c k = v := by rw [kset_1, if_pos rfl, if_pos rfl]
/-! ===== the reference's season, as functions of its cells ===== -/
def fr (w : kW) (k : Nat) : Nat := (w.1 6 k).toNatClampNeg
/-- the persons: how many, what is told of them -/
def Pn (n : Nat) (w : kW) : Prop := w.1 0 5 = nI n ∧ n ≤ 6 ∧ (∀ p, p < n → ∃ h, 1 ≤ h ∧ h ≤ 9 ∧ w.1 5 p = nI h) ∧ (∀ k, k < 2 * n → fr w k < n ∧ w.1 6 k = nI (fr w k)) ∧ (∀ p, p < n → w.1 7 p = 0 ∨ w.1 7 p = 1) ∧ (∀ p, p < n → ∃ k, k ≤ 2 ∧ w.1 4 p = nI k)
def mTc (kd h : Int32) : Int32 :=
  let x0 := 10 - h
  let x1 := if kd ≤ 0 then x0 else (if x0 ≤ 3 then 1 else x0 - 2)
  if kd = 2 then (if x1 ≤ 2 then 1 else x1 - 1) else x1
def mTouch (w : kW) (p : Nat) : Int32 :=
  let x0 := 10 - w.1 5 p
  let x1 := if w.1 4 p ≤ 0 then x0 else (if x0 ≤ 3 then 1 else x0 - 2)
  if w.1 4 p = 2 then (if x1 ≤ 2 then 1 else x1 - 1) else x1
abbrev mFree (w : kW) (x : Nat) (dawn : Int32) : Prop := w.1 7 x = 0 ∧ w.1 15 x ≤ dawn ∧ bt (w.1 0 22) x = false
abbrev mMay (w : kW) (x : Nat) (p other no dawn : Int32) : Prop := ¬ nI x = p ∧ ¬ nI x = other ∧ ¬ nI x = no ∧ mFree w x dawn
def oI (o : Option Nat) : Int32 := match o with
  | none => -9
  | some x => nI x
def mCh (w : kW) (p : Nat) : List Nat := [fr w (2 * p), fr w (2 * p + 1), fr w (2 * fr w (2 * p)), fr w (2 * fr w (2 * p) + 1), fr w (2 * fr w (2 * p + 1)), fr w (2 * fr w (2 * p + 1) + 1)]
def mSec (w : kW) (p : Nat) (other no dawn : Int32) : Option Nat := (mCh w p).find? (fun x => decide (mMay w x (nI p) other no dawn))
def mHurtF (w : kW) (hu y : Nat) (dawn : Int32) : kW :=
  let w1 := kset w 15 hu (dawn + (w.1 5 y - w.1 5 hu) + 2)
  if w.1 6 (2 * hu) = nI y then w1 else
    let t := (w.1 0 23).toNatClampNeg
    kset (kset (kset (kset (kset w1 16 t (nI y)) 17 t (w.1 6 (2 * hu))) 18 t (w.1 5 y - w.1 5 hu)) 19 t dawn) 0 23 (w.1 0 23 + 1)
def mMeet0 (w : kW) (a b : Nat) (insd insr dawn : Int32) : kW :=
  let m := (w.1 0 28).toNatClampNeg
  kset (kset (kset (kset (kset (kset (kset w 0 22 (w.1 0 22 ||| (1 <<< (nI a &&& 31) ||| 1 <<< (nI b &&& 31)))) 20 m dawn) 21 m (nI a)) 22 m (nI b)) 23 m insd) 24 m insr) 25 m (-9)
def mMeet (w : kW) (a b : Nat) (insd insr dawn : Int32) : kW :=
  let m := (w.1 0 28).toNatClampNeg
  let w1 := mMeet0 w a b insd insr dawn
  let w2 := if w.1 5 a = w.1 5 b then w1 else if w.1 5 b ≤ w.1 5 a then kset (mHurtF w1 b a dawn) 25 m (nI b) else kset (mHurtF w1 a b dawn) 25 m (nI a)
  kset w2 0 28 (w2.1 0 28 + 1)
def mAnswer (w : kW) (i j : Nat) (deg dawn : Int32) : kW :=
  if mTouch w j ≤ deg then
    match mSec w j (nI i) (-9) dawn with
    | none => w
    | some a => match mSec w i (nI j) (nI a) dawn with
      | none => w
      | some b => mMeet w a b (nI j) (nI i) dawn
  else w
def mZero (w : kW) : Nat → kW
  | 0 => kset (kset w 0 28 0) 0 23 0
  | k + 1 => kset (mZero w k) 15 k 0
def mBegin (n : Nat) (w : kW) : kW := kset (mZero w n) 0 22 0
def mTold (w : kW) (d : Nat) : Nat → kW
  | 0 => kset w 0 22 0
  | k + 1 =>
    let v := mTold w d k
    if v.1 13 k = nI d - 1 ∧ bt (v.1 0 20) k = false then mAnswer v (v.1 11 k).toNatClampNeg (v.1 12 k).toNatClampNeg (v.1 14 k) (nI d) else v
def mTk (w : kW) (d : Nat) : Nat → kW
  | 0 => w
  | k + 1 =>
    let v := mTk w d k
    if v.1 19 k = nI d - 1 then mAnswer v (v.1 16 k).toNatClampNeg (v.1 17 k).toNatClampNeg (v.1 18 k) (nI d) else v
def mDawn (c : Nat) (w : kW) (d : Nat) : kW := mTk (mTold w d c) d (w.1 0 23).toNatClampNeg
def mAhead (n c : Nat) (w : kW) : Nat → kW
  | 0 => mBegin n w
  | d + 1 => mDawn c (mAhead n c w d) d
def mGo (n c : Nat) (w : kW) (d : Nat) : kW := kset (mAhead n c w d) 0 22 0
theorem nI_inc (k : Nat) : nI k + Int32.ofInt 1 = nI (k + 1) := nI_1 k
theorem nI_ne9 {a : Nat} (h : a < 2 ^ 31) : ¬ nI a = -9 := by
  intro e
  have h1 := nI_toInt h
  rw [e] at h1
  have : (-9 : Int32).toInt = -9 := by decide
  omega
theorem cl_of {x : Int32} {m : Nat} (h : x = nI m) (hm : m < 2 ^ 31) : x.toNatClampNeg = m := by rw [h, nI_clamp hm]
end
section
theorem Pn.frd {w : kW} {n k : Nat} (h : Pn n w) (hk : k < 2 * n) : fr w k < n ∧ w.1 6 k = nI (fr w k) := h.2.2.2.1 k hk
theorem Pn.le {w : kW} {n : Nat} (h : Pn n w) : n ≤ 6 := h.2.1
theorem fr_step {l : List Nat} {x : Nat} {q : Nat → Bool} (h : q x = false) : (x :: l).find? q = l.find? q := List.find?_cons_of_neg (by simp [h])
theorem fr_stop {l : List Nat} {x : Nat} {q : Nat → Bool} (h : q x = true) : (x :: l).find? q = some x := List.find?_cons_of_pos h
end
section
theorem mSec_some {w : kW} {n p a : Nat} {other no dawn : Int32} (hP : Pn n w) (hp : p < n) (h : mSec w p other no dawn = some a) : a < n ∧ mMay w a (nI p) other no dawn := by
  have h1 := List.mem_of_find?_eq_some h
  have h2 := List.find?_some h
  refine ⟨?_, of_decide_eq_true h2⟩
  have hn := hP.le
  have g1 := (hP.frd (k := 2 * p) (by omega)).1
  have g2 := (hP.frd (k := 2 * p + 1) (by omega)).1
  simp only [mCh, List.mem_cons, List.not_mem_nil, or_false] at h1
  rcases h1 with rfl | rfl | rfl | rfl | rfl | rfl
  · exact g1
  · exact g2
  · exact (hP.frd (by omega)).1
  · exact (hP.frd (by omega)).1
  · exact (hP.frd (by omega)).1
  · exact (hP.frd (by omega)).1
theorem mHurtF_met (w : kW) (hu y : Nat) (dawn : Int32) : (mHurtF w hu y dawn).1 0 28 = w.1 0 28 := by
  simp only [mHurtF]
  split <;> rfl
end
section
/-- what a season leaves as it was -/
def sKeep (w w' : kW) : Prop := (∀ c, c ≠ 0 → (c < 15 ∨ 25 < c) → w'.1 c = w.1 c) ∧ (∀ j, j ≠ 22 → j ≠ 23 → j ≠ 28 → w'.1 0 j = w.1 0 j) ∧ w'.2 = w.2
theorem sKeep.rf {w : kW} : sKeep w w := ⟨fun _ _ _ => rfl, fun _ _ _ _ => rfl, rfl⟩
theorem sKeep.tr {w v u : kW} (h1 : sKeep w v) (h2 : sKeep v u) : sKeep w u := ⟨fun c a b => (h2.1 c a b).trans (h1.1 c a b), fun j a b c => (h2.2.1 j a b c).trans (h1.2.1 j a b c), h2.2.2.trans h1.2.2⟩
theorem sKeep.row {w v : kW} {c k : Nat} {x : Int32} (h : sKeep w v) (hc : 15 ≤ c ∧ c ≤ 25) : sKeep w (kset v c k x) := by
  refine h.tr ⟨fun c' h1 h2 => kset_row _ _ _ _ (by omega), fun j _ _ _ => kset_ne _ _ (Or.inl (by omega)), rfl⟩
theorem sKeep.num {w v : kW} {k : Nat} {x : Int32} (h : sKeep w v) (hc : k = 22 ∨ k = 23 ∨ k = 28) : sKeep w (kset v 0 k x) := by
  refine h.tr ⟨fun c' h1 h2 => kset_row _ _ _ _ (by omega), fun j _ _ _ => kset_ne _ _ (Or.inr (by omega)), rfl⟩
theorem mHurtF_keep (w : kW) (hu y : Nat) (dawn : Int32) : sKeep w (mHurtF w hu y dawn) := by
  simp only [mHurtF]
  split
  · exact sKeep.rf.row (by decide)
  · exact (((((sKeep.rf.row (by decide)).row (by decide)).row (by decide)).row (by decide)).row (by decide)).num (by decide)
theorem mMeet0_keep (w : kW) (a b : Nat) (x y dawn : Int32) : sKeep w (mMeet0 w a b x y dawn) := by
  simp only [mMeet0]
  exact ((((((sKeep.rf.num (by decide)).row (by decide)).row (by decide)).row (by decide)).row (by decide)).row (by decide)).row (by decide)
theorem mMeet_keep (w : kW) (a b : Nat) (x y dawn : Int32) : sKeep w (mMeet w a b x y dawn) := by
  simp only [mMeet]
  refine sKeep.num ?_ (by decide)
  split
  · exact mMeet0_keep ..
  · split
    · exact ((mMeet0_keep ..).tr (mHurtF_keep ..)).row (by decide)
    · exact ((mMeet0_keep ..).tr (mHurtF_keep ..)).row (by decide)
theorem mAnswer_keep (w : kW) (i j : Nat) (deg dawn : Int32) : sKeep w (mAnswer w i j deg dawn) := by
  simp only [mAnswer]
  split
  · split
    · exact sKeep.rf
    · split
      · exact sKeep.rf
      · exact mMeet_keep ..
  · exact sKeep.rf
theorem Pn.keep {w v : kW} {n : Nat} (h : Pn n w) (hk : sKeep w v) : Pn n v := by
  have e4 := hk.1 4 (by decide) (by decide)
  have e5 := hk.1 5 (by decide) (by decide)
  have e6 := hk.1 6 (by decide) (by decide)
  have e7 := hk.1 7 (by decide) (by decide)
  have e0 := hk.2.1 5 (by decide) (by decide) (by decide)
  unfold Pn fr at *
  rw [e4, e5, e6, e7, e0]
  exact h
/-- the insults: how many, what is told of them -/
def Ins (n c : Nat) (w : kW) : Prop := w.1 0 15 = nI c ∧ c ≤ 9 ∧ ∀ k, k < c → ∃ a b d g, a < n ∧ b < n ∧ a ≠ b ∧ d < 30 ∧ 1 ≤ g ∧ g ≤ 9 ∧ w.1 11 k = nI a ∧ w.1 12 k = nI b ∧ w.1 13 k = nI d ∧ w.1 14 k = nI g
theorem Ins.keep {w v : kW} {n c : Nat} (h : Ins n c w) (hk : sKeep w v) : Ins n c v := by
  have e4 := hk.1 11 (by decide) (by decide)
  have e5 := hk.1 12 (by decide) (by decide)
  have e6 := hk.1 13 (by decide) (by decide)
  have e7 := hk.1 14 (by decide) (by decide)
  have e0 := hk.2.1 15 (by decide) (by decide) (by decide)
  unfold Ins at *
  rw [e4, e5, e6, e7, e0]
  exact h
def bs6 (x : Int32) : Nat := (bt x 0).toNat + (bt x 1).toNat + (bt x 2).toNat + (bt x 3).toNat + (bt x 4).toNat + (bt x 5).toNat
theorem bs6_le (x : Int32) : bs6 x ≤ 6 := by
  have h : ∀ b : Bool, b.toNat ≤ 1 := by decide
  have := h (bt x 0); have := h (bt x 1); have := h (bt x 2); have := h (bt x 3); have := h (bt x 4); have := h (bt x 5)
  unfold bs6
  omega
theorem bs6_0 : bs6 0 = 0 := by decide
theorem bt_two (x : Int32) {a b k : Nat} (ha : a < 6) (hb : b < 6) (hk : k < 6) : bt (x ||| (1 <<< (nI a &&& 31) ||| 1 <<< (nI b &&& 31))) k = (bt x k || (decide (k = a) || decide (k = b))) := by
  rw [b_or, b_or, bit_one (by omega) (by omega), bit_one (by omega) (by omega)]
theorem bs6_two {x : Int32} {a b : Nat} (ha : a < 6) (hb : b < 6) (hab : a ≠ b) (h1 : bt x a = false) (h2 : bt x b = false) : bs6 (x ||| (1 <<< (nI a &&& 31) ||| 1 <<< (nI b &&& 31))) = bs6 x + 2 := by
  unfold bs6
  rw [bt_two x ha hb (by decide), bt_two x ha hb (by decide), bt_two x ha hb (by decide), bt_two x ha hb (by decide), bt_two x ha hb (by decide), bt_two x ha hb (by decide)]
  rcases (show (a = 0 ∨ a = 1 ∨ a = 2 ∨ a = 3 ∨ a = 4 ∨ a = 5) by omega) with rfl | rfl | rfl | rfl | rfl | rfl <;> rcases (show (b = 0 ∨ b = 1 ∨ b = 2 ∨ b = 3 ∨ b = 4 ∨ b = 5) by omega) with rfl | rfl | rfl | rfl | rfl | rfl <;> first | exact absurd rfl hab | (simp [h1, h2]; try omega)
/-- the takings' rows -/
def TkOk (n t : Nat) (w : kW) : Prop := ∀ k, k < t → ∃ a b, a < n ∧ b < n ∧ w.1 16 k = nI a ∧ w.1 17 k = nI b
def SInv (n m0 : Nat) (w : kW) : Prop := Pn n w ∧ ∃ m t, w.1 0 28 = nI m ∧ w.1 0 23 = nI t ∧ t ≤ m ∧ 2 * m = 2 * m0 + bs6 (w.1 0 22) ∧ TkOk n t w
theorem mHurtF_tk {w : kW} {n t hu y : Nat} {dawn : Int32} (hP : Pn n w) (hh : hu < n) (hy : y < n) (ht : w.1 0 23 = nI t) (ht2 : t < 200) (hT : TkOk n t w) : ∃ t', t ≤ t' ∧ t' ≤ t + 1 ∧ (mHurtF w hu y dawn).1 0 23 = nI t' ∧ TkOk n t' (mHurtF w hu y dawn) ∧ (mHurtF w hu y dawn).1 0 22 = w.1 0 22 := by
  simp only [mHurtF]
  split
  · refine ⟨t, Nat.le_refl _, by omega, ht, fun k hk => ?_, rfl⟩
    obtain ⟨a, b, h1, h2, h3, h4⟩ := hT k hk
    exact ⟨a, b, h1, h2, h3, h4⟩
  · refine ⟨t + 1, by omega, Nat.le_refl _, ?_, fun k hk => ?_, rfl⟩
    · rw [kset_eq, ht, nI_1]
    · rw [cl_of ht (by omega)]
      have hf := hP.frd (k := 2 * hu) (by omega)
      by_cases e : k = t
      · subst e
        exact ⟨y, fr w (2 * hu), hy, hf.1, by simp [kset_1], by simp [kset_1, hf.2]⟩
      · obtain ⟨a, b, h1, h2, h3, h4⟩ := hT k (by omega)
        exact ⟨a, b, h1, h2, by simp [kset_1, e, h3], by simp [kset_1, e, h4]⟩
theorem TkOk.of {w v : kW} {n t : Nat} (h : TkOk n t w) (h1 : v.1 16 = w.1 16) (h2 : v.1 17 = w.1 17) : TkOk n t v := by
  unfold TkOk at *
  rw [h1, h2]
  exact h
theorem mMeet_inv {w : kW} {n m0 a b : Nat} {x y dawn : Int32} (h : SInv n m0 w) (hm0 : m0 ≤ 177) (ha : a < n) (hb : b < n) (hab : a ≠ b) (h1 : bt (w.1 0 22) a = false) (h2 : bt (w.1 0 22) b = false) : SInv n m0 (mMeet w a b x y dawn) := by
  obtain ⟨hP, m, t, hm, ht, htm, hmm, hT⟩ := h
  have hn := hP.le
  have hb6 := bs6_le (w.1 0 22)
  have k0 := mMeet0_keep w a b x y dawn
  have hP0 := hP.keep k0
  have ht0 : (mMeet0 w a b x y dawn).1 0 23 = nI t := ht
  have hT0 : TkOk n t (mMeet0 w a b x y dawn) := hT.of rfl rfl
  have hbit : (mMeet0 w a b x y dawn).1 0 22 = w.1 0 22 ||| (1 <<< (nI a &&& 31) ||| 1 <<< (nI b &&& 31)) := rfl
  have e2 := bs6_two (by omega) (by omega) hab h1 h2
  refine ⟨hP.keep (mMeet_keep ..), ?_⟩
  simp only [mMeet]
  split
  · exact ⟨m + 1, t, by rw [kset_eq, ← nI_1, ← hm]; rfl, ht, by omega, by rw [kset_ne _ _ (by decide), hbit, e2]; omega, hT.of rfl rfl⟩
  · split
    · obtain ⟨t', g1, g2, g3, g4, g5⟩ := mHurtF_tk (dawn := dawn) hP0 hb ha ht0 (by omega) hT0
      refine ⟨m + 1, t', ?_, by rw [kset_ne _ _ (by decide), kset_ne _ _ (Or.inl (by decide)), g3], by omega, ?_, g4.of rfl rfl⟩
      · rw [kset_eq, kset_ne _ _ (Or.inl (by decide)), mHurtF_met, ← nI_1, ← hm]; rfl
      · rw [kset_ne _ _ (by decide), kset_ne _ _ (Or.inl (by decide)), g5, hbit, e2]; omega
    · obtain ⟨t', g1, g2, g3, g4, g5⟩ := mHurtF_tk (dawn := dawn) hP0 ha hb ht0 (by omega) hT0
      refine ⟨m + 1, t', ?_, by rw [kset_ne _ _ (by decide), kset_ne _ _ (Or.inl (by decide)), g3], by omega, ?_, g4.of rfl rfl⟩
      · rw [kset_eq, kset_ne _ _ (Or.inl (by decide)), mHurtF_met, ← nI_1, ← hm]; rfl
      · rw [kset_ne _ _ (by decide), kset_ne _ _ (Or.inl (by decide)), g5, hbit, e2]; omega
theorem mAnswer_inv {w : kW} {n m0 i j : Nat} {deg dawn : Int32} (h : SInv n m0 w) (hm0 : m0 ≤ 177) (hi : i < n) (hj : j < n) : SInv n m0 (mAnswer w i j deg dawn) := by
  simp only [mAnswer]
  split
  · split
    · exact h
    · rename_i a ha
      have g1 := mSec_some h.1 hj ha
      split
      · exact h
      · rename_i b hb
        have g2 := mSec_some h.1 hi hb
        exact mMeet_inv h hm0 g1.1 g2.1 (fun e => g2.2.2.2.1 (by rw [e])) g1.2.2.2.2.2.2 g2.2.2.2.2.2.2
  · exact h
theorem mTold_inv {w : kW} {n c m0 d : Nat} (h : SInv n m0 (kset w 0 22 0)) (hI : Ins n c w) (hm0 : m0 ≤ 177) : ∀ k, k ≤ c → SInv n m0 (mTold w d k) ∧ sKeep w (mTold w d k) := by
  intro k
  induction k with
  | zero => intro _; exact ⟨h, sKeep.rf.num (by decide)⟩
  | succ k ih =>
    intro hk
    obtain ⟨g1, g2⟩ := ih (by omega)
    simp only [mTold]
    split
    · obtain ⟨a, b, dd, g, h1, h2, h3, h4, h5, h6, h7, h8, h9, h10⟩ := (hI.keep g2).2.2 k (by omega)
      have hn := g1.1.le
      rw [cl_of h7 (by omega), cl_of h8 (by omega)]
      exact ⟨mAnswer_inv g1 hm0 h1 h2, g2.tr (mAnswer_keep ..)⟩
    · exact ⟨g1, g2⟩
theorem mTk_t {w : kW} {n m0 : Nat} (h : SInv n m0 w) (hm0 : m0 ≤ 177) : ∃ m t, w.1 0 28 = nI m ∧ m < 200 ∧ w.1 0 23 = nI t ∧ t < 200 ∧ TkOk n t w := by
  obtain ⟨hP, m, t, hm, ht, htm, hmm, hT⟩ := h
  have hb6 := bs6_le (w.1 0 22)
  exact ⟨m, t, hm, by omega, ht, by omega, hT⟩
end
section
/-- t takings in w, t' in v, the first t as they were -/
def TkExt (t t' : Nat) (w v : kW) : Prop := t ≤ t' ∧ v.1 0 23 = nI t' ∧ ∀ k, k < t → v.1 16 k = w.1 16 k ∧ v.1 17 k = w.1 17 k ∧ v.1 18 k = w.1 18 k ∧ v.1 19 k = w.1 19 k
theorem TkExt.rf {t : Nat} {w : kW} (h : w.1 0 23 = nI t) : TkExt t t w w := ⟨Nat.le_refl _, h, fun _ _ => ⟨rfl, rfl, rfl, rfl⟩⟩
theorem TkExt.tr {t t' t'' : Nat} {w v u : kW} (h1 : TkExt t t' w v) (h2 : TkExt t' t'' v u) : TkExt t t'' w u := ⟨Nat.le_trans h1.1 h2.1, h2.2.1, fun k hk => by
  obtain ⟨a1, a2, a3, a4⟩ := h1.2.2 k hk
  obtain ⟨b1, b2, b3, b4⟩ := h2.2.2 k (Nat.lt_of_lt_of_le hk h1.1)
  exact ⟨b1.trans a1, b2.trans a2, b3.trans a3, b4.trans a4⟩⟩
theorem mHurtF_ext {w : kW} {t hu y : Nat} {dawn : Int32} (ht : w.1 0 23 = nI t) (ht2 : t < 200) : ∃ t', t' ≤ t + 1 ∧ TkExt t t' w (mHurtF w hu y dawn) := by
  simp only [mHurtF]
  split
  · exact ⟨t, by omega, Nat.le_refl _, ht, fun k hk => ⟨rfl, rfl, rfl, rfl⟩⟩
  · refine ⟨t + 1, Nat.le_refl _, by omega, by rw [kset_eq, ht, nI_1], fun k hk => ?_⟩
    rw [cl_of ht (by omega)]
    have e : ¬ k = t := by omega
    exact ⟨by simp [kset_1, e], by simp [kset_1, e], by simp [kset_1, e], by simp [kset_1, e]⟩
theorem TkExt.row {t t' c k : Nat} {x : Int32} {w v : kW} (h : TkExt t t' w v) (hc : c = 0 ∧ k ≠ 23 ∨ 20 ≤ c) : TkExt t t' w (kset v c k x) := by
  refine ⟨h.1, by rw [kset_ne _ _ (by omega)]; exact h.2.1, fun j hj => ?_⟩
  rw [kset_ne _ _ (by omega), kset_ne _ _ (by omega), kset_ne _ _ (by omega), kset_ne _ _ (by omega)]
  exact h.2.2 j hj
theorem mMeet_ext {w : kW} {t a b : Nat} {x y dawn : Int32} (ht : w.1 0 23 = nI t) (ht2 : t < 200) : ∃ t', t' ≤ t + 1 ∧ TkExt t t' w (mMeet w a b x y dawn) := by
  have h0 : TkExt t t w (mMeet0 w a b x y dawn) := by
    simp only [mMeet0]
    exact (((((((TkExt.rf ht).row (by omega)).row (by omega)).row (by omega)).row (by omega)).row (by omega)).row (by omega)).row (by omega)
  simp only [mMeet]
  split
  · exact ⟨t, by omega, h0.row (by omega)⟩
  · split
    · obtain ⟨t', h1, h2⟩ := mHurtF_ext (hu := b) (y := a) (dawn := dawn) h0.2.1 ht2
      exact ⟨t', h1, ((h0.tr h2).row (by omega)).row (by omega)⟩
    · obtain ⟨t', h1, h2⟩ := mHurtF_ext (hu := a) (y := b) (dawn := dawn) h0.2.1 ht2
      exact ⟨t', h1, ((h0.tr h2).row (by omega)).row (by omega)⟩
theorem mAnswer_ext {w : kW} {t i j : Nat} {deg dawn : Int32} (ht : w.1 0 23 = nI t) (ht2 : t < 200) : ∃ t', t' ≤ t + 1 ∧ TkExt t t' w (mAnswer w i j deg dawn) := by
  simp only [mAnswer]
  split
  · split
    · exact ⟨t, by omega, TkExt.rf ht⟩
    · split
      · exact ⟨t, by omega, TkExt.rf ht⟩
      · exact mMeet_ext ht ht2
  · exact ⟨t, by omega, TkExt.rf ht⟩
theorem SInv.t {w : kW} {n m0 : Nat} (h : SInv n m0 w) (hm0 : m0 ≤ 177) : ∃ t, w.1 0 23 = nI t ∧ t < 200 := by
  obtain ⟨m, t, h1, h2, h3, h4, h5⟩ := mTk_t h hm0
  exact ⟨t, h3, h4⟩
theorem mAnswer_ext2 {w : kW} {n m0 t i j : Nat} {deg dawn : Int32} (h : SInv n m0 w) (hm0 : m0 ≤ 177) (hi : i < n) (hj : j < n) (ht : w.1 0 23 = nI t) (ht2 : t < 200) : ∃ t', t' < 200 ∧ TkExt t t' w (mAnswer w i j deg dawn) := by
  obtain ⟨t', h1, h2⟩ := mAnswer_ext (i := i) (j := j) (deg := deg) (dawn := dawn) ht ht2
  obtain ⟨t2, e1, e2⟩ := (mAnswer_inv (deg := deg) (dawn := dawn) h hm0 hi hj).t hm0
  have e3 := nI_inj (by omega) (by omega) (e1.symm.trans h2.2.1)
  subst e3
  exact ⟨t2, e2, h2⟩
theorem mTold_ext {w : kW} {n c m0 d t : Nat} (h : SInv n m0 (kset w 0 22 0)) (hI : Ins n c w) (hm0 : m0 ≤ 177) (ht : w.1 0 23 = nI t) (ht2 : t < 200) : ∀ k, k ≤ c → ∃ t', t' < 200 ∧ TkExt t t' w (mTold w d k) := by
  intro k
  induction k with
  | zero => intro _; exact ⟨t, ht2, (TkExt.rf ht).row (by omega)⟩
  | succ k ih =>
    intro hk
    obtain ⟨t', g1, g2⟩ := ih (by omega)
    obtain ⟨v1, v2⟩ := mTold_inv (d := d) h hI hm0 k (by omega)
    simp only [mTold]
    split
    · obtain ⟨a, b, dd, g, h1, h2, h3, h4, h5, h6, h7, h8, h9, h10⟩ := (hI.keep v2).2.2 k (by omega)
      have hn := v1.1.le
      rw [cl_of h7 (by omega), cl_of h8 (by omega)]
      obtain ⟨t'', e1, e2⟩ := mAnswer_ext2 (deg := (mTold w d k).1 14 k) (dawn := nI d) v1 hm0 h1 h2 g2.2.1 g1
      exact ⟨t'', e1, g2.tr e2⟩
    · exact ⟨t', g1, g2⟩
theorem mTk_inv {w : kW} {n m0 d t b : Nat} (h : SInv n m0 w) (hm0 : m0 ≤ 177) (ht : w.1 0 23 = nI t) (ht2 : t < 200) (hb : b ≤ t) : ∀ k, k ≤ b → SInv n m0 (mTk w d k) ∧ sKeep w (mTk w d k) ∧ ∃ t', t' < 200 ∧ TkExt t t' w (mTk w d k) := by
  intro k
  induction k with
  | zero => intro _; exact ⟨h, sKeep.rf, t, ht2, TkExt.rf ht⟩
  | succ k ih =>
    intro hk
    obtain ⟨v1, v2, t', g1, g2⟩ := ih (by omega)
    simp only [mTk]
    split
    · obtain ⟨hP, m, t2, c1, c2, c3, c4, c5⟩ := id h
      have e3 := nI_inj (by have := bs6_le (w.1 0 22); omega) (by omega) (c2.symm.trans ht)
      subst e3
      obtain ⟨a, b', h1, h2, h3, h4⟩ := c5 k (by omega)
      obtain ⟨r1, r2, r3, r4⟩ := g2.2.2 k (by omega)
      have hn := v1.1.le
      rw [cl_of (r1.trans h3) (by omega), cl_of (r2.trans h4) (by omega)]
      obtain ⟨t'', e1, e2⟩ := mAnswer_ext2 (deg := (mTk w d k).1 18 k) (dawn := nI d) v1 hm0 h1 h2 g2.2.1 g1
      exact ⟨mAnswer_inv v1 hm0 h1 h2, v2.tr (mAnswer_keep ..), t'', e1, g2.tr e2⟩
    · exact ⟨v1, v2, t', g1, g2⟩
/-- between two dawns: at most M meetings -/
def DInv (n M : Nat) (w : kW) : Prop := Pn n w ∧ ∃ m t, w.1 0 28 = nI m ∧ m ≤ M ∧ w.1 0 23 = nI t ∧ t ≤ m ∧ TkOk n t w
theorem DInv.start {w : kW} {n M : Nat} (h : DInv n M w) : ∃ m, m ≤ M ∧ SInv n m (kset w 0 22 0) := by
  obtain ⟨hP, m, t, h1, h2, h3, h4, h5⟩ := h
  exact ⟨m, h2, hP.keep (sKeep.rf.num (by decide)), m, t, h1, h3, h4, by rw [kset_eq, bs6_0, Nat.add_zero], h5.of rfl rfl⟩
theorem DInv.t {w : kW} {n M : Nat} (h : DInv n M w) (hM : M ≤ 177) : ∃ t, t < 178 ∧ w.1 0 23 = nI t := by
  obtain ⟨hP, m, t, h1, h2, h3, h4, h5⟩ := h
  exact ⟨t, by omega, h3⟩
theorem SInv.stop {w : kW} {n m0 : Nat} (h : SInv n m0 w) : DInv n (m0 + 3) w := by
  obtain ⟨hP, m, t, h1, h2, h3, h4, h5⟩ := h
  have := bs6_le (w.1 0 22)
  exact ⟨hP, m, t, h1, by omega, h2, h3, h5⟩
theorem DInv.mono {w : kW} {n M M' : Nat} (h : DInv n M w) (hm : M ≤ M') : DInv n M' w := by
  obtain ⟨hP, m, t, h1, h2, h3, h4, h5⟩ := h
  exact ⟨hP, m, t, h1, by omega, h3, h4, h5⟩
theorem mDawn_inv {w : kW} {n c M d : Nat} (h : DInv n M w) (hM : M ≤ 177) (hI : Ins n c w) : DInv n (M + 3) (mDawn c w d) ∧ sKeep w (mDawn c w d) := by
  obtain ⟨m0, hm0, hS⟩ := h.start
  obtain ⟨b, hb, eb⟩ := h.t hM
  obtain ⟨g1, g2⟩ := mTold_inv (d := d) hS hI (by omega) c (Nat.le_refl _)
  obtain ⟨t', e1, e2⟩ := mTold_ext (d := d) hS hI (by omega) eb (by omega) c (Nat.le_refl _)
  obtain ⟨f1, f2, f3⟩ := mTk_inv (d := d) g1 (by omega) e2.2.1 e1 e2.1 b (Nat.le_refl _)
  unfold mDawn
  rw [cl_of eb (by omega)]
  exact ⟨f1.stop.mono (by omega), g2.tr f2⟩
theorem mZero_keep (w : kW) (k : Nat) : sKeep w (mZero w k) := by
  induction k with
  | zero => exact (sKeep.rf.num (by decide)).num (by decide)
  | succ k ih => exact ih.row (by decide)
theorem mZero_23 (w : kW) (k : Nat) : (mZero w k).1 0 23 = 0 ∧ (mZero w k).1 0 28 = 0 := by
  induction k with
  | zero => exact ⟨rfl, rfl⟩
  | succ k ih => exact ih
theorem mBegin_inv {w : kW} {n : Nat} (h : Pn n w) : DInv n 0 (mBegin n w) ∧ sKeep w (mBegin n w) := by
  have hk : sKeep w (mBegin n w) := (mZero_keep w n).num (by decide)
  exact ⟨⟨h.keep hk, 0, 0, (mZero_23 w n).2, Nat.le_refl _, (mZero_23 w n).1, Nat.le_refl _, fun k hk => absurd hk (Nat.not_lt_zero _)⟩, hk⟩
theorem mAhead_inv {w : kW} {n c : Nat} (h : Pn n w) (hI : Ins n c w) : ∀ d, d ≤ 60 → DInv n (3 * d) (mAhead n c w d) ∧ sKeep w (mAhead n c w d) := by
  intro d
  induction d with
  | zero => intro _; exact mBegin_inv h
  | succ d ih =>
    intro hd
    obtain ⟨g1, g2⟩ := ih (by omega)
    obtain ⟨f1, f2⟩ := mDawn_inv (d := d) g1 (by omega) (hI.keep g2)
    exact ⟨f1, g2.tr f2⟩
theorem mGo_keep {w : kW} {n c d : Nat} (h : Pn n w) (hI : Ins n c w) (hd : d ≤ 60) : sKeep w (mGo n c w d) := (mAhead_inv h hI d hd).2.num (by decide)
theorem mGo_inv {w : kW} {n c d : Nat} (h : Pn n w) (hI : Ins n c w) (hd : d ≤ 60) : DInv n (3 * d) (mGo n c w d) := by
  obtain ⟨⟨hP, m, t, h1, h2, h3, h4, h5⟩, hk⟩ := mAhead_inv h hI d hd
  exact ⟨hP.keep (sKeep.rf.num (by decide)), m, t, h1, h2, h3, h4, h5.of rfl rfl⟩
theorem mTold_yes {w : kW} {d k a b : Nat} (h1 : (mTold w d k).1 13 k = nI d - 1) (h2 : bt ((mTold w d k).1 0 20) k = false) (ha : (mTold w d k).1 11 k = nI a) (hb : (mTold w d k).1 12 k = nI b) (ha2 : a < 6) (hb2 : b < 6) : mAnswer (mTold w d k) a b ((mTold w d k).1 14 k) (nI d) = mTold w d (k + 1) := by
  simp only [mTold]
  rw [if_pos ⟨h1, h2⟩, cl_of ha (by omega), cl_of hb (by omega)]
theorem mTold_no {w : kW} {d k : Nat} (h : ¬ ((mTold w d k).1 13 k = nI d - 1 ∧ bt ((mTold w d k).1 0 20) k = false)) : mTold w d k = mTold w d (k + 1) := by
  simp only [mTold]
  rw [if_neg h]
theorem mTk_yes {w : kW} {d k a b : Nat} (h1 : (mTk w d k).1 19 k = nI d - 1) (ha : (mTk w d k).1 16 k = nI a) (hb : (mTk w d k).1 17 k = nI b) (ha2 : a < 6) (hb2 : b < 6) : mAnswer (mTk w d k) a b ((mTk w d k).1 18 k) (nI d) = mTk w d (k + 1) := by
  simp only [mTk]
  rw [if_pos h1, cl_of ha (by omega), cl_of hb (by omega)]
theorem mTk_no {w : kW} {d k : Nat} (h : ¬ (mTk w d k).1 19 k = nI d - 1) : mTk w d k = mTk w d (k + 1) := by
  simp only [mTk]
  rw [if_neg h]
end
section
/-! ===== a season depends on what is told alone, not on what an earlier one left ===== -/
def PEq (c : Nat) (w v : kW) : Prop := (∀ j, 4 ≤ j → j ≤ 7 → v.1 j = w.1 j) ∧ (∀ j k, 11 ≤ j → j ≤ 14 → k < c → v.1 j k = w.1 j k) ∧ v.1 0 5 = w.1 0 5 ∧ v.1 0 15 = w.1 0 15 ∧ (∀ k, k < c → bt (v.1 0 20) k = bt (w.1 0 20) k)
theorem PEq.keep {c : Nat} {w v w' v' : kW} (h : PEq c w v) (h1 : sKeep w w') (h2 : sKeep v v') : PEq c w' v' := by
  refine ⟨fun j a b => ?_, fun j k a b hk => ?_, ?_, ?_, fun k hk => ?_⟩
  · rw [h1.1 j (by omega) (by omega), h2.1 j (by omega) (by omega)]; exact h.1 j a b
  · rw [h1.1 j (by omega) (by omega), h2.1 j (by omega) (by omega)]; exact h.2.1 j k a b hk
  · rw [h1.2.1 5 (by decide) (by decide) (by decide), h2.2.1 5 (by decide) (by decide) (by decide)]; exact h.2.2.1
  · rw [h1.2.1 15 (by decide) (by decide) (by decide), h2.2.1 15 (by decide) (by decide) (by decide)]; exact h.2.2.2.1
  · rw [h1.2.1 20 (by decide) (by decide) (by decide), h2.2.1 20 (by decide) (by decide) (by decide)]; exact h.2.2.2.2 k hk
theorem PEq.rf {c : Nat} {w : kW} : PEq c w w := ⟨fun _ _ _ => rfl, fun _ _ _ _ _ => rfl, rfl, rfl, fun _ _ => rfl⟩
theorem PEq.pn {c n : Nat} {w v : kW} (h : PEq c w v) (hP : Pn n w) : Pn n v := by
  have e4 := h.1 4 (by decide) (by decide)
  have e5 := h.1 5 (by decide) (by decide)
  have e6 := h.1 6 (by decide) (by decide)
  have e7 := h.1 7 (by decide) (by decide)
  unfold Pn fr at *
  rw [e4, e5, e6, e7, h.2.2.1]
  exact hP
theorem PEq.ins {c n : Nat} {w v : kW} (h : PEq c w v) (hI : Ins n c w) : Ins n c v := by
  refine ⟨h.2.2.2.1.trans hI.1, hI.2.1, fun k hk => ?_⟩
  rw [h.2.1 11 k (by decide) (by decide) hk, h.2.1 12 k (by decide) (by decide) hk, h.2.1 13 k (by decide) (by decide) hk, h.2.1 14 k (by decide) (by decide) hk]
  exact hI.2.2 k hk
theorem mTouch_eq {c : Nat} {w v : kW} (h : PEq c w v) (p : Nat) : mTouch v p = mTouch w p := by
  unfold mTouch
  rw [h.1 4 (by decide) (by decide), h.1 5 (by decide) (by decide)]
theorem f_cg {p q : Nat → Bool} : ∀ {l : List Nat}, (∀ x ∈ l, p x = q x) → l.find? p = l.find? q
  | [], _ => rfl
  | x :: l, h => by
    have hx := h x List.mem_cons_self
    have hl := f_cg (fun y hy => h y (List.mem_cons_of_mem _ hy))
    rw [List.find?_cons, List.find?_cons, hx, hl]
theorem mCh_lt {w : kW} {n p x : Nat} (hP : Pn n w) (hp : p < n) (h : x ∈ mCh w p) : x < n := by
  have hn := hP.le
  have g1 := (hP.frd (k := 2 * p) (by omega)).1
  have g2 := (hP.frd (k := 2 * p + 1) (by omega)).1
  simp only [mCh, List.mem_cons, List.not_mem_nil, or_false] at h
  rcases h with rfl | rfl | rfl | rfl | rfl | rfl
  · exact g1
  · exact g2
  · exact (hP.frd (by omega)).1
  · exact (hP.frd (by omega)).1
  · exact (hP.frd (by omega)).1
  · exact (hP.frd (by omega)).1
theorem mSec_eq {c n p : Nat} {w v : kW} {o no dawn : Int32} (hP : Pn n w) (hp : p < n) (h : PEq c w v) (h1 : v.1 0 22 = w.1 0 22) (h2 : ∀ p, p < n → v.1 15 p = w.1 15 p) : mSec v p o no dawn = mSec w p o no dawn := by
  have e : mCh v p = mCh w p := by
    unfold mCh fr
    rw [h.1 6 (by decide) (by decide)]
  unfold mSec
  rw [e]
  apply f_cg
  intro x hx
  have hl := mCh_lt hP hp hx
  have e : mMay v x (nI p) o no dawn ↔ mMay w x (nI p) o no dawn := by
    unfold mMay mFree
    rw [h.1 7 (by decide) (by decide), h1, h2 x hl]
  exact decide_eq_decide.mpr e
def SQb (n t m : Nat) (w v : kW) : Prop := v.1 0 22 = w.1 0 22 ∧ (∀ p, p < n → v.1 15 p = w.1 15 p) ∧ (∀ j k, 16 ≤ j → j ≤ 19 → k < t → v.1 j k = w.1 j k) ∧ (∀ j k, 20 ≤ j → j ≤ 25 → k < m → v.1 j k = w.1 j k)
theorem kset_cg {w v : kW} {c k c' k' : Nat} {x : Int32} (h : v.1 c' k' = w.1 c' k') : (kset v c k x).1 c' k' = (kset w c k x).1 c' k' := by
  rw [kset_1, kset_1, h]
theorem SQb.kset {n t m c k : Nat} {w v : kW} {x : Int32} (h : SQb n t m w v) : SQb n t m (kset w c k x) (kset v c k x) :=
  ⟨kset_cg h.1, fun p hp => kset_cg (h.2.1 p hp), fun j k' a b hk => kset_cg (h.2.2.1 j k' a b hk), fun j k' a b hk => kset_cg (h.2.2.2 j k' a b hk)⟩
theorem SQb.upt {n t m : Nat} {w v : kW} (h : SQb n t m w v) (he : ∀ j, 16 ≤ j → j ≤ 19 → v.1 j t = w.1 j t) : SQb n (t + 1) m w v :=
  ⟨h.1, h.2.1, fun j k a b hk => by
    by_cases e : k = t
    · subst e; exact he j a b
    · exact h.2.2.1 j k a b (by omega), h.2.2.2⟩
theorem SQb.upm {n t m : Nat} {w v : kW} (h : SQb n t m w v) (he : ∀ j, 20 ≤ j → j ≤ 25 → v.1 j m = w.1 j m) : SQb n t (m + 1) w v :=
  ⟨h.1, h.2.1, h.2.2.1, fun j k a b hk => by
    by_cases e : k = m
    · subst e; exact he j a b
    · exact h.2.2.2 j k a b (by omega)⟩
theorem mHurtF_sq {w v : kW} {n t m hu y : Nat} {dawn : Int32} (e5 : v.1 5 = w.1 5) (e6 : v.1 6 = w.1 6) (hw : w.1 0 23 = nI t) (hv : v.1 0 23 = nI t) (ht : t < 200) (h : SQb n t m w v) : ∃ t', t' ≤ t + 1 ∧ (mHurtF w hu y dawn).1 0 23 = nI t' ∧ (mHurtF v hu y dawn).1 0 23 = nI t' ∧ SQb n t' m (mHurtF w hu y dawn) (mHurtF v hu y dawn) := by
  simp only [mHurtF, e5, e6, cl_of hw (show t < 2 ^ 31 by omega), cl_of hv (show t < 2 ^ 31 by omega)]
  split
  · exact ⟨t, by omega, hw, hv, h.kset⟩
  · refine ⟨t + 1, Nat.le_refl _, by rw [kset_eq, hw, nI_1], by rw [kset_eq, hv, nI_1], ?_⟩
    rw [hw, hv]
    refine SQb.kset (SQb.upt h.kset.kset.kset.kset.kset (fun j h1 h2 => ?_))
    rcases (show j = 16 ∨ j = 17 ∨ j = 18 ∨ j = 19 by omega) with rfl | rfl | rfl | rfl <;> simp [kset_1]
def SQ (n : Nat) (w v : kW) : Prop := ∃ t m, t < 200 ∧ m < 200 ∧ w.1 0 28 = nI m ∧ v.1 0 28 = nI m ∧ w.1 0 23 = nI t ∧ v.1 0 23 = nI t ∧ SQb n t m w v
theorem mMeet0_sq {w v : kW} {n t m a b : Nat} {x y dawn : Int32} (hw : w.1 0 28 = nI m) (hv : v.1 0 28 = nI m) (hm : m < 200) (h : SQb n t m w v) : SQb n t (m + 1) (mMeet0 w a b x y dawn) (mMeet0 v a b x y dawn) := by
  simp only [mMeet0, cl_of hw (show m < 2 ^ 31 by omega), cl_of hv (show m < 2 ^ 31 by omega), h.1]
  refine SQb.upm h.kset.kset.kset.kset.kset.kset.kset (fun j h1 h2 => ?_)
  rcases (show j = 20 ∨ j = 21 ∨ j = 22 ∨ j = 23 ∨ j = 24 ∨ j = 25 by omega) with rfl | rfl | rfl | rfl | rfl | rfl <;> simp [kset_1]
theorem mMeet_sq {w v : kW} {n t m a b : Nat} {x y dawn : Int32} (e5 : v.1 5 = w.1 5) (e6 : v.1 6 = w.1 6) (hw : w.1 0 28 = nI m) (hv : v.1 0 28 = nI m) (hm : m < 200) (tw : w.1 0 23 = nI t) (tv : v.1 0 23 = nI t) (ht : t < 200) (h : SQb n t m w v) : ∃ t', t' ≤ t + 1 ∧ (mMeet w a b x y dawn).1 0 28 = nI (m + 1) ∧ (mMeet v a b x y dawn).1 0 28 = nI (m + 1) ∧ (mMeet w a b x y dawn).1 0 23 = nI t' ∧ (mMeet v a b x y dawn).1 0 23 = nI t' ∧ SQb n t' (m + 1) (mMeet w a b x y dawn) (mMeet v a b x y dawn) := by
  have h0 := mMeet0_sq (a := a) (b := b) (x := x) (y := y) (dawn := dawn) hw hv hm h
  have kw : (mMeet0 w a b x y dawn).1 0 28 = nI m := hw
  have kv : (mMeet0 v a b x y dawn).1 0 28 = nI m := hv
  have k5 : (mMeet0 v a b x y dawn).1 5 = (mMeet0 w a b x y dawn).1 5 := e5
  have k6 : (mMeet0 v a b x y dawn).1 6 = (mMeet0 w a b x y dawn).1 6 := e6
  have tw0 : (mMeet0 w a b x y dawn).1 0 23 = nI t := tw
  have tv0 : (mMeet0 v a b x y dawn).1 0 23 = nI t := tv
  simp only [mMeet, e5, cl_of hw (show m < 2 ^ 31 by omega), cl_of hv (show m < 2 ^ 31 by omega)]
  split
  · refine ⟨t, by omega, by rw [kset_eq, kw, nI_1], by rw [kset_eq, kv, nI_1], tw, tv, ?_⟩
    rw [kw, kv]
    exact h0.kset
  · split
    · obtain ⟨t', g1, g2, g3, g4⟩ := mHurtF_sq (hu := b) (y := a) (dawn := dawn) k5 k6 tw0 tv0 ht h0
      refine ⟨t', g1, ?_, ?_, ?_, ?_, ?_⟩
      · rw [kset_eq, kset_ne _ _ (Or.inl (by decide)), mHurtF_met, kw, nI_1]
      · rw [kset_eq, kset_ne _ _ (Or.inl (by decide)), mHurtF_met, kv, nI_1]
      · rw [kset_ne _ _ (Or.inr (by decide)), kset_ne _ _ (Or.inl (by decide)), g2]
      · rw [kset_ne _ _ (Or.inr (by decide)), kset_ne _ _ (Or.inl (by decide)), g3]
      · rw [kset_ne _ _ (Or.inl (by decide)), kset_ne _ _ (Or.inl (by decide)), mHurtF_met, mHurtF_met, kw, kv]
        exact g4.kset.kset
    · obtain ⟨t', g1, g2, g3, g4⟩ := mHurtF_sq (hu := a) (y := b) (dawn := dawn) k5 k6 tw0 tv0 ht h0
      refine ⟨t', g1, ?_, ?_, ?_, ?_, ?_⟩
      · rw [kset_eq, kset_ne _ _ (Or.inl (by decide)), mHurtF_met, kw, nI_1]
      · rw [kset_eq, kset_ne _ _ (Or.inl (by decide)), mHurtF_met, kv, nI_1]
      · rw [kset_ne _ _ (Or.inr (by decide)), kset_ne _ _ (Or.inl (by decide)), g2]
      · rw [kset_ne _ _ (Or.inr (by decide)), kset_ne _ _ (Or.inl (by decide)), g3]
      · rw [kset_ne _ _ (Or.inl (by decide)), kset_ne _ _ (Or.inl (by decide)), mHurtF_met, mHurtF_met, kw, kv]
        exact g4.kset.kset
theorem SInv.m {w : kW} {n m0 : Nat} (h : SInv n m0 w) (hm0 : m0 ≤ 177) : ∃ m, w.1 0 28 = nI m ∧ m < 200 := by
  obtain ⟨m, t, h1, h2, h3, h4, h5⟩ := mTk_t h hm0
  exact ⟨m, h1, h2⟩
theorem mAnswer_sq {c : Nat} {w v : kW} {n m0 i j : Nat} {deg dawn : Int32} (hS : SInv n m0 w) (hm0 : m0 ≤ 177) (hi : i < n) (hj : j < n) (hp : PEq c w v) (hq : SQ n w v) : SQ n (mAnswer w i j deg dawn) (mAnswer v i j deg dawn) := by
  obtain ⟨t, m, h1, h2, h3, h4, h5, h6, h7⟩ := id hq
  have hS' := mAnswer_inv (deg := deg) (dawn := dawn) hS hm0 hi hj
  obtain ⟨t2, u1, u2⟩ := hS'.t hm0
  obtain ⟨m2, u3, u4⟩ := hS'.m hm0
  revert u1 u3
  simp only [mAnswer, mTouch_eq hp, mSec_eq hS.1 hj hp h7.1 h7.2.1, mSec_eq hS.1 hi hp h7.1 h7.2.1]
  split
  · split
    · exact fun _ _ => hq
    · rename_i a ha
      split
      · exact fun _ _ => hq
      · rename_i b hb
        intro u1 u3
        obtain ⟨t', g1, g2, g3, g4, g5, g6⟩ := mMeet_sq (a := a) (b := b) (x := nI j) (y := nI i) (dawn := dawn) (hp.1 5 (by decide) (by decide)) (hp.1 6 (by decide) (by decide)) h3 h4 h2 h5 h6 h1 h7
        have q1 := nI_inj (by omega) (by omega) (u1.symm.trans g4)
        have q2 := nI_inj (by omega) (by omega) (u3.symm.trans g2)
        exact ⟨t', m + 1, by omega, by omega, g2, g3, g4, g5, g6⟩
  · exact fun _ _ => hq
theorem mTold_sq {c : Nat} {w v : kW} {n m0 d : Nat} (hS : SInv n m0 (kset w 0 22 0)) (hI : Ins n c w) (hm0 : m0 ≤ 177) (hp : PEq c w v) (hq : SQ n (kset w 0 22 0) (kset v 0 22 0)) : ∀ k, k ≤ c → SQ n (mTold w d k) (mTold v d k) ∧ sKeep v (mTold v d k) := by
  intro k
  induction k with
  | zero => exact fun _ => ⟨hq, sKeep.rf.num (by decide)⟩
  | succ k ih =>
    intro hk
    obtain ⟨g1, g2⟩ := ih (by omega)
    obtain ⟨v1, v2⟩ := mTold_inv (d := d) hS hI hm0 k (by omega)
    have hp' := hp.keep v2 g2
    obtain ⟨a, b, dd, g, h1, h2, h3, h4, h5, h6, h7, h8, h9, h10⟩ := (hI.keep v2).2.2 k (by omega)
    have hn := v1.1.le
    simp only [mTold, hp'.2.1 11 k (by decide) (by decide) (by omega), hp'.2.1 12 k (by decide) (by decide) (by omega), hp'.2.1 13 k (by decide) (by decide) (by omega), hp'.2.1 14 k (by decide) (by decide) (by omega), hp'.2.2.2.2 k (by omega), cl_of h7 (show a < 2 ^ 31 by omega), cl_of h8 (show b < 2 ^ 31 by omega)]
    split
    · exact ⟨mAnswer_sq v1 hm0 h1 h2 hp' g1, g2.tr (mAnswer_keep ..)⟩
    · exact ⟨g1, g2⟩
theorem mTk_sq {c : Nat} {w v : kW} {n m0 d t b : Nat} (hS : SInv n m0 w) (hm0 : m0 ≤ 177) (ht : w.1 0 23 = nI t) (ht2 : t < 200) (hb : b ≤ t) (hp : PEq c w v) (hq : SQ n w v) : ∀ k, k ≤ b → SQ n (mTk w d k) (mTk v d k) ∧ sKeep v (mTk v d k) := by
  intro k
  induction k with
  | zero => exact fun _ => ⟨hq, sKeep.rf⟩
  | succ k ih =>
    intro hk
    obtain ⟨g1, g2⟩ := ih (by omega)
    obtain ⟨v1, v2, t', e1, e2⟩ := mTk_inv (d := d) hS hm0 ht ht2 hb k (by omega)
    have hp' := hp.keep v2 g2
    obtain ⟨hP, m, t2, c1, c2, c3, c4, c5⟩ := id hS
    have e3 := nI_inj (by have := bs6_le (w.1 0 22); omega) (by omega) (c2.symm.trans ht)
    subst e3
    obtain ⟨a, b', h1, h2, h3, h4⟩ := c5 k (by omega)
    obtain ⟨r1, r2, r3, r4⟩ := e2.2.2 k (by omega)
    have hn := v1.1.le
    obtain ⟨t3, m3, q1, q2, q3, q4, q5, q6, q7⟩ := id g1
    have e4 := nI_inj (by omega) (by omega) (q5.symm.trans e2.2.1)
    subst e4
    have hk' : k < t3 := by have := e2.1; omega
    simp only [mTk, q7.2.2.1 16 k (by decide) (by decide) hk', q7.2.2.1 17 k (by decide) (by decide) hk', q7.2.2.1 18 k (by decide) (by decide) hk', q7.2.2.1 19 k (by decide) (by decide) hk', cl_of (r1.trans h3) (show a < 2 ^ 31 by omega), cl_of (r2.trans h4) (show b' < 2 ^ 31 by omega)]
    split
    · exact ⟨mAnswer_sq v1 hm0 h1 h2 hp' g1, g2.tr (mAnswer_keep ..)⟩
    · exact ⟨g1, g2⟩
theorem SQ.zero {n : Nat} {w v : kW} (h : SQ n w v) : SQ n (kset w 0 22 0) (kset v 0 22 0) := by
  obtain ⟨t, m, h1, h2, h3, h4, h5, h6, h7⟩ := h
  exact ⟨t, m, h1, h2, h3, h4, h5, h6, h7.kset⟩
theorem mDawn_sq {c : Nat} {w v : kW} {n M d : Nat} (h : DInv n M w) (hM : M ≤ 177) (hI : Ins n c w) (hp : PEq c w v) (hq : SQ n w v) : SQ n (mDawn c w d) (mDawn c v d) ∧ sKeep v (mDawn c v d) := by
  obtain ⟨m0, hm0, hS⟩ := h.start
  obtain ⟨b, hb, eb⟩ := h.t hM
  obtain ⟨g1, g2⟩ := mTold_inv (d := d) hS hI (by omega) c (Nat.le_refl _)
  obtain ⟨t', e1, e2⟩ := mTold_ext (d := d) hS hI (by omega) eb (by omega) c (Nat.le_refl _)
  obtain ⟨f1, f2⟩ := mTold_sq (d := d) hS hI (by omega) hp hq.zero c (Nat.le_refl _)
  obtain ⟨t, m, h1, h2, h3, h4, h5, h6, h7⟩ := id hq
  have e3 := nI_inj (by omega) (by omega) (h5.symm.trans eb)
  subst e3
  obtain ⟨k1, k2⟩ := mTk_sq (d := d) g1 (by omega) e2.2.1 e1 e2.1 (hp.keep g2 f2) f1 t (Nat.le_refl _)
  unfold mDawn
  rw [cl_of h5 (by omega), cl_of h6 (by omega)]
  exact ⟨k1, f2.tr k2⟩
theorem mZero_15 (w : kW) : ∀ n p, p < n → (mZero w n).1 15 p = 0 := by
  intro n
  induction n with
  | zero => intro p h; omega
  | succ n ih =>
    intro p h
    rw [mZero, kset_1, if_pos rfl]
    by_cases e : p = n
    · rw [if_pos e]
    · rw [if_neg e]; exact ih p (by omega)
theorem mBegin_sq {w v : kW} {n : Nat} : SQ n (mBegin n w) (mBegin n v) := by
  refine ⟨0, 0, by decide, by decide, (mZero_23 w n).2, (mZero_23 v n).2, (mZero_23 w n).1, (mZero_23 v n).1, rfl, fun p hp => ?_, fun _ _ _ _ h => absurd h (Nat.not_lt_zero _), fun _ _ _ _ h => absurd h (Nat.not_lt_zero _)⟩
  show (mZero v n).1 15 p = (mZero w n).1 15 p
  rw [mZero_15 v n p hp, mZero_15 w n p hp]
theorem mAhead_sq {c : Nat} {w v : kW} {n : Nat} (hP : Pn n w) (hI : Ins n c w) (hp : PEq c w v) : ∀ d, d ≤ 60 → SQ n (mAhead n c w d) (mAhead n c v d) := by
  intro d
  induction d with
  | zero => exact fun _ => mBegin_sq
  | succ d ih =>
    intro hd
    obtain ⟨g1, g2⟩ := mAhead_inv hP hI d (by omega)
    exact (mDawn_sq g1 (by omega) (hI.keep g2) (hp.keep g2 (mAhead_inv (hp.pn hP) (hp.ins hI) d (by omega)).2) (ih (by omega))).1
theorem mGo_sq {c : Nat} {w v : kW} {n d : Nat} (hP : Pn n w) (hI : Ins n c w) (hp : PEq c w v) (hd : d ≤ 60) : SQ n (mGo n c w d) (mGo n c v d) := (mAhead_sq hP hI hp d hd).zero
end
section
theorem mTouch_c (w : kW) (p : Nat) : mTouch w p = mTc (w.1 4 p) (w.1 5 p) := rfl
set_option maxRecDepth 100000 in
set_option maxHeartbeats 4000000 in
theorem s_X7_bit {w : kW} {x : Int32} : Spec shC yX7_bit cX7_bit 1 (some .int) 0 0 [.int x] w (fun r w' => r = some (.int (1 <<< (x &&& 31))) ∧ w = w') := by
  refine k_enter pn_X7 (Nat.le_of_ble_eq_true rfl) ?_
  refine b_iconst (v := 1) dX7_bit_0 (by decide) ?_
  refine b_iload_n dX7_bit_1 rfl ?_
  refine b_ishl dX7_bit_2 ?_
  refine b_iret dX7_bit_3 rfl ⟨?_, ?_⟩
  · rfl
  · rfl
set_option maxRecDepth 100000 in
set_option maxHeartbeats 4000000 in
theorem s_X7_in {w : kW} {s : Int32} {k : Nat} (hk : k < 32) : Spec shC yX7_in cX7_in 2 (some .boolean) 0 0 [.int s, .int (nI k)] w (fun r w' => w = w' ∧ ((r = some (.int 1) ∧ (bt s k = true)) ∨ (r = some (.int 0) ∧ ¬ (bt s k = true)))) := by
  refine k_enter pn_X7 (Nat.le_of_ble_eq_true rfl) ?_
  refine b_iload_n dX7_in_0 rfl ?_
  refine b_iload_n dX7_in_1 rfl ?_
  refine b_ishr dX7_in_2 ?_
  refine b_iconst (v := 1) dX7_in_3 (by decide) ?_
  refine b_iand dX7_in_4 ?_
  refine b_iconst (v := 1) dX7_in_5 (by decide) ?_
  refine b_icmp_ne (tgt := 13) dX7_in_6 (by decide) (fun h6 => ?_) (fun h6 => ?_)
  · refine b_iconst (v := 0) dX7_in_13 (by decide) ?_
    refine b_zret (Or.inl rfl) dX7_in_14 rfl ⟨rfl, Or.inr ⟨rfl, ?_⟩⟩
    exact fun h => h6 ((bit_1 _ hk).mpr h)
  · refine b_iconst (v := 1) dX7_in_9 (by decide) ?_
    refine b_goto (tgt := 14) dX7_in_10 (by decide) ?_
    refine b_zret (Or.inr rfl) dX7_in_14 rfl ⟨rfl, Or.inl ⟨rfl, ?_⟩⟩
    exact (bit_1 _ hk).mp h6
set_option maxRecDepth 100000 in
set_option maxHeartbeats 4000000 in
theorem s_X1_add {w : kW} {m : Nat} {d a b x y h : Int32} (hm : w.1 16 0 = nI m) (hm2 : m < 180) : Spec shC yX1_add cX1_add 7 none 0 0 [.ref 16, .int d, .int a, .int b, .int x, .int y, .int h] w (fun r w' => r = none ∧ (kset (kset (kset (kset (kset (kset (kset w 18 m d) 19 m a) 20 m b) 21 m x) 22 m y) 23 m h) 16 0 (nI m + 1)) = w') := by
  refine k_enter pn_X1 (Nat.le_of_ble_eq_true rfl) ?_
  refine b_aload_n dX1_add_0 rfl ?_
  refine b_geti dX1_add_1 gf_X1_16 rfl rfl ?_
  refine b_topi (y := nI m) hm ?_
  refine b_sipush (v := 180) dX1_add_4 (by decide) ?_
  refine b_icmp_ge (tgt := 95) dX1_add_7 (by decide) (fun h7 => ?_) (fun h7 => ?_)
  · exact absurd h7 (nI_ge (b := 180) hm2 (by decide))
  · refine b_aload_n dX1_add_10 rfl ?_
    refine b_getr dX1_add_11 gf_X1_11 rfl rfl ?_
    refine b_iconst (v := 0) dX1_add_14 (by decide) ?_
    refine b_aald (r := 18) dX1_add_15 rfl (by decide) (by unfold vp_in; decide) rfl ?_
    refine b_aload_n dX1_add_16 rfl ?_
    refine b_geti dX1_add_17 gf_X1_16 rfl rfl ?_
    refine b_topi (y := nI m) hm ?_
    refine b_iload_n dX1_add_20 rfl ?_
    refine b_iastN dX1_add_21 rfl ⟨by omega, by decide⟩ ?_
    refine b_aload_n dX1_add_22 rfl ?_
    refine b_getr dX1_add_23 gf_X1_11 rfl rfl ?_
    refine b_iconst (v := 1) dX1_add_26 (by decide) ?_
    refine b_aald (r := 19) dX1_add_27 rfl (by decide) (by unfold vp_in; decide) rfl ?_
    refine b_aload_n dX1_add_28 rfl ?_
    refine b_geti dX1_add_29 gf_X1_16 rfl rfl ?_
    refine b_topi (y := nI m) hm ?_
    refine b_iload_n dX1_add_32 rfl ?_
    refine b_iastN dX1_add_33 rfl ⟨by omega, by decide⟩ ?_
    refine b_aload_n dX1_add_34 rfl ?_
    refine b_getr dX1_add_35 gf_X1_11 rfl rfl ?_
    refine b_iconst (v := 2) dX1_add_38 (by decide) ?_
    refine b_aald (r := 20) dX1_add_39 rfl (by decide) (by unfold vp_in; decide) rfl ?_
    refine b_aload_n dX1_add_40 rfl ?_
    refine b_geti dX1_add_41 gf_X1_16 rfl rfl ?_
    refine b_topi (y := nI m) hm ?_
    refine b_iload_n dX1_add_44 rfl ?_
    refine b_iastN dX1_add_45 rfl ⟨by omega, by decide⟩ ?_
    refine b_aload_n dX1_add_46 rfl ?_
    refine b_getr dX1_add_47 gf_X1_11 rfl rfl ?_
    refine b_iconst (v := 3) dX1_add_50 (by decide) ?_
    refine b_aald (r := 21) dX1_add_51 rfl (by decide) (by unfold vp_in; decide) rfl ?_
    refine b_aload_n dX1_add_52 rfl ?_
    refine b_geti dX1_add_53 gf_X1_16 rfl rfl ?_
    refine b_topi (y := nI m) hm ?_
    refine b_iload dX1_add_56 rfl ?_
    refine b_iastN dX1_add_58 rfl ⟨by omega, by decide⟩ ?_
    refine b_aload_n dX1_add_59 rfl ?_
    refine b_getr dX1_add_60 gf_X1_11 rfl rfl ?_
    refine b_iconst (v := 4) dX1_add_63 (by decide) ?_
    refine b_aald (r := 22) dX1_add_64 rfl (by decide) (by unfold vp_in; decide) rfl ?_
    refine b_aload_n dX1_add_65 rfl ?_
    refine b_geti dX1_add_66 gf_X1_16 rfl rfl ?_
    refine b_topi (y := nI m) hm ?_
    refine b_iload dX1_add_69 rfl ?_
    refine b_iastN dX1_add_71 rfl ⟨by omega, by decide⟩ ?_
    refine b_aload_n dX1_add_72 rfl ?_
    refine b_getr dX1_add_73 gf_X1_11 rfl rfl ?_
    refine b_iconst (v := 5) dX1_add_76 (by decide) ?_
    refine b_aald (r := 23) dX1_add_77 rfl (by decide) (by unfold vp_in; decide) rfl ?_
    refine b_aload_n dX1_add_78 rfl ?_
    refine b_geti dX1_add_79 gf_X1_16 rfl rfl ?_
    refine b_topi (y := nI m) hm ?_
    refine b_iload dX1_add_82 rfl ?_
    refine b_iastN dX1_add_84 rfl ⟨by omega, by decide⟩ ?_
    refine b_aload_n dX1_add_85 rfl ?_
    refine b_dup dX1_add_86 rfl ?_
    refine b_geti dX1_add_87 gf_X1_16 rfl rfl ?_
    refine b_topi (y := nI m) hm ?_
    refine b_iconst (v := 1) dX1_add_90 (by decide) ?_
    refine b_iadd dX1_add_91 ?_
    refine b_puti dX1_add_92 gf_X1_16 gs_X1_0 rfl rfl ?_
    refine b_vret dX1_add_95 rfl ⟨rfl, ?_⟩
    rfl
set_option maxRecDepth 100000 in
set_option maxHeartbeats 4000000 in
theorem s_X0_add_6 {w : kW} {m : Nat} {a b d g : Int32} (hm : w.1 6 0 = nI m) (hm2 : m < 9) : Spec shC yX0_add cX0_add 5 none 0 0 [.ref 6, .int a, .int b, .int d, .int g] w (fun r w' => r = none ∧ (kset (kset (kset (kset (kset w 7 m a) 8 m b) 9 m d) 10 m g) 6 0 (nI m + 1)) = w') := by
  refine k_enter pn_X0 (Nat.le_of_ble_eq_true rfl) ?_
  refine b_aload_n dX0_add_0 rfl ?_
  refine b_geti dX0_add_1 gf_X0_22 rfl rfl ?_
  refine b_topi (y := nI m) hm ?_
  refine b_aload_n dX0_add_4 rfl ?_
  refine b_getr dX0_add_5 gf_X0_7 rfl rfl ?_
  refine b_alen dX0_add_8 rfl (by decide) rfl ?_
  refine b_icmp_ge (tgt := 63) dX0_add_9 (by decide) (fun h9 => ?_) (fun h9 => ?_)
  · exact absurd h9 (nI_ge (b := 9) hm2 (by decide))
  · refine b_aload_n dX0_add_12 rfl ?_
    refine b_getr dX0_add_13 gf_X0_7 rfl rfl ?_
    refine b_aload_n dX0_add_16 rfl ?_
    refine b_geti dX0_add_17 gf_X0_22 rfl rfl ?_
    refine b_topi (y := nI m) hm ?_
    refine b_iload_n dX0_add_20 rfl ?_
    refine b_iastN dX0_add_21 rfl ⟨by omega, by decide⟩ ?_
    refine b_aload_n dX0_add_22 rfl ?_
    refine b_getr dX0_add_23 gf_X0_13 rfl rfl ?_
    refine b_aload_n dX0_add_26 rfl ?_
    refine b_geti dX0_add_27 gf_X0_22 rfl rfl ?_
    refine b_topi (y := nI m) hm ?_
    refine b_iload_n dX0_add_30 rfl ?_
    refine b_iastN dX0_add_31 rfl ⟨by omega, by decide⟩ ?_
    refine b_aload_n dX0_add_32 rfl ?_
    refine b_getr dX0_add_33 gf_X0_16 rfl rfl ?_
    refine b_aload_n dX0_add_36 rfl ?_
    refine b_geti dX0_add_37 gf_X0_22 rfl rfl ?_
    refine b_topi (y := nI m) hm ?_
    refine b_iload_n dX0_add_40 rfl ?_
    refine b_iastN dX0_add_41 rfl ⟨by omega, by decide⟩ ?_
    refine b_aload_n dX0_add_42 rfl ?_
    refine b_getr dX0_add_43 gf_X0_19 rfl rfl ?_
    refine b_aload_n dX0_add_46 rfl ?_
    refine b_geti dX0_add_47 gf_X0_22 rfl rfl ?_
    refine b_topi (y := nI m) hm ?_
    refine b_iload dX0_add_50 rfl ?_
    refine b_iastN dX0_add_52 rfl ⟨by omega, by decide⟩ ?_
    refine b_aload_n dX0_add_53 rfl ?_
    refine b_dup dX0_add_54 rfl ?_
    refine b_geti dX0_add_55 gf_X0_22 rfl rfl ?_
    refine b_topi (y := nI m) hm ?_
    refine b_iconst (v := 1) dX0_add_58 (by decide) ?_
    refine b_iadd dX0_add_59 ?_
    refine b_puti dX0_add_60 gf_X0_22 gs_X0_0 rfl rfl ?_
    refine b_vret dX0_add_63 rfl ⟨rfl, ?_⟩
    rfl
set_option maxRecDepth 100000 in
set_option maxHeartbeats 4000000 in
theorem s_X0_add_24 {w : kW} {m : Nat} {a b d g : Int32} (hm : w.1 24 0 = nI m) (hm2 : m < 180) : Spec shC yX0_add cX0_add 5 none 0 0 [.ref 24, .int a, .int b, .int d, .int g] w (fun r w' => r = none ∧ (kset (kset (kset (kset (kset w 25 m a) 26 m b) 27 m d) 28 m g) 24 0 (nI m + 1)) = w') := by
  refine k_enter pn_X0 (Nat.le_of_ble_eq_true rfl) ?_
  refine b_aload_n dX0_add_0 rfl ?_
  refine b_geti dX0_add_1 gf_X0_22 rfl rfl ?_
  refine b_topi (y := nI m) hm ?_
  refine b_aload_n dX0_add_4 rfl ?_
  refine b_getr dX0_add_5 gf_X0_7 rfl rfl ?_
  refine b_alen dX0_add_8 rfl (by decide) rfl ?_
  refine b_icmp_ge (tgt := 63) dX0_add_9 (by decide) (fun h9 => ?_) (fun h9 => ?_)
  · exact absurd h9 (nI_ge (b := 180) hm2 (by decide))
  · refine b_aload_n dX0_add_12 rfl ?_
    refine b_getr dX0_add_13 gf_X0_7 rfl rfl ?_
    refine b_aload_n dX0_add_16 rfl ?_
    refine b_geti dX0_add_17 gf_X0_22 rfl rfl ?_
    refine b_topi (y := nI m) hm ?_
    refine b_iload_n dX0_add_20 rfl ?_
    refine b_iastN dX0_add_21 rfl ⟨by omega, by decide⟩ ?_
    refine b_aload_n dX0_add_22 rfl ?_
    refine b_getr dX0_add_23 gf_X0_13 rfl rfl ?_
    refine b_aload_n dX0_add_26 rfl ?_
    refine b_geti dX0_add_27 gf_X0_22 rfl rfl ?_
    refine b_topi (y := nI m) hm ?_
    refine b_iload_n dX0_add_30 rfl ?_
    refine b_iastN dX0_add_31 rfl ⟨by omega, by decide⟩ ?_
    refine b_aload_n dX0_add_32 rfl ?_
    refine b_getr dX0_add_33 gf_X0_16 rfl rfl ?_
    refine b_aload_n dX0_add_36 rfl ?_
    refine b_geti dX0_add_37 gf_X0_22 rfl rfl ?_
    refine b_topi (y := nI m) hm ?_
    refine b_iload_n dX0_add_40 rfl ?_
    refine b_iastN dX0_add_41 rfl ⟨by omega, by decide⟩ ?_
    refine b_aload_n dX0_add_42 rfl ?_
    refine b_getr dX0_add_43 gf_X0_19 rfl rfl ?_
    refine b_aload_n dX0_add_46 rfl ?_
    refine b_geti dX0_add_47 gf_X0_22 rfl rfl ?_
    refine b_topi (y := nI m) hm ?_
    refine b_iload dX0_add_50 rfl ?_
    refine b_iastN dX0_add_52 rfl ⟨by omega, by decide⟩ ?_
    refine b_aload_n dX0_add_53 rfl ?_
    refine b_dup dX0_add_54 rfl ?_
    refine b_geti dX0_add_55 gf_X0_22 rfl rfl ?_
    refine b_topi (y := nI m) hm ?_
    refine b_iconst (v := 1) dX0_add_58 (by decide) ?_
    refine b_iadd dX0_add_59 ?_
    refine b_puti dX0_add_60 gf_X0_22 gs_X0_0 rfl rfl ?_
    refine b_vret dX0_add_63 rfl ⟨rfl, ?_⟩
    rfl
set_option maxRecDepth 100000 in
set_option maxHeartbeats 4000000 in
theorem s_X2_has {w : kW} {p : Int32} : Spec shC yX2_has cX2_has 2 (some .boolean) 0 0 [.ref 1, .int p] w (fun r w' => w = w' ∧ ((r = some (.int 1) ∧ (¬ p < 0 ∧ p < w.1 1 0)) ∨ (r = some (.int 0) ∧ ¬ (¬ p < 0 ∧ p < w.1 1 0)))) := by
  refine k_enter pn_X2 (Nat.le_of_ble_eq_true rfl) ?_
  refine b_iload_n dX2_has_0 rfl ?_
  refine b_if_lt (tgt := 16) dX2_has_1 (by decide) (fun h1 => ?_) (fun h1 => ?_)
  · refine b_iconst (v := 0) dX2_has_16 (by decide) ?_
    refine b_zret (Or.inl rfl) dX2_has_17 rfl ⟨rfl, Or.inr ⟨rfl, ?_⟩⟩
    exact fun h => by first | exact h.1 h1 | exact absurd h.2 (Int32.not_lt.mpr h9)
  · refine b_iload_n dX2_has_4 rfl ?_
    refine b_aload_n dX2_has_5 rfl ?_
    refine b_geti dX2_has_6 gf_X2_24 rfl rfl ?_
    refine b_icmp_ge (tgt := 16) dX2_has_9 (by decide) (fun h9 => ?_) (fun h9 => ?_)
    · refine b_iconst (v := 0) dX2_has_16 (by decide) ?_
      refine b_zret (Or.inl rfl) dX2_has_17 rfl ⟨rfl, Or.inr ⟨rfl, ?_⟩⟩
      exact fun h => by first | exact h.1 h1 | exact absurd h.2 (Int32.not_lt.mpr h9)
    · refine b_iconst (v := 1) dX2_has_12 (by decide) ?_
      refine b_goto (tgt := 17) dX2_has_13 (by decide) ?_
      refine b_zret (Or.inr rfl) dX2_has_17 rfl ⟨rfl, Or.inl ⟨rfl, ?_⟩⟩
      exact ⟨h1, Int32.not_le.mp h9⟩
set_option maxRecDepth 100000 in
set_option maxHeartbeats 4000000 in
theorem s_X2_hasTwo {w : kW} {p q : Int32} : Spec shC yX2_hasTwo cX2_hasTwo 3 (some .boolean) 1 21 [.ref 1, .int p, .int q] w (fun r w' => w = w' ∧ ((r = some (.int 1) ∧ ((¬ p < 0 ∧ p < w.1 1 0) ∧ (¬ q < 0 ∧ q < w.1 1 0) ∧ ¬ p = q)) ∨ (r = some (.int 0) ∧ ¬ ((¬ p < 0 ∧ p < w.1 1 0) ∧ (¬ q < 0 ∧ q < w.1 1 0) ∧ ¬ p = q)))) := by
  refine k_enter pn_X2 (Nat.le_of_ble_eq_true rfl) ?_
  refine b_aload_n dX2_hasTwo_0 rfl ?_
  refine b_iload_n dX2_hasTwo_1 rfl ?_
  refine b_callV1 dX2_hasTwo_2 lk_X2_28 rfl rfl rfl ⟨Nat.le_of_ble_eq_true rfl, Nat.le_of_ble_eq_true rfl⟩ (Nat.le_of_ble_eq_true rfl) (s_X2_has) (fun r w2 h2 => ?_)
  obtain ⟨rfl, h2⟩ := h2
  rcases h2 with ⟨rfl, h2⟩ | ⟨rfl, h2⟩
  · refine b_if_eq (tgt := 25) dX2_hasTwo_5 (by decide) (fun h5 => absurd h5 (by decide)) (fun h5 => ?_)
    refine b_aload_n dX2_hasTwo_8 rfl ?_
    refine b_iload_n dX2_hasTwo_9 rfl ?_
    refine b_callV1 dX2_hasTwo_10 lk_X2_28 rfl rfl rfl ⟨Nat.le_of_ble_eq_true rfl, Nat.le_of_ble_eq_true rfl⟩ (Nat.le_of_ble_eq_true rfl) (s_X2_has) (fun r w10 h10 => ?_)
    obtain ⟨rfl, h10⟩ := h10
    rcases h10 with ⟨rfl, h10⟩ | ⟨rfl, h10⟩
    · refine b_if_eq (tgt := 25) dX2_hasTwo_13 (by decide) (fun h13 => absurd h13 (by decide)) (fun h13 => ?_)
      refine b_iload_n dX2_hasTwo_16 rfl ?_
      refine b_iload_n dX2_hasTwo_17 rfl ?_
      refine b_icmp_eq (tgt := 25) dX2_hasTwo_18 (by decide) (fun h18 => ?_) (fun h18 => ?_)
      · refine b_iconst (v := 0) dX2_hasTwo_25 (by decide) ?_
        refine b_zret (Or.inl rfl) dX2_hasTwo_26 rfl ⟨rfl, Or.inr ⟨rfl, ?_⟩⟩
        exact fun h => by first | exact h2 h.1 | exact h10 h.2.1 | exact h.2.2 h18
      · refine b_iconst (v := 1) dX2_hasTwo_21 (by decide) ?_
        refine b_goto (tgt := 26) dX2_hasTwo_22 (by decide) ?_
        refine b_zret (Or.inr rfl) dX2_hasTwo_26 rfl ⟨rfl, Or.inl ⟨rfl, ?_⟩⟩
        exact ⟨h2, h10, h18⟩
    · refine b_if_eq (tgt := 25) dX2_hasTwo_13 (by decide) (fun h13 => ?_) (fun h13 => absurd h13 (by decide))
      refine b_iconst (v := 0) dX2_hasTwo_25 (by decide) ?_
      refine b_zret (Or.inl rfl) dX2_hasTwo_26 rfl ⟨rfl, Or.inr ⟨rfl, ?_⟩⟩
      exact fun h => by first | exact h2 h.1 | exact h10 h.2.1 | exact h.2.2 h18
  · refine b_if_eq (tgt := 25) dX2_hasTwo_5 (by decide) (fun h5 => ?_) (fun h5 => absurd h5 (by decide))
    refine b_iconst (v := 0) dX2_hasTwo_25 (by decide) ?_
    refine b_zret (Or.inl rfl) dX2_hasTwo_26 rfl ⟨rfl, Or.inr ⟨rfl, ?_⟩⟩
    exact fun h => by first | exact h2 h.1 | exact h10 h.2.1 | exact h.2.2 h18
set_option maxRecDepth 100000 in
set_option maxHeartbeats 4000000 in
theorem s_X2_touchiness {w : kW} {p h kd : Nat} (hp : p < 6) (h1 : 1 ≤ h) (h9 : h ≤ 9) (hk : kd ≤ 2) (eh : w.1 3 p = nI h) (ek : w.1 2 p = nI kd) : Spec shC yX2_touchiness cX2_touchiness 4 (some .int) 1 21 [.ref 1, .int (nI p)] w (fun r w' => r = some (.int (mTc (nI kd) (nI h))) ∧ w = w') := by
  refine k_enter pn_X2 (Nat.le_of_ble_eq_true rfl) ?_
  refine b_bipush (v := 10) dX2_touchiness_0 (by decide) ?_
  refine b_aload_n dX2_touchiness_2 rfl ?_
  refine b_getr dX2_touchiness_3 gf_X2_15 rfl rfl ?_
  refine b_iload_n dX2_touchiness_6 rfl ?_
  refine b_ialdN dX2_touchiness_7 rfl ⟨by omega, by decide⟩ ?_
  refine b_topi (y := nI h) eh ?_
  refine b_isub dX2_touchiness_8 ?_
  refine b_istore_n dX2_touchiness_9 (by decide) ?_
  refine b_iconst (v := 1) dX2_touchiness_10 (by decide) ?_
  refine b_iload_n dX2_touchiness_11 rfl ?_
  refine b_iconst (v := 2) dX2_touchiness_12 (by decide) ?_
  refine b_isub dX2_touchiness_13 ?_
  refine b_max dX2_touchiness_14 lk_X2_32 (Nat.le_of_ble_eq_true rfl) (Nat.le_of_ble_eq_true rfl) ?_
  refine b_istore_n dX2_touchiness_17 (by decide) ?_
  refine b_aload_n dX2_touchiness_18 rfl ?_
  refine b_getr dX2_touchiness_19 gf_X2_9 rfl rfl ?_
  refine b_iload_n dX2_touchiness_22 rfl ?_
  refine b_ialdN dX2_touchiness_23 rfl ⟨by omega, by decide⟩ ?_
  refine b_topi (y := nI kd) ek ?_
  rcases (show kd = 0 ∨ kd = 1 ∨ kd = 2 by omega) with rfl | rfl | rfl
  · refine b_lsw (off := 38) (tgt := 62) dX2_touchiness_24 (by decide) (by decide) (by decide) ?_
    refine b_iload_n dX2_touchiness_62 rfl ?_
    refine b_iret dX2_touchiness_63 rfl ⟨?_, ?_⟩
    · rcases (show h = 1 ∨ h = 2 ∨ h = 3 ∨ h = 4 ∨ h = 5 ∨ h = 6 ∨ h = 7 ∨ h = 8 ∨ h = 9 by omega) with rfl | rfl | rfl | rfl | rfl | rfl | rfl | rfl | rfl <;> rfl
    · rfl
  · refine b_lsw (off := 36) (tgt := 60) dX2_touchiness_24 (by decide) (by decide) (by decide) ?_
    refine b_iload_n dX2_touchiness_60 rfl ?_
    refine b_iret dX2_touchiness_61 rfl ⟨?_, ?_⟩
    · rcases (show h = 1 ∨ h = 2 ∨ h = 3 ∨ h = 4 ∨ h = 5 ∨ h = 6 ∨ h = 7 ∨ h = 8 ∨ h = 9 by omega) with rfl | rfl | rfl | rfl | rfl | rfl | rfl | rfl | rfl <;> rfl
    · rfl
  · refine b_lsw (off := 28) (tgt := 52) dX2_touchiness_24 (by decide) (by decide) (by decide) ?_
    refine b_iconst (v := 1) dX2_touchiness_52 (by decide) ?_
    refine b_iload_n dX2_touchiness_53 rfl ?_
    refine b_iconst (v := 1) dX2_touchiness_54 (by decide) ?_
    refine b_isub dX2_touchiness_55 ?_
    refine b_max dX2_touchiness_56 lk_X2_32 (Nat.le_of_ble_eq_true rfl) (Nat.le_of_ble_eq_true rfl) ?_
    refine b_iret dX2_touchiness_59 rfl ⟨?_, ?_⟩
    · rcases (show h = 1 ∨ h = 2 ∨ h = 3 ∨ h = 4 ∨ h = 5 ∨ h = 6 ∨ h = 7 ∨ h = 8 ∨ h = 9 by omega) with rfl | rfl | rfl | rfl | rfl | rfl | rfl | rfl | rfl <;> rfl
    · rfl
/-- the persons of both sides -/
def RP (n : Nat) (w g : kW) : Prop := Pn n g ∧ w.1 1 0 = nI n ∧ ∀ p, p < n → w.1 2 p = g.1 4 p ∧ w.1 3 p = g.1 5 p ∧ w.1 4 p = g.1 6 (2 * p) ∧ w.1 5 p = g.1 6 (2 * p + 1)
theorem RP.f1 {n p : Nat} {w g : kW} (h : RP n w g) (hp : p < n) : w.1 4 p = nI (fr g (2 * p)) ∧ fr g (2 * p) < n := by
  have h1 := h.1.frd (k := 2 * p) (by omega)
  exact ⟨(h.2.2 p hp).2.2.1.trans h1.2, h1.1⟩
theorem RP.f2 {n p : Nat} {w g : kW} (h : RP n w g) (hp : p < n) : w.1 5 p = nI (fr g (2 * p + 1)) ∧ fr g (2 * p + 1) < n := by
  have h1 := h.1.frd (k := 2 * p + 1) (by omega)
  exact ⟨(h.2.2 p hp).2.2.2.trans h1.2, h1.1⟩
theorem b_f {b : Bool} (h : ¬ b = true) : b = false := by simpa using h
set_option maxRecDepth 100000 in
set_option maxHeartbeats 4000000 in
theorem s_X2_secondAmong {w g : kW} {n p : Nat} {o : Int32} (hR : RP n w g) (hp : p < n) : Spec shC yX2_secondAmong cX2_secondAmong 5 (some .int) 1 21 [.ref 1, .int (nI p), .int o] w (fun r w' => r = some (.int (oI ((mCh g p).find? (fun x => bt o x)))) ∧ w = w') := by
  have hn := hR.1.le
  have a1 := hR.f1 hp
  have a2 := hR.f2 hp
  have a3 := hR.f1 a1.2
  have a4 := hR.f2 a1.2
  have a5 := hR.f1 a2.2
  have a6 := hR.f2 a2.2
  refine k_enter pn_X2 (Nat.le_of_ble_eq_true rfl) ?_
  refine b_aload_n dX2_secondAmong_0 rfl ?_
  refine b_getr dX2_secondAmong_1 gf_X2_18 rfl rfl ?_
  refine b_iload_n dX2_secondAmong_4 rfl ?_
  refine b_ialdN dX2_secondAmong_5 rfl ⟨by omega, by decide⟩ ?_
  refine b_topi (y := nI (fr g (2 * p))) a1.1 ?_
  refine b_istore_n dX2_secondAmong_6 (by decide) ?_
  refine b_aload_n dX2_secondAmong_7 rfl ?_
  refine b_getr dX2_secondAmong_8 gf_X2_21 rfl rfl ?_
  refine b_iload_n dX2_secondAmong_11 rfl ?_
  refine b_ialdN dX2_secondAmong_12 rfl ⟨by omega, by decide⟩ ?_
  refine b_topi (y := nI (fr g (2 * p + 1))) a2.1 ?_
  refine b_istore dX2_secondAmong_13 (by decide) ?_
  refine b_iload_n dX2_secondAmong_15 rfl ?_
  refine b_iload_n dX2_secondAmong_16 rfl ?_
  refine b_callSN2 dX2_secondAmong_17 lk_X2_38 ⟨Nat.le_of_ble_eq_true rfl, Nat.le_of_ble_eq_true rfl⟩ (Nat.le_of_ble_eq_true rfl) (s_X7_in (by omega)) (fun r w17 h17 => ?_)
  obtain ⟨rfl, h17⟩ := h17
  rcases h17 with ⟨rfl, h17⟩ | ⟨rfl, h17⟩
  · refine b_if_eq (tgt := 25) dX2_secondAmong_20 (by decide) (fun h20 => absurd h20 (by decide)) (fun h20 => ?_)
    refine b_iload_n dX2_secondAmong_23 rfl ?_
    exact b_iret dX2_secondAmong_24 rfl ⟨by unfold mCh; rw [fr_stop h17]; rfl, rfl⟩
  · refine b_if_eq (tgt := 25) dX2_secondAmong_20 (by decide) (fun h20 => ?_) (fun h20 => absurd h20 (by decide))
    refine b_iload_n dX2_secondAmong_25 rfl ?_
    refine b_iload dX2_secondAmong_26 rfl ?_
    refine b_callSN2 dX2_secondAmong_28 lk_X2_38 ⟨Nat.le_of_ble_eq_true rfl, Nat.le_of_ble_eq_true rfl⟩ (Nat.le_of_ble_eq_true rfl) (s_X7_in (by omega)) (fun r w28 h28 => ?_)
    obtain ⟨rfl, h28⟩ := h28
    rcases h28 with ⟨rfl, h28⟩ | ⟨rfl, h28⟩
    · refine b_if_eq (tgt := 37) dX2_secondAmong_31 (by decide) (fun h31 => absurd h31 (by decide)) (fun h31 => ?_)
      refine b_iload dX2_secondAmong_34 rfl ?_
      exact b_iret dX2_secondAmong_36 rfl ⟨by unfold mCh; rw [fr_step (b_f h17), fr_stop h28]; rfl, rfl⟩
    · refine b_if_eq (tgt := 37) dX2_secondAmong_31 (by decide) (fun h31 => ?_) (fun h31 => absurd h31 (by decide))
      refine b_iload_n dX2_secondAmong_37 rfl ?_
      refine b_aload_n dX2_secondAmong_38 rfl ?_
      refine b_getr dX2_secondAmong_39 gf_X2_18 rfl rfl ?_
      refine b_iload_n dX2_secondAmong_42 rfl ?_
      refine b_ialdN dX2_secondAmong_43 rfl ⟨by omega, by decide⟩ ?_
      refine b_topi (y := nI (fr g (2 * fr g (2 * p)))) a3.1 ?_
      refine b_callSN2 dX2_secondAmong_44 lk_X2_38 ⟨Nat.le_of_ble_eq_true rfl, Nat.le_of_ble_eq_true rfl⟩ (Nat.le_of_ble_eq_true rfl) (s_X7_in (by omega)) (fun r w44 h44 => ?_)
      obtain ⟨rfl, h44⟩ := h44
      rcases h44 with ⟨rfl, h44⟩ | ⟨rfl, h44⟩
      · refine b_if_eq (tgt := 57) dX2_secondAmong_47 (by decide) (fun h47 => absurd h47 (by decide)) (fun h47 => ?_)
        refine b_aload_n dX2_secondAmong_50 rfl ?_
        refine b_getr dX2_secondAmong_51 gf_X2_18 rfl rfl ?_
        refine b_iload_n dX2_secondAmong_54 rfl ?_
        refine b_ialdN dX2_secondAmong_55 rfl ⟨by omega, by decide⟩ ?_
        refine b_topi (y := nI (fr g (2 * fr g (2 * p)))) a3.1 ?_
        exact b_iret dX2_secondAmong_56 rfl ⟨by unfold mCh; rw [fr_step (b_f h17), fr_step (b_f h28), fr_stop h44]; rfl, rfl⟩
      · refine b_if_eq (tgt := 57) dX2_secondAmong_47 (by decide) (fun h47 => ?_) (fun h47 => absurd h47 (by decide))
        refine b_iload_n dX2_secondAmong_57 rfl ?_
        refine b_aload_n dX2_secondAmong_58 rfl ?_
        refine b_getr dX2_secondAmong_59 gf_X2_21 rfl rfl ?_
        refine b_iload_n dX2_secondAmong_62 rfl ?_
        refine b_ialdN dX2_secondAmong_63 rfl ⟨by omega, by decide⟩ ?_
        refine b_topi (y := nI (fr g (2 * fr g (2 * p) + 1))) a4.1 ?_
        refine b_callSN2 dX2_secondAmong_64 lk_X2_38 ⟨Nat.le_of_ble_eq_true rfl, Nat.le_of_ble_eq_true rfl⟩ (Nat.le_of_ble_eq_true rfl) (s_X7_in (by omega)) (fun r w64 h64 => ?_)
        obtain ⟨rfl, h64⟩ := h64
        rcases h64 with ⟨rfl, h64⟩ | ⟨rfl, h64⟩
        · refine b_if_eq (tgt := 77) dX2_secondAmong_67 (by decide) (fun h67 => absurd h67 (by decide)) (fun h67 => ?_)
          refine b_aload_n dX2_secondAmong_70 rfl ?_
          refine b_getr dX2_secondAmong_71 gf_X2_21 rfl rfl ?_
          refine b_iload_n dX2_secondAmong_74 rfl ?_
          refine b_ialdN dX2_secondAmong_75 rfl ⟨by omega, by decide⟩ ?_
          refine b_topi (y := nI (fr g (2 * fr g (2 * p) + 1))) a4.1 ?_
          exact b_iret dX2_secondAmong_76 rfl ⟨by unfold mCh; rw [fr_step (b_f h17), fr_step (b_f h28), fr_step (b_f h44), fr_stop h64]; rfl, rfl⟩
        · refine b_if_eq (tgt := 77) dX2_secondAmong_67 (by decide) (fun h67 => ?_) (fun h67 => absurd h67 (by decide))
          refine b_iload_n dX2_secondAmong_77 rfl ?_
          refine b_aload_n dX2_secondAmong_78 rfl ?_
          refine b_getr dX2_secondAmong_79 gf_X2_18 rfl rfl ?_
          refine b_iload dX2_secondAmong_82 rfl ?_
          refine b_ialdN dX2_secondAmong_84 rfl ⟨by omega, by decide⟩ ?_
          refine b_topi (y := nI (fr g (2 * fr g (2 * p + 1)))) a5.1 ?_
          refine b_callSN2 dX2_secondAmong_85 lk_X2_38 ⟨Nat.le_of_ble_eq_true rfl, Nat.le_of_ble_eq_true rfl⟩ (Nat.le_of_ble_eq_true rfl) (s_X7_in (by omega)) (fun r w85 h85 => ?_)
          obtain ⟨rfl, h85⟩ := h85
          rcases h85 with ⟨rfl, h85⟩ | ⟨rfl, h85⟩
          · refine b_if_eq (tgt := 99) dX2_secondAmong_88 (by decide) (fun h88 => absurd h88 (by decide)) (fun h88 => ?_)
            refine b_aload_n dX2_secondAmong_91 rfl ?_
            refine b_getr dX2_secondAmong_92 gf_X2_18 rfl rfl ?_
            refine b_iload dX2_secondAmong_95 rfl ?_
            refine b_ialdN dX2_secondAmong_97 rfl ⟨by omega, by decide⟩ ?_
            refine b_topi (y := nI (fr g (2 * fr g (2 * p + 1)))) a5.1 ?_
            exact b_iret dX2_secondAmong_98 rfl ⟨by unfold mCh; rw [fr_step (b_f h17), fr_step (b_f h28), fr_step (b_f h44), fr_step (b_f h64), fr_stop h85]; rfl, rfl⟩
          · refine b_if_eq (tgt := 99) dX2_secondAmong_88 (by decide) (fun h88 => ?_) (fun h88 => absurd h88 (by decide))
            refine b_iload_n dX2_secondAmong_99 rfl ?_
            refine b_aload_n dX2_secondAmong_100 rfl ?_
            refine b_getr dX2_secondAmong_101 gf_X2_21 rfl rfl ?_
            refine b_iload dX2_secondAmong_104 rfl ?_
            refine b_ialdN dX2_secondAmong_106 rfl ⟨by omega, by decide⟩ ?_
            refine b_topi (y := nI (fr g (2 * fr g (2 * p + 1) + 1))) a6.1 ?_
            refine b_callSN2 dX2_secondAmong_107 lk_X2_38 ⟨Nat.le_of_ble_eq_true rfl, Nat.le_of_ble_eq_true rfl⟩ (Nat.le_of_ble_eq_true rfl) (s_X7_in (by omega)) (fun r w107 h107 => ?_)
            obtain ⟨rfl, h107⟩ := h107
            rcases h107 with ⟨rfl, h107⟩ | ⟨rfl, h107⟩
            · refine b_if_eq (tgt := 123) dX2_secondAmong_110 (by decide) (fun h110 => absurd h110 (by decide)) (fun h110 => ?_)
              refine b_aload_n dX2_secondAmong_113 rfl ?_
              refine b_getr dX2_secondAmong_114 gf_X2_21 rfl rfl ?_
              refine b_iload dX2_secondAmong_117 rfl ?_
              refine b_ialdN dX2_secondAmong_119 rfl ⟨by omega, by decide⟩ ?_
              refine b_topi (y := nI (fr g (2 * fr g (2 * p + 1) + 1))) a6.1 ?_
              refine b_goto (tgt := 125) dX2_secondAmong_120 (by decide) ?_
              exact b_iret dX2_secondAmong_125 rfl ⟨by unfold mCh; rw [fr_step (b_f h17), fr_step (b_f h28), fr_step (b_f h44), fr_step (b_f h64), fr_step (b_f h85), fr_stop h107]; rfl, rfl⟩
            · refine b_if_eq (tgt := 123) dX2_secondAmong_110 (by decide) (fun h110 => ?_) (fun h110 => absurd h110 (by decide))
              refine b_bipush (v := (-9)) dX2_secondAmong_123 (by decide) ?_
              exact b_iret dX2_secondAmong_125 rfl ⟨by unfold mCh; rw [fr_step (b_f h17), fr_step (b_f h28), fr_step (b_f h44), fr_step (b_f h64), fr_step (b_f h85), fr_step (b_f h107)]; rfl, rfl⟩
def fillF (w : kW) (c : Nat) (v : Int32) : Nat → kW
  | 0 => w
  | k + 1 => kset (fillF w c v k) c k v
theorem fillF_row {w : kW} {c : Nat} {v : Int32} {c' : Nat} (h : c' ≠ c) : ∀ k, (fillF w c v k).1 c' = w.1 c'
  | 0 => rfl
  | k + 1 => by rw [fillF, kset_row _ _ _ _ h, fillF_row h k]
theorem fillF_2 {w : kW} {c : Nat} {v : Int32} : ∀ k, (fillF w c v k).2 = w.2
  | 0 => rfl
  | k + 1 => by rw [fillF, kset_2, fillF_2 k]
theorem fillF_in {w : kW} {c : Nat} {v : Int32} : ∀ k j, j < k → (fillF w c v k).1 c j = v
  | 0, j, h => by omega
  | k + 1, j, h => by
    rw [fillF, kset_1, if_pos rfl]
    by_cases e : j = k
    · rw [if_pos e]
    · rw [if_neg e]; exact fillF_in k j (by omega)
set_option maxRecDepth 100000 in
set_option maxHeartbeats 4000000 in
theorem s_fill_lp {w : kW} {c N : Nat} {v : Int32} (hc : shC[c]? = some (.inr (.inl (0, N)))) (hN : N ≤ 180) : ∀ q k, k + q = N → BS shC RJ7 cJ7_fill_53178 4 none 0 0 (fun r w' => r = none ∧ fillF w c v N = w') 5 [(0, .ref c), (1, .int v), (2, .int (nI k)), (3, .int (nI N))] [] (fillF w c v k) := by
  intro q
  induction q with
  | zero =>
    intro k hk
    refine b_iload_n dJ7_fill_53178_5 rfl ?_
    refine b_iload_n dJ7_fill_53178_6 rfl ?_
    refine b_icmp_ge (tgt := 20) dJ7_fill_53178_7 (by decide) (fun h7 => ?_) (fun h7 => ?_)
    · refine b_vret dJ7_fill_53178_20 rfl ⟨rfl, ?_⟩
      (have e : k = N := by omega); subst e; rfl
    · exact absurd (nI_le (by omega) (by omega)) h7
  | succ q ih =>
    intro k hk
    refine b_iload_n dJ7_fill_53178_5 rfl ?_
    refine b_iload_n dJ7_fill_53178_6 rfl ?_
    refine b_icmp_ge (tgt := 20) dJ7_fill_53178_7 (by decide) (fun h7 => ?_) (fun h7 => ?_)
    · exact absurd h7 (nI_ge (by omega) (by omega))
    · refine b_aload_n dJ7_fill_53178_10 rfl ?_
      refine b_iload_n dJ7_fill_53178_11 rfl ?_
      refine b_iload_n dJ7_fill_53178_12 rfl ?_
      refine b_iastN dJ7_fill_53178_13 hc ⟨by omega, by omega⟩ ?_
      refine b_iinc dJ7_fill_53178_14 rfl (nI_inc k) (by decide) ?_
      refine b_goto (tgt := 5) dJ7_fill_53178_17 (by decide) ?_
      refine b_sub [1, 2, 0, 3] rfl ?_
      exact ih (k + 1) (by omega)
set_option maxRecDepth 100000 in
set_option maxHeartbeats 4000000 in
theorem s_fill {w : kW} {c N : Nat} {v : Int32} (hc : shC[c]? = some (.inr (.inl (0, N)))) (hN : N ≤ 180) : Spec shC yJ7_fill_53178 cJ7_fill_53178 4 none 0 0 [.ref c, .int v] w (fun r w' => r = none ∧ fillF w c v N = w') := by
  refine k_enter pn_J7 (Nat.le_of_ble_eq_true rfl) ?_
  refine b_iconst (v := 0) dJ7_fill_53178_0 (by decide) ?_
  refine b_istore_n dJ7_fill_53178_1 (by decide) ?_
  refine b_aload_n dJ7_fill_53178_2 rfl ?_
  refine b_alen dJ7_fill_53178_3 hc (by decide) rfl ?_
  refine b_istore_n dJ7_fill_53178_4 (by decide) ?_
  refine b_sub [2, 3, 1, 0] rfl ?_
  exact s_fill_lp hc hN N 0 (by omega)
end
section
set_option maxRecDepth 100000 in
set_option maxHeartbeats 4000000 in
theorem s_X4_freeAhead_lp {w : kW} {n : Nat} {d : Int32} (hn0 : w.1 1 0 = nI n) (hn : n ≤ 6) : ∀ q k, k + q = n → ∀ s : Int32, (∀ p, p < 6 → (bt s p = true ↔ p < k ∧ bt (w.1 15 9) p = false ∧ w.1 29 p ≤ d)) → BS shC RX4 cX4_freeAhead 4 (some .int) 1 21 (fun r w' => w = w' ∧ ∃ s, r = some (.int s) ∧ ∀ p, p < 6 → (bt s p = true ↔ p < n ∧ bt (w.1 15 9) p = false ∧ w.1 29 p ≤ d)) 4 [(0, .ref 15), (1, .int d), (2, .int s), (3, .int (nI k))] [] w := by
  intro q
  induction q with
  | zero =>
    intro k hk s hs
    refine b_iload_n dX4_freeAhead_4 rfl ?_
    refine b_aload_n dX4_freeAhead_5 rfl ?_
    refine b_getr dX4_freeAhead_6 gf_X4_31 rfl rfl ?_
    refine b_geti dX4_freeAhead_9 gf_X4_90 rfl rfl ?_
    refine b_topi (y := nI n) hn0 ?_
    refine b_icmp_ge (tgt := 49) dX4_freeAhead_12 (by decide) (fun h12 => ?_) (fun h12 => ?_)
    · refine b_iload_n dX4_freeAhead_49 rfl ?_
      exact b_iret dX4_freeAhead_50 rfl ⟨rfl, s, rfl, by (have e : k = n := by omega); subst e; exact hs⟩
    · exact absurd (nI_le (by omega) (by omega)) h12
  | succ q ih =>
    intro k hk s hs
    refine b_iload_n dX4_freeAhead_4 rfl ?_
    refine b_aload_n dX4_freeAhead_5 rfl ?_
    refine b_getr dX4_freeAhead_6 gf_X4_31 rfl rfl ?_
    refine b_geti dX4_freeAhead_9 gf_X4_90 rfl rfl ?_
    refine b_topi (y := nI n) hn0 ?_
    refine b_icmp_ge (tgt := 49) dX4_freeAhead_12 (by decide) (fun h12 => ?_) (fun h12 => ?_)
    · exact absurd h12 (nI_ge (by omega) (by omega))
    · refine b_aload_n dX4_freeAhead_15 rfl ?_
      refine b_geti dX4_freeAhead_16 gf_X4_49 rfl rfl ?_
      refine b_iload_n dX4_freeAhead_19 rfl ?_
      refine b_callSN2 dX4_freeAhead_20 lk_X4_59 ⟨Nat.le_of_ble_eq_true rfl, Nat.le_of_ble_eq_true rfl⟩ (Nat.le_of_ble_eq_true rfl) (s_X7_in (by omega)) (fun r w20 h20 => ?_)
      obtain ⟨rfl, h20⟩ := h20
      rcases h20 with ⟨rfl, h20⟩ | ⟨rfl, h20⟩
      · refine b_if_ne (tgt := 43) dX4_freeAhead_23 (by decide) (fun h23 => ?_) (fun h23 => absurd h23 (by decide))
        refine b_iinc dX4_freeAhead_43 rfl (nI_inc k) (by decide) ?_
        refine b_goto (tgt := 4) dX4_freeAhead_46 (by decide) ?_
        refine b_sub [1, 2, 3, 0] rfl ?_
        refine ih (k + 1) (by omega) _ (fun p hp => ?_)
        rw [hs p hp]
        constructor
        · exact fun h => ⟨by omega, h.2⟩
        · intro h
          by_cases e : p = k
          · subst e
            exact absurd (h20.symm.trans h.2.1) (by decide)
          · exact ⟨by omega, h.2⟩
      · refine b_if_ne (tgt := 43) dX4_freeAhead_23 (by decide) (fun h23 => absurd h23 (by decide)) (fun h23 => ?_)
        refine b_aload_n dX4_freeAhead_26 rfl ?_
        refine b_getr dX4_freeAhead_27 gf_X4_27 rfl rfl ?_
        refine b_iload_n dX4_freeAhead_30 rfl ?_
        refine b_ialdN dX4_freeAhead_31 rfl ⟨by omega, by decide⟩ ?_
        refine b_iload_n dX4_freeAhead_32 rfl ?_
        refine b_icmp_gt (tgt := 43) dX4_freeAhead_33 (by decide) (fun h33 => ?_) (fun h33 => ?_)
        · refine b_iinc dX4_freeAhead_43 rfl (nI_inc k) (by decide) ?_
          refine b_goto (tgt := 4) dX4_freeAhead_46 (by decide) ?_
          refine b_sub [1, 2, 3, 0] rfl ?_
          refine ih (k + 1) (by omega) _ (fun p hp => ?_)
          rw [hs p hp]
          constructor
          · exact fun h => ⟨by omega, h.2⟩
          · intro h
            by_cases e : p = k
            · subst e
              exact absurd h.2.2 (Int32.not_le.mpr h33)
            · exact ⟨by omega, h.2⟩
        · refine b_iload_n dX4_freeAhead_36 rfl ?_
          refine b_iload_n dX4_freeAhead_37 rfl ?_
          refine b_callSN1 dX4_freeAhead_38 lk_X4_93 ⟨Nat.le_of_ble_eq_true rfl, Nat.le_of_ble_eq_true rfl⟩ (Nat.le_of_ble_eq_true rfl) (s_X7_bit) (fun r w38 h38 => ?_)
          obtain ⟨rfl, rfl⟩ := h38
          refine b_ior dX4_freeAhead_41 ?_
          refine b_istore_n dX4_freeAhead_42 (by decide) ?_
          refine b_iinc dX4_freeAhead_43 rfl (nI_inc k) (by decide) ?_
          refine b_goto (tgt := 4) dX4_freeAhead_46 (by decide) ?_
          refine b_sub [2, 3, 1, 0] rfl ?_
          refine ih (k + 1) (by omega) _ (fun p hp => ?_)
          rw [b_or, bit_one (by omega) (by omega), Bool.or_eq_true, hs p hp, decide_eq_true_eq]
          constructor
          · rintro (h | rfl)
            · exact ⟨by omega, h.2⟩
            · exact ⟨by omega, b_f h20, Int32.not_lt.mp h33⟩
          · intro h
            by_cases e : p = k
            · exact Or.inr e
            · exact Or.inl ⟨by omega, h.2⟩
set_option maxRecDepth 100000 in
set_option maxHeartbeats 4000000 in
theorem s_X4_freeAhead {w : kW} {n : Nat} {d : Int32} (hn0 : w.1 1 0 = nI n) (hn : n ≤ 6) : Spec shC yX4_freeAhead cX4_freeAhead 4 (some .int) 1 21 [.ref 15, .int d] w (fun r w' => w = w' ∧ ∃ s, r = some (.int s) ∧ ∀ p, p < 6 → (bt s p = true ↔ p < n ∧ bt (w.1 15 9) p = false ∧ w.1 29 p ≤ d)) := by
  refine k_enter pn_X4 (Nat.le_of_ble_eq_true rfl) ?_
  refine b_iconst (v := 0) dX4_freeAhead_0 (by decide) ?_
  refine b_istore_n dX4_freeAhead_1 (by decide) ?_
  refine b_iconst (v := 0) dX4_freeAhead_2 (by decide) ?_
  refine b_istore_n dX4_freeAhead_3 (by decide) ?_
  refine b_sub [2, 3, 1, 0] rfl ?_
  exact s_X4_freeAhead_lp hn0 hn n 0 (by omega) 0 (fun p hp => by rw [b_0]; simp)
def cHurt (w : kW) (hu y t : Nat) (d : Int32) : kW :=
  let w1 := kset (kset w 15 1 (w.1 15 1 ||| 1 <<< (nI hu &&& 31))) 29 hu (d + (w.1 3 y - w.1 3 hu) + 2)
  if w.1 4 hu = nI y then w1 else kset (kset (kset (kset (kset w1 25 t (nI y)) 26 t (w.1 4 hu)) 27 t d) 28 t (w.1 3 y - w.1 3 hu)) 24 0 (nI t + 1)
theorem i_abs1 {x y : Nat} (h : y ≤ x) (hx : x ≤ 9) : (if 0 ≤ nI x - nI y then nI x - nI y else 0 - (nI x - nI y)) = nI x - nI y := by
  rw [if_pos (by rw [nI_sub h]; exact nI_pos' (by omega))]
theorem i_abs2 {x y : Nat} (h : x < y) (hx : y ≤ 9) : (if 0 ≤ nI x - nI y then nI x - nI y else 0 - (nI x - nI y)) = nI y - nI x := by
  have e : nI x - nI y = 0 - (nI y - nI x) := by
    rw [Int32.zero_sub, Int32.neg_sub]
  have h1 : ¬ (0 : Int32) ≤ nI x - nI y := by
    have : ∀ x, x < 10 → ∀ y, y < 10 → x < y → ¬ (0 : Int32) ≤ nI x - nI y := by decide +kernel
    exact this x (by omega) y (by omega) h
  rw [if_neg h1, Int32.zero_sub, Int32.neg_sub]
theorem i_sgn {x y : Nat} (hx : x ≤ 9) (hy : y ≤ 9) : (nI x - nI y = 0 ↔ x = y) ∧ (0 ≤ nI x - nI y ↔ y ≤ x) := by
  have : ∀ x, x < 10 → ∀ y, y < 10 → (nI x - nI y = 0 ↔ x = y) ∧ (0 ≤ nI x - nI y ↔ y ≤ x) := by decide +kernel
  exact this x (by omega) y (by omega)
set_option maxRecDepth 100000 in
set_option maxHeartbeats 4000000 in
theorem s_X4_shoot {w : kW} {a b t x y : Nat} {d : Int32} (ha : a < 6) (hb : b < 6) (hx : x ≤ 9) (hy : y ≤ 9) (ea : w.1 3 a = nI x) (eb : w.1 3 b = nI y) (ht : w.1 24 0 = nI t) (ht2 : t < 180) : Spec shC yX4_shoot cX4_shoot 9 (some .int) 1 24 [.ref 15, .int (nI a), .int (nI b), .int d] w (fun r w' => r = some (.int (if x = y then -9 else if y ≤ x then nI b else nI a)) ∧ (if x = y then w else if y ≤ x then cHurt w b a t d else cHurt w a b t d) = w') := by
  have eab1 : w.1 3 a - w.1 3 b = nI x - nI y := by rw [ea, eb]
  have eab2 : w.1 3 b - w.1 3 a = nI y - nI x := by rw [ea, eb]
  refine k_enter pn_X4 (Nat.le_of_ble_eq_true rfl) ?_
  refine b_aload_n dX4_shoot_0 rfl ?_
  refine b_getr dX4_shoot_1 gf_X4_31 rfl rfl ?_
  refine b_getr dX4_shoot_4 gf_X4_120 rfl rfl ?_
  refine b_iload_n dX4_shoot_7 rfl ?_
  refine b_ialdN dX4_shoot_8 rfl ⟨by omega, by decide⟩ ?_
  refine b_topi (y := nI x) ea ?_
  refine b_aload_n dX4_shoot_9 rfl ?_
  refine b_getr dX4_shoot_10 gf_X4_31 rfl rfl ?_
  refine b_getr dX4_shoot_13 gf_X4_120 rfl rfl ?_
  refine b_iload_n dX4_shoot_16 rfl ?_
  refine b_ialdN dX4_shoot_17 rfl ⟨by omega, by decide⟩ ?_
  refine b_topi (y := nI y) eb ?_
  refine b_isub dX4_shoot_18 ?_
  refine b_istore dX4_shoot_19 (by decide) ?_
  refine b_iload dX4_shoot_21 rfl ?_
  refine b_if_ne (tgt := 29) dX4_shoot_23 (by decide) (fun h23 => ?_) (fun h23 => ?_)
  · refine b_iload dX4_shoot_29 rfl ?_
    refine b_if_ge (tgt := 38) dX4_shoot_31 (by decide) (fun h31 => ?_) (fun h31 => ?_)
    · refine b_iload_n dX4_shoot_38 rfl ?_
      refine b_istore dX4_shoot_39 (by decide) ?_
      refine b_iload dX4_shoot_41 rfl ?_
      refine b_if_ge (tgt := 50) dX4_shoot_43 (by decide) (fun h43 => ?_) (fun h43 => ?_)
      · refine b_iload_n dX4_shoot_50 rfl ?_
        refine b_istore dX4_shoot_51 (by decide) ?_
        refine b_iload dX4_shoot_53 rfl ?_
        refine b_abs dX4_shoot_55 lk_X4_123 (Nat.le_of_ble_eq_true rfl) (Nat.le_of_ble_eq_true rfl) ?_
        refine b_topi (y := nI x - nI y) (i_abs1 ((i_sgn hx hy).2.mp h31) hx) ?_
        refine b_istore dX4_shoot_58 (by decide) ?_
        refine b_aload_n dX4_shoot_60 rfl ?_
        refine b_dup dX4_shoot_61 rfl ?_
        refine b_geti dX4_shoot_62 gf_X4_70 rfl rfl ?_
        refine b_iload dX4_shoot_65 rfl ?_
        refine b_callSN1 dX4_shoot_67 lk_X4_93 ⟨Nat.le_of_ble_eq_true rfl, Nat.le_of_ble_eq_true rfl⟩ (Nat.le_of_ble_eq_true rfl) (s_X7_bit) (fun r w67 h67 => ?_)
        obtain ⟨rfl, rfl⟩ := h67
        refine b_ior dX4_shoot_70 ?_
        refine b_puti dX4_shoot_71 gf_X4_70 gs_X4_1 rfl rfl ?_
        refine b_aload_n dX4_shoot_74 rfl ?_
        refine b_getr dX4_shoot_75 gf_X4_27 rfl rfl ?_
        refine b_iload dX4_shoot_78 rfl ?_
        refine b_iload_n dX4_shoot_80 rfl ?_
        refine b_iload dX4_shoot_81 rfl ?_
        refine b_iadd dX4_shoot_83 ?_
        refine b_iconst (v := 2) dX4_shoot_84 (by decide) ?_
        refine b_iadd dX4_shoot_85 ?_
        refine b_iastN dX4_shoot_86 rfl ⟨by omega, by decide⟩ ?_
        refine b_aload_n dX4_shoot_87 rfl ?_
        refine b_getr dX4_shoot_88 gf_X4_31 rfl rfl ?_
        refine b_getr dX4_shoot_91 gf_X4_128 rfl rfl ?_
        refine b_iload dX4_shoot_94 rfl ?_
        refine b_ialdN dX4_shoot_96 rfl ⟨by omega, by decide⟩ ?_
        refine b_topi (y := w.1 4 b) rfl ?_
        refine b_istore dX4_shoot_97 (by decide) ?_
        refine b_iload dX4_shoot_99 rfl ?_
        refine b_iload dX4_shoot_101 rfl ?_
        refine b_icmp_eq (tgt := 120) dX4_shoot_103 (by decide) (fun h103 => ?_) (fun h103 => ?_)
        · refine b_iload dX4_shoot_120 rfl ?_
          refine b_iret dX4_shoot_122 rfl ⟨by rw [if_neg (fun e => h23 ((i_sgn hx hy).1.mpr e)), if_pos ((i_sgn hx hy).2.mp h31)], ?_⟩
          rw [if_neg (fun e => h23 ((i_sgn hx hy).1.mpr e)), if_pos ((i_sgn hx hy).2.mp h31)]
          simp only [cHurt, if_pos h103, eab1]
          rfl
        · refine b_aload_n dX4_shoot_106 rfl ?_
          refine b_getr dX4_shoot_107 gf_X4_23 rfl rfl ?_
          refine b_iload dX4_shoot_110 rfl ?_
          refine b_iload dX4_shoot_112 rfl ?_
          refine b_iload_n dX4_shoot_114 rfl ?_
          refine b_iload dX4_shoot_115 rfl ?_
          refine b_callV4 dX4_shoot_117 lk_X4_131 rfl rfl rfl ⟨Nat.le_of_ble_eq_true rfl, Nat.le_of_ble_eq_true rfl⟩ (Nat.le_of_ble_eq_true rfl) (s_X0_add_24 ht ht2) (fun r w117 h117 => ?_)
          obtain ⟨rfl, rfl⟩ := h117
          refine b_iload dX4_shoot_120 rfl ?_
          refine b_iret dX4_shoot_122 rfl ⟨by rw [if_neg (fun e => h23 ((i_sgn hx hy).1.mpr e)), if_pos ((i_sgn hx hy).2.mp h31)], ?_⟩
          rw [if_neg (fun e => h23 ((i_sgn hx hy).1.mpr e)), if_pos ((i_sgn hx hy).2.mp h31)]
          simp only [cHurt, if_neg h103, eab1]
          rfl
      · exact absurd h31 h43
    · refine b_iload_n dX4_shoot_34 rfl ?_
      refine b_goto (tgt := 39) dX4_shoot_35 (by decide) ?_
      refine b_istore dX4_shoot_39 (by decide) ?_
      refine b_iload dX4_shoot_41 rfl ?_
      refine b_if_ge (tgt := 50) dX4_shoot_43 (by decide) (fun h43 => ?_) (fun h43 => ?_)
      · exact absurd h43 h31
      · refine b_iload_n dX4_shoot_46 rfl ?_
        refine b_goto (tgt := 51) dX4_shoot_47 (by decide) ?_
        refine b_istore dX4_shoot_51 (by decide) ?_
        refine b_iload dX4_shoot_53 rfl ?_
        refine b_abs dX4_shoot_55 lk_X4_123 (Nat.le_of_ble_eq_true rfl) (Nat.le_of_ble_eq_true rfl) ?_
        refine b_topi (y := nI y - nI x) (i_abs2 (Nat.not_le.mp (fun e => h31 ((i_sgn hx hy).2.mpr e))) hy) ?_
        refine b_istore dX4_shoot_58 (by decide) ?_
        refine b_aload_n dX4_shoot_60 rfl ?_
        refine b_dup dX4_shoot_61 rfl ?_
        refine b_geti dX4_shoot_62 gf_X4_70 rfl rfl ?_
        refine b_iload dX4_shoot_65 rfl ?_
        refine b_callSN1 dX4_shoot_67 lk_X4_93 ⟨Nat.le_of_ble_eq_true rfl, Nat.le_of_ble_eq_true rfl⟩ (Nat.le_of_ble_eq_true rfl) (s_X7_bit) (fun r w67 h67 => ?_)
        obtain ⟨rfl, rfl⟩ := h67
        refine b_ior dX4_shoot_70 ?_
        refine b_puti dX4_shoot_71 gf_X4_70 gs_X4_1 rfl rfl ?_
        refine b_aload_n dX4_shoot_74 rfl ?_
        refine b_getr dX4_shoot_75 gf_X4_27 rfl rfl ?_
        refine b_iload dX4_shoot_78 rfl ?_
        refine b_iload_n dX4_shoot_80 rfl ?_
        refine b_iload dX4_shoot_81 rfl ?_
        refine b_iadd dX4_shoot_83 ?_
        refine b_iconst (v := 2) dX4_shoot_84 (by decide) ?_
        refine b_iadd dX4_shoot_85 ?_
        refine b_iastN dX4_shoot_86 rfl ⟨by omega, by decide⟩ ?_
        refine b_aload_n dX4_shoot_87 rfl ?_
        refine b_getr dX4_shoot_88 gf_X4_31 rfl rfl ?_
        refine b_getr dX4_shoot_91 gf_X4_128 rfl rfl ?_
        refine b_iload dX4_shoot_94 rfl ?_
        refine b_ialdN dX4_shoot_96 rfl ⟨by omega, by decide⟩ ?_
        refine b_topi (y := w.1 4 a) rfl ?_
        refine b_istore dX4_shoot_97 (by decide) ?_
        refine b_iload dX4_shoot_99 rfl ?_
        refine b_iload dX4_shoot_101 rfl ?_
        refine b_icmp_eq (tgt := 120) dX4_shoot_103 (by decide) (fun h103 => ?_) (fun h103 => ?_)
        · refine b_iload dX4_shoot_120 rfl ?_
          refine b_iret dX4_shoot_122 rfl ⟨by rw [if_neg (fun e => h23 ((i_sgn hx hy).1.mpr e)), if_neg (fun e => h31 ((i_sgn hx hy).2.mpr e))], ?_⟩
          rw [if_neg (fun e => h23 ((i_sgn hx hy).1.mpr e)), if_neg (fun e => h31 ((i_sgn hx hy).2.mpr e))]
          simp only [cHurt, if_pos h103, eab2]
          rfl
        · refine b_aload_n dX4_shoot_106 rfl ?_
          refine b_getr dX4_shoot_107 gf_X4_23 rfl rfl ?_
          refine b_iload dX4_shoot_110 rfl ?_
          refine b_iload dX4_shoot_112 rfl ?_
          refine b_iload_n dX4_shoot_114 rfl ?_
          refine b_iload dX4_shoot_115 rfl ?_
          refine b_callV4 dX4_shoot_117 lk_X4_131 rfl rfl rfl ⟨Nat.le_of_ble_eq_true rfl, Nat.le_of_ble_eq_true rfl⟩ (Nat.le_of_ble_eq_true rfl) (s_X0_add_24 ht ht2) (fun r w117 h117 => ?_)
          obtain ⟨rfl, rfl⟩ := h117
          refine b_iload dX4_shoot_120 rfl ?_
          refine b_iret dX4_shoot_122 rfl ⟨by rw [if_neg (fun e => h23 ((i_sgn hx hy).1.mpr e)), if_neg (fun e => h31 ((i_sgn hx hy).2.mpr e))], ?_⟩
          rw [if_neg (fun e => h23 ((i_sgn hx hy).1.mpr e)), if_neg (fun e => h31 ((i_sgn hx hy).2.mpr e))]
          simp only [cHurt, if_neg h103, eab2]
          rfl
  · refine b_bipush (v := (-9)) dX4_shoot_26 (by decide) ?_
    exact b_iret dX4_shoot_28 rfl ⟨by rw [if_pos ((i_sgn hx hy).1.mp h23)], by rw [if_pos ((i_sgn hx hy).1.mp h23)]⟩
end
section
/-! ===== the class's season beside the reference's ===== -/
def cKeep (w w' : kW) : Prop := (∀ c, (c < 15 ∨ 29 < c) → w'.1 c = w.1 c) ∧ (∀ j, j ≠ 1 → j ≠ 10 → w'.1 15 j = w.1 15 j) ∧ w'.2 = w.2
theorem cKeep.rf {w : kW} : cKeep w w := ⟨fun _ _ => rfl, fun _ _ _ => rfl, rfl⟩
theorem cKeep.tr {w v u : kW} (h1 : cKeep w v) (h2 : cKeep v u) : cKeep w u := ⟨fun c a => (h2.1 c a).trans (h1.1 c a), fun j a b => (h2.2.1 j a b).trans (h1.2.1 j a b), h2.2.2.trans h1.2.2⟩
theorem cKeep.row {w v : kW} {c k : Nat} {x : Int32} (h : cKeep w v) (hc : 16 ≤ c ∧ c ≤ 29) : cKeep w (kset v c k x) :=
  h.tr ⟨fun c' h1 => kset_row _ _ _ _ (by omega), fun j _ _ => kset_ne _ _ (Or.inl (by omega)), rfl⟩
theorem cKeep.num {w v : kW} {k : Nat} {x : Int32} (h : cKeep w v) (hc : k = 1 ∨ k = 10) : cKeep w (kset v 15 k x) :=
  h.tr ⟨fun c' h1 => kset_row _ _ _ _ (by omega), fun j _ _ => kset_ne _ _ (Or.inr (by omega)), rfl⟩
theorem RP.keep {n : Nat} {w w' g g' : kW} (h : RP n w g) (h1 : cKeep w w') (h2 : sKeep g g') : RP n w' g' := by
  refine ⟨h.1.keep h2, ?_, fun p hp => ?_⟩
  · rw [h1.1 1 (by decide)]; exact h.2.1
  · rw [h1.1 2 (by decide), h1.1 3 (by decide), h1.1 4 (by decide), h1.1 5 (by decide), h2.1 4 (by decide) (by decide), h2.1 5 (by decide) (by decide), h2.1 6 (by decide) (by decide)]
    exact h.2.2 p hp
def RLb (n m t : Nat) (w g : kW) : Prop := (∀ j k, 20 ≤ j → j ≤ 25 → k < m → w.1 (j - 2) k = g.1 j k) ∧ (∀ k, k < t → w.1 25 k = g.1 16 k ∧ w.1 26 k = g.1 17 k ∧ w.1 27 k = g.1 19 k ∧ w.1 28 k = g.1 18 k) ∧ (∀ p, p < n → w.1 29 p = g.1 15 p)
def RH (m : Nat) (w g : kW) : Prop := ∀ p, p < 6 → (bt (w.1 15 1) p = true ↔ ∃ k, k < m ∧ g.1 25 k = nI p)
def RLg (n : Nat) (w g : kW) : Prop := ∃ m t, m < 200 ∧ t < 200 ∧ g.1 0 28 = nI m ∧ w.1 16 0 = nI m ∧ g.1 0 23 = nI t ∧ w.1 24 0 = nI t ∧ RLb n m t w g ∧ RH m w g
def RF (n : Nat) (d : Int32) (w g : kW) : Prop := ∀ p, p < 6 → (bt (w.1 15 10) p = true ↔ p < n ∧ mFree g p d)
theorem RLb.w {n m t c k : Nat} {w g : kW} {v : Int32} (h : RLb n m t w g) (hc : c ≤ 17 ∨ c = 24 ∨ (c ≤ 23 ∧ k = m) ∨ (25 ≤ c ∧ c ≤ 28 ∧ k = t)) : RLb n m t (kset w c k v) g := by
  refine ⟨fun j k' a b hk => ?_, fun k' hk => ?_, fun p hp => ?_⟩
  · rw [kset_ne _ _ (by omega)]; exact h.1 j k' a b hk
  · rw [kset_ne _ _ (by omega), kset_ne _ _ (by omega), kset_ne _ _ (by omega), kset_ne _ _ (by omega)]; exact h.2.1 k' hk
  · rw [kset_ne _ _ (by omega)]; exact h.2.2 p hp
theorem RLb.g {n m t c k : Nat} {w g : kW} {v : Int32} (h : RLb n m t w g) (hc : c ≤ 14 ∨ (20 ≤ c ∧ k = m) ∨ (16 ≤ c ∧ c ≤ 19 ∧ k = t)) : RLb n m t w (kset g c k v) := by
  refine ⟨fun j k' a b hk => ?_, fun k' hk => ?_, fun p hp => ?_⟩
  · rw [kset_ne _ _ (by omega)]; exact h.1 j k' a b hk
  · rw [kset_ne _ _ (by omega), kset_ne _ _ (by omega), kset_ne _ _ (by omega), kset_ne _ _ (by omega)]; exact h.2.1 k' hk
  · rw [kset_ne _ _ (by omega)]; exact h.2.2 p hp
theorem RLb.well {n m t p : Nat} {w g : kW} {v : Int32} (h : RLb n m t w g) : RLb n m t (kset w 29 p v) (kset g 15 p v) := by
  refine ⟨fun j k' a b hk => ?_, fun k' hk => ?_, fun q hq => ?_⟩
  · rw [kset_ne _ _ (by omega), kset_ne _ _ (by omega)]; exact h.1 j k' a b hk
  · rw [kset_ne _ _ (by omega), kset_ne _ _ (by omega), kset_ne _ _ (by omega), kset_ne _ _ (by omega), kset_ne _ _ (by omega), kset_ne _ _ (by omega), kset_ne _ _ (by omega), kset_ne _ _ (by omega)]; exact h.2.1 k' hk
  · rw [kset_1, kset_1, if_pos rfl, if_pos rfl, h.2.2 q hq]
theorem RLb.upt {n m t : Nat} {w g : kW} (h : RLb n m t w g) (he : w.1 25 t = g.1 16 t ∧ w.1 26 t = g.1 17 t ∧ w.1 27 t = g.1 19 t ∧ w.1 28 t = g.1 18 t) : RLb n m (t + 1) w g :=
  ⟨h.1, fun k hk => by
    by_cases e : k = t
    · subst e; exact he
    · exact h.2.1 k (by omega), h.2.2⟩
theorem RLb.upm {n m t : Nat} {w g : kW} (h : RLb n m t w g) (he : ∀ j, 20 ≤ j → j ≤ 25 → w.1 (j - 2) m = g.1 j m) : RLb n (m + 1) t w g :=
  ⟨fun j k a b hk => by
    by_cases e : k = m
    · subst e; exact he j a b
    · exact h.1 j k a b (by omega), h.2⟩
theorem hurt_rel {w g : kW} {n m t hu y : Nat} {d : Int32} (hh : hu < n) (h3 : ∀ p, p < n → w.1 3 p = g.1 5 p) (hy : y < n) (h4 : w.1 4 hu = g.1 6 (2 * hu)) (tw : w.1 24 0 = nI t) (tg : g.1 0 23 = nI t) (ht : t < 200) (h : RLb n m t w g) : ∃ t', t' ≤ t + 1 ∧ (cHurt w hu y t d).1 24 0 = nI t' ∧ (mHurtF g hu y d).1 0 23 = nI t' ∧ RLb n m t' (cHurt w hu y t d) (mHurtF g hu y d) := by
  simp only [cHurt, mHurtF, cl_of tg (show t < 2 ^ 31 by omega), h3 hu hh, h3 y hy, h4]
  split
  · exact ⟨t, by omega, tw, tg, (h.w (by omega)).well⟩
  · refine ⟨t + 1, Nat.le_refl _, by rw [kset_eq, nI_1], by rw [kset_eq, tg, nI_1], ?_⟩
    refine RLb.g (RLb.w (RLb.upt ?_ ?_) (by omega)) (by omega)
    · exact (((((((((h.w (by omega)).well).w (by omega)).w (by omega)).w (by omega)).w (by omega)).g (by omega)).g (by omega)).g (by omega)).g (by omega)
    · simp [kset_1]
def cMeet (w : kW) (a b m t x y : Nat) (insd insr d : Int32) : kW :=
  let w1 := kset w 15 10 (w.1 15 10 &&& ((1 <<< (nI a &&& 31) ||| 1 <<< (nI b &&& 31)) ^^^ -1))
  let w2 := if x = y then w1 else if y ≤ x then cHurt w1 b a t d else cHurt w1 a b t d
  let hu := if x = y then -9 else if y ≤ x then nI b else nI a
  kset (kset (kset (kset (kset (kset (kset w2 18 m d) 19 m (nI a)) 20 m (nI b)) 21 m insd) 22 m insr) 23 m hu) 16 0 (nI m + 1)
theorem cHurt_keep (w : kW) (hu y t : Nat) (d : Int32) : cKeep w (cHurt w hu y t d) := by
  simp only [cHurt]
  split
  · exact (cKeep.rf.num (by decide)).row (by decide)
  · exact ((((((cKeep.rf.num (by decide)).row (by decide)).row (by decide)).row (by decide)).row (by decide)).row (by decide)).row (by decide)
theorem cHurt_16 (w : kW) (hu y t : Nat) (d : Int32) : (cHurt w hu y t d).1 16 0 = w.1 16 0 := by
  simp only [cHurt]
  split <;> rfl
theorem cHurt_h (w : kW) (hu y t : Nat) (d : Int32) : (cHurt w hu y t d).1 15 1 = w.1 15 1 ||| 1 <<< (nI hu &&& 31) := by
  simp only [cHurt]
  split <;> rfl
theorem cHurt_f (w : kW) (hu y t : Nat) (d : Int32) : (cHurt w hu y t d).1 15 10 = w.1 15 10 := by
  simp only [cHurt]
  split <;> rfl
theorem cMeet_16 (w : kW) (a b t x y : Nat) (d : Int32) : (if x = y then w else if y ≤ x then cHurt w b a t d else cHurt w a b t d).1 16 0 = w.1 16 0 := by
  split
  · rfl
  · split
    · exact cHurt_16 ..
    · exact cHurt_16 ..
theorem mHurtF_25 (w : kW) (hu y : Nat) (d : Int32) : (mHurtF w hu y d).1 25 = w.1 25 ∧ (mHurtF w hu y d).1 0 22 = w.1 0 22 ∧ (mHurtF w hu y d).1 7 = w.1 7 ∧ ∀ p, p ≠ hu → (mHurtF w hu y d).1 15 p = w.1 15 p := by
  simp only [mHurtF]
  split
  · exact ⟨rfl, rfl, rfl, fun p hp => by simp [kset_1, hp]⟩
  · exact ⟨rfl, rfl, rfl, fun p hp => by simp [kset_1, hp]⟩
theorem RH.up {m : Nat} {w g w' g' : kW} {v : Int32} (h : RH m w g) (e : ∀ k, k < m → g'.1 25 k = g.1 25 k) (ev : g'.1 25 m = v) (hb : ∀ p, p < 6 → (bt (w'.1 15 1) p = true ↔ bt (w.1 15 1) p = true ∨ v = nI p)) : RH (m + 1) w' g' := by
  intro p hp
  rw [hb p hp, h p hp]
  constructor
  · rintro (⟨k, h1, h2⟩ | h1)
    · exact ⟨k, by omega, (e k h1).trans h2⟩
    · exact ⟨m, by omega, ev.trans h1⟩
  · rintro ⟨k, h1, h2⟩
    by_cases ek : k = m
    · subst ek; exact Or.inr (ev.symm.trans h2)
    · exact Or.inl ⟨k, by omega, (e k (by omega)).symm.trans h2⟩
theorem bt_m1x (x : Int32) {k : Nat} (hk : k < 32) : bt (x ^^^ -1) k = !bt x k := by
  rw [b_xor, b_m1 k hk, Bool.xor_true]
theorem bt_off (x : Int32) {a b k : Nat} (ha : a < 6) (hb : b < 6) (hk : k < 6) : bt (x &&& ((1 <<< (nI a &&& 31) ||| 1 <<< (nI b &&& 31)) ^^^ -1)) k = (bt x k && !(decide (k = a) || decide (k = b))) := by
  rw [b_and, bt_m1x _ (by omega), b_or, bit_one (by omega) (by omega), bit_one (by omega) (by omega)]
theorem bt_off1 (x : Int32) {a k : Nat} (ha : a < 6) (hk : k < 6) : bt (x &&& ((1 <<< (nI a &&& 31)) ^^^ -1)) k = (bt x k && !decide (k = a)) := by
  rw [b_and, bt_m1x _ (by omega), bit_one (by omega) (by omega)]
theorem mMeet0_rel {w g : kW} {n m t a b : Nat} {x y d : Int32} (hm : g.1 0 28 = nI m) (hm2 : m < 200) (h : RLb n m t w g) : RLb n m t w (mMeet0 g a b x y d) := by
  simp only [mMeet0, cl_of hm (show m < 2 ^ 31 by omega)]
  exact ((((((h.g (by omega)).g (by omega)).g (by omega)).g (by omega)).g (by omega)).g (by omega)).g (by omega)
theorem cMeet_rel {w g : kW} {n m t a b x y : Nat} {insd insr d : Int32} (hP : Pn n g) (ha : a < n) (hb : b < n) (hab : a ≠ b) (hx : x ≤ 9) (hy : y ≤ 9) (ex : g.1 5 a = nI x) (ey : g.1 5 b = nI y) (h3 : ∀ p, p < n → w.1 3 p = g.1 5 p) (h4 : ∀ p, p < n → w.1 4 p = g.1 6 (2 * p)) (mg : g.1 0 28 = nI m) (hm : m < 199) (tg : g.1 0 23 = nI t) (tw : w.1 24 0 = nI t) (ht : t < 199) (h : RLb n m t w g) (hh : RH m w g) (hf : RF n d w g) : RLg n (cMeet w a b m t x y insd insr d) (mMeet g a b insd insr d) ∧ RF n d (cMeet w a b m t x y insd insr d) (mMeet g a b insd insr d) ∧ cKeep w (cMeet w a b m t x y insd insr d) := by
  have hn := hP.le
  have e1 : g.1 5 a = g.1 5 b ↔ x = y := by rw [ex, ey]; exact nI_eq (by omega) (by omega)
  have e2 : g.1 5 b ≤ g.1 5 a ↔ y ≤ x := by rw [ex, ey]; exact nI_leI (by omega) (by omega)
  have g0 : RLb n m t (kset w 15 10 (w.1 15 10 &&& ((1 <<< (nI a &&& 31) ||| 1 <<< (nI b &&& 31)) ^^^ -1))) (mMeet0 g a b insd insr d) := mMeet0_rel mg (by omega) (h.w (by omega))
  have tg0 : (mMeet0 g a b insd insr d).1 0 23 = nI t := tg
  have hbit : (mMeet0 g a b insd insr d).1 0 22 = g.1 0 22 ||| (1 <<< (nI a &&& 31) ||| 1 <<< (nI b &&& 31)) := rfl
  have h25 : ∀ k, k < m → (mMeet0 g a b insd insr d).1 25 k = g.1 25 k := by
    intro k hk
    simp only [mMeet0, cl_of mg (show m < 2 ^ 31 by omega)]
    rw [kset_ne _ _ (by omega)]; rfl
  have hrow : ∀ j, 20 ≤ j → j ≤ 25 → (mMeet0 g a b insd insr d).1 j m = (if j = 20 then d else if j = 21 then nI a else if j = 22 then nI b else if j = 23 then insd else if j = 24 then insr else -9) := by
    intro j h1 h2
    simp only [mMeet0, cl_of mg (show m < 2 ^ 31 by omega)]
    rcases (show j = 20 ∨ j = 21 ∨ j = 22 ∨ j = 23 ∨ j = 24 ∨ j = 25 by omega) with rfl | rfl | rfl | rfl | rfl | rfl <;> simp [kset_1]
  have m28 : (mMeet0 g a b insd insr d).1 0 28 = nI m := mg
  have free : ∀ v : kW, v.1 0 22 = g.1 0 22 ||| (1 <<< (nI a &&& 31) ||| 1 <<< (nI b &&& 31)) → v.1 7 = g.1 7 → (∀ p, p ≠ a → p ≠ b → v.1 15 p = g.1 15 p) → ∀ u : kW, u.1 15 10 = w.1 15 10 &&& ((1 <<< (nI a &&& 31) ||| 1 <<< (nI b &&& 31)) ^^^ -1) → RF n d u v := by
    intro v v1 v2 v3 u u1 p hp
    rw [u1, bt_off _ (by omega) (by omega) hp, Bool.and_eq_true, hf p hp]
    unfold mFree
    rw [v1, v2, bt_two _ (by omega) (by omega) hp]
    by_cases ea : p = a
    · simp [ea]
    · by_cases eb : p = b
      · simp [eb]
      · rw [v3 p ea eb]
        simp [ea, eb]
  simp only [cMeet, mMeet, cl_of mg (show m < 2 ^ 31 by omega), e1, e2]
  by_cases c1 : x = y
  · simp only [if_pos c1]
    refine ⟨⟨m + 1, t, by omega, by omega, by rw [kset_eq, m28, nI_1], by rw [kset_eq, nI_1], tg, tw, ?_, ?_⟩, ?_, ?_⟩
    · refine RLb.g (RLb.w (RLb.upm ((((((g0.w (by omega)).w (by omega)).w (by omega)).w (by omega)).w (by omega)).w (by omega)) (fun j h1 h2 => ?_)) (by omega)) (by omega)
      rw [hrow j h1 h2]
      rcases (show j = 20 ∨ j = 21 ∨ j = 22 ∨ j = 23 ∨ j = 24 ∨ j = 25 by omega) with rfl | rfl | rfl | rfl | rfl | rfl <;> simp [kset_1]
    · refine hh.up (v := -9) (fun k hk => by rw [kset_ne _ _ (by omega)]; exact h25 k hk) ?_ (fun p hp => ?_)
      · rw [kset_ne _ _ (by omega), hrow 25 (by decide) (by decide)]; rfl
      · constructor
        · exact fun h => Or.inl h
        · rintro (h | h)
          · exact h
          · exact absurd h.symm (nI_ne9 (by omega))
    · refine free _ ?_ ?_ (fun _ _ _ => ?_) _ ?_ <;> rfl
    · exact (((((((cKeep.rf.num (by decide)).row (by decide)).row (by decide)).row (by decide)).row (by decide)).row (by decide)).row (by decide)).row (by decide)
  · simp only [if_neg c1]
    by_cases c2 : y ≤ x
    · simp only [if_pos c2]
      obtain ⟨t', q1, q2, q3, q4⟩ := hurt_rel (w := kset w 15 10 (w.1 15 10 &&& ((1 <<< (nI a &&& 31) ||| 1 <<< (nI b &&& 31)) ^^^ -1))) (g := mMeet0 g a b insd insr d) (hu := b) (y := a) (d := d) hb h3 ha (h4 b hb) tw tg0 (by omega) g0
      obtain ⟨r1, r2, r3, r4⟩ := mHurtF_25 (mMeet0 g a b insd insr d) b a d
      have rr : ∀ j, 20 ≤ j → j ≤ 25 → (mHurtF (mMeet0 g a b insd insr d) b a d).1 j m = (mMeet0 g a b insd insr d).1 j m := by
        intro j h1 h2
        simp only [mHurtF]
        split
        · rw [kset_ne _ _ (by omega)]
        · rw [kset_ne _ _ (by omega), kset_ne _ _ (by omega), kset_ne _ _ (by omega), kset_ne _ _ (by omega), kset_ne _ _ (by omega), kset_ne _ _ (by omega)]
      refine ⟨⟨m + 1, t', by omega, by omega, ?_, by rw [kset_eq, nI_1], ?_, ?_, ?_, ?_⟩, ?_, ?_⟩
      · rw [kset_eq, kset_ne _ _ (by omega), mHurtF_met, m28, nI_1]
      · rw [kset_ne _ _ (by omega), kset_ne _ _ (by omega)]; exact q3
      · rw [kset_ne _ _ (by omega), kset_ne _ _ (by omega), kset_ne _ _ (by omega), kset_ne _ _ (by omega), kset_ne _ _ (by omega), kset_ne _ _ (by omega), kset_ne _ _ (by omega)]; exact q2
      · refine RLb.g (RLb.w (RLb.upm (((((((q4.w (by omega)).w (by omega)).w (by omega)).w (by omega)).w (by omega)).w (by omega)).g (by omega)) (fun j h1 h2 => ?_)) (by omega)) (by omega)
        rcases (show j = 20 ∨ j = 21 ∨ j = 22 ∨ j = 23 ∨ j = 24 ∨ j = 25 by omega) with rfl | rfl | rfl | rfl | rfl | rfl <;> simp [kset_1, rr, hrow]
      · refine hh.up (v := nI b) (fun k hk => ?_) ?_ (fun p hp => ?_)
        · rw [kset_ne _ _ (by omega), kset_ne _ _ (by omega), r1]; exact h25 k hk
        · rw [kset_ne _ _ (by omega), kset_eq]
        · rw [kset_ne _ _ (by omega), kset_ne _ _ (by omega), kset_ne _ _ (by omega), kset_ne _ _ (by omega), kset_ne _ _ (by omega), kset_ne _ _ (by omega), kset_ne _ _ (by omega), cHurt_h, b_or, bit_one (by omega) (by omega), Bool.or_eq_true, decide_eq_true_eq, nI_eq (by omega) (by omega)]
          rw [show ((kset w 15 10 (w.1 15 10 &&& ((1 <<< (nI a &&& 31) ||| 1 <<< (nI b &&& 31)) ^^^ -1))).1 15 1) = w.1 15 1 from rfl]
          exact or_congr Iff.rfl eq_comm
      · refine free _ ?_ ?_ (fun p p1 p2 => ?_) _ ?_
        · rw [kset_ne _ _ (by omega), kset_ne _ _ (by omega), r2, hbit]
        · rw [kset_row _ _ _ _ (by omega), kset_row _ _ _ _ (by omega), r3]; rfl
        · rw [kset_ne _ _ (by omega), kset_ne _ _ (by omega), r4 p (by omega)]; rfl
        · rw [kset_ne _ _ (by omega), kset_ne _ _ (by omega), kset_ne _ _ (by omega), kset_ne _ _ (by omega), kset_ne _ _ (by omega), kset_ne _ _ (by omega), kset_ne _ _ (by omega), cHurt_f]; rfl
      · exact (((((((cKeep.rf.num (by decide)).tr (cHurt_keep ..)).row (by decide)).row (by decide)).row (by decide)).row (by decide)).row (by decide)).row (by decide) |>.row (by decide)
    · simp only [if_neg c2]
      obtain ⟨t', q1, q2, q3, q4⟩ := hurt_rel (w := kset w 15 10 (w.1 15 10 &&& ((1 <<< (nI a &&& 31) ||| 1 <<< (nI b &&& 31)) ^^^ -1))) (g := mMeet0 g a b insd insr d) (hu := a) (y := b) (d := d) ha h3 hb (h4 a ha) tw tg0 (by omega) g0
      obtain ⟨r1, r2, r3, r4⟩ := mHurtF_25 (mMeet0 g a b insd insr d) a b d
      have rr : ∀ j, 20 ≤ j → j ≤ 25 → (mHurtF (mMeet0 g a b insd insr d) a b d).1 j m = (mMeet0 g a b insd insr d).1 j m := by
        intro j h1 h2
        simp only [mHurtF]
        split
        · rw [kset_ne _ _ (by omega)]
        · rw [kset_ne _ _ (by omega), kset_ne _ _ (by omega), kset_ne _ _ (by omega), kset_ne _ _ (by omega), kset_ne _ _ (by omega), kset_ne _ _ (by omega)]
      refine ⟨⟨m + 1, t', by omega, by omega, ?_, by rw [kset_eq, nI_1], ?_, ?_, ?_, ?_⟩, ?_, ?_⟩
      · rw [kset_eq, kset_ne _ _ (by omega), mHurtF_met, m28, nI_1]
      · rw [kset_ne _ _ (by omega), kset_ne _ _ (by omega)]; exact q3
      · rw [kset_ne _ _ (by omega), kset_ne _ _ (by omega), kset_ne _ _ (by omega), kset_ne _ _ (by omega), kset_ne _ _ (by omega), kset_ne _ _ (by omega), kset_ne _ _ (by omega)]; exact q2
      · refine RLb.g (RLb.w (RLb.upm (((((((q4.w (by omega)).w (by omega)).w (by omega)).w (by omega)).w (by omega)).w (by omega)).g (by omega)) (fun j h1 h2 => ?_)) (by omega)) (by omega)
        rcases (show j = 20 ∨ j = 21 ∨ j = 22 ∨ j = 23 ∨ j = 24 ∨ j = 25 by omega) with rfl | rfl | rfl | rfl | rfl | rfl <;> simp [kset_1, rr, hrow]
      · refine hh.up (v := nI a) (fun k hk => ?_) ?_ (fun p hp => ?_)
        · rw [kset_ne _ _ (by omega), kset_ne _ _ (by omega), r1]; exact h25 k hk
        · rw [kset_ne _ _ (by omega), kset_eq]
        · rw [kset_ne _ _ (by omega), kset_ne _ _ (by omega), kset_ne _ _ (by omega), kset_ne _ _ (by omega), kset_ne _ _ (by omega), kset_ne _ _ (by omega), kset_ne _ _ (by omega), cHurt_h, b_or, bit_one (by omega) (by omega), Bool.or_eq_true, decide_eq_true_eq, nI_eq (by omega) (by omega)]
          rw [show ((kset w 15 10 (w.1 15 10 &&& ((1 <<< (nI a &&& 31) ||| 1 <<< (nI b &&& 31)) ^^^ -1))).1 15 1) = w.1 15 1 from rfl]
          exact or_congr Iff.rfl eq_comm
      · refine free _ ?_ ?_ (fun p p1 p2 => ?_) _ ?_
        · rw [kset_ne _ _ (by omega), kset_ne _ _ (by omega), r2, hbit]
        · rw [kset_row _ _ _ _ (by omega), kset_row _ _ _ _ (by omega), r3]; rfl
        · rw [kset_ne _ _ (by omega), kset_ne _ _ (by omega), r4 p (by omega)]; rfl
        · rw [kset_ne _ _ (by omega), kset_ne _ _ (by omega), kset_ne _ _ (by omega), kset_ne _ _ (by omega), kset_ne _ _ (by omega), kset_ne _ _ (by omega), kset_ne _ _ (by omega), cHurt_f]; rfl
      · exact (((((((cKeep.rf.num (by decide)).tr (cHurt_keep ..)).row (by decide)).row (by decide)).row (by decide)).row (by decide)).row (by decide)).row (by decide) |>.row (by decide)
end
section
theorem mAnswer_no {g : kW} {i j : Nat} {deg d : Int32} (h : ¬ mTouch g j ≤ deg) : mAnswer g i j deg d = g := by
  simp only [mAnswer, if_neg h]
theorem mAnswer_n1 {g : kW} {i j : Nat} {deg d : Int32} (h : mTouch g j ≤ deg) (h1 : mSec g j (nI i) (-9) d = none) : mAnswer g i j deg d = g := by
  simp only [mAnswer, if_pos h, h1]
theorem mAnswer_n2 {g : kW} {i j a : Nat} {deg d : Int32} (h : mTouch g j ≤ deg) (h1 : mSec g j (nI i) (-9) d = some a) (h2 : mSec g i (nI j) (nI a) d = none) : mAnswer g i j deg d = g := by
  simp only [mAnswer, if_pos h, h1, h2]
theorem mAnswer_y {g : kW} {i j a b : Nat} {deg d : Int32} (h : mTouch g j ≤ deg) (h1 : mSec g j (nI i) (-9) d = some a) (h2 : mSec g i (nI j) (nI a) d = some b) : mAnswer g i j deg d = mMeet g a b (nI j) (nI i) d := by
  simp only [mAnswer, if_pos h, h1, h2]
theorem nI_neq {a b : Nat} (ha : a < 2 ^ 31) (hb : b < 2 ^ 31) : ¬ nI a = nI b ↔ ¬ a = b := not_congr (nI_eq ha hb)
theorem sec1_eq {n i j : Nat} {d : Int32} {w g : kW} (hP : Pn n g) (hi : i < n) (hj : j < n) (hf : RF n d w g) : (mCh g j).find? (fun x => bt (w.1 15 10 &&& ((1 <<< (nI i &&& 31) ||| 1 <<< (nI j &&& 31)) ^^^ -1)) x) = mSec g j (nI i) (-9) d := by
  have hn := hP.le
  apply f_cg
  intro x hx
  have hl := mCh_lt hP hj hx
  rw [bt_off _ (by omega) (by omega) (by omega)]
  rw [Bool.eq_iff_iff, Bool.and_eq_true, hf x (by omega), decide_eq_true_eq]
  unfold mMay
  rw [nI_neq (by omega) (by omega), nI_neq (by omega) (by omega)]
  have h9 : ¬ nI x = -9 := nI_ne9 (by omega)
  simp only [h9, not_false_eq_true, true_and, Bool.not_eq_true', Bool.or_eq_false_iff, decide_eq_false_iff_not, hl]
  constructor
  · rintro ⟨h1, h2, h3⟩; exact ⟨h3, h2, h1⟩
  · rintro ⟨h1, h2, h3⟩; exact ⟨h3, h2, h1⟩
theorem sec2_eq {n i j a : Nat} {d : Int32} {w g : kW} (hP : Pn n g) (hi : i < n) (hj : j < n) (ha : a < n) (hf : RF n d w g) : (mCh g i).find? (fun x => bt (w.1 15 10 &&& ((1 <<< (nI i &&& 31) ||| 1 <<< (nI j &&& 31)) ^^^ -1) &&& (((1 : Int32) <<< (nI a &&& 31)) ^^^ -1)) x) = mSec g i (nI j) (nI a) d := by
  have hn := hP.le
  apply f_cg
  intro x hx
  have hl := mCh_lt hP hi hx
  rw [bt_off1 _ (by omega) (by omega), bt_off _ (by omega) (by omega) (by omega)]
  rw [Bool.eq_iff_iff, Bool.and_eq_true, Bool.and_eq_true, hf x (by omega), decide_eq_true_eq]
  unfold mMay
  rw [nI_neq (by omega) (by omega), nI_neq (by omega) (by omega), nI_neq (by omega) (by omega)]
  simp only [Bool.not_eq_true', Bool.or_eq_false_iff, decide_eq_false_iff_not, hl, true_and]
  constructor
  · rintro ⟨⟨h1, h2, h3⟩, h4⟩; exact ⟨h2, h3, h4, h1⟩
  · rintro ⟨h1, h2, h3, h4⟩; exact ⟨⟨h4, h1, h2⟩, h3⟩
theorem SInv.two {g : kW} {n m0 a b m t : Nat} (hS : SInv n m0 g) (hm0 : m0 ≤ 177) (ha : a < n) (hb : b < n) (hab : a ≠ b) (h1 : bt (g.1 0 22) a = false) (h2 : bt (g.1 0 22) b = false) (hm : g.1 0 28 = nI m) (ht : g.1 0 23 = nI t) (hm2 : m < 200) (ht2 : t < 200) : m < 180 ∧ t < 180 := by
  obtain ⟨hP, m', t', e1, e2, e3, e4, e5⟩ := hS
  have hn := hP.le
  have b0 := bs6_le (g.1 0 22)
  have q1 := nI_inj (by omega) (by omega) (e1.symm.trans hm)
  have q2 := nI_inj (by omega) (by omega) (e2.symm.trans ht)
  have b1 := bs6_two (by omega) (by omega) hab h1 h2
  have b2 := bs6_le (g.1 0 22 ||| (1 <<< (nI a &&& 31) ||| 1 <<< (nI b &&& 31)))
  omega
set_option maxRecDepth 100000 in
set_option maxHeartbeats 4000000 in
theorem s_X4_answer_6 {w g : kW} {n m0 i j k d : Nat} (hR : RP n w g) (hS : SInv n m0 g) (hm0 : m0 ≤ 177) (hL : RLg n w g) (hF : RF n (nI d) w g) (hk : k < 9) (hi : i < n) (hj : j < n) (ei : w.1 7 k = nI i) (ej : w.1 8 k = nI j) : Spec shC yX4_answer cX4_answer 10 none 2 52 [.ref 15, .ref 6, .int (nI k), .int (nI d)] w (fun r w' => r = none ∧ RLg n w' (mAnswer g i j (w.1 10 k) (nI d)) ∧ RF n (nI d) w' (mAnswer g i j (w.1 10 k) (nI d)) ∧ cKeep w w') := by
  have hn := hR.1.le
  obtain ⟨m, t, hm2, ht2, mg, mw, tg, tw, hb, hh⟩ := id hL
  obtain ⟨hh1, hh2, hh3, ehh⟩ := hR.1.2.2.1 j hj
  obtain ⟨kd, hkd, ekd⟩ := hR.1.2.2.2.2.2 j hj
  refine k_enter pn_X4 (Nat.le_of_ble_eq_true rfl) ?_
  refine b_aload_n dX4_answer_0 rfl ?_
  refine b_getr dX4_answer_1 gf_X4_96 rfl rfl ?_
  refine b_iload_n dX4_answer_4 rfl ?_
  refine b_ialdN dX4_answer_5 rfl ⟨by omega, by decide⟩ ?_
  refine b_topi (y := nI i) ei ?_
  refine b_istore dX4_answer_6 (by decide) ?_
  refine b_aload_n dX4_answer_8 rfl ?_
  refine b_getr dX4_answer_9 gf_X4_99 rfl rfl ?_
  refine b_iload_n dX4_answer_12 rfl ?_
  refine b_ialdN dX4_answer_13 rfl ⟨by omega, by decide⟩ ?_
  refine b_topi (y := nI j) ej ?_
  refine b_istore dX4_answer_14 (by decide) ?_
  refine b_aload_n dX4_answer_16 rfl ?_
  refine b_getr dX4_answer_17 gf_X4_102 rfl rfl ?_
  refine b_iload_n dX4_answer_20 rfl ?_
  refine b_ialdN dX4_answer_21 rfl ⟨by omega, by decide⟩ ?_
  refine b_aload_n dX4_answer_22 rfl ?_
  refine b_getr dX4_answer_23 gf_X4_31 rfl rfl ?_
  refine b_iload dX4_answer_26 rfl ?_
  refine b_callV1 dX4_answer_28 lk_X4_105 rfl rfl rfl ⟨Nat.le_of_ble_eq_true rfl, Nat.le_of_ble_eq_true rfl⟩ (Nat.le_of_ble_eq_true rfl) (s_X2_touchiness (by omega) hh2 hh3 hkd ((hR.2.2 j hj).2.1.trans ehh) ((hR.2.2 j hj).1.trans ekd)) (fun r w28 h28 => ?_)
  obtain ⟨rfl, rfl⟩ := h28
  refine b_topi (y := mTouch g j) (by rw [mTouch_c, ehh, ekd]) ?_
  refine b_icmp_ge (tgt := 35) dX4_answer_31 (by decide) (fun h31 => ?_) (fun h31 => ?_)
  · refine b_aload_n dX4_answer_35 rfl ?_
    refine b_geti dX4_answer_36 gf_X4_83 rfl rfl ?_
    refine b_iload dX4_answer_39 rfl ?_
    refine b_callSN1 dX4_answer_41 lk_X4_93 ⟨Nat.le_of_ble_eq_true rfl, Nat.le_of_ble_eq_true rfl⟩ (Nat.le_of_ble_eq_true rfl) (s_X7_bit) (fun r w41 h41 => ?_)
    obtain ⟨rfl, rfl⟩ := h41
    refine b_iload dX4_answer_44 rfl ?_
    refine b_callSN1 dX4_answer_46 lk_X4_93 ⟨Nat.le_of_ble_eq_true rfl, Nat.le_of_ble_eq_true rfl⟩ (Nat.le_of_ble_eq_true rfl) (s_X7_bit) (fun r w46 h46 => ?_)
    obtain ⟨rfl, rfl⟩ := h46
    refine b_ior dX4_answer_49 ?_
    refine b_iconst (v := (-1)) dX4_answer_50 (by decide) ?_
    refine b_ixor dX4_answer_51 ?_
    refine b_iand dX4_answer_52 ?_
    refine b_istore dX4_answer_53 (by decide) ?_
    refine b_aload_n dX4_answer_55 rfl ?_
    refine b_getr dX4_answer_56 gf_X4_31 rfl rfl ?_
    refine b_iload dX4_answer_59 rfl ?_
    refine b_iload dX4_answer_61 rfl ?_
    refine b_callV2 dX4_answer_63 lk_X4_108 rfl rfl rfl ⟨Nat.le_of_ble_eq_true rfl, Nat.le_of_ble_eq_true rfl⟩ (Nat.le_of_ble_eq_true rfl) (s_X2_secondAmong hR hj) (fun r w63 h63 => ?_)
    obtain ⟨rfl, rfl⟩ := h63
    rw [sec1_eq hR.1 hi hj hF]
    rcases hs63 : mSec g j (nI i) (-9) (nI d) with _ | a
    · refine b_topi (y := -9) rfl ?_
      refine b_istore dX4_answer_66 (by decide) ?_
      refine b_iload dX4_answer_68 rfl ?_
      refine b_bipush (v := (-9)) dX4_answer_70 (by decide) ?_
      refine b_icmp_ne (tgt := 76) dX4_answer_72 (by decide) (fun h72 => ?_) (fun h72 => ?_)
      · exact absurd rfl h72
      · refine b_vret dX4_answer_75 rfl ⟨rfl, ?_⟩
        rw [mAnswer_n1 h31 hs63]
        exact ⟨hL, hF, cKeep.rf⟩
    · have hs63b := mSec_some hR.1 hj hs63
      refine b_topi (y := nI a) rfl ?_
      refine b_istore dX4_answer_66 (by decide) ?_
      refine b_iload dX4_answer_68 rfl ?_
      refine b_bipush (v := (-9)) dX4_answer_70 (by decide) ?_
      refine b_icmp_ne (tgt := 76) dX4_answer_72 (by decide) (fun h72 => ?_) (fun h72 => ?_)
      · refine b_aload_n dX4_answer_76 rfl ?_
        refine b_getr dX4_answer_77 gf_X4_31 rfl rfl ?_
        refine b_iload dX4_answer_80 rfl ?_
        refine b_iload dX4_answer_82 rfl ?_
        refine b_iload dX4_answer_84 rfl ?_
        refine b_callSN1 dX4_answer_86 lk_X4_93 ⟨Nat.le_of_ble_eq_true rfl, Nat.le_of_ble_eq_true rfl⟩ (Nat.le_of_ble_eq_true rfl) (s_X7_bit) (fun r w86 h86 => ?_)
        obtain ⟨rfl, rfl⟩ := h86
        refine b_iconst (v := (-1)) dX4_answer_89 (by decide) ?_
        refine b_ixor dX4_answer_90 ?_
        refine b_iand dX4_answer_91 ?_
        refine b_callV2 dX4_answer_92 lk_X4_108 rfl rfl rfl ⟨Nat.le_of_ble_eq_true rfl, Nat.le_of_ble_eq_true rfl⟩ (Nat.le_of_ble_eq_true rfl) (s_X2_secondAmong hR hi) (fun r w92 h92 => ?_)
        obtain ⟨rfl, rfl⟩ := h92
        rw [sec2_eq hR.1 hi hj hs63b.1 hF]
        rcases hs92 : mSec g i (nI j) (nI a) (nI d) with _ | b
        · refine b_topi (y := -9) rfl ?_
          refine b_istore dX4_answer_95 (by decide) ?_
          refine b_iload dX4_answer_97 rfl ?_
          refine b_bipush (v := (-9)) dX4_answer_99 (by decide) ?_
          refine b_icmp_ne (tgt := 105) dX4_answer_101 (by decide) (fun h101 => ?_) (fun h101 => ?_)
          · exact absurd rfl h101
          · refine b_vret dX4_answer_104 rfl ⟨rfl, ?_⟩
            rw [mAnswer_n2 h31 hs63 hs92]
            exact ⟨hL, hF, cKeep.rf⟩
        · have hs92b := mSec_some hR.1 hi hs92
          obtain ⟨x, x1, x9, ex⟩ := hR.1.2.2.1 a hs63b.1
          obtain ⟨y, y1, y9, ey⟩ := hR.1.2.2.1 b hs92b.1
          have hab : a ≠ b := fun e => hs92b.2.2.2.1 (by rw [e])
          have hbs := SInv.two hS hm0 hs63b.1 hs92b.1 hab hs63b.2.2.2.2.2.2 hs92b.2.2.2.2.2.2 mg tg hm2 ht2
          refine b_topi (y := nI b) rfl ?_
          refine b_istore dX4_answer_95 (by decide) ?_
          refine b_iload dX4_answer_97 rfl ?_
          refine b_bipush (v := (-9)) dX4_answer_99 (by decide) ?_
          refine b_icmp_ne (tgt := 105) dX4_answer_101 (by decide) (fun h101 => ?_) (fun h101 => ?_)
          · refine b_aload_n dX4_answer_105 rfl ?_
            refine b_dup dX4_answer_106 rfl ?_
            refine b_geti dX4_answer_107 gf_X4_83 rfl rfl ?_
            refine b_iload dX4_answer_110 rfl ?_
            refine b_callSN1 dX4_answer_112 lk_X4_93 ⟨Nat.le_of_ble_eq_true rfl, Nat.le_of_ble_eq_true rfl⟩ (Nat.le_of_ble_eq_true rfl) (s_X7_bit) (fun r w112 h112 => ?_)
            obtain ⟨rfl, rfl⟩ := h112
            refine b_iload dX4_answer_115 rfl ?_
            refine b_callSN1 dX4_answer_117 lk_X4_93 ⟨Nat.le_of_ble_eq_true rfl, Nat.le_of_ble_eq_true rfl⟩ (Nat.le_of_ble_eq_true rfl) (s_X7_bit) (fun r w117 h117 => ?_)
            obtain ⟨rfl, rfl⟩ := h117
            refine b_ior dX4_answer_120 ?_
            refine b_iconst (v := (-1)) dX4_answer_121 (by decide) ?_
            refine b_ixor dX4_answer_122 ?_
            refine b_iand dX4_answer_123 ?_
            refine b_puti dX4_answer_124 gf_X4_83 gs_X4_10 rfl rfl ?_
            refine b_aload_n dX4_answer_127 rfl ?_
            refine b_iload dX4_answer_128 rfl ?_
            refine b_iload dX4_answer_130 rfl ?_
            refine b_iload_n dX4_answer_132 rfl ?_
            refine b_callV3 dX4_answer_133 lk_X4_112 rfl rfl rfl ⟨Nat.le_of_ble_eq_true rfl, Nat.le_of_ble_eq_true rfl⟩ (Nat.le_of_ble_eq_true rfl) (s_X4_shoot (a := a) (b := b) (x := x) (y := y) (t := t) (by omega) (by omega) x9 y9 (((hR.2.2 a hs63b.1).2.1).trans ex) (((hR.2.2 b hs92b.1).2.1).trans ey) tw hbs.2) (fun r w133 h133 => ?_)
            obtain ⟨rfl, rfl⟩ := h133
            refine b_istore dX4_answer_136 (by decide) ?_
            refine b_aload_n dX4_answer_138 rfl ?_
            refine b_getr dX4_answer_139 gf_X4_12 rfl rfl ?_
            refine b_iload_n dX4_answer_142 rfl ?_
            refine b_iload dX4_answer_143 rfl ?_
            refine b_iload dX4_answer_145 rfl ?_
            refine b_iload dX4_answer_147 rfl ?_
            refine b_iload dX4_answer_149 rfl ?_
            refine b_iload dX4_answer_151 rfl ?_
            refine b_callV6 dX4_answer_153 lk_X4_116 rfl rfl rfl ⟨Nat.le_of_ble_eq_true rfl, Nat.le_of_ble_eq_true rfl⟩ (Nat.le_of_ble_eq_true rfl) (s_X1_add (m := m) ((cMeet_16 ..).trans mw) hbs.1) (fun r w153 h153 => ?_)
            obtain ⟨rfl, rfl⟩ := h153
            refine b_vret dX4_answer_156 rfl ⟨rfl, ?_⟩
            rw [mAnswer_y h31 hs63 hs92]
            exact cMeet_rel hR.1 hs63b.1 hs92b.1 hab x9 y9 ex ey (fun p hp => (hR.2.2 p hp).2.1) (fun p hp => (hR.2.2 p hp).2.2.1) mg (by omega) tg tw (by omega) hb hh hF
          · exact absurd h101 (nI_ne9 (by omega))
      · exact absurd h72 (nI_ne9 (by omega))
  · refine b_vret dX4_answer_34 rfl ⟨rfl, ?_⟩
    rw [mAnswer_no h31]
    exact ⟨hL, hF, cKeep.rf⟩
set_option maxRecDepth 100000 in
set_option maxHeartbeats 4000000 in
theorem s_X4_answer_24 {w g : kW} {n m0 i j k d : Nat} (hR : RP n w g) (hS : SInv n m0 g) (hm0 : m0 ≤ 177) (hL : RLg n w g) (hF : RF n (nI d) w g) (hk : k < 180) (hi : i < n) (hj : j < n) (ei : w.1 25 k = nI i) (ej : w.1 26 k = nI j) : Spec shC yX4_answer cX4_answer 10 none 2 52 [.ref 15, .ref 24, .int (nI k), .int (nI d)] w (fun r w' => r = none ∧ RLg n w' (mAnswer g i j (w.1 28 k) (nI d)) ∧ RF n (nI d) w' (mAnswer g i j (w.1 28 k) (nI d)) ∧ cKeep w w') := by
  have hn := hR.1.le
  obtain ⟨m, t, hm2, ht2, mg, mw, tg, tw, hb, hh⟩ := id hL
  obtain ⟨hh1, hh2, hh3, ehh⟩ := hR.1.2.2.1 j hj
  obtain ⟨kd, hkd, ekd⟩ := hR.1.2.2.2.2.2 j hj
  refine k_enter pn_X4 (Nat.le_of_ble_eq_true rfl) ?_
  refine b_aload_n dX4_answer_0 rfl ?_
  refine b_getr dX4_answer_1 gf_X4_96 rfl rfl ?_
  refine b_iload_n dX4_answer_4 rfl ?_
  refine b_ialdN dX4_answer_5 rfl ⟨by omega, by decide⟩ ?_
  refine b_topi (y := nI i) ei ?_
  refine b_istore dX4_answer_6 (by decide) ?_
  refine b_aload_n dX4_answer_8 rfl ?_
  refine b_getr dX4_answer_9 gf_X4_99 rfl rfl ?_
  refine b_iload_n dX4_answer_12 rfl ?_
  refine b_ialdN dX4_answer_13 rfl ⟨by omega, by decide⟩ ?_
  refine b_topi (y := nI j) ej ?_
  refine b_istore dX4_answer_14 (by decide) ?_
  refine b_aload_n dX4_answer_16 rfl ?_
  refine b_getr dX4_answer_17 gf_X4_102 rfl rfl ?_
  refine b_iload_n dX4_answer_20 rfl ?_
  refine b_ialdN dX4_answer_21 rfl ⟨by omega, by decide⟩ ?_
  refine b_aload_n dX4_answer_22 rfl ?_
  refine b_getr dX4_answer_23 gf_X4_31 rfl rfl ?_
  refine b_iload dX4_answer_26 rfl ?_
  refine b_callV1 dX4_answer_28 lk_X4_105 rfl rfl rfl ⟨Nat.le_of_ble_eq_true rfl, Nat.le_of_ble_eq_true rfl⟩ (Nat.le_of_ble_eq_true rfl) (s_X2_touchiness (by omega) hh2 hh3 hkd ((hR.2.2 j hj).2.1.trans ehh) ((hR.2.2 j hj).1.trans ekd)) (fun r w28 h28 => ?_)
  obtain ⟨rfl, rfl⟩ := h28
  refine b_topi (y := mTouch g j) (by rw [mTouch_c, ehh, ekd]) ?_
  refine b_icmp_ge (tgt := 35) dX4_answer_31 (by decide) (fun h31 => ?_) (fun h31 => ?_)
  · refine b_aload_n dX4_answer_35 rfl ?_
    refine b_geti dX4_answer_36 gf_X4_83 rfl rfl ?_
    refine b_iload dX4_answer_39 rfl ?_
    refine b_callSN1 dX4_answer_41 lk_X4_93 ⟨Nat.le_of_ble_eq_true rfl, Nat.le_of_ble_eq_true rfl⟩ (Nat.le_of_ble_eq_true rfl) (s_X7_bit) (fun r w41 h41 => ?_)
    obtain ⟨rfl, rfl⟩ := h41
    refine b_iload dX4_answer_44 rfl ?_
    refine b_callSN1 dX4_answer_46 lk_X4_93 ⟨Nat.le_of_ble_eq_true rfl, Nat.le_of_ble_eq_true rfl⟩ (Nat.le_of_ble_eq_true rfl) (s_X7_bit) (fun r w46 h46 => ?_)
    obtain ⟨rfl, rfl⟩ := h46
    refine b_ior dX4_answer_49 ?_
    refine b_iconst (v := (-1)) dX4_answer_50 (by decide) ?_
    refine b_ixor dX4_answer_51 ?_
    refine b_iand dX4_answer_52 ?_
    refine b_istore dX4_answer_53 (by decide) ?_
    refine b_aload_n dX4_answer_55 rfl ?_
    refine b_getr dX4_answer_56 gf_X4_31 rfl rfl ?_
    refine b_iload dX4_answer_59 rfl ?_
    refine b_iload dX4_answer_61 rfl ?_
    refine b_callV2 dX4_answer_63 lk_X4_108 rfl rfl rfl ⟨Nat.le_of_ble_eq_true rfl, Nat.le_of_ble_eq_true rfl⟩ (Nat.le_of_ble_eq_true rfl) (s_X2_secondAmong hR hj) (fun r w63 h63 => ?_)
    obtain ⟨rfl, rfl⟩ := h63
    rw [sec1_eq hR.1 hi hj hF]
    rcases hs63 : mSec g j (nI i) (-9) (nI d) with _ | a
    · refine b_topi (y := -9) rfl ?_
      refine b_istore dX4_answer_66 (by decide) ?_
      refine b_iload dX4_answer_68 rfl ?_
      refine b_bipush (v := (-9)) dX4_answer_70 (by decide) ?_
      refine b_icmp_ne (tgt := 76) dX4_answer_72 (by decide) (fun h72 => ?_) (fun h72 => ?_)
      · exact absurd rfl h72
      · refine b_vret dX4_answer_75 rfl ⟨rfl, ?_⟩
        rw [mAnswer_n1 h31 hs63]
        exact ⟨hL, hF, cKeep.rf⟩
    · have hs63b := mSec_some hR.1 hj hs63
      refine b_topi (y := nI a) rfl ?_
      refine b_istore dX4_answer_66 (by decide) ?_
      refine b_iload dX4_answer_68 rfl ?_
      refine b_bipush (v := (-9)) dX4_answer_70 (by decide) ?_
      refine b_icmp_ne (tgt := 76) dX4_answer_72 (by decide) (fun h72 => ?_) (fun h72 => ?_)
      · refine b_aload_n dX4_answer_76 rfl ?_
        refine b_getr dX4_answer_77 gf_X4_31 rfl rfl ?_
        refine b_iload dX4_answer_80 rfl ?_
        refine b_iload dX4_answer_82 rfl ?_
        refine b_iload dX4_answer_84 rfl ?_
        refine b_callSN1 dX4_answer_86 lk_X4_93 ⟨Nat.le_of_ble_eq_true rfl, Nat.le_of_ble_eq_true rfl⟩ (Nat.le_of_ble_eq_true rfl) (s_X7_bit) (fun r w86 h86 => ?_)
        obtain ⟨rfl, rfl⟩ := h86
        refine b_iconst (v := (-1)) dX4_answer_89 (by decide) ?_
        refine b_ixor dX4_answer_90 ?_
        refine b_iand dX4_answer_91 ?_
        refine b_callV2 dX4_answer_92 lk_X4_108 rfl rfl rfl ⟨Nat.le_of_ble_eq_true rfl, Nat.le_of_ble_eq_true rfl⟩ (Nat.le_of_ble_eq_true rfl) (s_X2_secondAmong hR hi) (fun r w92 h92 => ?_)
        obtain ⟨rfl, rfl⟩ := h92
        rw [sec2_eq hR.1 hi hj hs63b.1 hF]
        rcases hs92 : mSec g i (nI j) (nI a) (nI d) with _ | b
        · refine b_topi (y := -9) rfl ?_
          refine b_istore dX4_answer_95 (by decide) ?_
          refine b_iload dX4_answer_97 rfl ?_
          refine b_bipush (v := (-9)) dX4_answer_99 (by decide) ?_
          refine b_icmp_ne (tgt := 105) dX4_answer_101 (by decide) (fun h101 => ?_) (fun h101 => ?_)
          · exact absurd rfl h101
          · refine b_vret dX4_answer_104 rfl ⟨rfl, ?_⟩
            rw [mAnswer_n2 h31 hs63 hs92]
            exact ⟨hL, hF, cKeep.rf⟩
        · have hs92b := mSec_some hR.1 hi hs92
          obtain ⟨x, x1, x9, ex⟩ := hR.1.2.2.1 a hs63b.1
          obtain ⟨y, y1, y9, ey⟩ := hR.1.2.2.1 b hs92b.1
          have hab : a ≠ b := fun e => hs92b.2.2.2.1 (by rw [e])
          have hbs := SInv.two hS hm0 hs63b.1 hs92b.1 hab hs63b.2.2.2.2.2.2 hs92b.2.2.2.2.2.2 mg tg hm2 ht2
          refine b_topi (y := nI b) rfl ?_
          refine b_istore dX4_answer_95 (by decide) ?_
          refine b_iload dX4_answer_97 rfl ?_
          refine b_bipush (v := (-9)) dX4_answer_99 (by decide) ?_
          refine b_icmp_ne (tgt := 105) dX4_answer_101 (by decide) (fun h101 => ?_) (fun h101 => ?_)
          · refine b_aload_n dX4_answer_105 rfl ?_
            refine b_dup dX4_answer_106 rfl ?_
            refine b_geti dX4_answer_107 gf_X4_83 rfl rfl ?_
            refine b_iload dX4_answer_110 rfl ?_
            refine b_callSN1 dX4_answer_112 lk_X4_93 ⟨Nat.le_of_ble_eq_true rfl, Nat.le_of_ble_eq_true rfl⟩ (Nat.le_of_ble_eq_true rfl) (s_X7_bit) (fun r w112 h112 => ?_)
            obtain ⟨rfl, rfl⟩ := h112
            refine b_iload dX4_answer_115 rfl ?_
            refine b_callSN1 dX4_answer_117 lk_X4_93 ⟨Nat.le_of_ble_eq_true rfl, Nat.le_of_ble_eq_true rfl⟩ (Nat.le_of_ble_eq_true rfl) (s_X7_bit) (fun r w117 h117 => ?_)
            obtain ⟨rfl, rfl⟩ := h117
            refine b_ior dX4_answer_120 ?_
            refine b_iconst (v := (-1)) dX4_answer_121 (by decide) ?_
            refine b_ixor dX4_answer_122 ?_
            refine b_iand dX4_answer_123 ?_
            refine b_puti dX4_answer_124 gf_X4_83 gs_X4_10 rfl rfl ?_
            refine b_aload_n dX4_answer_127 rfl ?_
            refine b_iload dX4_answer_128 rfl ?_
            refine b_iload dX4_answer_130 rfl ?_
            refine b_iload_n dX4_answer_132 rfl ?_
            refine b_callV3 dX4_answer_133 lk_X4_112 rfl rfl rfl ⟨Nat.le_of_ble_eq_true rfl, Nat.le_of_ble_eq_true rfl⟩ (Nat.le_of_ble_eq_true rfl) (s_X4_shoot (a := a) (b := b) (x := x) (y := y) (t := t) (by omega) (by omega) x9 y9 (((hR.2.2 a hs63b.1).2.1).trans ex) (((hR.2.2 b hs92b.1).2.1).trans ey) tw hbs.2) (fun r w133 h133 => ?_)
            obtain ⟨rfl, rfl⟩ := h133
            refine b_istore dX4_answer_136 (by decide) ?_
            refine b_aload_n dX4_answer_138 rfl ?_
            refine b_getr dX4_answer_139 gf_X4_12 rfl rfl ?_
            refine b_iload_n dX4_answer_142 rfl ?_
            refine b_iload dX4_answer_143 rfl ?_
            refine b_iload dX4_answer_145 rfl ?_
            refine b_iload dX4_answer_147 rfl ?_
            refine b_iload dX4_answer_149 rfl ?_
            refine b_iload dX4_answer_151 rfl ?_
            refine b_callV6 dX4_answer_153 lk_X4_116 rfl rfl rfl ⟨Nat.le_of_ble_eq_true rfl, Nat.le_of_ble_eq_true rfl⟩ (Nat.le_of_ble_eq_true rfl) (s_X1_add (m := m) ((cMeet_16 ..).trans mw) hbs.1) (fun r w153 h153 => ?_)
            obtain ⟨rfl, rfl⟩ := h153
            refine b_vret dX4_answer_156 rfl ⟨rfl, ?_⟩
            rw [mAnswer_y h31 hs63 hs92]
            exact cMeet_rel hR.1 hs63b.1 hs92b.1 hab x9 y9 ex ey (fun p hp => (hR.2.2 p hp).2.1) (fun p hp => (hR.2.2 p hp).2.2.1) mg (by omega) tg tw (by omega) hb hh hF
          · exact absurd h101 (nI_ne9 (by omega))
      · exact absurd h72 (nI_ne9 (by omega))
  · refine b_vret dX4_answer_34 rfl ⟨rfl, ?_⟩
    rw [mAnswer_no h31]
    exact ⟨hL, hF, cKeep.rf⟩
end
section
/-! ===== new takings are of the dawn; bits of a long ===== -/
def TkX (dawn : Int32) (t t' : Nat) (w v : kW) : Prop := TkExt t t' w v ∧ ∀ k, t ≤ k → k < t' → v.1 19 k = dawn
theorem TkX.rf {dawn : Int32} {t : Nat} {w : kW} (h : w.1 0 23 = nI t) : TkX dawn t t w w := ⟨TkExt.rf h, fun k h1 h2 => by omega⟩
theorem TkX.tr {dawn : Int32} {t t' t'' : Nat} {w v u : kW} (h1 : TkX dawn t t' w v) (h2 : TkX dawn t' t'' v u) : TkX dawn t t'' w u := ⟨h1.1.tr h2.1, fun k a b => by
  by_cases e : k < t'
  · rw [(h2.1.2.2 k e).2.2.2]; exact h1.2 k a e
  · exact h2.2 k (by omega) b⟩
theorem TkX.row {dawn : Int32} {t t' c k : Nat} {x : Int32} {w v : kW} (h : TkX dawn t t' w v) (hc : c = 0 ∧ k ≠ 23 ∨ 20 ≤ c) : TkX dawn t t' w (kset v c k x) := ⟨h.1.row hc, fun j a b => by rw [kset_ne _ _ (by omega)]; exact h.2 j a b⟩
theorem mHurtF_x {w : kW} {t hu y : Nat} {dawn : Int32} (ht : w.1 0 23 = nI t) (ht2 : t < 200) : ∃ t', t' ≤ t + 1 ∧ TkX dawn t t' w (mHurtF w hu y dawn) := by
  simp only [mHurtF]
  split
  · exact ⟨t, by omega, ⟨Nat.le_refl _, ht, fun k hk => ⟨rfl, rfl, rfl, rfl⟩⟩, fun k h1 h2 => by omega⟩
  · refine ⟨t + 1, Nat.le_refl _, ⟨by omega, by rw [kset_eq, ht, nI_1], fun k hk => ?_⟩, fun k h1 h2 => ?_⟩
    · rw [cl_of ht (by omega)]
      have e : ¬ k = t := by omega
      exact ⟨by simp [kset_1, e], by simp [kset_1, e], by simp [kset_1, e], by simp [kset_1, e]⟩
    · rw [cl_of ht (by omega)]
      have e : k = t := by omega
      simp [kset_1, e]
theorem mMeet_x {w : kW} {t a b : Nat} {x y dawn : Int32} (ht : w.1 0 23 = nI t) (ht2 : t < 200) : ∃ t', t' ≤ t + 1 ∧ TkX dawn t t' w (mMeet w a b x y dawn) := by
  have h0 : TkX dawn t t w (mMeet0 w a b x y dawn) := by
    simp only [mMeet0]
    exact (((((((TkX.rf ht).row (by omega)).row (by omega)).row (by omega)).row (by omega)).row (by omega)).row (by omega)).row (by omega)
  simp only [mMeet]
  split
  · exact ⟨t, by omega, h0.row (by omega)⟩
  · split
    · obtain ⟨t', h1, h2⟩ := mHurtF_x (hu := b) (y := a) (dawn := dawn) h0.1.2.1 ht2
      exact ⟨t', h1, ((h0.tr h2).row (by omega)).row (by omega)⟩
    · obtain ⟨t', h1, h2⟩ := mHurtF_x (hu := a) (y := b) (dawn := dawn) h0.1.2.1 ht2
      exact ⟨t', h1, ((h0.tr h2).row (by omega)).row (by omega)⟩
theorem mAnswer_x {w : kW} {t i j : Nat} {deg dawn : Int32} (ht : w.1 0 23 = nI t) (ht2 : t < 200) : ∃ t', t' ≤ t + 1 ∧ TkX dawn t t' w (mAnswer w i j deg dawn) := by
  simp only [mAnswer]
  split
  · split
    · exact ⟨t, by omega, TkX.rf ht⟩
    · split
      · exact ⟨t, by omega, TkX.rf ht⟩
      · exact mMeet_x ht ht2
  · exact ⟨t, by omega, TkX.rf ht⟩
theorem mAnswer_x2 {w : kW} {n m0 t i j : Nat} {deg dawn : Int32} (h : SInv n m0 w) (hm0 : m0 ≤ 177) (hi : i < n) (hj : j < n) (ht : w.1 0 23 = nI t) (ht2 : t < 200) : ∃ t', t' < 200 ∧ TkX dawn t t' w (mAnswer w i j deg dawn) := by
  obtain ⟨t', h1, h2⟩ := mAnswer_x (i := i) (j := j) (deg := deg) (dawn := dawn) ht ht2
  obtain ⟨t2, e1, e2⟩ := (mAnswer_inv (deg := deg) (dawn := dawn) h hm0 hi hj).t hm0
  have e3 := nI_inj (by omega) (by omega) (e1.symm.trans h2.1.2.1)
  subst e3
  exact ⟨t2, e2, h2⟩
theorem mTold_x {w : kW} {n c m0 d t : Nat} (h : SInv n m0 (kset w 0 22 0)) (hI : Ins n c w) (hm0 : m0 ≤ 177) (ht : w.1 0 23 = nI t) (ht2 : t < 200) : ∀ k, k ≤ c → ∃ t', t' < 200 ∧ TkX (nI d) t t' w (mTold w d k) := by
  intro k
  induction k with
  | zero => intro _; exact ⟨t, ht2, (TkX.rf ht).row (by omega)⟩
  | succ k ih =>
    intro hk
    obtain ⟨t', g1, g2⟩ := ih (by omega)
    obtain ⟨v1, v2⟩ := mTold_inv (d := d) h hI hm0 k (by omega)
    simp only [mTold]
    split
    · obtain ⟨a, b, dd, g, h1, h2, h3, h4, h5, h6, h7, h8, h9, h10⟩ := (hI.keep v2).2.2 k (by omega)
      have hn := v1.1.le
      rw [cl_of h7 (by omega), cl_of h8 (by omega)]
      obtain ⟨t'', e1, e2⟩ := mAnswer_x2 (deg := (mTold w d k).1 14 k) (dawn := nI d) v1 hm0 h1 h2 g2.1.2.1 g1
      exact ⟨t'', e1, g2.tr e2⟩
    · exact ⟨t', g1, g2⟩
theorem mTk_x {w : kW} {n m0 d t b : Nat} (h : SInv n m0 w) (hm0 : m0 ≤ 177) (ht : w.1 0 23 = nI t) (ht2 : t < 200) (hb : b ≤ t) : ∀ k, k ≤ b → ∃ t', t' < 200 ∧ TkX (nI d) t t' w (mTk w d k) := by
  intro k
  induction k with
  | zero => intro _; exact ⟨t, ht2, TkX.rf ht⟩
  | succ k ih =>
    intro hk
    obtain ⟨t', g1, g2⟩ := ih (by omega)
    obtain ⟨v1, v2, -⟩ := mTk_inv (d := d) h hm0 ht ht2 hb k (by omega)
    simp only [mTk]
    split
    · obtain ⟨hP, m, t2, c1, c2, c3, c4, c5⟩ := id h
      have e3 := nI_inj (by have := bs6_le (w.1 0 22); omega) (by omega) (c2.symm.trans ht)
      subst e3
      obtain ⟨a, b', h1, h2, h3, h4⟩ := c5 k (by omega)
      obtain ⟨r1, r2, r3, r4⟩ := g2.1.2.2 k (by omega)
      have hn := v1.1.le
      rw [cl_of (r1.trans h3) (by omega), cl_of (r2.trans h4) (by omega)]
      obtain ⟨t'', e1, e2⟩ := mAnswer_x2 (deg := (mTk w d k).1 18 k) (dawn := nI d) v1 hm0 h1 h2 g2.1.2.1 g1
      exact ⟨t'', e1, g2.tr e2⟩
    · exact ⟨t', g1, g2⟩
theorem mTk_skip {w : kW} {d t q : Nat} (hq : ∀ k, k < q → ∃ x, x < 60 ∧ w.1 19 k = nI x ∧ x + 1 < d) (hd : d < 60) : ∀ k, k ≤ q → mTk w d k = w := by
  intro k
  induction k with
  | zero => exact fun _ => rfl
  | succ k ih =>
    intro hk
    have e := ih (by omega)
    obtain ⟨x, x0, x1, x2⟩ := hq k (by omega)
    rw [← mTk_no (by rw [e, x1]; intro h; have : nI d = nI (d - 1 + 1) := by rw [Nat.sub_add_cancel (by omega)]
                     rw [this, ← nI_1, Int32.add_sub_cancel] at h
                     have := nI_inj (by omega) (by omega) h
                     omega), e]
def btL (x : Int64) (k : Nat) : Bool := x.toBitVec.getLsbD k
theorem btL_ext {x y : Int64} (h : ∀ i, i < 64 → btL x i = btL y i) : x = y := Int64.toBitVec_inj.mp (BitVec.eq_of_getLsbD_eq (fun i hi => h i hi))
theorem btL_or (x y : Int64) (i : Nat) : btL (x ||| y) i = (btL x i || btL y i) := by unfold btL; rw [Int64.toBitVec_or, BitVec.getLsbD_or]
theorem btL_and (x y : Int64) (i : Nat) : btL (x &&& y) i = (btL x i && btL y i) := by unfold btL; rw [Int64.toBitVec_and, BitVec.getLsbD_and]
theorem btL_0 (i : Nat) : btL 0 i = false := BitVec.getLsbD_zero
theorem sL_l : ∀ n, n < 64 → (((nI n).toInt64 &&& 63).toBitVec.smod 64).toNat = n := by decide +kernel
theorem btL_1 : ∀ i, i < 64 → btL 1 i = decide (i = 0) := by decide +kernel
theorem btL_one {k i : Nat} (hk : k < 64) (hi : i < 64) : btL (1 <<< ((nI k).toInt64 &&& 63)) i = decide (i = k) := by
  have e : btL (1 <<< ((nI k).toInt64 &&& 63)) i = (decide (k ≤ i) && btL 1 (i - k)) := by
    unfold btL
    rw [Int64.toBitVec_shiftLeft]
    show ((1 : Int64).toBitVec <<< (((nI k).toInt64 &&& 63).toBitVec.smod 64).toNat).getLsbD i = _
    rw [sL_l k hk, BitVec.getLsbD_shiftLeft]
    rcases Nat.lt_or_ge i k with h | h
    · simp [h, Nat.not_le.mpr h]
    · simp [hi, h, Nat.not_lt.mpr h]
  rw [e, btL_1 _ (by omega)]
  by_cases h : k ≤ i
  · simp only [h, decide_true, Bool.true_and]
    by_cases h2 : i = k
    · simp [h2]
    · simp [h2]; omega
  · simp [h]; omega
theorem btL_test (x : Int64) {k : Nat} (hk : k < 64) : (x >>> ((nI k).toInt64 &&& 63)) &&& 1 = 1 ↔ btL x k = true := by
  have e0 : btL (x >>> ((nI k).toInt64 &&& 63)) 0 = btL x k := by
    unfold btL
    rw [Int64.toBitVec_shiftRight]
    show (x.toBitVec.sshiftRight (((nI k).toInt64 &&& 63).toBitVec.smod 64).toNat).getLsbD 0 = _
    rw [sL_l k hk, BitVec.getLsbD_sshiftRight]
    simp [hk]
  constructor
  · intro h
    have h0 : btL ((x >>> ((nI k).toInt64 &&& 63)) &&& 1) 0 = true := by rw [h]; decide
    rw [btL_and, e0] at h0
    simpa using (Bool.and_eq_true _ _ ▸ h0 : _ ∧ _).1
  · intro h
    apply btL_ext
    intro i hi
    rw [btL_and]
    by_cases e : i = 0
    · subst e; rw [e0, h]; decide
    · rw [btL_1 i hi]; simp [e]
theorem lg_cmp0 {x y : Int64} : lg_cmp x y = 0 ↔ x = y := by
  unfold lg_cmp
  by_cases h1 : x > y
  · rw [if_pos h1]
    constructor
    · intro h; exact absurd h (by decide)
    · intro h; subst h; exact absurd h1 (by rw [gt_iff_lt, Int64.lt_iff_toInt_lt]; omega)
  · rw [if_neg h1]
    by_cases h2 : x = y
    · rw [if_pos h2]; exact ⟨fun _ => h2, fun _ => rfl⟩
    · rw [if_neg h2]; exact ⟨fun h => absurd h (by decide), fun h => absurd h h2⟩
theorem nI_predS {d : Nat} : nI (d + 1) - 1 = nI d := nI_pred d
end
section
/-! ===== begin ===== -/
def cK2 (w w' : kW) : Prop := ∀ c, (c < 15 ∨ 29 < c) → w'.1 c = w.1 c
theorem cKeep.k2 {w w' : kW} (h : cKeep w w') : cK2 w w' := h.1
theorem cK2.tr {w v u : kW} (h1 : cK2 w v) (h2 : cK2 v u) : cK2 w u := fun c h => (h2 c h).trans (h1 c h)
theorem k_up_up {α : Type} (f : Nat → Nat → α) (c k : Nat) (a b : α) : k_up (k_up f c k a) c k b = k_up f c k b := by
  funext c' k'
  simp only [k_up]
  split
  · split <;> rfl
  · rfl
def dayBits (c : Nat) (ins : Int32) (w : kW) (D : Int64) : Prop := ∀ i, i < 64 → (btL D i = true ↔ ∃ k, k < c ∧ bt ins k = true ∧ w.1 9 k = nI i)
def beg0 (w : kW) (ins arr : Int32) (D : Int64) : kW := ((kset (kset w 15 7 ins) 15 9 arr).1, k_up w.2 15 8 D)
def begW (w : kW) (ins arr : Int32) (D : Int64) : kW := fillF (kset (kset (kset (kset (beg0 w ins arr D) 16 0 0) 24 0 0) 15 5 0) 15 1 0) 29 0 6
set_option maxRecDepth 100000 in
set_option maxHeartbeats 4000000 in
theorem s_X4_begin_lp {w : kW} {c : Nat} {ins arr : Int32} (hc : w.1 6 0 = nI c) (hc9 : c ≤ 9) (hd : ∀ k, k < c → ∃ d, d < 30 ∧ w.1 9 k = nI d) : ∀ q k, k + q = c → ∀ D : Int64, dayBits k ins w D → BS shC RX4 cX4_begin 4 none 1 23 (fun r w' => r = none ∧ ∃ D, dayBits c ins w D ∧ begW w ins arr D = w') 17 [(0, .ref 15), (1, .int ins), (2, .int arr), (3, .int (nI k))] [] (beg0 w ins arr D) := by
  intro q
  induction q with
  | zero =>
    intro k hk D hD
    refine b_iload_n dX4_begin_17 rfl ?_
    refine b_aload_n dX4_begin_18 rfl ?_
    refine b_getr dX4_begin_19 gf_X4_35 rfl rfl ?_
    refine b_geti dX4_begin_22 gf_X4_56 rfl rfl ?_
    refine b_topi (y := nI c) hc ?_
    refine b_icmp_ge (tgt := 65) dX4_begin_25 (by decide) (fun h25 => ?_) (fun h25 => ?_)
    · refine b_aload_n dX4_begin_65 rfl ?_
      refine b_getr dX4_begin_66 gf_X4_12 rfl rfl ?_
      refine b_iconst (v := 0) dX4_begin_69 (by decide) ?_
      refine b_puti dX4_begin_70 gf_X4_66 gs_X1_0 rfl rfl ?_
      refine b_aload_n dX4_begin_73 rfl ?_
      refine b_getr dX4_begin_74 gf_X4_23 rfl rfl ?_
      refine b_iconst (v := 0) dX4_begin_77 (by decide) ?_
      refine b_puti dX4_begin_78 gf_X4_56 gs_X0_0 rfl rfl ?_
      refine b_aload_n dX4_begin_81 rfl ?_
      refine b_iconst (v := 0) dX4_begin_82 (by decide) ?_
      refine b_puti dX4_begin_83 gf_X4_67 gs_X4_5 rfl rfl ?_
      refine b_aload_n dX4_begin_86 rfl ?_
      refine b_iconst (v := 0) dX4_begin_87 (by decide) ?_
      refine b_puti dX4_begin_88 gf_X4_70 gs_X4_1 rfl rfl ?_
      refine b_aload_n dX4_begin_91 rfl ?_
      refine b_getr dX4_begin_92 gf_X4_27 rfl rfl ?_
      refine b_iconst (v := 0) dX4_begin_95 (by decide) ?_
      refine b_callS2 dX4_begin_96 lk_X4_73 ⟨Nat.le_of_ble_eq_true rfl, Nat.le_of_ble_eq_true rfl⟩ (Nat.le_of_ble_eq_true rfl) (s_fill (N := 6) rfl (by decide)) (fun r w96 h96 => ?_)
      obtain ⟨rfl, rfl⟩ := h96
      have e : k = c := by omega
      subst e
      exact b_vret dX4_begin_99 rfl ⟨rfl, D, hD, rfl⟩
    · exact absurd (nI_le (by omega) (by omega)) h25
  | succ q ih =>
    intro k hk D hD
    refine b_iload_n dX4_begin_17 rfl ?_
    refine b_aload_n dX4_begin_18 rfl ?_
    refine b_getr dX4_begin_19 gf_X4_35 rfl rfl ?_
    refine b_geti dX4_begin_22 gf_X4_56 rfl rfl ?_
    refine b_topi (y := nI c) hc ?_
    refine b_icmp_ge (tgt := 65) dX4_begin_25 (by decide) (fun h25 => ?_) (fun h25 => ?_)
    · exact absurd h25 (nI_ge (by omega) (by omega))
    · refine b_aload_n dX4_begin_28 rfl ?_
      refine b_geti dX4_begin_29 gf_X4_45 rfl rfl ?_
      refine b_topi (y := ins) rfl ?_
      refine b_iload_n dX4_begin_32 rfl ?_
      refine b_callSN2 dX4_begin_33 lk_X4_59 ⟨Nat.le_of_ble_eq_true rfl, Nat.le_of_ble_eq_true rfl⟩ (Nat.le_of_ble_eq_true rfl) (s_X7_in (by omega)) (fun r w33 h33 => ?_)
      obtain ⟨rfl, h33⟩ := h33
      rcases h33 with ⟨rfl, h33⟩ | ⟨rfl, h33⟩
      · refine b_if_eq (tgt := 59) dX4_begin_36 (by decide) (fun h36 => absurd h36 (by decide)) (fun h36 => ?_)
        refine b_aload_n dX4_begin_39 rfl ?_
        refine b_dup dX4_begin_40 rfl ?_
        refine b_getl dX4_begin_41 gf_X4_52 rfl rfl ?_
        refine b_topl (y := D) rfl ?_
        refine b_lconst (v := 1) dX4_begin_44 (by decide) ?_
        refine b_aload_n dX4_begin_45 rfl ?_
        refine b_getr dX4_begin_46 gf_X4_35 rfl rfl ?_
        refine b_getr dX4_begin_49 gf_X4_63 rfl rfl ?_
        refine b_iload_n dX4_begin_52 rfl ?_
        refine b_ialdN dX4_begin_53 rfl ⟨by omega, by decide⟩ ?_
        obtain ⟨dd, dd1, dd2⟩ := hd k (by omega)
        refine b_topi (y := nI dd) dd2 ?_
        refine b_lshl dX4_begin_54 ?_
        refine b_lor dX4_begin_55 ?_
        refine b_putl dX4_begin_56 gf_X4_52 gs_X4_8 rfl rfl ?_
        refine b_iinc dX4_begin_59 rfl (nI_inc k) (by decide) ?_
        refine b_goto (tgt := 17) dX4_begin_62 (by decide) ?_
        refine b_sub [1, 2, 3, 0] rfl ?_
        refine b_wd (w' := beg0 w ins arr (D ||| 1 <<< ((nI dd).toInt64 &&& 63))) (by show (_, k_up (k_up w.2 15 8 D) 15 8 _) = _; rw [k_up_up]; rfl) ?_
        refine ih (k + 1) (by omega) _ (fun i hi => ?_)
        rw [btL_or, btL_one (by omega) hi, Bool.or_eq_true, hD i hi, decide_eq_true_eq]
        constructor
        · rintro (⟨j, j1, j2, j3⟩ | rfl)
          · exact ⟨j, by omega, j2, j3⟩
          · exact ⟨k, by omega, h33, dd2⟩
        · rintro ⟨j, j1, j2, j3⟩
          by_cases e : j = k
          · subst e
            exact Or.inr (nI_inj (by omega) (by omega) (j3.symm.trans dd2))
          · exact Or.inl ⟨j, by omega, j2, j3⟩
      · refine b_if_eq (tgt := 59) dX4_begin_36 (by decide) (fun h36 => ?_) (fun h36 => absurd h36 (by decide))
        refine b_iinc dX4_begin_59 rfl (nI_inc k) (by decide) ?_
        refine b_goto (tgt := 17) dX4_begin_62 (by decide) ?_
        refine b_sub [1, 2, 3, 0] rfl ?_
        refine ih (k + 1) (by omega) _ (fun i hi => ?_)
        rw [hD i hi]
        constructor
        · rintro ⟨j, j1, j2, j3⟩
          exact ⟨j, by omega, j2, j3⟩
        · rintro ⟨j, j1, j2, j3⟩
          by_cases e : j = k
          · subst e
            exact absurd j2 h33
          · exact ⟨j, by omega, j2, j3⟩
set_option maxRecDepth 100000 in
set_option maxHeartbeats 4000000 in
theorem s_X4_begin {w : kW} {c : Nat} {ins arr : Int32} (hc : w.1 6 0 = nI c) (hc9 : c ≤ 9) (hd : ∀ k, k < c → ∃ d, d < 30 ∧ w.1 9 k = nI d) : Spec shC yX4_begin cX4_begin 4 none 1 23 [.ref 15, .int ins, .int arr] w (fun r w' => r = none ∧ ∃ D, dayBits c ins w D ∧ begW w ins arr D = w') := by
  refine k_enter pn_X4 (Nat.le_of_ble_eq_true rfl) ?_
  refine b_aload_n dX4_begin_0 rfl ?_
  refine b_iload_n dX4_begin_1 rfl ?_
  refine b_puti dX4_begin_2 gf_X4_45 gs_X4_7 rfl rfl ?_
  refine b_aload_n dX4_begin_5 rfl ?_
  refine b_iload_n dX4_begin_6 rfl ?_
  refine b_puti dX4_begin_7 gf_X4_49 gs_X4_9 rfl rfl ?_
  refine b_aload_n dX4_begin_10 rfl ?_
  refine b_lconst (v := 0) dX4_begin_11 (by decide) ?_
  refine b_putl dX4_begin_12 gf_X4_52 gs_X4_8 rfl rfl ?_
  refine b_iconst (v := 0) dX4_begin_15 (by decide) ?_
  refine b_istore_n dX4_begin_16 (by decide) ?_
  refine b_sub [1, 2, 3, 0] rfl ?_
  refine b_wd (w' := beg0 w ins arr 0) rfl ?_
  exact s_X4_begin_lp hc hc9 hd c 0 (by omega) 0 (fun i hi => by rw [btL_0]; simp)
end
section
/-! ===== the dawns ===== -/
def RI (c : Nat) (w g : kW) : Prop := w.1 6 0 = nI c ∧ ∀ k, k < c → w.1 7 k = g.1 11 k ∧ w.1 8 k = g.1 12 k ∧ w.1 9 k = g.1 13 k ∧ w.1 10 k = g.1 14 k
def RM (n c : Nat) (w g : kW) : Prop := (∀ k, k < c → (bt (w.1 15 7) k = true ↔ bt (g.1 0 20) k = false)) ∧ (∀ p, p < n → (bt (w.1 15 9) p = false ↔ g.1 7 p = 0)) ∧ dayBits c (w.1 15 7) w (w.2 15 8)
def QD (d : Nat) (w g : kW) : Prop := ∃ q t, w.1 15 5 = nI q ∧ q ≤ t ∧ t < 200 ∧ g.1 0 23 = nI t ∧ (∀ k, k < q → ∃ x, x < 60 ∧ g.1 19 k = nI x ∧ x + 1 < d) ∧ (∀ k, q ≤ k → k < t → ∃ x, g.1 19 k = nI x ∧ x + 1 = d)
def RD (n c d : Nat) (w g : kW) : Prop := RP n w g ∧ Ins n c g ∧ RI c w g ∧ RM n c w g ∧ DInv n (3 * d) g ∧ RLg n w g ∧ QD d w g
theorem RI.keep {c : Nat} {w w' g g' : kW} (h : RI c w g) (h1 : cK2 w w') (h2 : sKeep g g') : RI c w' g' := by
  unfold RI at *
  rw [h1 6 (by decide), h1 7 (by decide), h1 8 (by decide), h1 9 (by decide), h1 10 (by decide), h2.1 11 (by decide) (by decide), h2.1 12 (by decide) (by decide), h2.1 13 (by decide) (by decide), h2.1 14 (by decide) (by decide)]
  exact h
theorem RM.keep {n c : Nat} {w w' g g' : kW} (h : RM n c w g) (h1 : cKeep w w') (h2 : sKeep g g') : RM n c w' g' := by
  unfold RM dayBits at *
  rw [h1.1 9 (by decide), h1.2.1 7 (by decide) (by decide), h1.2.1 9 (by decide) (by decide), h1.2.2, h2.1 7 (by decide) (by decide), h2.2.1 20 (by decide) (by decide) (by decide)]
  exact h
theorem RMset {n c : Nat} {w g : kW} {v : Int32} (h : RM n c w g) : RM n c (kset w 15 5 v) g := h
theorem RLg.k {n c k : Nat} {w g : kW} {v : Int32} (h : RLg n w g) (hc : c = 15 ∧ k ≠ 1 ∨ c ≤ 14) : RLg n (kset w c k v) g := by
  obtain ⟨m, t, h1, h2, h3, h4, h5, h6, h7, h8⟩ := h
  refine ⟨m, t, h1, h2, h3, by rw [kset_ne _ _ (by omega)]; exact h4, h5, by rw [kset_ne _ _ (by omega)]; exact h6, h7.w (by omega), ?_⟩
  intro p hp
  rw [kset_ne _ _ (by omega)]
  exact h8 p hp
theorem RLg.z {n : Nat} {w g : kW} {v : Int32} (h : RLg n w g) : RLg n w (kset g 0 22 v) := by
  obtain ⟨m, t, h1, h2, h3, h4, h5, h6, h7, h8⟩ := h
  exact ⟨m, t, h1, h2, h3, h4, h5, h6, h7.g (by omega), h8⟩
/-- a dawn on which nobody answers -/
theorem mTold_none {n c d : Nat} {w g : kW} (hI : Ins n c g) (hno : ∀ k, k < c → ¬ (g.1 13 k = nI d - 1 ∧ bt (g.1 0 20) k = false)) : ∀ k, k ≤ c → mTold g d k = kset g 0 22 0 := by
  intro k
  induction k with
  | zero => exact fun _ => rfl
  | succ k ih =>
    intro hk
    have e := ih (by omega)
    rw [← mTold_no (by rw [e]; exact hno k (by omega)), e]
theorem skip_rel {n c d q t : Nat} {w g : kW} (h : RD n c d w g) (hd : d < 60) (hq : w.1 15 5 = nI q) (ht : g.1 0 23 = nI t) (hq2 : q < 200) (ht2 : t < 200) (hqt : q = t) (hno : ∀ k, k < c → ¬ (g.1 13 k = nI d - 1 ∧ bt (g.1 0 20) k = false)) : RD n c (d + 1) w (mDawn c g d) := by
  obtain ⟨h1, h2, h3, h4, h5, h6, q', t', e1, e2, e3, e4, e5, e6⟩ := h
  have a1 := nI_inj (by omega) (by omega) (e1.symm.trans hq)
  have a2 := nI_inj (by omega) (by omega) (e4.symm.trans ht)
  subst a1; subst a2; subst hqt
  have e : mDawn c g d = kset g 0 22 0 := by
    unfold mDawn
    rw [mTold_none (w := w) h2 hno c (Nat.le_refl _), cl_of e4 (by omega)]
    exact mTk_skip (w := kset g 0 22 0) (t := q') (q := q') e5 hd q' (Nat.le_refl _)
  have hk : sKeep g (kset g 0 22 0) := sKeep.rf.num (by decide)
  obtain ⟨d1, d2⟩ := mDawn_inv (c := c) (d := d) h5 (by omega) h2
  rw [e] at d1 ⊢
  refine ⟨h1.keep cKeep.rf hk, h2.keep hk, h3.keep (fun _ _ => rfl) hk, h4.keep cKeep.rf hk, d1.mono (by omega), h6.z, q', q', e1, Nat.le_refl _, e3, e4, fun k hk => ?_, fun k a b => by omega⟩
  obtain ⟨x, x1, x2, x3⟩ := e5 k hk
  exact ⟨x, x1, x2, by omega⟩
theorem RMno {n c d : Nat} {w g : kW} (hI : Ins n c g) (h3 : RI c w g) (h4 : RM n c w g) (hd : d < 60) (h : ¬ btL (w.2 15 8) d = true) : ∀ k, k < c → ¬ (g.1 13 k = nI (d + 1) - 1 ∧ bt (g.1 0 20) k = false) := by
  rintro k hk ⟨a, b⟩
  rw [nI_predS] at a
  exact h ((h4.2.2 d (by omega)).mpr ⟨k, hk, (h4.1 k hk).mpr b, (h3.2 k hk).2.2.1.trans a⟩)
theorem RMno0 {n c d : Nat} {g : kW} (hI : Ins n c g) (hd : nI d ≤ 0) (hd2 : d < 60) : ∀ k, k < c → ¬ (g.1 13 k = nI d - 1 ∧ bt (g.1 0 20) k = false) := by
  rintro k hk ⟨a, b⟩
  obtain ⟨a1, b1, dd, g1, h1, h2, h3, h4, h5, h6, h7, h8, h9, h10⟩ := hI.2.2 k hk
  have e : d = 0 := by
    rcases Nat.eq_zero_or_pos d with e | e
    · exact e
    · exact absurd hd (nI_nle e (by omega))
  subst e
  rw [h9] at a
  have : ∀ dd, dd < 30 → ¬ nI dd = nI 0 - 1 := by decide +kernel
  exact this dd h4 a
theorem pass_end {w g v : kW} {n c d m0 t t1 q0 : Nat} (hRD : RD n c d w g) (hd : d < 60) (hS0 : SInv n m0 (mTold g d c)) (hm0 : m0 ≤ 3 * d) (ht1 : (mTold g d c).1 0 23 = nI t1) (ht12 : t1 < 200) (htt : t ≤ t1) (hg : g.1 0 23 = nI t) (hX : TkX (nI d) t t1 g (mTold g d c)) (hk9 : sKeep g (mTold g d c)) (hold : ∀ k, k < q0 → ∃ x, x < 60 ∧ g.1 19 k = nI x ∧ x + 1 < d) (hnew : ∀ k, q0 ≤ k → k < t → ∃ x, g.1 19 k = nI x ∧ x + 1 = d) (hL : RLg n v (mTk (mTold g d c) d t)) (hkv : cKeep w v) : RD n c (d + 1) (kset v 15 5 (nI t)) (mDawn c g d) ∧ cK2 w (kset v 15 5 (nI t)) := by
  obtain ⟨h1, h2, h3, h4, h5, h6, h7⟩ := hRD
  obtain ⟨t2, t21, t22⟩ := mTk_x (d := d) hS0 (by omega) ht1 ht12 htt t (Nat.le_refl _)
  obtain ⟨k1, k2, -⟩ := mTk_inv (d := d) hS0 (by omega) ht1 ht12 htt t (Nat.le_refl _)
  have e : mDawn c g d = mTk (mTold g d c) d t := by
    unfold mDawn
    rw [cl_of hg (by omega)]
  have hkk := hk9.tr k2
  have hXX := hX.tr t22
  have hc2 : cK2 w (kset v 15 5 (nI t)) := fun c' hc' => by rw [kset_row _ _ _ _ (by omega)]; exact hkv.1 c' hc'
  rw [e]
  refine ⟨⟨?_, h2.keep hkk, h3.keep hc2 hkk, RMset (h4.keep hkv hkk), k1.stop.mono (by omega), hL.k (by decide), t, t2, kset_eq _ _ _ _, hXX.1.1, t21, hXX.1.2.1, fun k hk => ?_, fun k a b => ⟨d, hXX.2 k a b, rfl⟩⟩, hc2⟩
  · have h1' := h1.keep hkv hkk
    exact ⟨h1'.1, h1'.2.1, h1'.2.2⟩
  · rw [(hXX.1.2.2 k hk).2.2.2]
    by_cases hk0 : k < q0
    · obtain ⟨x, x1, x2, x3⟩ := hold k hk0
      exact ⟨x, x1, x2, by omega⟩
    · obtain ⟨x, x1, x2⟩ := hnew k (by omega) hk
      exact ⟨x, by omega, x1, by omega⟩
set_option maxRecDepth 100000 in
set_option maxHeartbeats 4000000 in
theorem s_X4_pass_l2 {w g : kW} {n c d m0 t t1 q0 : Nat} (hRD : RD n c d w g) (hd : d < 60) (hS0 : SInv n m0 (mTold g d c)) (hm0 : m0 ≤ 3 * d) (ht1 : (mTold g d c).1 0 23 = nI t1) (ht12 : t1 < 200) (htt : t ≤ t1) (ht8 : t < 180) (hg : g.1 0 23 = nI t) (hX : TkX (nI d) t t1 g (mTold g d c)) (hk9 : sKeep g (mTold g d c)) (hq0 : q0 ≤ t) (hold : ∀ k, k < q0 → ∃ x, x < 60 ∧ g.1 19 k = nI x ∧ x + 1 < d) (hnew : ∀ k, q0 ≤ k → k < t → ∃ x, g.1 19 k = nI x ∧ x + 1 = d) : ∀ q k, k + q = t → q0 ≤ k → ∀ v : kW, RLg n v (mTk (mTold g d c) d k) → RF n (nI d) v (mTk (mTold g d c) d k) → cKeep w v → BS shC RX4 cX4_pass 5 none 3 81 (fun r w' => r = none ∧ RD n c (d + 1) w' (mDawn c g d) ∧ cK2 w w') 127 [(0, .ref 15), (1, .int (nI d)), (3, .int (nI t)), (4, .int (nI k))] [] v := by
  intro q
  induction q with
  | zero =>
    intro k hk hk0 v hL hF hkv
    refine b_iload dX4_pass_127 rfl ?_
    refine b_iload_n dX4_pass_129 rfl ?_
    refine b_icmp_ge (tgt := 150) dX4_pass_130 (by decide) (fun h130 => ?_) (fun h130 => ?_)
    · refine b_aload_n dX4_pass_150 rfl ?_
      refine b_iload_n dX4_pass_151 rfl ?_
      refine b_puti dX4_pass_152 gf_X4_67 gs_X4_5 rfl rfl ?_
      have e : k = t := by omega
      subst e
      refine b_vret dX4_pass_155 rfl ⟨rfl, ?_⟩
      exact pass_end hRD hd hS0 hm0 ht1 ht12 htt hg hX hk9 hold hnew hL hkv
    · exact absurd (nI_le (by omega) (by omega)) h130
  | succ q ih =>
    intro k hk hk0 v hL hF hkv
    have hL0 := hL
    obtain ⟨v1, v2, t2, g1, g2⟩ := mTk_inv (d := d) hS0 (by omega) ht1 ht12 htt k (by omega)
    obtain ⟨m3, t3, b1, b2, b3, b4, b5, b6, hb, bh⟩ := hL0
    have e3 := nI_inj (by omega) (by omega) (b5.symm.trans g2.2.1)
    subst e3
    have g2l := g2.1
    obtain ⟨hP, mm, t4, c1, c2, c3, c4, c5⟩ := id hS0
    have e4 := nI_inj (by have := bs6_le ((mTold g d c).1 0 22); omega) (by omega) (c2.symm.trans ht1)
    subst e4
    obtain ⟨a, b2, h1, h2, h3, h4⟩ := c5 k (by omega)
    obtain ⟨r1, r2, r3, r4⟩ := g2.2.2 k (by omega)
    have hn := v1.1.le
    have hday : (mTk (mTold g d c) d k).1 19 k = nI d - 1 := by
      obtain ⟨x, x1, x2⟩ := hnew k hk0 (by omega)
      rw [r4, (hX.1.2.2 k (by omega)).2.2.2, x1, ← x2, nI_predS]
    refine b_iload dX4_pass_127 rfl ?_
    refine b_iload_n dX4_pass_129 rfl ?_
    refine b_icmp_ge (tgt := 150) dX4_pass_130 (by decide) (fun h130 => ?_) (fun h130 => ?_)
    · exact absurd h130 (nI_ge (by omega) (by omega))
    · refine b_aload_n dX4_pass_133 rfl ?_
      refine b_aload_n dX4_pass_134 rfl ?_
      refine b_getr dX4_pass_135 gf_X4_23 rfl rfl ?_
      refine b_iload dX4_pass_138 rfl ?_
      refine b_iload_n dX4_pass_140 rfl ?_
      refine b_callV3 dX4_pass_141 lk_X4_86 rfl rfl rfl ⟨Nat.le_of_ble_eq_true rfl, Nat.le_of_ble_eq_true rfl⟩ (Nat.le_of_ble_eq_true rfl) (s_X4_answer_24 (i := a) (j := b2) ((hRD.1.keep hkv (hk9.tr v2))) v1 (by omega) hL hF (by omega) h1 h2 ((hb.2.1 k (by omega)).1.trans (r1.trans h3)) ((hb.2.1 k (by omega)).2.1.trans (r2.trans h4))) (fun r w141 h141 => ?_)
      obtain ⟨rfl, q1, q2, q3⟩ := h141
      rw [(hb.2.1 k (by omega)).2.2.2, mTk_yes hday (r1.trans h3) (r2.trans h4) (by omega) (by omega)] at q1 q2
      refine b_iinc dX4_pass_144 rfl (nI_inc k) (by decide) ?_
      refine b_goto (tgt := 127) dX4_pass_147 (by decide) ?_
      refine b_sub [1, 2, 3, 0] rfl ?_
      exact ih (k + 1) (by omega) (by omega) w141 q1 q2 (hkv.tr q3)
set_option maxRecDepth 100000 in
set_option maxHeartbeats 4000000 in
theorem s_X4_pass_l1 {w g : kW} {n c d m0 t q0 : Nat} (hRD : RD n c d w g) (hd : d < 60) (hS : SInv n m0 (kset g 0 22 0)) (hm0 : m0 ≤ 3 * d) (hg : g.1 0 23 = nI t) (ht2 : t < 180) (hq0 : q0 ≤ t) (hq : w.1 15 5 = nI q0) (hold : ∀ k, k < q0 → ∃ x, x < 60 ∧ g.1 19 k = nI x ∧ x + 1 < d) (hnew : ∀ k, q0 ≤ k → k < t → ∃ x, g.1 19 k = nI x ∧ x + 1 = d) : ∀ q k, k + q = c → ∀ v : kW, RLg n v (mTold g d k) → RF n (nI d) v (mTold g d k) → cKeep w v → BS shC RX4 cX4_pass 5 none 3 81 (fun r w' => r = none ∧ RD n c (d + 1) w' (mDawn c g d) ∧ cK2 w w') 64 [(0, .ref 15), (1, .int (nI d)), (3, .int (nI t)), (4, .int (nI k))] [] v := by
  intro q
  induction q with
  | zero =>
    intro k hk v hL hF hkv
    obtain ⟨v1, v2⟩ := mTold_inv (d := d) hS hRD.2.1 (by omega) k (by omega)
    have hn := v1.1.le
    have hc9 := hRD.2.1.2.1
    refine b_iload dX4_pass_64 rfl ?_
    refine b_aload_n dX4_pass_66 rfl ?_
    refine b_getr dX4_pass_67 gf_X4_35 rfl rfl ?_
    refine b_geti dX4_pass_70 gf_X4_56 rfl rfl ?_
    refine b_topi (y := nI c) ((congrFun (hkv.1 6 (by decide)) 0).trans hRD.2.2.1.1) ?_
    refine b_icmp_ge (tgt := 121) dX4_pass_73 (by decide) (fun h73 => ?_) (fun h73 => ?_)
    · refine b_aload_n dX4_pass_121 rfl ?_
      refine b_geti dX4_pass_122 gf_X4_67 rfl rfl ?_
      refine b_topi (y := nI q0) ((hkv.2.1 5 (by decide) (by decide)).trans hq) ?_
      refine b_istore dX4_pass_125 (by decide) ?_
      refine b_sub [1, 2, 3, 0] rfl ?_
      have e : k = c := by omega
      subst e
      obtain ⟨t1, t11, t12⟩ := mTold_x (d := d) hS hRD.2.1 (by omega) hg (by omega) k (Nat.le_refl _)
      refine s_X4_pass_l2 hRD hd v1 hm0 t12.1.2.1 t11 t12.1.1 ht2 hg t12 v2 hq0 hold hnew (t - q0) q0 (by omega) (Nat.le_refl _) v ?_ ?_ hkv
      · rw [mTk_skip (t := t) (q := q0) (fun j hj => by rw [(t12.1.2.2 j (by omega)).2.2.2]; exact hold j hj) hd q0 (Nat.le_refl _)]; exact hL
      · rw [mTk_skip (t := t) (q := q0) (fun j hj => by rw [(t12.1.2.2 j (by omega)).2.2.2]; exact hold j hj) hd q0 (Nat.le_refl _)]; exact hF
    · exact absurd (nI_le (by omega) (by omega)) h73
  | succ q ih =>
    intro k hk v hL hF hkv
    obtain ⟨v1, v2⟩ := mTold_inv (d := d) hS hRD.2.1 (by omega) k (by omega)
    have hn := v1.1.le
    have hc9 := hRD.2.1.2.1
    obtain ⟨a, b2, dd, g0, h1, h2, h3, h4, h5, h6, h7, h8, h9, h10⟩ := (hRD.2.1.keep v2).2.2 k (by omega)
    obtain ⟨e7, e8, e9, e10⟩ := (hRD.2.2.1.keep hkv.k2 v2).2 k (by omega)
    refine b_iload dX4_pass_64 rfl ?_
    refine b_aload_n dX4_pass_66 rfl ?_
    refine b_getr dX4_pass_67 gf_X4_35 rfl rfl ?_
    refine b_geti dX4_pass_70 gf_X4_56 rfl rfl ?_
    refine b_topi (y := nI c) ((congrFun (hkv.1 6 (by decide)) 0).trans hRD.2.2.1.1) ?_
    refine b_icmp_ge (tgt := 121) dX4_pass_73 (by decide) (fun h73 => ?_) (fun h73 => ?_)
    · exact absurd h73 (nI_ge (by omega) (by omega))
    · refine b_aload_n dX4_pass_76 rfl ?_
      refine b_geti dX4_pass_77 gf_X4_45 rfl rfl ?_
      refine b_topi (y := w.1 15 7) (hkv.2.1 7 (by decide) (by decide)) ?_
      refine b_iload dX4_pass_80 rfl ?_
      refine b_callSN2 dX4_pass_82 lk_X4_59 ⟨Nat.le_of_ble_eq_true rfl, Nat.le_of_ble_eq_true rfl⟩ (Nat.le_of_ble_eq_true rfl) (s_X7_in (by omega)) (fun r w82 h82 => ?_)
      obtain ⟨rfl, h82⟩ := h82
      rcases h82 with ⟨rfl, h82⟩ | ⟨rfl, h82⟩
      · refine b_if_eq (tgt := 115) dX4_pass_85 (by decide) (fun h85 => absurd h85 (by decide)) (fun h85 => ?_)
        refine b_aload_n dX4_pass_88 rfl ?_
        refine b_getr dX4_pass_89 gf_X4_35 rfl rfl ?_
        refine b_getr dX4_pass_92 gf_X4_63 rfl rfl ?_
        refine b_iload dX4_pass_95 rfl ?_
        refine b_ialdN dX4_pass_97 rfl ⟨by omega, by decide⟩ ?_
        refine b_topi (y := (mTold g d k).1 13 k) e9 ?_
        refine b_iload_n dX4_pass_98 rfl ?_
        refine b_iconst (v := 1) dX4_pass_99 (by decide) ?_
        refine b_isub dX4_pass_100 ?_
        refine b_icmp_ne (tgt := 115) dX4_pass_101 (by decide) (fun h101 => ?_) (fun h101 => ?_)
        · refine b_iinc dX4_pass_115 rfl (nI_inc k) (by decide) ?_
          refine b_goto (tgt := 64) dX4_pass_118 (by decide) ?_
          refine b_sub [1, 2, 3, 0] rfl ?_
          rw [mTold_no (fun h => h101 h.1)] at hL hF
          exact ih (k + 1) (by omega) v hL hF hkv
        · refine b_aload_n dX4_pass_104 rfl ?_
          refine b_aload_n dX4_pass_105 rfl ?_
          refine b_getr dX4_pass_106 gf_X4_35 rfl rfl ?_
          refine b_iload dX4_pass_109 rfl ?_
          refine b_iload_n dX4_pass_111 rfl ?_
          refine b_callV3 dX4_pass_112 lk_X4_86 rfl rfl rfl ⟨Nat.le_of_ble_eq_true rfl, Nat.le_of_ble_eq_true rfl⟩ (Nat.le_of_ble_eq_true rfl) (s_X4_answer_6 (i := a) (j := b2) ((hRD.1.keep hkv v2)) v1 (by omega) hL hF (by omega) h1 h2 (e7.trans h7) (e8.trans h8)) (fun r w112 h112 => ?_)
          obtain ⟨rfl, q1, q2, q3⟩ := h112
          rw [e10, mTold_yes h101 ((hRD.2.2.2.1.1 k (by omega)).mp h82 |> fun z => by rw [v2.2.1 20 (by decide) (by decide) (by decide)]; exact z) h7 h8 (by omega) (by omega)] at q1 q2
          refine b_iinc dX4_pass_115 rfl (nI_inc k) (by decide) ?_
          refine b_goto (tgt := 64) dX4_pass_118 (by decide) ?_
          refine b_sub [1, 2, 3, 0] rfl ?_
          exact ih (k + 1) (by omega) w112 q1 q2 (hkv.tr q3)
      · refine b_if_eq (tgt := 115) dX4_pass_85 (by decide) (fun h85 => ?_) (fun h85 => absurd h85 (by decide))
        refine b_iinc dX4_pass_115 rfl (nI_inc k) (by decide) ?_
        refine b_goto (tgt := 64) dX4_pass_118 (by decide) ?_
        refine b_sub [1, 2, 3, 0] rfl ?_
        rw [mTold_no (fun h => h82 ((hRD.2.2.2.1.1 k (by omega)).mpr (by rw [← v2.2.1 20 (by decide) (by decide) (by decide)]; exact h.2)))] at hL hF
        exact ih (k + 1) (by omega) v hL hF hkv
set_option maxRecDepth 100000 in
set_option maxHeartbeats 4000000 in
theorem s_X4_pass_44 {w g : kW} {n c d : Nat} (hRD : RD n c d w g) (hd : d < 60) (b : Int32) : BS shC RX4 cX4_pass 5 none 3 81 (fun r w' => r = none ∧ RD n c (d + 1) w' (mDawn c g d) ∧ cK2 w w') 44 [(0, .ref 15), (1, .int (nI d)), (2, .int b)] [] w := by
  obtain ⟨m0, hm0, hS⟩ := hRD.2.2.2.2.1.start
  have hRD0 := hRD
  obtain ⟨h1, h2, h3, h4, h5, h6, q0, t, hq, hqt, ht200, hg, hold, hnew⟩ := hRD0
  obtain ⟨tt, tt1, tt2⟩ := h5.t (by omega)
  have ett := nI_inj (by omega) (by omega) (tt2.symm.trans hg)
  subst ett
  obtain ⟨m9, t9, z1, z2, z3, z4, z5, z6, z7, z8⟩ := id h6
  refine b_aload_n dX4_pass_44 rfl ?_
  refine b_getr dX4_pass_45 gf_X4_23 rfl rfl ?_
  refine b_geti dX4_pass_48 gf_X4_56 rfl rfl ?_
  refine b_topi (y := nI tt) (z6.trans (z5.symm.trans hg)) ?_
  refine b_istore_n dX4_pass_51 (by decide) ?_
  refine b_aload_n dX4_pass_52 rfl ?_
  refine b_aload_n dX4_pass_53 rfl ?_
  refine b_iload_n dX4_pass_54 rfl ?_
  refine b_callV1 dX4_pass_55 lk_X4_79 rfl rfl rfl ⟨Nat.le_of_ble_eq_true rfl, Nat.le_of_ble_eq_true rfl⟩ (Nat.le_of_ble_eq_true rfl) (s_X4_freeAhead (n := n) h1.2.1 h1.1.le) (fun r w55 h55 => ?_)
  obtain ⟨rfl, s, rfl, hs⟩ := h55
  refine b_puti dX4_pass_58 gf_X4_83 gs_X4_10 rfl rfl ?_
  refine b_iconst (v := 0) dX4_pass_61 (by decide) ?_
  refine b_istore dX4_pass_62 (by decide) ?_
  refine b_sub [2, 3, 1, 0] rfl ?_
  have hk1 : cKeep w (kset w 15 10 s) := cKeep.rf.num (by decide)
  have hRD1 : RD n c d (kset w 15 10 s) g := ⟨h1.keep hk1 sKeep.rf, h2, h3.keep hk1.k2 sKeep.rf, h4.keep hk1 sKeep.rf, h5, h6.k (by decide), q0, tt, hq, hqt, ht200, hg, hold, hnew⟩
  have hF1 : RF n (nI d) (kset w 15 10 s) (kset g 0 22 0) := by
    intro p hp
    have hsp := hs p hp
    rw [kset_eq, hsp]
    unfold mFree
    rw [kset_eq, b_0]
    constructor
    · rintro ⟨a1, a2, a3⟩
      exact ⟨a1, (h4.2.1 p a1).mp a2, by show g.1 15 p ≤ nI d; rw [← z7.2.2 p a1]; exact a3, rfl⟩
    · rintro ⟨a1, a2, a3, -⟩
      exact ⟨a1, (h4.2.1 p a1).mpr a2, by rw [z7.2.2 p a1]; exact a3⟩
  refine (s_X4_pass_l1 hRD1 hd hS hm0 hg (by omega) hqt hq hold hnew c 0 (by omega) _ (h6.k (by decide)).z hF1 cKeep.rf).mono (fun r w' h => ⟨h.1, h.2.1, hk1.k2.tr h.2.2⟩)
set_option maxRecDepth 100000 in
set_option maxHeartbeats 4000000 in
theorem s_X4_pass {w g : kW} {n c d : Nat} (hRD : RD n c d w g) (hd : d < 60) : Spec shC yX4_pass cX4_pass 5 none 3 81 [.ref 15, .int (nI d)] w (fun r w' => r = none ∧ RD n c (d + 1) w' (mDawn c g d) ∧ cK2 w w') := by
  refine k_enter pn_X4 (Nat.le_of_ble_eq_true rfl) ?_
  refine b_iload_n dX4_pass_0 rfl ?_
  refine b_if_le (tgt := 23) dX4_pass_1 (by decide) (fun h1 => ?_) (fun h1 => ?_)
  · refine b_iconst (v := 0) dX4_pass_23 (by decide) ?_
    refine b_istore_n dX4_pass_24 (by decide) ?_
    refine b_iload_n dX4_pass_25 rfl ?_
    refine b_if_ne (tgt := 44) dX4_pass_26 (by decide) (fun h26 => absurd h26 (by decide)) (fun h26 => ?_)
    refine b_aload_n dX4_pass_29 rfl ?_
    refine b_geti dX4_pass_30 gf_X4_67 rfl rfl ?_
    refine b_aload_n dX4_pass_33 rfl ?_
    refine b_getr dX4_pass_34 gf_X4_23 rfl rfl ?_
    refine b_geti dX4_pass_37 gf_X4_56 rfl rfl ?_
    refine b_icmp_ne (tgt := 44) dX4_pass_40 (by decide) (fun h40 => ?_) (fun h40 => ?_)
    · refine b_sub [1, 2, 0] rfl ?_
      exact s_X4_pass_44 hRD hd _
    · obtain ⟨-, -, -, -, h5, h6, q0, t, hq, hqt, ht200, hg, -, -⟩ := id hRD
      obtain ⟨m9, t9, z1, z2, z3, z4, z5, z6, z7, z8⟩ := h6
      have e1 := nI_inj (by omega) (by omega) ((hq.symm.trans h40).trans (z6.trans (z5.symm.trans hg)))
      exact b_vret dX4_pass_43 rfl ⟨rfl, skip_rel hRD hd hq hg (by omega) ht200 e1 (RMno0 hRD.2.1 h1 hd), fun _ _ => rfl⟩
  · refine b_aload_n dX4_pass_4 rfl ?_
    refine b_getl dX4_pass_5 gf_X4_52 rfl rfl ?_
    refine b_iload_n dX4_pass_8 rfl ?_
    refine b_iconst (v := 1) dX4_pass_9 (by decide) ?_
    refine b_isub dX4_pass_10 ?_
    obtain ⟨d1, rfl⟩ : ∃ d1, d = d1 + 1 := ⟨d - 1, by rcases Nat.eq_zero_or_pos d with e | e <;> first | omega | (subst e; exact absurd (by decide) h1)⟩
    refine b_topi (y := nI d1) nI_predS ?_
    refine b_lshr dX4_pass_11 ?_
    refine b_lconst (v := 1) dX4_pass_12 (by decide) ?_
    refine b_land dX4_pass_13 ?_
    refine b_lconst (v := 1) dX4_pass_14 (by decide) ?_
    refine b_lcmp dX4_pass_15 ?_
    refine b_if_ne (tgt := 23) dX4_pass_16 (by decide) (fun h16 => ?_) (fun h16 => ?_)
    · refine b_iconst (v := 0) dX4_pass_23 (by decide) ?_
      refine b_istore_n dX4_pass_24 (by decide) ?_
      refine b_iload_n dX4_pass_25 rfl ?_
      refine b_if_ne (tgt := 44) dX4_pass_26 (by decide) (fun h26 => absurd h26 (by decide)) (fun h26 => ?_)
      refine b_aload_n dX4_pass_29 rfl ?_
      refine b_geti dX4_pass_30 gf_X4_67 rfl rfl ?_
      refine b_aload_n dX4_pass_33 rfl ?_
      refine b_getr dX4_pass_34 gf_X4_23 rfl rfl ?_
      refine b_geti dX4_pass_37 gf_X4_56 rfl rfl ?_
      refine b_icmp_ne (tgt := 44) dX4_pass_40 (by decide) (fun h40 => ?_) (fun h40 => ?_)
      · refine b_sub [1, 2, 0] rfl ?_
        exact s_X4_pass_44 hRD hd _
      · obtain ⟨-, -, -, -, h5, h6, q0, t, hq, hqt, ht200, hg, -, -⟩ := id hRD
        obtain ⟨m9, t9, z1, z2, z3, z4, z5, z6, z7, z8⟩ := h6
        have e1 := nI_inj (by omega) (by omega) ((hq.symm.trans h40).trans (z6.trans (z5.symm.trans hg)))
        exact b_vret dX4_pass_43 rfl ⟨rfl, skip_rel hRD hd hq hg (by omega) ht200 e1 (RMno (w := w) hRD.2.1 hRD.2.2.1 hRD.2.2.2.1 (by omega) (fun hb => h16 (lg_cmp0.mpr ((btL_test _ (by omega)).mpr hb)))), fun _ _ => rfl⟩
    · refine b_iconst (v := 1) dX4_pass_19 (by decide) ?_
      refine b_goto (tgt := 24) dX4_pass_20 (by decide) ?_
      refine b_istore_n dX4_pass_24 (by decide) ?_
      refine b_iload_n dX4_pass_25 rfl ?_
      refine b_if_ne (tgt := 44) dX4_pass_26 (by decide) (fun h26 => ?_) (fun h26 => absurd h26 (by decide))
      refine b_sub [1, 2, 0] rfl ?_
      exact s_X4_pass_44 hRD hd _
end
section
/-! ===== live: all dawns ===== -/
theorem begW_k2 (w : kW) (ins arr : Int32) (D : Int64) : cK2 w (begW w ins arr D) := by
  intro c hc
  unfold begW
  rw [fillF_row (by omega), kset_row _ _ _ _ (by omega), kset_row _ _ _ _ (by omega), kset_row _ _ _ _ (by omega), kset_row _ _ _ _ (by omega)]
  show (kset (kset w 15 7 ins) 15 9 arr).1 c = _
  rw [kset_row _ _ _ _ (by omega), kset_row _ _ _ _ (by omega)]
theorem RP.keep2 {n : Nat} {w w' g g' : kW} (h : RP n w g) (h1 : cK2 w w') (h2 : sKeep g g') : RP n w' g' := by
  refine ⟨h.1.keep h2, ?_, fun p hp => ?_⟩
  · rw [h1 1 (by decide)]; exact h.2.1
  · rw [h1 2 (by decide), h1 3 (by decide), h1 4 (by decide), h1 5 (by decide), h2.1 4 (by decide) (by decide), h2.1 5 (by decide) (by decide), h2.1 6 (by decide) (by decide)]
    exact h.2.2 p hp
theorem begW_15 (w : kW) (ins arr : Int32) (D : Int64) : (begW w ins arr D).1 15 = (kset (kset (kset (kset (beg0 w ins arr D) 16 0 0) 24 0 0) 15 5 0) 15 1 0).1 15 := by
  unfold begW
  exact fillF_row (by omega) 6
theorem beg_rel {n c : Nat} {w g : kW} {ins arr : Int32} {D : Int64} (h1 : RP n w g) (h2 : Ins n c g) (h3 : RI c w g) (hi : ∀ k, k < c → (bt ins k = true ↔ bt (g.1 0 20) k = false)) (ha : ∀ p, p < n → (bt arr p = false ↔ g.1 7 p = 0)) (hD : dayBits c ins w D) : RD n c 0 (begW w ins arr D) (mBegin n g) := by
  obtain ⟨b1, b2⟩ := mBegin_inv h1.1
  have hn := h1.1.le
  have k2 := begW_k2 w ins arr D
  have z := mZero_23 g n
  refine ⟨h1.keep2 k2 b2, h2.keep b2, h3.keep k2 b2, ⟨?_, ?_, ?_⟩, b1, ⟨0, 0, by decide, by decide, z.2, ?_, z.1, ?_, ⟨fun _ _ _ _ h => absurd h (Nat.not_lt_zero _), fun _ h => absurd h (Nat.not_lt_zero _), fun p hp => ?_⟩, fun p hp => ?_⟩, 0, 0, ?_, Nat.le_refl _, by decide, z.1, fun _ h => absurd h (Nat.not_lt_zero _), fun _ _ h => absurd h (Nat.not_lt_zero _)⟩
  · intro k hk
    rw [begW_15, b2.2.1 20 (by decide) (by decide) (by decide)]
    exact hi k hk
  · intro p hp
    rw [begW_15, b2.1 7 (by decide) (by decide)]
    exact ha p hp
  · unfold dayBits
    rw [begW_15, k2 9 (by decide)]
    have e2 : (begW w ins arr D).2 = k_up w.2 15 8 D := by unfold begW; rw [fillF_2]; rfl
    rw [e2, k_up_same]
    exact hD
  · unfold begW; rw [fillF_row (by omega)]; rfl
  · unfold begW; rw [fillF_row (by omega)]; rfl
  · unfold begW
    rw [fillF_in 6 p (by omega)]
    show (0 : Int32) = (mZero g n).1 15 p
    rw [mZero_15 g n p hp]
  · rw [begW_15]
    show bt 0 p = true ↔ _
    rw [b_0]
    simp
  · rw [begW_15]; rfl
theorem last_lt {D k : Nat} (hD : D ≤ 60) (hk : k ≤ 60) : nI D - 1 < nI k ↔ D ≤ k := by
  have : ∀ D, D < 61 → ∀ k, k < 61 → (nI D - 1 < nI k ↔ D ≤ k) := by decide +kernel
  exact this D (by omega) k (by omega)
set_option maxRecDepth 100000 in
set_option maxHeartbeats 4000000 in
theorem s_X4_live_lp {w g : kW} {n c D : Nat} (hD : D ≤ 60) : ∀ q k, k + q = D → ∀ v : kW, RD n c k v (mAhead n c g k) → cK2 w v → BS shC RX4 cX4_live 5 none 4 105 (fun r w' => r = none ∧ RD n c D w' (mAhead n c g D) ∧ cK2 w w') 9 [(0, .ref 15), (3, .int (nI D - 1)), (4, .int (nI k))] [] v := by
  intro q
  induction q with
  | zero =>
    intro k hk v hv hk2
    refine b_iload dX4_live_9 rfl ?_
    refine b_iload_n dX4_live_11 rfl ?_
    refine b_icmp_gt (tgt := 27) dX4_live_12 (by decide) (fun h12 => ?_) (fun h12 => ?_)
    · have e : k = D := by omega
      subst e
      exact b_vret dX4_live_27 rfl ⟨rfl, hv, hk2⟩
    · exact absurd ((last_lt hD (by omega)).mpr (by omega)) h12
  | succ q ih =>
    intro k hk v hv hk2
    refine b_iload dX4_live_9 rfl ?_
    refine b_iload_n dX4_live_11 rfl ?_
    refine b_icmp_gt (tgt := 27) dX4_live_12 (by decide) (fun h12 => ?_) (fun h12 => ?_)
    · exact absurd ((last_lt hD (by omega)).mp h12) (by omega)
    · refine b_aload_n dX4_live_15 rfl ?_
      refine b_iload dX4_live_16 rfl ?_
      refine b_callV1 dX4_live_18 lk_X4_42 rfl rfl rfl ⟨Nat.le_of_ble_eq_true rfl, Nat.le_of_ble_eq_true rfl⟩ (Nat.le_of_ble_eq_true rfl) (s_X4_pass hv (by omega)) (fun r w18 h18 => ?_)
      obtain ⟨rfl, q1, q2⟩ := h18
      refine b_iinc dX4_live_21 rfl (nI_inc k) (by decide) ?_
      refine b_goto (tgt := 9) dX4_live_24 (by decide) ?_
      refine b_sub [1, 2, 0] rfl ?_
      exact ih (k + 1) (by omega) w18 q1 (hk2.tr q2)
set_option maxRecDepth 100000 in
set_option maxHeartbeats 4000000 in
theorem s_X4_live {w g : kW} {n c D : Nat} {ins arr last : Int32} (h1 : RP n w g) (h2 : Ins n c g) (h3 : RI c w g) (hD : D ≤ 60) (hl : last = nI D - 1) (hi : ∀ k, k < c → (bt ins k = true ↔ bt (g.1 0 20) k = false)) (ha : ∀ p, p < n → (bt arr p = false ↔ g.1 7 p = 0)) : Spec shC yX4_live cX4_live 5 none 4 105 [.ref 15, .int ins, .int arr, .int last] w (fun r w' => r = none ∧ RD n c D w' (mAhead n c g D) ∧ cK2 w w') := by
  subst hl
  refine k_enter pn_X4 (Nat.le_of_ble_eq_true rfl) ?_
  refine b_aload_n dX4_live_0 rfl ?_
  refine b_iload_n dX4_live_1 rfl ?_
  refine b_iload_n dX4_live_2 rfl ?_
  refine b_callV2 dX4_live_3 lk_X4_38 rfl rfl rfl ⟨Nat.le_of_ble_eq_true rfl, Nat.le_of_ble_eq_true rfl⟩ (Nat.le_of_ble_eq_true rfl) (s_X4_begin h3.1 h2.2.1 (fun k hk => by obtain ⟨a, b, d, g0, z1, z2, z3, z4, z5, z6, z7, z8, z9, z10⟩ := h2.2.2 k hk; exact ⟨d, z4, ((h3.2 k hk).2.2.1).trans z9⟩)) (fun r w3 h3_ => ?_)
  obtain ⟨rfl, Dd, hDd, rfl⟩ := h3_
  refine b_iconst (v := 0) dX4_live_6 (by decide) ?_
  refine b_istore dX4_live_7 (by decide) ?_
  refine b_sub [1, 4, 0] rfl ?_
  exact s_X4_live_lp hD D 0 (by omega) _ (beg_rel h1 h2 h3 hi ha hDd) (begW_k2 _ _ _ _)
end
section
/-! ===== the reference's state, and what a call that only asks leaves ===== -/
def dn (x : Int32) : Nat := x.toNatClampNeg
theorem dn_nI {k : Nat} (h : k < 2 ^ 31) : dn (nI k) = k := nI_clamp h
def Rd (n q : Nat) (w : kW) : Prop := w.1 0 35 = nI q ∧ q ≤ 8 ∧ ∀ k, k < q → ∃ p d, p < n ∧ d < 60 ∧ w.1 26 k = nI p ∧ w.1 27 k = nI d ∧ (w.1 28 k = 0 ∨ w.1 28 k = 1)
def Shv (w : kW) : Prop := ∀ k, k < 4 → (w.1 1 k = -9 ∨ w.1 1 k = 0 ∨ w.1 1 k = 1 ∨ w.1 1 k = 2) ∧ ∃ l, l ≤ 50 ∧ w.1 2 k = nI l
def MInv (n c q : Nat) (w : kW) : Prop := Pn n w ∧ Ins n c w ∧ c ≤ 8 ∧ Rd n q w ∧ w.1 0 20 = 0 ∧ Shv w
def mKp (c : Nat) (w v : kW) : Prop := (∀ j, j ≠ 0 → (j < 11 ∨ 25 < j) → v.1 j = w.1 j) ∧ (∀ j k, 11 ≤ j → j ≤ 14 → k < c → v.1 j k = w.1 j k) ∧ (∀ j, j ≠ 22 → j ≠ 23 → j ≠ 28 → v.1 0 j = w.1 0 j)
theorem mKp.rf {c : Nat} {w : kW} : mKp c w w := ⟨fun _ _ _ => rfl, fun _ _ _ _ _ => rfl, fun _ _ _ _ => rfl⟩
theorem mKp.tr {c : Nat} {w v u : kW} (h1 : mKp c w v) (h2 : mKp c v u) : mKp c w u := ⟨fun j a b => (h2.1 j a b).trans (h1.1 j a b), fun j k a b hk => (h2.2.1 j k a b hk).trans (h1.2.1 j k a b hk), fun j a b d => (h2.2.2 j a b d).trans (h1.2.2 j a b d)⟩
theorem mKp.of {c : Nat} {w v : kW} (h : sKeep w v) : mKp c w v := ⟨fun j a b => h.1 j a (by omega), fun j k a b _ => by rw [h.1 j (by omega) (by omega)], fun j a b d => h.2.1 j a b d⟩
theorem mKp.peq {c : Nat} {w v : kW} (h : mKp c w v) : PEq c w v := ⟨fun j a b => h.1 j (by omega) (by omega), h.2.1, h.2.2 5 (by decide) (by decide) (by decide), h.2.2 15 (by decide) (by decide) (by decide), fun k _ => by rw [h.2.2 20 (by decide) (by decide) (by decide)]⟩
theorem mKp.pn {c n : Nat} {w v : kW} (h : mKp c w v) (hP : Pn n w) : Pn n v := h.peq.pn hP
theorem mKp.ins {c n : Nat} {w v : kW} (h : mKp c w v) (hP : Ins n c w) : Ins n c v := h.peq.ins hP
theorem mKp.minv {n c q : Nat} {w v : kW} (h : mKp c w v) (hM : MInv n c q w) : MInv n c q v := by
  obtain ⟨h1, h2, h3, h4, h5, h6⟩ := hM
  refine ⟨h.pn h1, h.ins h2, h3, ?_, (h.2.2 20 (by decide) (by decide) (by decide)).trans h5, ?_⟩
  · unfold Rd at *
    rw [h.2.2 35 (by decide) (by decide) (by decide), h.1 26 (by decide) (by decide), h.1 27 (by decide) (by decide), h.1 28 (by decide) (by decide)]
    exact h4
  · unfold Shv at *
    rw [h.1 1 (by decide) (by decide), h.1 2 (by decide) (by decide)]
    exact h6
theorem PEq.un {c : Nat} {w v : kW} {x : Int32} (h : PEq c w v) : PEq c (kset w 0 20 x) (kset v 0 20 x) :=
  ⟨fun j a b => by rw [kset_row _ _ _ _ (by omega), kset_row _ _ _ _ (by omega)]; exact h.1 j a b, fun j k a b hk => by rw [kset_row _ _ _ _ (by omega), kset_row _ _ _ _ (by omega)]; exact h.2.1 j k a b hk, h.2.2.1, h.2.2.2.1, fun k _ => by rw [kset_eq, kset_eq]⟩
theorem mKp.un {c : Nat} {w v : kW} {x : Int32} (h : mKp c w v) : mKp c (kset w 0 20 x) (kset v 0 20 x) :=
  ⟨fun j a b => by rw [kset_row _ _ _ _ a, kset_row _ _ _ _ a]; exact h.1 j a b, fun j k a b hk => by rw [kset_row _ _ _ _ (by omega), kset_row _ _ _ _ (by omega)]; exact h.2.1 j k a b hk, fun j a b d => kset_cg (h.2.2 j a b d)⟩
theorem kset_self {w : kW} {c k : Nat} {x : Int32} (h : w.1 c k = x) : kset w c k x = w := by
  unfold kset
  refine Prod.ext ?_ rfl
  funext c' k'
  simp only [k_up]
  split
  · rename_i e; subst e
    split
    · rename_i e; subst e; exact h.symm
    · rfl
  · rfl
theorem Pn.un {n : Nat} {w : kW} {x : Int32} (h : Pn n w) : Pn n (kset w 0 20 x) := h
theorem Ins.un {n c : Nat} {w : kW} {x : Int32} (h : Ins n c w) : Ins n c (kset w 0 20 x) := h
theorem SQ.m {n : Nat} {w v : kW} (h : SQ n w v) : v.1 0 28 = w.1 0 28 := by
  obtain ⟨t, m, h1, h2, h3, h4, h5, h6, h7⟩ := h
  exact h4.trans h3.symm
theorem SQ.row {n j k : Nat} {w v : kW} (h : SQ n w v) (h1 : 20 ≤ j) (h2 : j ≤ 25) (hk : nI k < w.1 0 28) (hk2 : k < 2 ^ 31) : v.1 j k = w.1 j k := by
  obtain ⟨t, m, a1, a2, a3, a4, a5, a6, a7⟩ := h
  rw [a3] at hk
  exact a7.2.2.2 j k h1 h2 ((nI_ltI hk2 (by omega)).mp hk)
theorem dawn_of {x : Int32} (h : 0 ≤ x ∧ x ≤ 59) : ∃ D, D < 60 ∧ x = nI D := by
  obtain ⟨j, hj, e⟩ := nI_of2 (n := 59) (M := 59) (by decide) (Int32.not_lt.mpr h.1) h.2
  exact ⟨j, by omega, e⟩
theorem dawn_in {D : Nat} (h : D < 60) : (0 : Int32) ≤ nI D ∧ nI D ≤ 59 := ⟨nI_pos' (by omega), nI_le (b := 59) (by omega) (by omega)⟩
theorem pers_of {x : Int32} {n : Nat} {w : kW} (hP : Pn n w) (h : ¬ x < 0 ∧ x < w.1 0 5) : ∃ p, p < n ∧ x = nI p := by
  rw [hP.1] at h
  exact nI_between h.1 h.2 (by have := hP.le; omega)
theorem met_lt {n M k : Nat} {w : kW} (h : DInv n M w) (hM : M ≤ 180) : ∃ m, w.1 0 28 = nI m ∧ m ≤ 180 := by
  obtain ⟨hP, m, t, h1, h2, h3, h4, h5⟩ := h
  exact ⟨m, h1, by omega⟩
/-! the answers -/
abbrev isPr (w : kW) (x : Int32) : Prop := ¬ x < 0 ∧ x < w.1 0 5
abbrev isDw (d : Int32) : Prop := 0 ≤ d ∧ d ≤ 59
def A_meetings (n c : Nat) (w : kW) (d : Int32) : Int32 := if isDw d then (if w.1 0 5 = 0 then -3 else (mGo n c w (dn d + 1)).1 0 28) else -2
def A_met (n c : Nat) (w : kW) (k what : Int32) : Int32 := if k < 0 ∨ (mGo n c w 60).1 0 28 ≤ k ∨ w.1 0 5 = 0 then -1 else if 0 ≤ what ∧ what ≤ 5 then (mGo n c w 60).1 (20 + dn what) (dn k) else -2
def A_free (n c : Nat) (w : kW) (p d : Int32) : Int32 := if isPr w p then (if isDw d then (if mFree (mGo n c w (dn d)) (dn p) d then 1 else 0) else -2) else -1
def A_second (n c : Nat) (w : kW) (p o d : Int32) : Int32 := if isPr w p ∧ isPr w o ∧ ¬ p = o then (if isDw d then oI (mSec (mGo n c w (dn d)) (dn p) o (-9) d) else -2) else -1
def A_worth (n c : Nat) (w : kW) (k : Int32) : Int32 := if ¬ k < 0 ∧ k < w.1 0 15 then (mGo n c w 60).1 0 28 - (mGo n c (kset w 0 20 (1 <<< (k &&& 31))) 60).1 0 28 + 1000 else -1
end
section
theorem ts_out {x : Int32} (N : Nat) {M : Int32} (hM : M.toInt = N) (h : ¬ (0 ≤ x ∧ x ≤ M)) : x.toInt < 0 ∨ (N : Int) < x.toInt := by
  rw [Int32.le_iff_toInt_le, Int32.le_iff_toInt_le, hM] at h
  have : (0 : Int32).toInt = 0 := by decide
  omega
end
section
abbrev isDayDeg (d g : Int32) : Prop := (0 ≤ d ∧ d ≤ 29) ∧ (1 ≤ g ∧ g ≤ 9)
def R_insult (w : kW) (a b d g : Int32) : Int32 × kW := if isPr w a ∧ isPr w b ∧ ¬ a = b then (if isDayDeg d g then (if w.1 0 15 = 8 then (-4, w) else (w.1 0 15, kset (kset (kset (kset (kset w 11 (dn (w.1 0 15)) a) 12 (dn (w.1 0 15)) b) 13 (dn (w.1 0 15)) d) 14 (dn (w.1 0 15)) g) 0 15 (w.1 0 15 + 1))) else (-2, w)) else (-1, w)
def R_sorry (w : kW) (k : Int32) : Int32 × kW := if 0 ≤ k ∧ k ≤ w.1 0 15 then (w.1 0 15 - k, kset w 0 15 (w.1 0 15 - k)) else (-2, w)
def R_arrest (w : kW) (p is : Int32) : Int32 × kW := if isPr w p then (if w.1 7 (dn p) = is then 0 else 1, kset w 7 (dn p) is) else (-1, w)
def R_ofPerson (w : kW) (p what : Int32) : Int32 × kW := if isPr w p then (if 0 ≤ what ∧ what ≤ 5 then (if what = 0 then w.1 4 (dn p) else if what = 1 then w.1 5 (dn p) else if what = 2 then w.1 6 (2 * dn p) else if what = 3 then w.1 6 (2 * dn p + 1) else if what = 4 then mTouch w (dn p) else if w.1 7 (dn p) = 0 then 0 else 1) else -2, w) else (-1, w)
def tr1 (w : kW) (b : Int32) : kW := kset w 0 1 (31 * w.1 0 1 + b)
theorem kset_kset (w : kW) (c k : Nat) (a b : Int32) : kset (kset w c k a) c k b = kset w c k b := by
  show (k_up (k_up w.1 c k a) c k b, w.2) = _
  rw [k_up_up]
  rfl
def A_many (n c : Nat) (w : kW) (what : Int32) : Int32 := if what = 3 then (if w.1 0 5 = 0 then 0 else (mGo n c w 60).1 0 28) else if what = 0 then w.1 0 5 else if what = 1 then w.1 0 15 else if what = 2 then w.1 0 35 else -2
end
section
/-! ===== the sheets of the reference ===== -/
abbrev isS (k : Int32) : Prop := 0 ≤ k ∧ k ≤ 3
abbrev isT (k : Int32) : Prop := 0 ≤ k ∧ k ≤ 2
theorem sheet_of {x : Int32} (h : 0 ≤ x ∧ x ≤ 3) : ∃ k, k < 4 ∧ x = nI k := by
  obtain ⟨j, hj, e⟩ := nI_of2 (n := 3) (M := 3) (by decide) (Int32.not_lt.mpr h.1) h.2
  exact ⟨j, by omega, e⟩
theorem sheet_in {k : Nat} (h : k < 4) : isS (nI k) := ⟨nI_pos' (by omega), nI_le (b := 3) (by omega) (by omega)⟩
theorem idx_of {x : Int32} {l : Nat} (hl : l ≤ 50) (h : 0 ≤ x ∧ x ≤ nI l - 1) : ∃ i, i < l ∧ x = nI i := by
  obtain ⟨j, hj, rfl⟩ := nI_of (Int32.not_lt.mpr h.1)
  rcases Nat.eq_zero_or_pos l with e | e
  · subst e
    have h2 := h.2
    rw [Int32.le_iff_toInt_le, nI_toInt hj, show (nI 0 - 1).toInt = -1 from by decide] at h2
    omega
  · obtain ⟨l', rfl⟩ : ∃ l', l = l' + 1 := ⟨l - 1, by omega⟩
    have h2 := h.2
    rw [nI_predS] at h2
    have := (nI_leI hj (by omega)).mp h2
    exact ⟨j, by omega, rfl⟩
def mAg (w : kW) (j : Nat) (sort i n : Int32) : Int32 := if ¬ w.1 1 j = -9 ∧ ¬ w.1 1 j = sort then 2 else if w.1 1 j = -9 then 1 else if 0 ≤ n then (if ¬ i < 0 ∧ i ≤ w.1 2 j ∧ n ≤ w.1 2 j - i then 0 else 3) else 4
def zeroC (w : kW) (j : Nat) : Nat → kW
  | 0 => w
  | k + 1 => kset (zeroC w j k) 3 (50 * j + k) 0
def R_sheet (w : kW) (k sort n : Int32) : Int32 × kW := if isS k then (if isT sort ∧ n ≤ 50 then (if 0 ≤ n then (1, zeroC (kset (kset (kset w 0 0 0) 1 (dn k) sort) 2 (dn k) n) (dn k) 50) else (-14, kset w 0 0 4)) else (-2, kset w 0 0 0)) else (-1, kset w 0 0 0)
def mCut (s v : Int32) : Int32 := if s = 0 then v.toInt8.toInt32 else if s = 1 then v.toInt16.toInt32 else v
def R_put (w : kW) (k i v : Int32) : Int32 × kW := if isS k then (if w.1 1 (dn k) = -9 then (-11, kset w 0 0 1) else if 0 ≤ i ∧ i ≤ w.1 2 (dn k) - 1 then (1, kset (kset w 0 0 0) 3 (50 * dn k + dn i) (mCut (w.1 1 (dn k)) v)) else (-13, kset w 0 0 3)) else (-1, kset w 0 0 0)
end
section
theorem nle_of {x : Int32} {l : Nat} (hl : l ≤ 200) (h0 : ¬ x < 0) (h : x ≤ nI l) : ∃ j, j ≤ l ∧ x = nI j := nI_of2 (nI_toInt (by omega)) h0 h
end
section
/-! ===== what was seen ===== -/
def wHu (w : kW) (p : Int32) : Prop := ∃ k, k < dn (w.1 0 28) ∧ w.1 25 k = p
def dMt (w : kW) (p o day : Int32) : Prop := ∃ k, k < dn (w.1 0 28) ∧ ((w.1 21 k = p ∧ w.1 22 k = o) ∨ (w.1 21 k = o ∧ w.1 22 k = p)) ∧ day < w.1 20 k
end
section
theorem Rd.un {n q : Nat} {w : kW} {x : Int32} (h : Rd n q w) : Rd n q (kset w 0 20 x) := h
end
section
noncomputable def b01 (P : Prop) : Nat := @ite Nat P (Classical.propDecidable P) 1 0
end
section
/-! ===== provoked ===== -/
def layW (w : kW) (c : Nat) (a b d g : Int32) : kW := kset (kset (kset (kset (kset w 11 c a) 12 c b) 13 c d) 14 c g) 0 15 (nI (c + 1))
def prov (n c : Nat) (w : kW) (p o : Int32) (d a b g : Nat) : Prop := dMt (mGo n (c + 1) (layW w c (nI a) (nI b) (nI d) (nI g)) 60) p o (nI d)
def valid (n a b g : Nat) : Prop := a < n ∧ b < n ∧ a ≠ b ∧ 1 ≤ g ∧ g ≤ 9
def noneBelow (n c : Nat) (w : kW) (p o : Int32) (d t : Nat) : Prop := ∀ a b g, valid n a b g → 100 * a + 10 * b + g < t → ¬ prov n c w p o d a b g
theorem noneBelow.up {n c : Nat} {w : kW} {p o : Int32} {d t : Nat} {a b g : Nat} (h : noneBelow n c w p o d (100 * a + 10 * b + g)) (hn : n ≤ 6) (hb : b < 6) (hg : g ≤ 9) (h1 : ¬ prov n c w p o d a b g) : noneBelow n c w p o d (100 * a + 10 * b + (g + 1)) := by
  intro a' b' g' hv ht
  by_cases e : 100 * a' + 10 * b' + g' = 100 * a + 10 * b + g
  · obtain ⟨v1, v2, v3, v4, v5⟩ := hv
    obtain ⟨rfl, rfl, rfl⟩ : a' = a ∧ b' = b ∧ g' = g := by omega
    exact h1
  · exact h a' b' g' hv (by omega)
theorem day_of {x : Int32} (h : 0 ≤ x ∧ x ≤ 29) : ∃ D, D < 30 ∧ x = nI D := by
  obtain ⟨j, hj, e⟩ := nI_of2 (n := 29) (M := 29) (by decide) (Int32.not_lt.mpr h.1) h.2
  exact ⟨j, by omega, e⟩
end
section
/-! ===== arrests ===== -/
def pc6 (s : Nat) : Nat := s % 2 + s / 2 % 2 + s / 4 % 2 + s / 8 % 2 + s / 16 % 2 + s / 32 % 2
def arrF (v : kW) (s is : Int32) : Nat → kW
  | 0 => v
  | k + 1 => kset (arrF v s is k) 7 k (if bt s k = true then is else (arrF v s is k).1 7 k)
theorem arrF_row {v : kW} {s is : Int32} {j : Nat} (h : j ≠ 7) : ∀ k, (arrF v s is k).1 j = v.1 j
  | 0 => rfl
  | k + 1 => by rw [arrF, kset_row _ _ _ _ h, arrF_row h k]
theorem arrF_ge {v : kW} {s is : Int32} {p : Nat} : ∀ k, k ≤ p → (arrF v s is k).1 7 p = v.1 7 p
  | 0, _ => rfl
  | k + 1, h => by rw [arrF, kset_ne _ _ (Or.inr (by omega)), arrF_ge k (by omega)]
theorem arrF_at {v : kW} {s is : Int32} {p : Nat} : ∀ k, p < k → (arrF v s is k).1 7 p = if bt s p = true then is else v.1 7 p
  | 0, h => by omega
  | k + 1, h => by
    rw [arrF, kset_1, if_pos rfl]
    by_cases e : p = k
    · subst e; rw [if_pos rfl, arrF_ge p (Nat.le_refl _)]
    · rw [if_neg e]; exact arrF_at k (by omega)
theorem arrF_pn {n m : Nat} {w : kW} {s is : Int32} (h : Pn n w) (his : is = 0 ∨ is = 1) : Pn n (arrF w s is m) := by
  have e5 := arrF_row (v := w) (s := s) (is := is) (j := 5) (by decide) m
  have e6 := arrF_row (v := w) (s := s) (is := is) (j := 6) (by decide) m
  have e4 := arrF_row (v := w) (s := s) (is := is) (j := 4) (by decide) m
  have e0 := arrF_row (v := w) (s := s) (is := is) (j := 0) (by decide) m
  obtain ⟨h1, h2, h3, h4, h5, h6⟩ := h
  unfold Pn fr at *
  rw [e4, e5, e6, e0]
  refine ⟨h1, h2, h3, h4, fun p hp => ?_, h6⟩
  by_cases hm : p < m
  · rw [arrF_at m hm]
    split
    · exact his
    · exact h5 p hp
  · rw [arrF_ge m (by omega)]; exact h5 p hp
theorem arrF_ins {n c m : Nat} {w : kW} {s is : Int32} (h : Ins n c w) : Ins n c (arrF w s is m) := by
  unfold Ins at *
  rw [arrF_row (j := 0) (by decide), arrF_row (j := 11) (by decide), arrF_row (j := 12) (by decide), arrF_row (j := 13) (by decide), arrF_row (j := 14) (by decide)]
  exact h
/-- set s, arrested too, nobody meets -/
def okA (n c : Nat) (w : kW) (D s : Nat) : Prop := (mGo n c (arrF w (nI s) 1 n) (D + 1)).1 0 28 = 0
end
section
/-! ===== the text of a coast ===== -/
def gz (f : Nat → Int32) (nn pl : Nat) : Prop := (pl - 2) / 5 < nn ∧ (((pl - 2) % 5 = 0 ∧ f pl = 59) ∨ ((pl - 2) % 5 = 1 ∧ (f pl = 103 ∨ f pl = 104 ∨ f pl = 111)) ∨ ((pl - 2) % 5 = 2 ∧ ∃ d, 1 ≤ d ∧ d ≤ 9 ∧ f pl = nI (48 + d)) ∨ (3 ≤ (pl - 2) % 5 ∧ ∃ d, d < nn ∧ d ≠ (pl - 2) / 5 ∧ f pl = nI (48 + d)))
def cnt (f : Nat → Int32) (nn : Nat) : Prop := 2 ≤ nn ∧ nn ≤ 6 ∧ f 1 = nI (48 + nn)
def goes (f : Nat → Int32) (pl : Nat) : Prop := if pl = 0 then f 0 = 100 else ∃ nn, cnt f nn ∧ (pl = 1 ∨ gz f nn pl)
theorem cnt_inj {f : Nat → Int32} {a b : Nat} (h1 : cnt f a) (h2 : cnt f b) : a = b := by
  obtain ⟨a1, a2, a3⟩ := h1
  obtain ⟨b1, b2, b3⟩ := h2
  have := nI_inj (by omega) (by omega) (a3.symm.trans b3)
  omega
def FF (f : Nat → Int32) (n t : Nat) : Prop := t ≤ n ∧ (∀ pl, pl < t → goes f pl) ∧ (t < n → ¬ goes f t) ∧ (t = n → ∀ nn, cnt f nn → n ≠ 2 + 5 * nn)
def OKT (f : Nat → Int32) (n nn : Nat) : Prop := cnt f nn ∧ n = 2 + 5 * nn ∧ ∀ pl, pl < n → goes f pl
theorem FF_inj {f : Nat → Int32} {n a b : Nat} (h1 : FF f n a) (h2 : FF f n b) : a = b := by
  rcases Nat.lt_trichotomy a b with h | h | h
  · exact absurd (h2.2.1 a h) (h1.2.2.1 (by have := h2.1; omega))
  · exact h
  · exact absurd (h1.2.1 b h) (h2.2.2.1 (by have := h1.1; omega))
theorem FF_OKT {f : Nat → Int32} {n a nn : Nat} (h1 : FF f n a) (h2 : OKT f n nn) : False := by
  by_cases h : a < n
  · exact h1.2.2.1 h (h2.2.2 a h)
  · exact h1.2.2.2 (by have := h1.1; omega) nn h2.1 h2.2.1
theorem goes_0 {f : Nat → Int32} : goes f 0 ↔ f 0 = 100 := by
  unfold goes
  rw [if_pos rfl]
theorem goes_1 {f : Nat → Int32} : goes f 1 ↔ ∃ nn, cnt f nn := by
  unfold goes
  rw [if_neg (by decide)]
  constructor
  · rintro ⟨nn, h, -⟩; exact ⟨nn, h⟩
  · rintro ⟨nn, h⟩; exact ⟨nn, h, Or.inl rfl⟩
theorem goes_2 {f : Nat → Int32} {nn pl : Nat} (h : cnt f nn) (hp : 2 ≤ pl) : goes f pl ↔ gz f nn pl := by
  unfold goes
  rw [if_neg (by omega)]
  constructor
  · rintro ⟨m, h1, h2 | h2⟩
    · omega
    · rw [cnt_inj h h1]; exact h2
  · intro h1; exact ⟨nn, h, Or.inr h1⟩
/-- what reading a text leaves -/
def mKc (w v : kW) : Prop := (∀ j, j ≠ 0 → j ≠ 8 → j ≠ 9 → j ≠ 10 → v.1 j = w.1 j) ∧ (∀ j, j ≠ 10 → j ≠ 11 → v.1 0 j = w.1 0 j)
theorem mKc.rf {w : kW} : mKc w w := ⟨fun _ _ _ _ _ => rfl, fun _ _ _ => rfl⟩
theorem mKc.tr {w v u : kW} (h1 : mKc w v) (h2 : mKc v u) : mKc w u := ⟨fun j a b c d => (h2.1 j a b c d).trans (h1.1 j a b c d), fun j a b => (h2.2 j a b).trans (h1.2 j a b)⟩
theorem mKc.row {w v : kW} {c k : Nat} {x : Int32} (h : mKc w v) (hc : c = 8 ∨ c = 9 ∨ c = 10) : mKc w (kset v c k x) :=
  h.tr ⟨fun j a b c' d => kset_row _ _ _ _ (by omega), fun j a b => kset_ne _ _ (Or.inl (by omega))⟩
theorem mKc.num {w v : kW} {k : Nat} {x : Int32} (h : mKc w v) (hc : k = 10 ∨ k = 11) : mKc w (kset v 0 k x) :=
  h.tr ⟨fun j a b c' d => kset_row _ _ _ _ a, fun j a b => kset_ne _ _ (Or.inr (by omega))⟩
theorem dig_of {x : Int32} {lo hi : Nat} (hh : hi ≤ 100 ∧ lo ≤ 100) (h1 : nI (48 + lo) ≤ x) (h2 : x ≤ nI (48 + hi)) : ∃ d, lo ≤ d ∧ d ≤ hi ∧ x = nI (48 + d) := by
  have h0 : ¬ x < 0 := by
    intro h
    rw [Int32.le_iff_toInt_le, nI_toInt (by omega)] at h1
    rw [Int32.lt_iff_toInt_lt, show (0 : Int32).toInt = 0 from rfl] at h
    omega
  obtain ⟨j, hj, rfl⟩ := nle_of (l := 48 + hi) (by omega) h0 h2
  have := (nI_leI (by omega) (by omega)).mp h1
  exact ⟨j - 48, by omega, by omega, by rw [Nat.add_sub_cancel' (by omega)]⟩
def kcode (x : Int32) (k : Nat) : Prop := (x = 103 ∧ k = 0) ∨ (x = 104 ∧ k = 1) ∨ (x = 111 ∧ k = 2)
theorem kcode_inj {x : Int32} {a b : Nat} (h1 : kcode x a) (h2 : kcode x b) : a = b := by
  rcases h1 with ⟨rfl, rfl⟩ | ⟨rfl, rfl⟩ | ⟨rfl, rfl⟩ <;> rcases h2 with ⟨h, rfl⟩ | ⟨h, rfl⟩ | ⟨h, rfl⟩ <;> first | rfl | exact absurd h (by decide)
/-- the codes of person p, and what they say -/
def TP (f : Nat → Int32) (nn p k h a b : Nat) : Prop := kcode (f (5 * p + 3)) k ∧ (1 ≤ h ∧ h ≤ 9 ∧ f (5 * p + 4) = nI (48 + h)) ∧ (a < nn ∧ a ≠ p ∧ f (5 * p + 5) = nI (48 + a)) ∧ (b < nn ∧ b ≠ p ∧ f (5 * p + 6) = nI (48 + b))
def rowsQ (p : Nat) (w v : kW) : Prop := ∀ q, q < p → v.1 8 q = w.1 8 q ∧ v.1 9 q = w.1 9 q ∧ v.1 10 (2 * q) = w.1 10 (2 * q) ∧ v.1 10 (2 * q + 1) = w.1 10 (2 * q + 1)
theorem rowsQ.row {p c k : Nat} {w v : kW} {x : Int32} (h : rowsQ p w v) (hc : c = 0 ∨ (c = 8 ∧ p ≤ k) ∨ (c = 9 ∧ p ≤ k) ∨ (c = 10 ∧ 2 * p ≤ k)) : rowsQ p w (kset v c k x) := fun q hq => by
  rw [kset_ne _ _ (by omega), kset_ne _ _ (by omega), kset_ne _ _ (by omega), kset_ne _ _ (by omega)]
  exact h q hq
def goesR (f : Nat → Int32) (lo hi : Nat) : Prop := ∀ j, lo ≤ j → j < hi → goes f j
theorem goesR.up {f : Nat → Int32} {lo hi : Nat} (h : goesR f lo hi) (h1 : goes f hi) : goesR f lo (hi + 1) := fun j a b => by
  by_cases e : j = hi
  · subst e; exact h1
  · exact h j a (by omega)
theorem gz_3 {f : Nat → Int32} {nn p : Nat} (hp : p < nn) : gz f nn (5 * p + 3) ↔ (f (5 * p + 3) = 103 ∨ f (5 * p + 3) = 104 ∨ f (5 * p + 3) = 111) := by
  unfold gz
  rw [show (5 * p + 3 - 2) / 5 = p by omega, show (5 * p + 3 - 2) % 5 = 1 by omega]
  simp [hp]
theorem gz_4 {f : Nat → Int32} {nn p : Nat} (hp : p < nn) : gz f nn (5 * p + 4) ↔ ∃ d, 1 ≤ d ∧ d ≤ 9 ∧ f (5 * p + 4) = nI (48 + d) := by
  unfold gz
  rw [show (5 * p + 4 - 2) / 5 = p by omega, show (5 * p + 4 - 2) % 5 = 2 by omega]
  simp [hp]
theorem gz_5 {f : Nat → Int32} {nn p i : Nat} (hp : p < nn) (hi : i < 2) : gz f nn (5 * p + 5 + i) ↔ ∃ d, d < nn ∧ d ≠ p ∧ f (5 * p + 5 + i) = nI (48 + d) := by
  unfold gz
  rw [show (5 * p + 5 + i - 2) / 5 = p by omega, show (5 * p + 5 + i - 2) % 5 = 3 + i by omega]
  constructor
  · rintro ⟨-, ⟨h, -⟩ | ⟨h, -⟩ | ⟨h, -⟩ | ⟨-, h⟩⟩
    · omega
    · omega
    · omega
    · exact h
  · intro h; exact ⟨hp, Or.inr (Or.inr (Or.inr ⟨by omega, h⟩))⟩
end
section
theorem mAg_0 {w : kW} {j l : Nat} {sort i n : Int32} (h : mAg w j sort i n = 0) (hl : w.1 2 j = nI l) (hl5 : l ≤ 50) : ∃ ii m, i = nI ii ∧ n = nI m ∧ ii + m ≤ l ∧ w.1 1 j = sort := by
  unfold mAg at h
  by_cases c1 : ¬ w.1 1 j = -9 ∧ ¬ w.1 1 j = sort
  · rw [if_pos c1] at h; exact absurd h (by decide)
  · rw [if_neg c1] at h
    by_cases c2 : w.1 1 j = -9
    · rw [if_pos c2] at h; exact absurd h (by decide)
    · rw [if_neg c2] at h
      by_cases c3 : 0 ≤ n
      · rw [if_pos c3] at h
        by_cases c4 : ¬ i < 0 ∧ i ≤ w.1 2 j ∧ n ≤ w.1 2 j - i
        · obtain ⟨d1, d2, d3⟩ := c4
          rw [hl] at d2 d3
          obtain ⟨ii, hi, rfl⟩ := nle_of (by omega) d1 d2
          rw [nI_sub hi] at d3
          obtain ⟨m, hm, rfl⟩ := nle_of (l := l - ii) (by omega) (Int32.not_lt.mpr c3) d3
          refine ⟨ii, m, rfl, rfl, by omega, ?_⟩
          rcases Classical.em (w.1 1 j = sort) with e | e
          · exact e
          · exact absurd ⟨c2, e⟩ c1
        · rw [if_neg c4] at h; exact absurd h (by decide)
      · rw [if_neg c3] at h; exact absurd h (by decide)
/-- a person's rows, as the text tells -/
def pRow (u : kW) (p k h a b : Nat) : Prop := u.1 4 p = nI k ∧ u.1 5 p = nI h ∧ u.1 6 (2 * p) = nI a ∧ u.1 6 (2 * p + 1) = nI b ∧ u.1 7 p = 0
def CoOK (f : Nat → Int32) (nn : Nat) (w w' : kW) : Prop := w'.1 0 5 = nI nn ∧ w'.1 0 15 = 0 ∧ w'.1 0 35 = 0 ∧ w'.1 0 0 = 0 ∧ w'.1 0 1 = w.1 0 1 ∧ w'.1 0 20 = w.1 0 20 ∧ w'.1 1 = w.1 1 ∧ w'.1 2 = w.1 2 ∧ w'.1 3 = w.1 3 ∧ ∀ p, p < nn → ∃ k h a b, TP f nn p k h a b ∧ pRow w' p k h a b
def txt (w : kW) (k i : Int32) : Nat → Int32 := fun x => w.1 3 (50 * dn k + dn i + x)
def PCo (w : kW) (k sort i n : Int32) (r : Option Value) (w' : kW) : Prop :=
  (¬ isS k ∧ r = some (.int (-1)) ∧ kset w 0 0 0 = w') ∨ (isS k ∧ ¬ isT sort ∧ r = some (.int (-2)) ∧ kset w 0 0 0 = w') ∨
  (isS k ∧ isT sort ∧ ¬ mAg w (dn k) sort i n = 0 ∧ r = some (.int (-10 - mAg w (dn k) sort i n)) ∧ kset w 0 0 (mAg w (dn k) sort i n) = w') ∨
  (isS k ∧ isT sort ∧ mAg w (dn k) sort i n = 0 ∧ ((∃ t, FF (txt w k i) (dn n) t ∧ r = some (.int (-100 - nI t)) ∧ mKc (kset w 0 0 0) w') ∨ (∃ nn, OKT (txt w k i) (dn n) nn ∧ r = some (.int (nI nn)) ∧ CoOK (txt w k i) nn w w')))
theorem TP_inj {f : Nat → Int32} {nn p k h a b k' h' a' b' : Nat} (hn : nn ≤ 6) (h1 : TP f nn p k h a b) (h2 : TP f nn p k' h' a' b') : k = k' ∧ h = h' ∧ a = a' ∧ b = b' := by
  obtain ⟨p1, ⟨p2, p3, p4⟩, ⟨p5, p6, p7⟩, p8, p9, p10⟩ := h1
  obtain ⟨q1, ⟨q2, q3, q4⟩, ⟨q5, q6, q7⟩, q8, q9, q10⟩ := h2
  have e1 := nI_inj (by omega) (by omega) (p4.symm.trans q4)
  have e2 := nI_inj (by omega) (by omega) (p7.symm.trans q7)
  have e3 := nI_inj (by omega) (by omega) (p10.symm.trans q10)
  exact ⟨kcode_inj p1 q1, by omega, by omega, by omega⟩
def FstP (P : Nat → Prop) (m t : Nat) : Prop := t ≤ m ∧ (∀ s, s < t → P s) ∧ (t < m → ¬ P t)
theorem FstP_inj {P : Nat → Prop} {m a b : Nat} (h1 : FstP P m a) (h2 : FstP P m b) : a = b := by
  rcases Nat.lt_trichotomy a b with h | h | h
  · exact absurd (h2.2.1 a h) (h1.2.2 (by have := h2.1; omega))
  · exact h
  · exact absurd (h1.2.1 b h) (h2.2.2 (by have := h1.1; omega))
def frAt (n c : Nat) (w : kW) (f : Nat → Int32) (s : Nat) : Prop := mFree (mGo n c w s) (dn (f s)) (nI s)
def PRow (nn c : Nat) (w : kW) (k sort i n : Int32) (r : Option Value) (w' : kW) : Prop :=
  (¬ isS k ∧ r = some (.int (-1)) ∧ kset w 0 0 0 = w') ∨ (isS k ∧ ¬ isT sort ∧ r = some (.int (-2)) ∧ kset w 0 0 0 = w') ∨
  (isS k ∧ isT sort ∧ ¬ mAg w (dn k) sort i n = 0 ∧ r = some (.int (-10 - mAg w (dn k) sort i n)) ∧ kset w 0 0 (mAg w (dn k) sort i n) = w') ∨
  (isS k ∧ isT sort ∧ mAg w (dn k) sort i n = 0 ∧ w.1 0 5 = 0 ∧ r = some (.int (-3)) ∧ kset w 0 0 0 = w') ∨
  (isS k ∧ isT sort ∧ mAg w (dn k) sort i n = 0 ∧ ¬ w.1 0 5 = 0 ∧ (∃ s, s < dn n ∧ ¬ isPr w (txt w k i s)) ∧ r = some (.int (-1)) ∧ kset w 0 0 0 = w') ∨
  (isS k ∧ isT sort ∧ mAg w (dn k) sort i n = 0 ∧ ¬ w.1 0 5 = 0 ∧ (∀ s, s < dn n → isPr w (txt w k i s)) ∧ ∃ t, FstP (frAt nn c w (txt w k i)) (dn n) t ∧ r = some (.int (nI t)) ∧ mKp c (kset w 0 0 0) w')
end
section
def RA (n : Nat) (w g : kW) : Prop := ∀ p, p < n → (bt (w.1 1 1) p = false ↔ g.1 7 p = 0)
def RR (q : Nat) (w g : kW) : Prop := w.1 11 0 = nI q ∧ ∀ k, k < q → w.1 12 k = g.1 26 k ∧ w.1 13 k = g.1 27 k ∧ w.1 14 k = g.1 28 k
def RS1 (k : Nat) (w g : kW) : Prop := ((w.1 (31 + k) 0 = 0 ∧ g.1 1 k = -9) ∨ (w.1 (31 + k) 0 = 1 ∧ isT (g.1 1 k) ∧ g.1 1 k = w.1 (31 + k) 1)) ∧ g.1 2 k = w.1 (31 + k) 2 ∧ ∀ x, x < 50 → w.1 (35 + k) x = g.1 3 (50 * k + x)
def RN (w g : kW) : Prop := w.1 0 5 = g.1 0 1 ∧ w.1 0 6 = g.1 0 0
/-- the class's world beside the model's -/
def Rel (n c q : Nat) (w g : kW) : Prop := MInv n c q g ∧ RP n w g ∧ RI c w g ∧ RA n w g ∧ RR q w g ∧ (∀ k, k < 4 → RS1 k w g) ∧ RN w g
/-- what a call of the class leaves: the number told, a world beside the model's -/
def RQ (R : Int32 × kW) (r : Option Value) (w' : kW) : Prop := r = some (.int R.1) ∧ ∃ n c q, Rel n c q w' R.2
theorem Rel.k2 {n c q : Nat} {w w' g : kW} (h : Rel n c q w g) (hk : cK2 w w') : Rel n c q w' g := by
  obtain ⟨h1, ⟨h2, h3, h4⟩, ⟨h5, h6⟩, h7, ⟨h8, h9⟩, h10, h11, h12⟩ := h
  have e : ∀ c, (c < 15 ∨ 29 < c) → w'.1 c = w.1 c := hk
  refine ⟨h1, ⟨h2, ?_, ?_⟩, ⟨?_, ?_⟩, ?_, ⟨?_, ?_⟩, ?_, ?_, ?_⟩
  · rw [e 1 (by decide)]; exact h3
  · intro p hp; rw [e 2 (by decide), e 3 (by decide), e 4 (by decide), e 5 (by decide)]; exact h4 p hp
  · rw [e 6 (by decide)]; exact h5
  · intro k hk; rw [e 7 (by decide), e 8 (by decide), e 9 (by decide), e 10 (by decide)]; exact h6 k hk
  · intro p hp; rw [e 1 (by decide)]; exact h7 p hp
  · rw [e 11 (by decide)]; exact h8
  · intro k hk; rw [e 12 (by decide), e 13 (by decide), e 14 (by decide)]; exact h9 k hk
  · intro k hk
    unfold RS1
    rw [e (31 + k) (by omega), e (35 + k) (by omega)]
    exact h10 k hk
  · rw [e 0 (by decide)]; exact h11
  · rw [e 0 (by decide)]; exact h12
theorem Rel.mk {n c q : Nat} {w g g' : kW} (h : Rel n c q w g) (hk : mKp c g g') : Rel n c q w g' := by
  obtain ⟨h1, ⟨h2, h3, h4⟩, ⟨h5, h6⟩, h7, ⟨h8, h9⟩, h10, h11, h12⟩ := h
  have hM := hk.minv h1
  have e : ∀ j, j ≠ 0 → (j < 11 ∨ 25 < j) → g'.1 j = g.1 j := hk.1
  refine ⟨hM, ⟨hM.1, h3, ?_⟩, ⟨h5, ?_⟩, ?_, ⟨h8, ?_⟩, ?_, ?_, ?_⟩
  · intro p hp; rw [e 4 (by decide) (by decide), e 5 (by decide) (by decide), e 6 (by decide) (by decide)]; exact h4 p hp
  · intro k hk2; rw [hk.2.1 11 k (by decide) (by decide) hk2, hk.2.1 12 k (by decide) (by decide) hk2, hk.2.1 13 k (by decide) (by decide) hk2, hk.2.1 14 k (by decide) (by decide) hk2]; exact h6 k hk2
  · intro p hp; rw [e 7 (by decide) (by decide)]; exact h7 p hp
  · intro k hk; rw [e 26 (by decide) (by decide), e 27 (by decide) (by decide), e 28 (by decide) (by decide)]; exact h9 k hk
  · intro k hk
    unfold RS1
    rw [e 1 (by decide) (by decide), e 2 (by decide) (by decide), e 3 (by decide) (by decide)]
    exact h10 k hk
  · rw [hk.2.2 1 (by decide) (by decide) (by decide)]; exact h11
  · rw [hk.2.2 0 (by decide) (by decide) (by decide)]; exact h12
theorem MInv.num {n c q k : Nat} {g : kW} {x : Int32} (h : MInv n c q g) (hk : k ≤ 1) : MInv n c q (kset g 0 k x) := by
  obtain ⟨⟨h1, h2⟩, ⟨h3, h4⟩, h5, ⟨h6, h7⟩, h8, h9⟩ := h
  have e : ∀ j, j ≠ k → (kset g 0 k x).1 0 j = g.1 0 j := fun j hj => kset_ne _ _ (Or.inr hj)
  exact ⟨⟨(e 5 (by omega)).trans h1, h2⟩, ⟨(e 15 (by omega)).trans h3, h4⟩, h5, ⟨(e 35 (by omega)).trans h6, h7⟩, (e 20 (by omega)).trans h8, h9⟩
theorem RS1.of {k : Nat} {w g w' g' : kW} (h : RS1 k w g) (e1 : w'.1 (31 + k) = w.1 (31 + k)) (e2 : w'.1 (35 + k) = w.1 (35 + k)) (e3 : g'.1 1 k = g.1 1 k) (e4 : g'.1 2 k = g.1 2 k) (e5 : ∀ x, x < 50 → g'.1 3 (50 * k + x) = g.1 3 (50 * k + x)) : RS1 k w' g' := by
  unfold RS1
  rw [e1, e2, e3, e4]
  exact ⟨h.1, h.2.1, fun x hx => (h.2.2 x hx).trans (e5 x hx).symm⟩
theorem Rel.flt {n c q : Nat} {w g : kW} {x : Int32} (h : Rel n c q w g) : Rel n c q (kset w 0 6 x) (kset g 0 0 x) := by
  obtain ⟨h1, ⟨h2, h3, h4⟩, h5, h7, h8, h10, h11, h12⟩ := h
  have hM := h1.num (k := 0) (x := x) (by decide)
  exact ⟨hM, ⟨hM.1, h3, h4⟩, h5, h7, h8, fun k hk => (h10 k hk).of (kset_row _ _ _ _ (by omega)) (kset_row _ _ _ _ (by omega)) rfl rfl (fun _ _ => rfl), h11, rfl⟩
theorem Rel.trc {n c q : Nat} {w g : kW} {x : Int32} (h : Rel n c q w g) : Rel n c q (kset w 0 5 x) (kset g 0 1 x) := by
  obtain ⟨h1, ⟨h2, h3, h4⟩, h5, h7, h8, h10, h11, h12⟩ := h
  have hM := h1.num (k := 1) (x := x) (by decide)
  exact ⟨hM, ⟨hM.1, h3, h4⟩, h5, h7, h8, fun k hk => (h10 k hk).of (kset_row _ _ _ _ (by omega)) (kset_row _ _ _ _ (by omega)) rfl rfl (fun _ _ => rfl), rfl, h12⟩
theorem Rel.hp {n c q : Nat} {w g : kW} (h : Rel n c q w g) : w.1 1 0 = g.1 0 5 := h.2.1.2.1.trans h.1.1.1.symm
theorem Rel.hc {n c q : Nat} {w g : kW} (h : Rel n c q w g) : w.1 6 0 = g.1 0 15 := h.2.2.1.1.trans h.1.2.1.1.symm
theorem Rel.hq {n c q : Nat} {w g : kW} (h : Rel n c q w g) : w.1 11 0 = g.1 0 35 := h.2.2.2.2.1.1.trans h.1.2.2.2.1.1.symm
theorem lt_le {x : Int32} {a b : Int32} (hab : b.toInt = a.toInt + 1) : x < b ↔ x ≤ a := by
  rw [Int32.lt_iff_toInt_lt, Int32.le_iff_toInt_le]; omega
set_option maxRecDepth 100000 in
set_option maxHeartbeats 1000000 in
theorem s_X7_isLane {w : kW} {k : Int32} : Spec shC yX7_isLane cX7_isLane 1 (some .boolean) 0 0 [.int k] w (fun r w' => w = w' ∧ ((r = some (.int 1) ∧ (0 ≤ k ∧ k ≤ 2)) ∨ (r = some (.int 0) ∧ ¬ (0 ≤ k ∧ k ≤ 2)))) := by
  refine k_enter pn_X7 (Nat.le_of_ble_eq_true rfl) ?_
  refine b_iload_n dX7_isLane_0 rfl ?_
  refine b_if_lt (tgt := 13) dX7_isLane_1 (by decide) (fun h1 => ?_) (fun h1 => ?_)
  · refine b_iconst (v := 0) dX7_isLane_13 (by decide) ?_
    exact b_zret (Or.inl rfl) dX7_isLane_14 rfl ⟨rfl, Or.inr ⟨rfl, fun z => absurd z.1 (Int32.not_le.mpr h1)⟩⟩
  · refine b_iload_n dX7_isLane_4 rfl ?_
    refine b_iconst (v := 3) dX7_isLane_5 (by decide) ?_
    refine b_icmp_ge (tgt := 13) dX7_isLane_6 (by decide) (fun h6 => ?_) (fun h6 => ?_)
    · refine b_iconst (v := 0) dX7_isLane_13 (by decide) ?_
      exact b_zret (Or.inl rfl) dX7_isLane_14 rfl ⟨rfl, Or.inr ⟨rfl, fun z => absurd ((lt_le (a := 2) (b := 3) (by decide)).mpr z.2) (Int32.not_lt.mpr h6)⟩⟩
    · refine b_iconst (v := 1) dX7_isLane_9 (by decide) ?_
      refine b_goto (tgt := 14) dX7_isLane_10 (by decide) ?_
      exact b_zret (Or.inr rfl) dX7_isLane_14 rfl ⟨rfl, Or.inl ⟨rfl, Int32.not_lt.mp h1, (lt_le (by decide)).mp (Int32.not_le.mp h6)⟩⟩
set_option maxRecDepth 100000 in
set_option maxHeartbeats 1000000 in
theorem s_X7_isDay {w : kW} {k : Int32} : Spec shC yX7_isDay cX7_isDay 1 (some .boolean) 0 0 [.int k] w (fun r w' => w = w' ∧ ((r = some (.int 1) ∧ (0 ≤ k ∧ k ≤ 29)) ∨ (r = some (.int 0) ∧ ¬ (0 ≤ k ∧ k ≤ 29)))) := by
  refine k_enter pn_X7 (Nat.le_of_ble_eq_true rfl) ?_
  refine b_iload_n dX7_isDay_0 rfl ?_
  refine b_if_lt (tgt := 14) dX7_isDay_1 (by decide) (fun h1 => ?_) (fun h1 => ?_)
  · refine b_iconst (v := 0) dX7_isDay_14 (by decide) ?_
    exact b_zret (Or.inl rfl) dX7_isDay_15 rfl ⟨rfl, Or.inr ⟨rfl, fun z => absurd z.1 (Int32.not_le.mpr h1)⟩⟩
  · refine b_iload_n dX7_isDay_4 rfl ?_
    refine b_bipush (v := 30) dX7_isDay_5 (by decide) ?_
    refine b_icmp_ge (tgt := 14) dX7_isDay_7 (by decide) (fun h7 => ?_) (fun h7 => ?_)
    · refine b_iconst (v := 0) dX7_isDay_14 (by decide) ?_
      exact b_zret (Or.inl rfl) dX7_isDay_15 rfl ⟨rfl, Or.inr ⟨rfl, fun z => absurd ((lt_le (a := 29) (b := 30) (by decide)).mpr z.2) (Int32.not_lt.mpr h7)⟩⟩
    · refine b_iconst (v := 1) dX7_isDay_10 (by decide) ?_
      refine b_goto (tgt := 15) dX7_isDay_11 (by decide) ?_
      exact b_zret (Or.inr rfl) dX7_isDay_15 rfl ⟨rfl, Or.inl ⟨rfl, Int32.not_lt.mp h1, (lt_le (by decide)).mp (Int32.not_le.mp h7)⟩⟩
set_option maxRecDepth 100000 in
set_option maxHeartbeats 1000000 in
theorem s_X7_isDawn {w : kW} {k : Int32} : Spec shC yX7_isDawn cX7_isDawn 1 (some .boolean) 0 0 [.int k] w (fun r w' => w = w' ∧ ((r = some (.int 1) ∧ (0 ≤ k ∧ k ≤ 59)) ∨ (r = some (.int 0) ∧ ¬ (0 ≤ k ∧ k ≤ 59)))) := by
  refine k_enter pn_X7 (Nat.le_of_ble_eq_true rfl) ?_
  refine b_iload_n dX7_isDawn_0 rfl ?_
  refine b_if_lt (tgt := 14) dX7_isDawn_1 (by decide) (fun h1 => ?_) (fun h1 => ?_)
  · refine b_iconst (v := 0) dX7_isDawn_14 (by decide) ?_
    exact b_zret (Or.inl rfl) dX7_isDawn_15 rfl ⟨rfl, Or.inr ⟨rfl, fun z => absurd z.1 (Int32.not_le.mpr h1)⟩⟩
  · refine b_iload_n dX7_isDawn_4 rfl ?_
    refine b_bipush (v := 60) dX7_isDawn_5 (by decide) ?_
    refine b_icmp_ge (tgt := 14) dX7_isDawn_7 (by decide) (fun h7 => ?_) (fun h7 => ?_)
    · refine b_iconst (v := 0) dX7_isDawn_14 (by decide) ?_
      exact b_zret (Or.inl rfl) dX7_isDawn_15 rfl ⟨rfl, Or.inr ⟨rfl, fun z => absurd ((lt_le (a := 59) (b := 60) (by decide)).mpr z.2) (Int32.not_lt.mpr h7)⟩⟩
    · refine b_iconst (v := 1) dX7_isDawn_10 (by decide) ?_
      refine b_goto (tgt := 15) dX7_isDawn_11 (by decide) ?_
      exact b_zret (Or.inr rfl) dX7_isDawn_15 rfl ⟨rfl, Or.inl ⟨rfl, Int32.not_lt.mp h1, (lt_le (by decide)).mp (Int32.not_le.mp h7)⟩⟩
set_option maxRecDepth 100000 in
set_option maxHeartbeats 1000000 in
theorem s_X7_isEmpty {w : kW} : Spec shC yX7_isEmpty cX7_isEmpty 1 (some .boolean) 0 0 [.ref 0] w (fun r w' => w = w' ∧ ((r = some (.int 1) ∧ (w.1 1 0 = 0)) ∨ (r = some (.int 0) ∧ ¬ (w.1 1 0 = 0)))) := by
  refine k_enter pn_X7 (Nat.le_of_ble_eq_true rfl) ?_
  refine b_aload_n dX7_isEmpty_0 rfl ?_
  refine b_getr dX7_isEmpty_1 gf_X7_14 rfl rfl ?_
  refine b_geti dX7_isEmpty_4 gf_X7_84 rfl rfl ?_
  refine b_if_ne (tgt := 14) dX7_isEmpty_7 (by decide) (fun h7 => ?_) (fun h7 => ?_)
  · refine b_iconst (v := 0) dX7_isEmpty_14 (by decide) ?_
    refine b_zret (Or.inl rfl) dX7_isEmpty_15 rfl ⟨rfl, Or.inr ⟨rfl, ?_⟩⟩
    exact h7
  · refine b_iconst (v := 1) dX7_isEmpty_10 (by decide) ?_
    refine b_goto (tgt := 15) dX7_isEmpty_11 (by decide) ?_
    refine b_zret (Or.inr rfl) dX7_isEmpty_15 rfl ⟨rfl, Or.inl ⟨rfl, ?_⟩⟩
    exact h7
set_option maxRecDepth 100000 in
set_option maxHeartbeats 1000000 in
theorem s_X7_faulted {w : kW} {k : Int32} : Spec shC yX7_faulted cX7_faulted 2 (some .int) 0 0 [.ref 0, .int k] w (fun r w' => r = some (.int (-10 - k)) ∧ kset w 0 6 k = w') := by
  refine k_enter pn_X7 (Nat.le_of_ble_eq_true rfl) ?_
  refine b_aload_n dX7_faulted_0 rfl ?_
  refine b_iload_n dX7_faulted_1 rfl ?_
  refine b_puti dX7_faulted_2 gf_X7_50 gs_X7_6 rfl rfl ?_
  refine b_bipush (v := (-10)) dX7_faulted_5 (by decide) ?_
  refine b_iload_n dX7_faulted_7 rfl ?_
  refine b_isub dX7_faulted_8 ?_
  refine b_iret dX7_faulted_9 rfl ⟨?_, ?_⟩
  · rfl
  · rfl
def ctr (w : kW) (b : Int32) : kW := kset w 0 5 (31 * w.1 0 5 + b)
theorem Rel.tr {n c q : Nat} {w g : kW} {b : Int32} (h : Rel n c q w g) : Rel n c q (ctr w b) (tr1 g b) := by
  have e := h.2.2.2.2.2.2.1
  unfold ctr tr1
  rw [e]
  exact h.trc
set_option maxRecDepth 100000 in
set_option maxHeartbeats 1000000 in
theorem s_X7_cut {w : kW} {v l : Int32} (hl : isT l) : Spec shC yX7_cut cX7_cut 2 (some .int) 0 0 [.int v, .int l] w (fun r w' => r = some (.int (mCut l v)) ∧ w = w') := by
  refine k_enter pn_X7 (Nat.le_of_ble_eq_true rfl) ?_
  refine b_iload_n dX7_cut_0 rfl ?_
  obtain ⟨x, hx, rfl⟩ := nI_of2 (n := 2) (M := 2) (by decide) (Int32.not_lt.mpr hl.1) hl.2
  rcases (show x = 0 ∨ x = 1 ∨ x = 2 by omega) with rfl | rfl | rfl
  · refine b_lsw (off := 27) (tgt := 28) dX7_cut_1 (by decide) (by decide) (by decide) ?_
    refine b_iload_n dX7_cut_28 rfl ?_
    refine b_i2b dX7_cut_29 ?_
    refine b_iret dX7_cut_30 rfl ⟨?_, ?_⟩
    · rfl
    · rfl
  · refine b_lsw (off := 30) (tgt := 31) dX7_cut_1 (by decide) (by decide) (by decide) ?_
    refine b_iload_n dX7_cut_31 rfl ?_
    refine b_i2s dX7_cut_32 ?_
    refine b_iret dX7_cut_33 rfl ⟨?_, ?_⟩
    · rfl
    · rfl
  · refine b_lsw (off := 33) (tgt := 34) dX7_cut_1 (by decide) (by decide) (by decide) ?_
    refine b_iload_n dX7_cut_34 rfl ?_
    refine b_iret dX7_cut_35 rfl ⟨?_, ?_⟩
    · rfl
    · rfl
end
section
theorem s_has {w g : kW} {n c q : Nat} (h : Rel n c q w g) {p : Int32} : Spec shC yX2_has cX2_has 2 (some .boolean) 0 0 [.ref 1, .int p] w (fun r w' => w = w' ∧ ((r = some (.int 1) ∧ isPr g p) ∨ (r = some (.int 0) ∧ ¬ isPr g p))) := by
  have := @s_X2_has w p
  rw [h.hp] at this
  exact this
theorem s_hasTwo {w g : kW} {n c q : Nat} (h : Rel n c q w g) {p o : Int32} : Spec shC yX2_hasTwo cX2_hasTwo 3 (some .boolean) 1 21 [.ref 1, .int p, .int o] w (fun r w' => w = w' ∧ ((r = some (.int 1) ∧ (isPr g p ∧ isPr g o ∧ ¬ p = o)) ∨ (r = some (.int 0) ∧ ¬ (isPr g p ∧ isPr g o ∧ ¬ p = o)))) := by
  have := @s_X2_hasTwo w p o
  rw [h.hp] at this
  exact this
theorem s_empty {w g : kW} {n c q : Nat} (h : Rel n c q w g) : Spec shC yX7_isEmpty cX7_isEmpty 1 (some .boolean) 0 0 [.ref 0] w (fun r w' => w = w' ∧ ((r = some (.int 1) ∧ g.1 0 5 = 0) ∨ (r = some (.int 0) ∧ ¬ g.1 0 5 = 0))) := by
  have := @s_X7_isEmpty w
  rw [h.hp] at this
  exact this
theorem Rel.ins {n c q : Nat} {w g : kW} {a b d e : Nat} (h : Rel n c q w g) (hc : c < 8) (ha : a < n) (hb : b < n) (hab : a ≠ b) (hd : d < 30) (h1 : 1 ≤ e) (h9 : e ≤ 9) : Rel n (c + 1) q (kset (kset (kset (kset (kset w 7 c (nI a)) 8 c (nI b)) 9 c (nI d)) 10 c (nI e)) 6 0 (nI c + 1)) (kset (kset (kset (kset (kset g 11 c (nI a)) 12 c (nI b)) 13 c (nI d)) 14 c (nI e)) 0 15 (nI c + 1)) := by
  obtain ⟨⟨g1, ⟨i1, i2, i3⟩, g3, g4, g5, g6⟩, ⟨h2, h3, h4⟩, ⟨i4, i5⟩, h7, h8, h10, h11, h12⟩ := h
  have e2 : nI c + 1 = nI (c + 1) := nI_1 c
  refine ⟨⟨g1, ⟨e2, by omega, fun k hk => ?_⟩, by omega, g4, g5, g6⟩, ⟨g1, h3, h4⟩, ⟨e2, fun k hk => ?_⟩, h7, h8, fun k hk => (h10 k hk).of ?_ ?_ rfl rfl (fun _ _ => rfl), h11, h12⟩
  · by_cases e : k = c
    · subst e
      refine ⟨a, b, d, _, ha, hb, hab, hd, h1, h9, ?_, ?_, ?_, ?_⟩ <;> simp [kset_1]
    · obtain ⟨a', b', d', e', z1, z2, z3, z4, z5, z6, z7, z8, z9, z10⟩ := i3 k (by omega)
      refine ⟨a', b', d', e', z1, z2, z3, z4, z5, z6, ?_, ?_, ?_, ?_⟩ <;> simp [kset_1, e, z7, z8, z9, z10]
  · by_cases e : k = c
    · subst e
      refine ⟨?_, ?_, ?_, ?_⟩ <;> simp [kset_1]
    · obtain ⟨z1, z2, z3, z4⟩ := i5 k (by omega)
      refine ⟨?_, ?_, ?_, ?_⟩ <;> simp [kset_1, e, z1, z2, z3, z4]
  · rw [kset_row _ _ _ _ (by omega), kset_row _ _ _ _ (by omega), kset_row _ _ _ _ (by omega), kset_row _ _ _ _ (by omega), kset_row _ _ _ _ (by omega)]
  · rw [kset_row _ _ _ _ (by omega), kset_row _ _ _ _ (by omega), kset_row _ _ _ _ (by omega), kset_row _ _ _ _ (by omega), kset_row _ _ _ _ (by omega)]
theorem Rel.sor {n c q k : Nat} {w g : kW} (h : Rel n c q w g) (hk : k ≤ c) : Rel n k q (kset w 6 0 (nI k)) (kset g 0 15 (nI k)) := by
  obtain ⟨⟨g1, ⟨i1, i2, i3⟩, g3, g4, g5, g6⟩, ⟨h2, h3, h4⟩, ⟨i4, i5⟩, h7, h8, h10, h11, h12⟩ := h
  exact ⟨⟨g1, ⟨rfl, by omega, fun k hk => i3 k (by omega)⟩, by omega, g4, g5, g6⟩, ⟨g1, h3, h4⟩, ⟨rfl, fun k hk => i5 k (by omega)⟩, h7, h8, fun k hk => (h10 k hk).of (kset_row _ _ _ _ (by omega)) (kset_row _ _ _ _ (by omega)) rfl rfl (fun _ _ => rfl), h11, h12⟩
theorem Rel.arr {n c q p : Nat} {w g : kW} {s b : Int32} (h : Rel n c q w g) (hb : b = 0 ∨ b = 1) (hs : ∀ k, k < n → (bt s k = false ↔ (if k = p then b else g.1 7 k) = 0)) : Rel n c q (kset w 1 1 s) (kset g 7 p b) := by
  obtain ⟨⟨⟨p1, p2, p3, p4, p5, p6⟩, g2, g3, g4, g5, g6⟩, ⟨h2, h3, h4⟩, h5, h7, h8, h10, h11, h12⟩ := h
  have hP : Pn n (kset g 7 p b) := ⟨p1, p2, p3, p4, fun k hk => by
    rw [kset_1, if_pos rfl]
    by_cases e : k = p
    · rw [if_pos e]; exact hb
    · rw [if_neg e]; exact p5 k hk, p6⟩
  refine ⟨⟨hP, g2, g3, g4, g5, g6⟩, ⟨hP, h3, h4⟩, h5, fun k hk => ?_, h8, fun k hk => (h10 k hk).of (kset_row _ _ _ _ (by omega)) (kset_row _ _ _ _ (by omega)) rfl rfl (fun _ _ => rfl), h11, h12⟩
  have e1 : (kset w 1 1 s).1 1 1 = s := rfl
  rw [e1, kset_1, if_pos rfl]
  exact hs k hk
set_option maxRecDepth 100000 in
set_option maxHeartbeats 1000000 in
theorem s_X7_ofPerson {w g : kW} {n c q : Nat} (hh : Rel n c q w g) {p what : Int32} : Spec shC yX7_ofPerson cX7_ofPerson 3 (some .int) 2 44 [.ref 0, .int p, .int what] w (fun r w' => RQ (R_ofPerson g p what) r w') := by
  obtain ⟨hM, hRP, hRI, hRA, hRR, hRS, hRN⟩ := id hh
  obtain ⟨hP, hI, hc8, hRd, hu, hS⟩ := id hM
  have hn := hP.le
  refine k_enter pn_X7 (Nat.le_of_ble_eq_true rfl) ?_
  refine b_aload_n dX7_ofPerson_0 rfl ?_
  refine b_getr dX7_ofPerson_1 gf_X7_14 rfl rfl ?_
  refine b_iload_n dX7_ofPerson_4 rfl ?_
  refine b_callV1 dX7_ofPerson_5 lk_X7_85 rfl rfl rfl ⟨Nat.le_of_ble_eq_true rfl, Nat.le_of_ble_eq_true rfl⟩ (Nat.le_of_ble_eq_true rfl) (s_has hh) (fun r w5 h5 => ?_)
  obtain ⟨rfl, h5⟩ := h5
  rcases h5 with ⟨rfl, h5⟩ | ⟨rfl, h5⟩
  · refine b_if_ne (tgt := 13) dX7_ofPerson_8 (by decide) (fun h8 => ?_) (fun h8 => absurd h8 (by decide))
    have hq2 : isPr g p := h5
    obtain ⟨pp, hp, rfl⟩ := pers_of hP hq2
    obtain ⟨ho, ho1, ho9, eh⟩ := hP.2.2.1 pp hp
    obtain ⟨kd, hkd, ek⟩ := hP.2.2.2.2.2 pp hp
    refine b_iload_n dX7_ofPerson_13 rfl ?_
    by_cases hw : (0 : Int32) ≤ what ∧ what ≤ 5
    obtain ⟨x, hx, rfl⟩ := nI_of2 (n := 5) (M := 5) (by decide) (Int32.not_lt.mpr hw.1) hw.2
    rcases (show x = 0 ∨ x = 1 ∨ x = 2 ∨ x = 3 ∨ x = 4 ∨ x = 5 by omega) with rfl | rfl | rfl | rfl | rfl | rfl
    · refine b_tsIn (off := 38) (tgt := 52) dX7_ofPerson_14 (by decide) (by decide) (by decide) (by decide) ?_
      refine b_aload_n dX7_ofPerson_52 rfl ?_
      refine b_getr dX7_ofPerson_53 gf_X7_14 rfl rfl ?_
      refine b_getr dX7_ofPerson_56 gf_X7_88 rfl rfl ?_
      refine b_iload_n dX7_ofPerson_59 rfl ?_
      refine b_ialdN dX7_ofPerson_60 rfl ⟨by omega, by decide⟩ ?_
      refine b_topi (y := g.1 4 pp) (hRP.2.2 pp hp).1 ?_
      refine b_iret dX7_ofPerson_61 rfl ⟨?_, n, c, q, ?_⟩
      · simp only [R_ofPerson, if_pos hq2, dn_nI (show pp < 2 ^ 31 by omega), if_pos (show (0 : Int32) ≤ nI 0 ∧ nI 0 ≤ 5 by decide), if_pos (show nI 0 = 0 by decide)] <;> rfl
      · simp only [R_ofPerson, if_pos hq2, dn_nI (show pp < 2 ^ 31 by omega), if_pos (show (0 : Int32) ≤ nI 0 ∧ nI 0 ≤ 5 by decide), if_pos (show nI 0 = 0 by decide)] <;> exact hh
    · refine b_tsIn (off := 48) (tgt := 62) dX7_ofPerson_14 (by decide) (by decide) (by decide) (by decide) ?_
      refine b_aload_n dX7_ofPerson_62 rfl ?_
      refine b_getr dX7_ofPerson_63 gf_X7_14 rfl rfl ?_
      refine b_getr dX7_ofPerson_66 gf_X7_92 rfl rfl ?_
      refine b_iload_n dX7_ofPerson_69 rfl ?_
      refine b_ialdN dX7_ofPerson_70 rfl ⟨by omega, by decide⟩ ?_
      refine b_topi (y := g.1 5 pp) (hRP.2.2 pp hp).2.1 ?_
      refine b_iret dX7_ofPerson_71 rfl ⟨?_, n, c, q, ?_⟩
      · simp only [R_ofPerson, if_pos hq2, dn_nI (show pp < 2 ^ 31 by omega), if_pos (show (0 : Int32) ≤ nI 1 ∧ nI 1 ≤ 5 by decide), if_neg (show ¬ nI 1 = 0 by decide), if_pos (show nI 1 = 1 by decide)] <;> rfl
      · simp only [R_ofPerson, if_pos hq2, dn_nI (show pp < 2 ^ 31 by omega), if_pos (show (0 : Int32) ≤ nI 1 ∧ nI 1 ≤ 5 by decide), if_neg (show ¬ nI 1 = 0 by decide), if_pos (show nI 1 = 1 by decide)] <;> exact hh
    · refine b_tsIn (off := 58) (tgt := 72) dX7_ofPerson_14 (by decide) (by decide) (by decide) (by decide) ?_
      refine b_aload_n dX7_ofPerson_72 rfl ?_
      refine b_getr dX7_ofPerson_73 gf_X7_14 rfl rfl ?_
      refine b_getr dX7_ofPerson_76 gf_X7_95 rfl rfl ?_
      refine b_iload_n dX7_ofPerson_79 rfl ?_
      refine b_ialdN dX7_ofPerson_80 rfl ⟨by omega, by decide⟩ ?_
      refine b_topi (y := g.1 6 (2 * pp)) (hRP.2.2 pp hp).2.2.1 ?_
      refine b_iret dX7_ofPerson_81 rfl ⟨?_, n, c, q, ?_⟩
      · simp only [R_ofPerson, if_pos hq2, dn_nI (show pp < 2 ^ 31 by omega), if_pos (show (0 : Int32) ≤ nI 2 ∧ nI 2 ≤ 5 by decide), if_neg (show ¬ nI 2 = 0 by decide), if_neg (show ¬ nI 2 = 1 by decide), if_pos (show nI 2 = 2 by decide)] <;> rfl
      · simp only [R_ofPerson, if_pos hq2, dn_nI (show pp < 2 ^ 31 by omega), if_pos (show (0 : Int32) ≤ nI 2 ∧ nI 2 ≤ 5 by decide), if_neg (show ¬ nI 2 = 0 by decide), if_neg (show ¬ nI 2 = 1 by decide), if_pos (show nI 2 = 2 by decide)] <;> exact hh
    · refine b_tsIn (off := 68) (tgt := 82) dX7_ofPerson_14 (by decide) (by decide) (by decide) (by decide) ?_
      refine b_aload_n dX7_ofPerson_82 rfl ?_
      refine b_getr dX7_ofPerson_83 gf_X7_14 rfl rfl ?_
      refine b_getr dX7_ofPerson_86 gf_X7_98 rfl rfl ?_
      refine b_iload_n dX7_ofPerson_89 rfl ?_
      refine b_ialdN dX7_ofPerson_90 rfl ⟨by omega, by decide⟩ ?_
      refine b_topi (y := g.1 6 (2 * pp + 1)) (hRP.2.2 pp hp).2.2.2 ?_
      refine b_iret dX7_ofPerson_91 rfl ⟨?_, n, c, q, ?_⟩
      · simp only [R_ofPerson, if_pos hq2, dn_nI (show pp < 2 ^ 31 by omega), if_pos (show (0 : Int32) ≤ nI 3 ∧ nI 3 ≤ 5 by decide), if_neg (show ¬ nI 3 = 0 by decide), if_neg (show ¬ nI 3 = 1 by decide), if_neg (show ¬ nI 3 = 2 by decide), if_pos (show nI 3 = 3 by decide)] <;> rfl
      · simp only [R_ofPerson, if_pos hq2, dn_nI (show pp < 2 ^ 31 by omega), if_pos (show (0 : Int32) ≤ nI 3 ∧ nI 3 ≤ 5 by decide), if_neg (show ¬ nI 3 = 0 by decide), if_neg (show ¬ nI 3 = 1 by decide), if_neg (show ¬ nI 3 = 2 by decide), if_pos (show nI 3 = 3 by decide)] <;> exact hh
    · refine b_tsIn (off := 78) (tgt := 92) dX7_ofPerson_14 (by decide) (by decide) (by decide) (by decide) ?_
      refine b_aload_n dX7_ofPerson_92 rfl ?_
      refine b_getr dX7_ofPerson_93 gf_X7_14 rfl rfl ?_
      refine b_iload_n dX7_ofPerson_96 rfl ?_
      refine b_callV1 dX7_ofPerson_97 lk_X7_101 rfl rfl rfl ⟨Nat.le_of_ble_eq_true rfl, Nat.le_of_ble_eq_true rfl⟩ (Nat.le_of_ble_eq_true rfl) (s_X2_touchiness (p := pp) (h := ho) (kd := kd) (by omega) ho1 ho9 hkd ((hRP.2.2 pp hp).2.1.trans eh) ((hRP.2.2 pp hp).1.trans ek)) (fun r w97 h97 => ?_)
      obtain ⟨rfl, rfl⟩ := h97
      refine b_topi (y := mTouch g pp) (by rw [mTouch_c, eh, ek]) ?_
      refine b_iret dX7_ofPerson_100 rfl ⟨?_, n, c, q, ?_⟩
      · simp only [R_ofPerson, if_pos hq2, dn_nI (show pp < 2 ^ 31 by omega), if_pos (show (0 : Int32) ≤ nI 4 ∧ nI 4 ≤ 5 by decide), if_neg (show ¬ nI 4 = 0 by decide), if_neg (show ¬ nI 4 = 1 by decide), if_neg (show ¬ nI 4 = 2 by decide), if_neg (show ¬ nI 4 = 3 by decide), if_pos (show nI 4 = 4 by decide)] <;> rfl
      · simp only [R_ofPerson, if_pos hq2, dn_nI (show pp < 2 ^ 31 by omega), if_pos (show (0 : Int32) ≤ nI 4 ∧ nI 4 ≤ 5 by decide), if_neg (show ¬ nI 4 = 0 by decide), if_neg (show ¬ nI 4 = 1 by decide), if_neg (show ¬ nI 4 = 2 by decide), if_neg (show ¬ nI 4 = 3 by decide), if_pos (show nI 4 = 4 by decide)] <;> exact hh
    · refine b_tsIn (off := 87) (tgt := 101) dX7_ofPerson_14 (by decide) (by decide) (by decide) (by decide) ?_
      refine b_aload_n dX7_ofPerson_101 rfl ?_
      refine b_getr dX7_ofPerson_102 gf_X7_14 rfl rfl ?_
      refine b_geti dX7_ofPerson_105 gf_X7_104 rfl rfl ?_
      refine b_iload_n dX7_ofPerson_108 rfl ?_
      refine b_callS2 dX7_ofPerson_109 lk_X7_107 ⟨Nat.le_of_ble_eq_true rfl, Nat.le_of_ble_eq_true rfl⟩ (Nat.le_of_ble_eq_true rfl) (s_X7_in (k := pp) (by omega)) (fun r w109 h109 => ?_)
      obtain ⟨rfl, h109⟩ := h109
      rcases h109 with ⟨rfl, h109⟩ | ⟨rfl, h109⟩
      · refine b_if_eq (tgt := 119) dX7_ofPerson_112 (by decide) (fun h112 => absurd h112 (by decide)) (fun h112 => ?_)
        refine b_iconst (v := 1) dX7_ofPerson_115 (by decide) ?_
        refine b_goto (tgt := 120) dX7_ofPerson_116 (by decide) ?_
        refine b_iret dX7_ofPerson_120 rfl ⟨?_, n, c, q, ?_⟩
        · simp only [R_ofPerson, if_pos hq2, dn_nI (show pp < 2 ^ 31 by omega), if_pos (show (0 : Int32) ≤ nI 5 ∧ nI 5 ≤ 5 by decide), if_neg (show ¬ nI 5 = 0 by decide), if_neg (show ¬ nI 5 = 1 by decide), if_neg (show ¬ nI 5 = 2 by decide), if_neg (show ¬ nI 5 = 3 by decide), if_neg (show ¬ nI 5 = 4 by decide), if_neg (fun z => absurd (((hRA pp hp).mpr z).symm.trans h109) (by decide))] <;> rfl
        · simp only [R_ofPerson, if_pos hq2, dn_nI (show pp < 2 ^ 31 by omega), if_pos (show (0 : Int32) ≤ nI 5 ∧ nI 5 ≤ 5 by decide), if_neg (show ¬ nI 5 = 0 by decide), if_neg (show ¬ nI 5 = 1 by decide), if_neg (show ¬ nI 5 = 2 by decide), if_neg (show ¬ nI 5 = 3 by decide), if_neg (show ¬ nI 5 = 4 by decide), if_neg (fun z => absurd (((hRA pp hp).mpr z).symm.trans h109) (by decide))] <;> exact hh
      · refine b_if_eq (tgt := 119) dX7_ofPerson_112 (by decide) (fun h112 => ?_) (fun h112 => absurd h112 (by decide))
        refine b_iconst (v := 0) dX7_ofPerson_119 (by decide) ?_
        refine b_iret dX7_ofPerson_120 rfl ⟨?_, n, c, q, ?_⟩
        · simp only [R_ofPerson, if_pos hq2, dn_nI (show pp < 2 ^ 31 by omega), if_pos (show (0 : Int32) ≤ nI 5 ∧ nI 5 ≤ 5 by decide), if_neg (show ¬ nI 5 = 0 by decide), if_neg (show ¬ nI 5 = 1 by decide), if_neg (show ¬ nI 5 = 2 by decide), if_neg (show ¬ nI 5 = 3 by decide), if_neg (show ¬ nI 5 = 4 by decide), if_pos ((hRA pp hp).mp (b_f h109))] <;> rfl
        · simp only [R_ofPerson, if_pos hq2, dn_nI (show pp < 2 ^ 31 by omega), if_pos (show (0 : Int32) ≤ nI 5 ∧ nI 5 ≤ 5 by decide), if_neg (show ¬ nI 5 = 0 by decide), if_neg (show ¬ nI 5 = 1 by decide), if_neg (show ¬ nI 5 = 2 by decide), if_neg (show ¬ nI 5 = 3 by decide), if_neg (show ¬ nI 5 = 4 by decide), if_pos ((hRA pp hp).mp (b_f h109))] <;> exact hh
    · refine b_tsOut (tgt := 121) dX7_ofPerson_14 (ts_out 5 (by decide) hw) (by decide) ?_
      refine b_bipush (v := (-2)) dX7_ofPerson_121 (by decide) ?_
      refine b_iret dX7_ofPerson_123 rfl ⟨?_, n, c, q, ?_⟩
      · simp only [R_ofPerson, if_pos hq2, if_neg hw] <;> rfl
      · simp only [R_ofPerson, if_pos hq2, if_neg hw] <;> exact hh
  · refine b_if_ne (tgt := 13) dX7_ofPerson_8 (by decide) (fun h8 => absurd h8 (by decide)) (fun h8 => ?_)
    refine b_iconst (v := (-1)) dX7_ofPerson_11 (by decide) ?_
    refine b_iret dX7_ofPerson_12 rfl ⟨?_, n, c, q, ?_⟩
    · simp only [R_ofPerson, if_neg h5] <;> rfl
    · simp only [R_ofPerson, if_neg h5] <;> exact hh
theorem nI_ge2 {c : Nat} (h : ¬ nI c < 8) : 8 ≤ c := by
  rcases Nat.lt_or_ge c 8 with h1 | h1
  · exact absurd (nI_lt (b := 8) h1 (by decide)) h
  · exact h1
theorem nI_lt2 {c : Nat} (hc : c ≤ 100) (h : nI c < 8) : c < 8 := by
  rcases Nat.lt_or_ge c 8 with h1 | h1
  · exact h1
  · exact absurd (nI_le (a := 8) h1 (by omega)) (Int32.not_le.mpr h)
theorem deg_of {x : Int32} (h : 1 ≤ x ∧ x ≤ 9) : ∃ d, 1 ≤ d ∧ d ≤ 9 ∧ x = nI d := by
  have h0 : ¬ x < 0 := fun z => absurd h.1 (Int32.not_le.mpr (Int32.lt_trans z (by decide)))
  obtain ⟨d, hd, rfl⟩ := nI_of2 (n := 9) (M := 9) (by decide) h0 h.2
  refine ⟨d, ?_, hd, rfl⟩
  rcases Nat.eq_zero_or_pos d with rfl | h1
  · exact absurd h.1 (by decide)
  · exact h1
set_option maxRecDepth 100000 in
set_option maxHeartbeats 1000000 in
theorem s_X7_insult {w g : kW} {n c q : Nat} (hh : Rel n c q w g) {a b d e : Int32} : Spec shC yX7_insult cX7_insult 5 (some .int) 2 43 [.ref 0, .int a, .int b, .int d, .int e] w (fun r w' => RQ (R_insult g a b d e) r w') := by
  obtain ⟨hM, hRP, hRI, hRA, hRR, hRS, hRN⟩ := id hh
  obtain ⟨hP, hI, hc8, hRd, hu, hS⟩ := id hM
  have hn := hP.le
  have ec := hRI.1
  have dnc : dn (g.1 0 15) = c := by rw [hI.1]; exact dn_nI (by omega)
  have egc : g.1 0 15 = nI c := hI.1
  refine k_enter pn_X7 (Nat.le_of_ble_eq_true rfl) ?_
  refine b_aload_n dX7_insult_0 rfl ?_
  refine b_getr dX7_insult_1 gf_X7_14 rfl rfl ?_
  refine b_iload_n dX7_insult_4 rfl ?_
  refine b_iload_n dX7_insult_5 rfl ?_
  refine b_callV2 dX7_insult_6 lk_X7_111 rfl rfl rfl ⟨Nat.le_of_ble_eq_true rfl, Nat.le_of_ble_eq_true rfl⟩ (Nat.le_of_ble_eq_true rfl) (s_hasTwo hh) (fun r w6 h6 => ?_)
  obtain ⟨rfl, h6⟩ := h6
  rcases h6 with ⟨rfl, h6⟩ | ⟨rfl, h6⟩
  · refine b_if_ne (tgt := 14) dX7_insult_9 (by decide) (fun h9 => ?_) (fun h9 => absurd h9 (by decide))
    refine b_iload_n dX7_insult_14 rfl ?_
    refine b_callS1 dX7_insult_15 lk_X7_114 ⟨Nat.le_of_ble_eq_true rfl, Nat.le_of_ble_eq_true rfl⟩ (Nat.le_of_ble_eq_true rfl) (s_X7_isDay) (fun r w15 h15 => ?_)
    obtain ⟨rfl, h15⟩ := h15
    rcases h15 with ⟨rfl, h15⟩ | ⟨rfl, h15⟩
    · refine b_if_eq (tgt := 34) dX7_insult_18 (by decide) (fun h18 => absurd h18 (by decide)) (fun h18 => ?_)
      refine b_iload dX7_insult_21 rfl ?_
      refine b_iconst (v := 1) dX7_insult_23 (by decide) ?_
      refine b_icmp_lt (tgt := 34) dX7_insult_24 (by decide) (fun h24 => ?_) (fun h24 => ?_)
      · refine b_bipush (v := (-2)) dX7_insult_34 (by decide) ?_
        refine b_iret dX7_insult_36 rfl ⟨?_, n, c, q, ?_⟩
        · simp only [R_insult, if_pos h6, if_neg (show ¬ isDayDeg d e from fun z => absurd z.2.1 (Int32.not_le.mpr h24))] <;> rfl
        · simp only [R_insult, if_pos h6, if_neg (show ¬ isDayDeg d e from fun z => absurd z.2.1 (Int32.not_le.mpr h24))] <;> exact hh
      · refine b_iload dX7_insult_27 rfl ?_
        refine b_bipush (v := 9) dX7_insult_29 (by decide) ?_
        refine b_icmp_le (tgt := 37) dX7_insult_31 (by decide) (fun h31 => ?_) (fun h31 => ?_)
        · refine b_aload_n dX7_insult_37 rfl ?_
          refine b_getr dX7_insult_38 gf_X7_23 rfl rfl ?_
          refine b_geti dX7_insult_41 gf_X7_80 rfl rfl ?_
          refine b_topi (y := nI c) ec ?_
          refine b_bipush (v := 8) dX7_insult_44 (by decide) ?_
          refine b_icmp_lt (tgt := 52) dX7_insult_46 (by decide) (fun h46 => ?_) (fun h46 => ?_)
          · have hc7 : c < 8 := nI_lt2 (by omega) h46
            have hnf : ¬ g.1 0 15 = 8 := fun z => by
              have := nI_inj (b := 8) (by omega) (by decide) (egc.symm.trans z); omega
            have hq3 := h6
            have hdd : isDayDeg d e := ⟨h15, Int32.not_lt.mp h24, h31⟩
            obtain ⟨hpa, hpb, hab⟩ := h6
            obtain ⟨aa, ha, rfl⟩ := pers_of hP hpa
            obtain ⟨bb, hb, rfl⟩ := pers_of hP hpb
            obtain ⟨dd, hd, rfl⟩ := day_of h15
            obtain ⟨ee, he1, he9, rfl⟩ := deg_of hdd.2
            refine b_aload_n dX7_insult_52 rfl ?_
            refine b_getr dX7_insult_53 gf_X7_23 rfl rfl ?_
            refine b_iload_n dX7_insult_56 rfl ?_
            refine b_iload_n dX7_insult_57 rfl ?_
            refine b_iload_n dX7_insult_58 rfl ?_
            refine b_iload dX7_insult_59 rfl ?_
            refine b_callV4 dX7_insult_61 lk_X7_117 rfl rfl rfl ⟨Nat.le_of_ble_eq_true rfl, Nat.le_of_ble_eq_true rfl⟩ (Nat.le_of_ble_eq_true rfl) (s_X0_add_6 (m := c) ec (by omega)) (fun r w61 h61 => ?_)
            obtain ⟨rfl, rfl⟩ := h61
            refine b_aload_n dX7_insult_64 rfl ?_
            refine b_getr dX7_insult_65 gf_X7_23 rfl rfl ?_
            refine b_geti dX7_insult_68 gf_X7_80 rfl rfl ?_
            refine b_iconst (v := 1) dX7_insult_71 (by decide) ?_
            refine b_isub dX7_insult_72 ?_
            refine b_iret dX7_insult_73 rfl ⟨?_, n, c + 1, q, ?_⟩
            · simp only [R_insult, if_pos hq3, if_pos hdd, if_neg hnf, dnc] <;> (rw [egc]; exact congrArg (fun x => some (Value.int x)) (Int32.add_sub_cancel _ _))
            · simp only [R_insult, if_pos hq3, if_pos hdd, if_neg hnf, dnc] <;> (rw [egc]; exact hh.ins hc7 ha hb (fun z => hab (by rw [z])) hd he1 he9)
          · have hfull : g.1 0 15 = 8 := by
              rw [egc, show c = 8 from by have := nI_ge2 h46; omega]; rfl
            refine b_bipush (v := (-4)) dX7_insult_49 (by decide) ?_
            refine b_iret dX7_insult_51 rfl ⟨?_, n, c, q, ?_⟩
            · simp only [R_insult, if_pos h6, if_pos (show isDayDeg d e from ⟨h15, Int32.not_lt.mp h24, h31⟩), if_pos hfull] <;> rfl
            · simp only [R_insult, if_pos h6, if_pos (show isDayDeg d e from ⟨h15, Int32.not_lt.mp h24, h31⟩), if_pos hfull] <;> exact hh
        · refine b_bipush (v := (-2)) dX7_insult_34 (by decide) ?_
          refine b_iret dX7_insult_36 rfl ⟨?_, n, c, q, ?_⟩
          · simp only [R_insult, if_pos h6, if_neg (show ¬ isDayDeg d e from fun z => h31 z.2.2)] <;> rfl
          · simp only [R_insult, if_pos h6, if_neg (show ¬ isDayDeg d e from fun z => h31 z.2.2)] <;> exact hh
    · refine b_if_eq (tgt := 34) dX7_insult_18 (by decide) (fun h18 => ?_) (fun h18 => absurd h18 (by decide))
      refine b_bipush (v := (-2)) dX7_insult_34 (by decide) ?_
      refine b_iret dX7_insult_36 rfl ⟨?_, n, c, q, ?_⟩
      · simp only [R_insult, if_pos h6, if_neg (show ¬ isDayDeg d e from fun z => h15 z.1)] <;> rfl
      · simp only [R_insult, if_pos h6, if_neg (show ¬ isDayDeg d e from fun z => h15 z.1)] <;> exact hh
  · refine b_if_ne (tgt := 14) dX7_insult_9 (by decide) (fun h9 => absurd h9 (by decide)) (fun h9 => ?_)
    refine b_iconst (v := (-1)) dX7_insult_12 (by decide) ?_
    refine b_iret dX7_insult_13 rfl ⟨?_, n, c, q, ?_⟩
    · simp only [R_insult, if_neg h6] <;> rfl
    · simp only [R_insult, if_neg h6] <;> exact hh
set_option maxRecDepth 100000 in
set_option maxHeartbeats 1000000 in
theorem s_X7_sorry {w g : kW} {n c q : Nat} (hh : Rel n c q w g) {k : Int32} : Spec shC yX7_sorry cX7_sorry 2 (some .int) 0 0 [.ref 0, .int k] w (fun r w' => RQ (R_sorry g k) r w') := by
  obtain ⟨hM, hRP, hRI, hRA, hRR, hRS, hRN⟩ := id hh
  obtain ⟨hP, hI, hc8, hRd, hu, hS⟩ := id hM
  have hn := hP.le
  have ec : w.1 6 0 = g.1 0 15 := hh.hc
  have eg : g.1 0 15 = nI c := hI.1
  refine k_enter pn_X7 (Nat.le_of_ble_eq_true rfl) ?_
  refine b_iload_n dX7_sorry_0 rfl ?_
  refine b_if_lt (tgt := 15) dX7_sorry_1 (by decide) (fun h1 => ?_) (fun h1 => ?_)
  · refine b_bipush (v := (-2)) dX7_sorry_15 (by decide) ?_
    refine b_iret dX7_sorry_17 rfl ⟨?_, n, c, q, ?_⟩
    · simp only [R_sorry, if_neg (show ¬ (0 ≤ k ∧ k ≤ g.1 0 15) from fun z => absurd z.1 (Int32.not_le.mpr h1))] <;> rfl
    · simp only [R_sorry, if_neg (show ¬ (0 ≤ k ∧ k ≤ g.1 0 15) from fun z => absurd z.1 (Int32.not_le.mpr h1))] <;> exact hh
  · refine b_iload_n dX7_sorry_4 rfl ?_
    refine b_aload_n dX7_sorry_5 rfl ?_
    refine b_getr dX7_sorry_6 gf_X7_23 rfl rfl ?_
    refine b_geti dX7_sorry_9 gf_X7_80 rfl rfl ?_
    refine b_topi (y := g.1 0 15) ec ?_
    refine b_icmp_le (tgt := 18) dX7_sorry_12 (by decide) (fun h12 => ?_) (fun h12 => ?_)
    · have hz : 0 ≤ k ∧ k ≤ g.1 0 15 := ⟨Int32.not_lt.mp h1, h12⟩
      obtain ⟨kk, hk, rfl⟩ := nle_of (l := c) (by have := hRd.2.1; omega) h1 (eg ▸ h12)
      have ed : g.1 0 15 - nI kk = nI (c - kk) := by rw [eg, nI_sub hk]
      refine b_aload_n dX7_sorry_18 rfl ?_
      refine b_getr dX7_sorry_19 gf_X7_23 rfl rfl ?_
      refine b_dup dX7_sorry_22 rfl ?_
      refine b_geti dX7_sorry_23 gf_X7_80 rfl rfl ?_
      refine b_topi (y := g.1 0 15) ec ?_
      refine b_iload_n dX7_sorry_26 rfl ?_
      refine b_isub dX7_sorry_27 ?_
      refine b_puti dX7_sorry_28 gf_X7_80 gs_X0_0 rfl rfl ?_
      refine b_aload_n dX7_sorry_31 rfl ?_
      refine b_getr dX7_sorry_32 gf_X7_23 rfl rfl ?_
      refine b_geti dX7_sorry_35 gf_X7_80 rfl rfl ?_
      refine b_iret dX7_sorry_38 rfl ⟨?_, n, c - kk, q, ?_⟩
      · simp only [R_sorry, if_pos hz] <;> rfl
      · simp only [R_sorry, if_pos hz] <;> (rw [ed]; exact hh.sor (by omega))
    · refine b_bipush (v := (-2)) dX7_sorry_15 (by decide) ?_
      refine b_iret dX7_sorry_17 rfl ⟨?_, n, c, q, ?_⟩
      · simp only [R_sorry, if_neg (show ¬ (0 ≤ k ∧ k ≤ g.1 0 15) from fun z => h12 z.2)] <;> rfl
      · simp only [R_sorry, if_neg (show ¬ (0 ≤ k ∧ k ≤ g.1 0 15) from fun z => h12 z.2)] <;> exact hh
end
section
theorem Rel.flip {n c q p : Nat} {w g : kW} {b : Int32} (h : Rel n c q w g) (hp : p < n) (hb : b = 0 ∨ b = 1) (hne : ¬ g.1 7 p = b) : Rel n c q (kset w 1 1 (w.1 1 1 ^^^ 1 <<< (nI p &&& 31))) (kset g 7 p b) := by
  have hn := h.1.1.le
  refine h.arr hb (fun k hk => ?_)
  have h7 := h.2.2.2.1 k hk
  rw [b_xor, bit_one (by omega) (by omega)]
  by_cases e : k = p
  · subst e
    rw [if_pos rfl, decide_eq_true rfl, Bool.xor_true]
    have h01 := h.1.1.2.2.2.2.1 k hk
    rcases hb with rfl | rfl <;> rcases h01 with z | z
    · exact absurd z hne
    · have : bt (w.1 1 1) k = true := by
        cases hbt : bt (w.1 1 1) k
        · rw [h7.mp hbt] at z; exact absurd z (by decide)
        · rfl
      simp [this]
    · rw [h7.mpr z]; simp
    · exact absurd z hne
  · rw [if_neg e, decide_eq_false e, Bool.xor_false]
    exact h7
set_option maxRecDepth 100000 in
set_option maxHeartbeats 1000000 in
theorem s_X7_arrest {w g : kW} {n c q : Nat} (hh : Rel n c q w g) {p b : Int32} (hb : b = 0 ∨ b = 1) : Spec shC yX7_arrest cX7_arrest 3 (some .int) 1 21 [.ref 0, .int p, .int b] w (fun r w' => RQ (R_arrest g p b) r w') := by
  obtain ⟨hM, hRP, hRI, hRA, hRR, hRS, hRN⟩ := id hh
  obtain ⟨hP, hI, hc8, hRd, hu, hS⟩ := id hM
  have hn := hP.le
  refine k_enter pn_X7 (Nat.le_of_ble_eq_true rfl) ?_
  refine b_aload_n dX7_arrest_0 rfl ?_
  refine b_getr dX7_arrest_1 gf_X7_14 rfl rfl ?_
  refine b_iload_n dX7_arrest_4 rfl ?_
  refine b_callV1 dX7_arrest_5 lk_X7_85 rfl rfl rfl ⟨Nat.le_of_ble_eq_true rfl, Nat.le_of_ble_eq_true rfl⟩ (Nat.le_of_ble_eq_true rfl) (s_has hh) (fun r w5 h5 => ?_)
  obtain ⟨rfl, h5⟩ := h5
  rcases h5 with ⟨rfl, h5⟩ | ⟨rfl, h5⟩
  · refine b_if_ne (tgt := 13) dX7_arrest_8 (by decide) (fun h8 => ?_) (fun h8 => absurd h8 (by decide))
    have hq2 : isPr g p := h5
    obtain ⟨pp, hp, rfl⟩ := pers_of hP hq2
    refine b_aload_n dX7_arrest_13 rfl ?_
    refine b_getr dX7_arrest_14 gf_X7_14 rfl rfl ?_
    refine b_geti dX7_arrest_17 gf_X7_104 rfl rfl ?_
    refine b_iload_n dX7_arrest_20 rfl ?_
    refine b_callS2 dX7_arrest_21 lk_X7_107 ⟨Nat.le_of_ble_eq_true rfl, Nat.le_of_ble_eq_true rfl⟩ (Nat.le_of_ble_eq_true rfl) (s_X7_in (k := pp) (by omega)) (fun r w21 h21 => ?_)
    obtain ⟨rfl, h21⟩ := h21
    rcases h21 with ⟨rfl, h21⟩ | ⟨rfl, h21⟩
    · have g7 : g.1 7 pp = 1 := (hP.2.2.2.2.1 pp hp).resolve_left (fun z => absurd (((hRA pp hp).mpr z).symm.trans h21) (by decide))
      refine b_iload_n dX7_arrest_24 rfl ?_
      refine b_icmp_ne (tgt := 30) dX7_arrest_25 (by decide) (fun h25 => ?_) (fun h25 => ?_)
      · refine b_aload_n dX7_arrest_30 rfl ?_
        refine b_getr dX7_arrest_31 gf_X7_14 rfl rfl ?_
        refine b_dup dX7_arrest_34 rfl ?_
        refine b_geti dX7_arrest_35 gf_X7_104 rfl rfl ?_
        refine b_iload_n dX7_arrest_38 rfl ?_
        refine b_callS1 dX7_arrest_39 lk_X7_121 ⟨Nat.le_of_ble_eq_true rfl, Nat.le_of_ble_eq_true rfl⟩ (Nat.le_of_ble_eq_true rfl) (s_X7_bit) (fun r w39 h39 => ?_)
        obtain ⟨rfl, rfl⟩ := h39
        refine b_ixor dX7_arrest_42 ?_
        refine b_puti dX7_arrest_43 gf_X7_104 gs_X2_1 rfl rfl ?_
        refine b_iconst (v := 1) dX7_arrest_46 (by decide) ?_
        refine b_iret dX7_arrest_47 rfl ⟨?_, n, c, q, ?_⟩
        · simp only [R_arrest, if_pos hq2, dn_nI (show pp < 2 ^ 31 by omega), if_neg (fun z => h25 (g7.symm.trans z))] <;> rfl
        · simp only [R_arrest, if_pos hq2, dn_nI (show pp < 2 ^ 31 by omega), if_neg (fun z => h25 (g7.symm.trans z))] <;> exact hh.flip hp hb (fun z => h25 (g7.symm.trans z))
      · refine b_iconst (v := 0) dX7_arrest_28 (by decide) ?_
        refine b_iret dX7_arrest_29 rfl ⟨?_, n, c, q, ?_⟩
        · simp only [R_arrest, if_pos hq2, dn_nI (show pp < 2 ^ 31 by omega), if_pos (g7.trans h25)] <;> rfl
        · simp only [R_arrest, if_pos hq2, dn_nI (show pp < 2 ^ 31 by omega), if_pos (g7.trans h25)] <;> (rw [kset_self (g7.trans h25)]; exact hh)
    · have g7 : g.1 7 pp = 0 := (hRA pp hp).mp (b_f h21)
      refine b_iload_n dX7_arrest_24 rfl ?_
      refine b_icmp_ne (tgt := 30) dX7_arrest_25 (by decide) (fun h25 => ?_) (fun h25 => ?_)
      · refine b_aload_n dX7_arrest_30 rfl ?_
        refine b_getr dX7_arrest_31 gf_X7_14 rfl rfl ?_
        refine b_dup dX7_arrest_34 rfl ?_
        refine b_geti dX7_arrest_35 gf_X7_104 rfl rfl ?_
        refine b_iload_n dX7_arrest_38 rfl ?_
        refine b_callS1 dX7_arrest_39 lk_X7_121 ⟨Nat.le_of_ble_eq_true rfl, Nat.le_of_ble_eq_true rfl⟩ (Nat.le_of_ble_eq_true rfl) (s_X7_bit) (fun r w39 h39 => ?_)
        obtain ⟨rfl, rfl⟩ := h39
        refine b_ixor dX7_arrest_42 ?_
        refine b_puti dX7_arrest_43 gf_X7_104 gs_X2_1 rfl rfl ?_
        refine b_iconst (v := 1) dX7_arrest_46 (by decide) ?_
        refine b_iret dX7_arrest_47 rfl ⟨?_, n, c, q, ?_⟩
        · simp only [R_arrest, if_pos hq2, dn_nI (show pp < 2 ^ 31 by omega), if_neg (fun z => h25 (g7.symm.trans z))] <;> rfl
        · simp only [R_arrest, if_pos hq2, dn_nI (show pp < 2 ^ 31 by omega), if_neg (fun z => h25 (g7.symm.trans z))] <;> exact hh.flip hp hb (fun z => h25 (g7.symm.trans z))
      · refine b_iconst (v := 0) dX7_arrest_28 (by decide) ?_
        refine b_iret dX7_arrest_29 rfl ⟨?_, n, c, q, ?_⟩
        · simp only [R_arrest, if_pos hq2, dn_nI (show pp < 2 ^ 31 by omega), if_pos (g7.trans h25)] <;> rfl
        · simp only [R_arrest, if_pos hq2, dn_nI (show pp < 2 ^ 31 by omega), if_pos (g7.trans h25)] <;> (rw [kset_self (g7.trans h25)]; exact hh)
  · refine b_if_ne (tgt := 13) dX7_arrest_8 (by decide) (fun h8 => absurd h8 (by decide)) (fun h8 => ?_)
    refine b_iconst (v := (-1)) dX7_arrest_11 (by decide) ?_
    refine b_iret dX7_arrest_12 rfl ⟨?_, n, c, q, ?_⟩
    · simp only [R_arrest, if_neg h5] <;> rfl
    · simp only [R_arrest, if_neg h5] <;> exact hh
end
section
/-- what the class's season tells once it was lived, beside the model's -/
def LV (n : Nat) (w g : kW) : Prop := RP n w g ∧ RLg n w g ∧ (∀ p, p < n → (bt (w.1 15 9) p = false ↔ g.1 7 p = 0)) ∧ g.1 0 22 = 0
theorem RD.lv {n c d : Nat} {w g : kW} (h : RD n c d w (mAhead n c g d)) : LV n w (mGo n c g d) :=
  ⟨h.1.keep2 (fun _ _ => rfl) (sKeep.rf.num (by decide)), h.2.2.2.2.2.1.z, h.2.2.2.1.2.1, rfl⟩
theorem LV.m {n : Nat} {w g : kW} (h : LV n w g) : w.1 16 0 = g.1 0 28 := by
  obtain ⟨m, t, _, _, a, b, _⟩ := h.2.1
  rw [a, b]
theorem LV.row {n j k : Nat} {w g : kW} (h : LV n w g) (h1 : 20 ≤ j) (h2 : j ≤ 25) (hk : k < dn (g.1 0 28)) : w.1 (j - 2) k = g.1 j k := by
  obtain ⟨m, t, hm, _, a, b, _, _, ⟨hL, _⟩, _⟩ := h.2.1
  rw [a, dn_nI (by omega)] at hk
  exact hL j k h1 h2 hk
theorem LV.well {n p : Nat} {w g : kW} (h : LV n w g) (hp : p < n) : w.1 29 p = g.1 15 p := by
  obtain ⟨m, t, hm, _, a, b, _, _, ⟨_, _, hL⟩, _⟩ := h.2.1
  exact hL p hp
/-- living all told insults -/
theorem s_live {n c q D : Nat} {w g : kW} {last : Int32} (h : Rel n c q w g) (hD : D ≤ 60) (hl : last = nI D - 1) : Spec shC yX4_live cX4_live 5 none 4 105 [.ref 15, .int (-1), .int (w.1 1 1), .int last] w (fun r w' => r = none ∧ RD n c D w' (mAhead n c g D) ∧ cK2 w w') :=
  s_X4_live h.2.1 h.1.2.1 h.2.2.1 hD hl (fun k hk => by
    have := h.1.2.2.1
    rw [b_m1 k (by omega), h.1.2.2.2.2.1, b_0]; simp) h.2.2.2.1
theorem mAhead_n0 {g : kW} (hP : Pn 0 g) (hI : Ins 0 0 g) : ∀ d, d ≤ 60 → (mAhead 0 0 g d).1 0 28 = 0
  | 0, _ => rfl
  | d + 1, hd => by
    obtain ⟨⟨hp, m, t, hm, hm2, ht, htm, hT⟩, hk⟩ := mAhead_inv hP hI d (by omega)
    have t0 : t = 0 := by
      rcases Nat.eq_zero_or_pos t with e | e
      · exact e
      · obtain ⟨a, b, ha, _⟩ := hT 0 e; omega
    subst t0
    have e : (mTold (mAhead 0 0 g d) d 0).1 0 23 = nI 0 := by
      show (kset (mAhead 0 0 g d) 0 22 0).1 0 23 = nI 0
      exact ht
    show (mTk (mTold (mAhead 0 0 g d) d 0) d ((mAhead 0 0 g d).1 0 23).toNatClampNeg).1 0 28 = 0
    rw [ht]
    show (mTk (mTold (mAhead 0 0 g d) d 0) d 0).1 0 28 = 0
    exact mAhead_n0 hP hI d (by omega)
theorem mGo_n0 {n c d : Nat} {g : kW} (hP : Pn n g) (hI : Ins n c g) (hd : d ≤ 60) (h : g.1 0 5 = 0) : (mGo n c g d).1 0 28 = 0 := by
  have hn : n = 0 := nI_inj (by have := hP.le; omega) (by decide) (hP.1.symm.trans h)
  subst hn
  have hc : c = 0 := by
    rcases Nat.eq_zero_or_pos c with e | e
    · exact e
    · obtain ⟨a, b, d, e, ha, _⟩ := hI.2.2 0 e; omega
  subst hc
  exact mAhead_n0 hP hI d hd
set_option maxRecDepth 100000 in
set_option maxHeartbeats 1000000 in
theorem s_X7_meetings {w g : kW} {n c q : Nat} (hh : Rel n c q w g) {d : Int32} : Spec shC yX7_meetings cX7_meetings 2 (some .int) 5 129 [.ref 0, .int d] w (fun r w' => r = some (.int (A_meetings n c g d)) ∧ cK2 w w') := by
  obtain ⟨hM, hRP, hRI, hRA, hRR, hRS, hRN⟩ := id hh
  obtain ⟨hP, hI, hc8, hRd, hu, hS⟩ := id hM
  have hn := hP.le
  refine k_enter pn_X7 (Nat.le_of_ble_eq_true rfl) ?_
  refine b_iload_n dX7_meetings_0 rfl ?_
  refine b_callS1 dX7_meetings_1 lk_X7_124 ⟨Nat.le_of_ble_eq_true rfl, Nat.le_of_ble_eq_true rfl⟩ (Nat.le_of_ble_eq_true rfl) (s_X7_isDawn) (fun r w1 h1 => ?_)
  obtain ⟨rfl, h1⟩ := h1
  rcases h1 with ⟨rfl, h1⟩ | ⟨rfl, h1⟩
  · refine b_if_ne (tgt := 10) dX7_meetings_4 (by decide) (fun h4 => ?_) (fun h4 => absurd h4 (by decide))
    obtain ⟨D, hD, rfl⟩ := dawn_of h1
    refine b_aload_n dX7_meetings_10 rfl ?_
    refine b_callV0 dX7_meetings_11 lk_X7_127 rfl rfl rfl ⟨Nat.le_of_ble_eq_true rfl, Nat.le_of_ble_eq_true rfl⟩ (Nat.le_of_ble_eq_true rfl) (s_empty hh) (fun r w11 h11 => ?_)
    obtain ⟨rfl, h11⟩ := h11
    rcases h11 with ⟨rfl, h11⟩ | ⟨rfl, h11⟩
    · refine b_if_eq (tgt := 20) dX7_meetings_14 (by decide) (fun h14 => absurd h14 (by decide)) (fun h14 => ?_)
      refine b_bipush (v := (-3)) dX7_meetings_17 (by decide) ?_
      refine b_iret dX7_meetings_19 rfl ⟨?_, ?_⟩
      · simp only [A_meetings, if_pos (dawn_in hD), if_pos h11] <;> rfl
      · exact fun _ _ => rfl
    · refine b_if_eq (tgt := 20) dX7_meetings_14 (by decide) (fun h14 => ?_) (fun h14 => absurd h14 (by decide))
      refine b_aload_n dX7_meetings_20 rfl ?_
      refine b_getr dX7_meetings_21 gf_X7_39 rfl rfl ?_
      refine b_iconst (v := (-1)) dX7_meetings_24 (by decide) ?_
      refine b_aload_n dX7_meetings_25 rfl ?_
      refine b_getr dX7_meetings_26 gf_X7_14 rfl rfl ?_
      refine b_geti dX7_meetings_29 gf_X7_104 rfl rfl ?_
      refine b_iload_n dX7_meetings_32 rfl ?_
      refine b_callV3 dX7_meetings_33 lk_X7_131 rfl rfl rfl ⟨Nat.le_of_ble_eq_true rfl, Nat.le_of_ble_eq_true rfl⟩ (Nat.le_of_ble_eq_true rfl) (s_live hh (D := D + 1) (by omega) (nI_predS.symm)) (fun r w33 h33 => ?_)
      obtain ⟨rfl, hRD, hk⟩ := h33
      have hl := hRD.lv
      refine b_aload_n dX7_meetings_36 rfl ?_
      refine b_getr dX7_meetings_37 gf_X7_39 rfl rfl ?_
      refine b_getr dX7_meetings_40 gf_X7_135 rfl rfl ?_
      refine b_geti dX7_meetings_43 gf_X7_139 rfl rfl ?_
      refine b_topi (y := (mGo n c g (D + 1)).1 0 28) hl.m ?_
      refine b_iret dX7_meetings_46 rfl ⟨?_, ?_⟩
      · simp only [A_meetings, if_pos (dawn_in hD), if_neg h11, dn_nI (show D < 2 ^ 31 by omega)] <;> rfl
      · exact hk
  · refine b_if_ne (tgt := 10) dX7_meetings_4 (by decide) (fun h4 => absurd h4 (by decide)) (fun h4 => ?_)
    refine b_bipush (v := (-2)) dX7_meetings_7 (by decide) ?_
    refine b_iret dX7_meetings_9 rfl ⟨?_, ?_⟩
    · simp only [A_meetings, if_neg h1] <;> rfl
    · exact fun _ _ => rfl
theorem fact {x : Nat} (h : x < 6) : shC[18 + x]? = some (.inr (.inl (0, 180))) := by
  rcases (show x = 0 ∨ x = 1 ∨ x = 2 ∨ x = 3 ∨ x = 4 ∨ x = 5 by omega) with rfl | rfl | rfl | rfl | rfl | rfl <;> rfl
set_option maxRecDepth 100000 in
set_option maxHeartbeats 1000000 in
theorem s_X7_met {w g : kW} {n c q : Nat} (hh : Rel n c q w g) {k what : Int32} : Spec shC yX7_met cX7_met 3 (some .int) 5 129 [.ref 0, .int k, .int what] w (fun r w' => r = some (.int (A_met n c g k what)) ∧ cK2 w w') := by
  obtain ⟨hM, hRP, hRI, hRA, hRR, hRS, hRN⟩ := id hh
  obtain ⟨hP, hI, hc8, hRd, hu, hS⟩ := id hM
  have hn := hP.le
  refine k_enter pn_X7 (Nat.le_of_ble_eq_true rfl) ?_
  refine b_aload_n dX7_met_0 rfl ?_
  refine b_getr dX7_met_1 gf_X7_39 rfl rfl ?_
  refine b_iconst (v := (-1)) dX7_met_4 (by decide) ?_
  refine b_aload_n dX7_met_5 rfl ?_
  refine b_getr dX7_met_6 gf_X7_14 rfl rfl ?_
  refine b_geti dX7_met_9 gf_X7_104 rfl rfl ?_
  refine b_bipush (v := 59) dX7_met_12 (by decide) ?_
  refine b_callV3 dX7_met_14 lk_X7_131 rfl rfl rfl ⟨Nat.le_of_ble_eq_true rfl, Nat.le_of_ble_eq_true rfl⟩ (Nat.le_of_ble_eq_true rfl) (s_live hh (D := 60) (by omega) (by decide)) (fun r w14 h14 => ?_)
  obtain ⟨rfl, hRD, hk⟩ := h14
  have hl := hRD.lv
  refine b_iload_n dX7_met_17 rfl ?_
  refine b_if_lt (tgt := 35) dX7_met_18 (by decide) (fun h18 => ?_) (fun h18 => ?_)
  · refine b_iconst (v := (-1)) dX7_met_35 (by decide) ?_
    refine b_iret dX7_met_36 rfl ⟨?_, ?_⟩
    · simp only [A_met, if_pos (show k < 0 ∨ (mGo n c g 60).1 0 28 ≤ k ∨ g.1 0 5 = 0 from Or.inl h18)] <;> rfl
    · exact hk
  · refine b_iload_n dX7_met_21 rfl ?_
    refine b_aload_n dX7_met_22 rfl ?_
    refine b_getr dX7_met_23 gf_X7_39 rfl rfl ?_
    refine b_getr dX7_met_26 gf_X7_135 rfl rfl ?_
    refine b_geti dX7_met_29 gf_X7_139 rfl rfl ?_
    refine b_topi (y := (mGo n c g 60).1 0 28) hl.m ?_
    refine b_icmp_lt (tgt := 37) dX7_met_32 (by decide) (fun h32 => ?_) (fun h32 => ?_)
    · obtain ⟨m, hm, hm2⟩ := met_lt (k := 0) (mGo_inv hP hI (Nat.le_refl 60)) (by omega)
      have hno : ¬ (k < 0 ∨ (mGo n c g 60).1 0 28 ≤ k ∨ g.1 0 5 = 0) := fun h => h.elim h18 (fun h => h.elim (Int32.not_le.mpr h32) (fun h => h18 (by have := mGo_n0 hP hI (Nat.le_refl 60) h; rw [this] at h32; exact h32)))
      obtain ⟨j, hj, rfl⟩ := nI_between h18 (by rw [← hm]; exact h32) (by omega)
      refine b_iload_n dX7_met_37 rfl ?_
      refine b_if_lt (tgt := 47) dX7_met_38 (by decide) (fun h38 => ?_) (fun h38 => ?_)
      · refine b_bipush (v := (-2)) dX7_met_47 (by decide) ?_
        refine b_iret dX7_met_49 rfl ⟨?_, ?_⟩
        · simp only [A_met, if_neg hno, if_neg (show ¬ (0 ≤ what ∧ what ≤ 5) from fun z => absurd z.1 (Int32.not_le.mpr h38))] <;> rfl
        · exact hk
      · refine b_iload_n dX7_met_41 rfl ?_
        refine b_bipush (v := 6) dX7_met_42 (by decide) ?_
        refine b_icmp_lt (tgt := 50) dX7_met_44 (by decide) (fun h44 => ?_) (fun h44 => ?_)
        · have hz : 0 ≤ what ∧ what ≤ 5 := ⟨Int32.not_lt.mp h38, (lt_le (by decide)).mp h44⟩
          obtain ⟨x, hx, rfl⟩ := nI_of2 (n := 5) (M := 5) (by decide) h38 hz.2
          refine b_aload_n dX7_met_50 rfl ?_
          refine b_getr dX7_met_51 gf_X7_39 rfl rfl ?_
          refine b_getr dX7_met_54 gf_X7_135 rfl rfl ?_
          refine b_getr dX7_met_57 gf_X7_142 rfl rfl ?_
          refine b_iload_n dX7_met_60 rfl ?_
          refine b_aald (r := 18 + x) dX7_met_61 rfl (by decide) (by unfold vp_in; rw [nI_clamp (by omega)]; intro z; rcases z with z | z; exact nI_pos (by omega) z; omega) (by rw [nI_clamp (by omega), if_pos (by omega)]) ?_
          refine b_iload_n dX7_met_62 rfl ?_
          refine b_ialdN dX7_met_63 (fact (x := x) (by omega)) ⟨by omega, by decide⟩ ?_
          refine b_topi (y := (mGo n c g 60).1 (20 + x) j) (by have := hl.row (j := 20 + x) (k := j) (by omega) (by omega) (by rw [hm, dn_nI (by omega)]; exact hj); rw [← this, show 20 + x - 2 = 18 + x by omega]) ?_
          refine b_iret dX7_met_64 rfl ⟨?_, ?_⟩
          · simp only [A_met, if_neg hno, if_pos hz, dn_nI (show j < 2 ^ 31 by omega), dn_nI (show x < 2 ^ 31 by omega)] <;> rfl
          · exact hk
        · refine b_bipush (v := (-2)) dX7_met_47 (by decide) ?_
          refine b_iret dX7_met_49 rfl ⟨?_, ?_⟩
          · simp only [A_met, if_neg hno, if_neg (show ¬ (0 ≤ what ∧ what ≤ 5) from fun z => absurd ((lt_le (a := 5) (b := 6) (by decide)).mpr z.2) h44)] <;> rfl
          · exact hk
    · refine b_iconst (v := (-1)) dX7_met_35 (by decide) ?_
      refine b_iret dX7_met_36 rfl ⟨?_, ?_⟩
      · simp only [A_met, if_pos (show k < 0 ∨ (mGo n c g 60).1 0 28 ≤ k ∨ g.1 0 5 = 0 from Or.inr (Or.inl (Int32.not_lt.mp h32)))] <;> rfl
      · exact hk
theorem LV.free {n p : Nat} {d : Int32} {w g : kW} {s : Int32} (h : LV n w g) (hs : ∀ p, p < 6 → (bt s p = true ↔ p < n ∧ bt (w.1 15 9) p = false ∧ w.1 29 p ≤ d)) (hp6 : p < 6) : bt s p = true ↔ p < n ∧ mFree g p d := by
  rw [hs p hp6]
  constructor
  · rintro ⟨a, b, e⟩
    exact ⟨a, (h.2.2.1 p a).mp b, by rw [← h.well a]; exact e, by rw [h.2.2.2]; exact b_0 p⟩
  · rintro ⟨a, b, e, _⟩
    exact ⟨a, (h.2.2.1 p a).mpr b, by rw [h.well a]; exact e⟩
set_option maxRecDepth 100000 in
set_option maxHeartbeats 1000000 in
theorem s_X7_free {w g : kW} {n c q : Nat} (hh : Rel n c q w g) {p d : Int32} : Spec shC yX7_free cX7_free 3 (some .int) 5 129 [.ref 0, .int p, .int d] w (fun r w' => r = some (.int (A_free n c g p d)) ∧ cK2 w w') := by
  obtain ⟨hM, hRP, hRI, hRA, hRR, hRS, hRN⟩ := id hh
  obtain ⟨hP, hI, hc8, hRd, hu, hS⟩ := id hM
  have hn := hP.le
  refine k_enter pn_X7 (Nat.le_of_ble_eq_true rfl) ?_
  refine b_aload_n dX7_free_0 rfl ?_
  refine b_getr dX7_free_1 gf_X7_14 rfl rfl ?_
  refine b_iload_n dX7_free_4 rfl ?_
  refine b_callV1 dX7_free_5 lk_X7_85 rfl rfl rfl ⟨Nat.le_of_ble_eq_true rfl, Nat.le_of_ble_eq_true rfl⟩ (Nat.le_of_ble_eq_true rfl) (s_has hh) (fun r w5 h5 => ?_)
  obtain ⟨rfl, h5⟩ := h5
  rcases h5 with ⟨rfl, h5⟩ | ⟨rfl, h5⟩
  · refine b_if_ne (tgt := 13) dX7_free_8 (by decide) (fun h8 => ?_) (fun h8 => absurd h8 (by decide))
    have hq2 : isPr g p := h5
    obtain ⟨pp, hp, rfl⟩ := pers_of hP hq2
    refine b_iload_n dX7_free_13 rfl ?_
    refine b_callS1 dX7_free_14 lk_X7_124 ⟨Nat.le_of_ble_eq_true rfl, Nat.le_of_ble_eq_true rfl⟩ (Nat.le_of_ble_eq_true rfl) (s_X7_isDawn) (fun r w14 h14 => ?_)
    obtain ⟨rfl, h14⟩ := h14
    rcases h14 with ⟨rfl, h14⟩ | ⟨rfl, h14⟩
    · refine b_if_ne (tgt := 23) dX7_free_17 (by decide) (fun h17 => ?_) (fun h17 => absurd h17 (by decide))
      obtain ⟨D, hD, rfl⟩ := dawn_of h14
      refine b_aload_n dX7_free_23 rfl ?_
      refine b_getr dX7_free_24 gf_X7_39 rfl rfl ?_
      refine b_iconst (v := (-1)) dX7_free_27 (by decide) ?_
      refine b_aload_n dX7_free_28 rfl ?_
      refine b_getr dX7_free_29 gf_X7_14 rfl rfl ?_
      refine b_geti dX7_free_32 gf_X7_104 rfl rfl ?_
      refine b_iload_n dX7_free_35 rfl ?_
      refine b_iconst (v := 1) dX7_free_36 (by decide) ?_
      refine b_isub dX7_free_37 ?_
      refine b_callV3 dX7_free_38 lk_X7_131 rfl rfl rfl ⟨Nat.le_of_ble_eq_true rfl, Nat.le_of_ble_eq_true rfl⟩ (Nat.le_of_ble_eq_true rfl) (s_live hh (D := D) (by omega) (rfl)) (fun r w38 h38 => ?_)
      obtain ⟨rfl, hRD, hk⟩ := h38
      have hl := hRD.lv
      refine b_aload_n dX7_free_41 rfl ?_
      refine b_getr dX7_free_42 gf_X7_39 rfl rfl ?_
      refine b_iload_n dX7_free_45 rfl ?_
      refine b_callV1 dX7_free_46 lk_X7_146 rfl rfl rfl ⟨Nat.le_of_ble_eq_true rfl, Nat.le_of_ble_eq_true rfl⟩ (Nat.le_of_ble_eq_true rfl) (s_X4_freeAhead (w := w38) (d := nI D) hl.1.2.1 hn) (fun r w46 h46 => ?_)
      obtain ⟨rfl, fs, rfl, hfs⟩ := h46
      refine b_iload_n dX7_free_49 rfl ?_
      refine b_callS2 dX7_free_50 lk_X7_107 ⟨Nat.le_of_ble_eq_true rfl, Nat.le_of_ble_eq_true rfl⟩ (Nat.le_of_ble_eq_true rfl) (s_X7_in (k := pp) (by omega)) (fun r w50 h50 => ?_)
      obtain ⟨rfl, h50⟩ := h50
      rcases h50 with ⟨rfl, h50⟩ | ⟨rfl, h50⟩
      · refine b_if_eq (tgt := 60) dX7_free_53 (by decide) (fun h53 => absurd h53 (by decide)) (fun h53 => ?_)
        refine b_iconst (v := 1) dX7_free_56 (by decide) ?_
        refine b_goto (tgt := 61) dX7_free_57 (by decide) ?_
        refine b_iret dX7_free_61 rfl ⟨?_, ?_⟩
        · simp only [A_free, if_pos hq2, if_pos (dawn_in hD), dn_nI (show D < 2 ^ 31 by omega), dn_nI (show pp < 2 ^ 31 by omega), if_pos ((hl.free hfs (by omega)).mp h50).2] <;> rfl
        · exact hk
      · refine b_if_eq (tgt := 60) dX7_free_53 (by decide) (fun h53 => ?_) (fun h53 => absurd h53 (by decide))
        refine b_iconst (v := 0) dX7_free_60 (by decide) ?_
        refine b_iret dX7_free_61 rfl ⟨?_, ?_⟩
        · simp only [A_free, if_pos hq2, if_pos (dawn_in hD), dn_nI (show D < 2 ^ 31 by omega), dn_nI (show pp < 2 ^ 31 by omega), if_neg (fun z => h50 ((hl.free hfs (by omega)).mpr ⟨hp, z⟩))] <;> rfl
        · exact hk
    · refine b_if_ne (tgt := 23) dX7_free_17 (by decide) (fun h17 => absurd h17 (by decide)) (fun h17 => ?_)
      refine b_bipush (v := (-2)) dX7_free_20 (by decide) ?_
      refine b_iret dX7_free_22 rfl ⟨?_, ?_⟩
      · simp only [A_free, if_pos hq2, if_neg h14] <;> rfl
      · exact fun _ _ => rfl
  · refine b_if_ne (tgt := 13) dX7_free_8 (by decide) (fun h8 => absurd h8 (by decide)) (fun h8 => ?_)
    refine b_iconst (v := (-1)) dX7_free_11 (by decide) ?_
    refine b_iret dX7_free_12 rfl ⟨?_, ?_⟩
    · simp only [A_free, if_neg h5] <;> rfl
    · exact fun _ _ => rfl
set_option maxRecDepth 100000 in
set_option maxHeartbeats 1000000 in
theorem s_X7_second {w g : kW} {n c q : Nat} (hh : Rel n c q w g) {p o d : Int32} : Spec shC yX7_second cX7_second 4 (some .int) 5 129 [.ref 0, .int p, .int o, .int d] w (fun r w' => r = some (.int (A_second n c g p o d)) ∧ cK2 w w') := by
  obtain ⟨hM, hRP, hRI, hRA, hRR, hRS, hRN⟩ := id hh
  obtain ⟨hP, hI, hc8, hRd, hu, hS⟩ := id hM
  have hn := hP.le
  refine k_enter pn_X7 (Nat.le_of_ble_eq_true rfl) ?_
  refine b_aload_n dX7_second_0 rfl ?_
  refine b_getr dX7_second_1 gf_X7_14 rfl rfl ?_
  refine b_iload_n dX7_second_4 rfl ?_
  refine b_iload_n dX7_second_5 rfl ?_
  refine b_callV2 dX7_second_6 lk_X7_111 rfl rfl rfl ⟨Nat.le_of_ble_eq_true rfl, Nat.le_of_ble_eq_true rfl⟩ (Nat.le_of_ble_eq_true rfl) (s_hasTwo hh) (fun r w6 h6 => ?_)
  obtain ⟨rfl, h6⟩ := h6
  rcases h6 with ⟨rfl, h6⟩ | ⟨rfl, h6⟩
  · refine b_if_ne (tgt := 14) dX7_second_9 (by decide) (fun h9 => ?_) (fun h9 => absurd h9 (by decide))
    have hq2 := h6
    obtain ⟨hpp, hpo, hne⟩ := h6
    obtain ⟨pp, hp, rfl⟩ := pers_of hP hpp
    obtain ⟨oo, ho, rfl⟩ := pers_of hP hpo
    refine b_iload_n dX7_second_14 rfl ?_
    refine b_callS1 dX7_second_15 lk_X7_124 ⟨Nat.le_of_ble_eq_true rfl, Nat.le_of_ble_eq_true rfl⟩ (Nat.le_of_ble_eq_true rfl) (s_X7_isDawn) (fun r w15 h15 => ?_)
    obtain ⟨rfl, h15⟩ := h15
    rcases h15 with ⟨rfl, h15⟩ | ⟨rfl, h15⟩
    · refine b_if_ne (tgt := 24) dX7_second_18 (by decide) (fun h18 => ?_) (fun h18 => absurd h18 (by decide))
      obtain ⟨D, hD, rfl⟩ := dawn_of h15
      refine b_aload_n dX7_second_24 rfl ?_
      refine b_getr dX7_second_25 gf_X7_39 rfl rfl ?_
      refine b_iconst (v := (-1)) dX7_second_28 (by decide) ?_
      refine b_aload_n dX7_second_29 rfl ?_
      refine b_getr dX7_second_30 gf_X7_14 rfl rfl ?_
      refine b_geti dX7_second_33 gf_X7_104 rfl rfl ?_
      refine b_iload_n dX7_second_36 rfl ?_
      refine b_iconst (v := 1) dX7_second_37 (by decide) ?_
      refine b_isub dX7_second_38 ?_
      refine b_callV3 dX7_second_39 lk_X7_131 rfl rfl rfl ⟨Nat.le_of_ble_eq_true rfl, Nat.le_of_ble_eq_true rfl⟩ (Nat.le_of_ble_eq_true rfl) (s_live hh (D := D) (by omega) (rfl)) (fun r w39 h39 => ?_)
      obtain ⟨rfl, hRD, hk⟩ := h39
      have hl := hRD.lv
      refine b_aload_n dX7_second_42 rfl ?_
      refine b_getr dX7_second_43 gf_X7_14 rfl rfl ?_
      refine b_iload_n dX7_second_46 rfl ?_
      refine b_aload_n dX7_second_47 rfl ?_
      refine b_getr dX7_second_48 gf_X7_39 rfl rfl ?_
      refine b_iload_n dX7_second_51 rfl ?_
      refine b_callV1 dX7_second_52 lk_X7_146 rfl rfl rfl ⟨Nat.le_of_ble_eq_true rfl, Nat.le_of_ble_eq_true rfl⟩ (Nat.le_of_ble_eq_true rfl) (s_X4_freeAhead (w := w39) (d := nI D) hl.1.2.1 hn) (fun r w52 h52 => ?_)
      obtain ⟨rfl, fs, rfl, hfs⟩ := h52
      refine b_iload_n dX7_second_55 rfl ?_
      refine b_callS1 dX7_second_56 lk_X7_121 ⟨Nat.le_of_ble_eq_true rfl, Nat.le_of_ble_eq_true rfl⟩ (Nat.le_of_ble_eq_true rfl) (s_X7_bit) (fun r w56 h56 => ?_)
      obtain ⟨rfl, rfl⟩ := h56
      refine b_iload_n dX7_second_59 rfl ?_
      refine b_callS1 dX7_second_60 lk_X7_121 ⟨Nat.le_of_ble_eq_true rfl, Nat.le_of_ble_eq_true rfl⟩ (Nat.le_of_ble_eq_true rfl) (s_X7_bit) (fun r w60 h60 => ?_)
      obtain ⟨rfl, rfl⟩ := h60
      refine b_ior dX7_second_63 ?_
      refine b_iconst (v := (-1)) dX7_second_64 (by decide) ?_
      refine b_ixor dX7_second_65 ?_
      refine b_iand dX7_second_66 ?_
      refine b_callV2 dX7_second_67 lk_X7_149 rfl rfl rfl ⟨Nat.le_of_ble_eq_true rfl, Nat.le_of_ble_eq_true rfl⟩ (Nat.le_of_ble_eq_true rfl) (s_X2_secondAmong hl.1 hp) (fun r w67 h67 => ?_)
      obtain ⟨rfl, rfl⟩ := h67
      refine b_topi (y := oI (mSec (mGo n c g D) pp (nI oo) (-9) (nI D))) (by rw [Int32.or_comm]; exact congrArg oI (sec1_eq (w := kset w39 15 10 fs) hl.1.1 ho hp (fun p hp6 => hl.free hfs hp6))) ?_
      refine b_iret dX7_second_70 rfl ⟨?_, ?_⟩
      · simp only [A_second, if_pos hq2, if_pos (dawn_in hD), dn_nI (show D < 2 ^ 31 by omega), dn_nI (show pp < 2 ^ 31 by omega)] <;> rfl
      · exact hk
    · refine b_if_ne (tgt := 24) dX7_second_18 (by decide) (fun h18 => absurd h18 (by decide)) (fun h18 => ?_)
      refine b_bipush (v := (-2)) dX7_second_21 (by decide) ?_
      refine b_iret dX7_second_23 rfl ⟨?_, ?_⟩
      · simp only [A_second, if_pos hq2, if_neg h15] <;> rfl
      · exact fun _ _ => rfl
  · refine b_if_ne (tgt := 14) dX7_second_9 (by decide) (fun h9 => absurd h9 (by decide)) (fun h9 => ?_)
    refine b_iconst (v := (-1)) dX7_second_12 (by decide) ?_
    refine b_iret dX7_second_13 rfl ⟨?_, ?_⟩
    · simp only [A_second, if_neg h6] <;> rfl
    · exact fun _ _ => rfl
end
section
theorem mHurtF_ge (w : kW) (hu y : Nat) (d : Int32) {c : Nat} (hc : 20 ≤ c) : (mHurtF w hu y d).1 c = w.1 c := by
  simp only [mHurtF]
  split
  · rw [kset_row _ _ _ _ (by omega)]
  · rw [kset_row _ _ _ _ (by omega), kset_row _ _ _ _ (by omega), kset_row _ _ _ _ (by omega), kset_row _ _ _ _ (by omega), kset_row _ _ _ _ (by omega), kset_row _ _ _ _ (by omega)]
/-- the seconds of the meetings are persons -/
def MtOk (n : Nat) (w : kW) : Prop := ∀ k, k < dn (w.1 0 28) → ∃ a b, a < n ∧ b < n ∧ w.1 21 k = nI a ∧ w.1 22 k = nI b
theorem mMeet_mt {w : kW} {n m a b : Nat} {x y d : Int32} (h : MtOk n w) (hm : w.1 0 28 = nI m) (hm2 : m < 200) (ha : a < n) (hb : b < n) : MtOk n (mMeet w a b x y d) := by
  have e28 : (mMeet w a b x y d).1 0 28 = nI (m + 1) := by
    simp only [mMeet]
    rw [kset_eq, ← nI_1]
    congr 1
    split
    · exact hm
    · split
      · rw [kset_ne _ _ (Or.inl (by decide)), mHurtF_met]; exact hm
      · rw [kset_ne _ _ (Or.inl (by decide)), mHurtF_met]; exact hm
  have e21 : ∀ c, c = 21 ∨ c = 22 → (mMeet w a b x y d).1 c = (mMeet0 w a b x y d).1 c := by
    intro c hc
    simp only [mMeet]
    rw [kset_row _ _ _ _ (by omega)]
    split
    · rfl
    · split
      · rw [kset_row _ _ _ _ (by omega), mHurtF_ge _ _ _ _ (by omega)]
      · rw [kset_row _ _ _ _ (by omega), mHurtF_ge _ _ _ _ (by omega)]
  intro k hk
  rw [e28, dn_nI (by omega)] at hk
  rw [e21 21 (Or.inl rfl), e21 22 (Or.inr rfl)]
  simp only [mMeet0]
  have em : (w.1 0 28).toNatClampNeg = m := by rw [hm]; exact dn_nI (by omega)
  rw [em]
  by_cases e : k = m
  · subst e
    exact ⟨a, b, ha, hb, by simp [kset_1], by simp [kset_1]⟩
  · obtain ⟨a', b', h1, h2, h3, h4⟩ := h k (by rw [hm, dn_nI (by omega)]; omega)
    exact ⟨a', b', h1, h2, by simp [kset_1, e, h3], by simp [kset_1, e, h4]⟩
theorem mAnswer_mt {w : kW} {n m0 i j : Nat} {deg d : Int32} (h : MtOk n w) (hS : SInv n m0 w) (hm0 : m0 ≤ 177) (hi : i < n) (hj : j < n) : MtOk n (mAnswer w i j deg d) := by
  obtain ⟨m, hm, hm2⟩ := hS.m hm0
  simp only [mAnswer]
  split
  · split
    · exact h
    · rename_i a ha
      have g1 := mSec_some hS.1 hj ha
      split
      · exact h
      · rename_i b hb
        have g2 := mSec_some hS.1 hi hb
        exact mMeet_mt h hm hm2 g1.1 g2.1
  · exact h
theorem mTold_mt {w : kW} {n c m0 d : Nat} (hM : MtOk n w) (h : SInv n m0 (kset w 0 22 0)) (hI : Ins n c w) (hm0 : m0 ≤ 177) : ∀ k, k ≤ c → MtOk n (mTold w d k) := by
  intro k
  induction k with
  | zero => intro _; exact hM
  | succ k ih =>
    intro hk
    have g := ih (by omega)
    obtain ⟨g1, g2⟩ := mTold_inv (d := d) h hI hm0 k (by omega)
    simp only [mTold]
    split
    · obtain ⟨a, b, dd, gg, h1, h2, h3, h4, h5, h6, h7, h8, h9, h10⟩ := (hI.keep g2).2.2 k (by omega)
      have hn := g1.1.le
      rw [cl_of h7 (by omega), cl_of h8 (by omega)]
      exact mAnswer_mt g g1 hm0 h1 h2
    · exact g
theorem mTk_mt {w : kW} {n m0 d t b : Nat} (hM : MtOk n w) (h : SInv n m0 w) (hm0 : m0 ≤ 177) (ht : w.1 0 23 = nI t) (ht2 : t < 200) (hb : b ≤ t) : ∀ k, k ≤ b → MtOk n (mTk w d k) := by
  intro k
  induction k with
  | zero => intro _; exact hM
  | succ k ih =>
    intro hk
    have g := ih (by omega)
    obtain ⟨g1, g2, t', g3, g4⟩ := mTk_inv (d := d) h hm0 ht ht2 hb k (by omega)
    obtain ⟨m, t2, q1, q2, q3, q4, q5⟩ := mTk_t h hm0
    have e : t = t2 := nI_inj (by omega) (by omega) (ht.symm.trans q3)
    subst e
    simp only [mTk]
    split
    · obtain ⟨a, b, h1, h2, h3, h4⟩ := q5 k (by omega)
      obtain ⟨k1, k2, k3, k4⟩ := g4.2.2 k (by omega)
      have hn := g1.1.le
      rw [cl_of (k1.trans h3) (by omega), cl_of (k2.trans h4) (by omega)]
      exact mAnswer_mt g g1 hm0 h1 h2
    · exact g
theorem mDawn_mt {w : kW} {n c M d : Nat} (hM : MtOk n w) (h : DInv n M w) (hM2 : M ≤ 177) (hI : Ins n c w) : MtOk n (mDawn c w d) := by
  obtain ⟨m, hm, hS⟩ := h.start
  obtain ⟨t, ht2, ht⟩ := h.t hM2
  obtain ⟨t', h1, h2, h3, h4⟩ := mTold_ext (d := d) hS hI (by omega) ht (by omega) c (Nat.le_refl c)
  unfold mDawn
  rw [cl_of ht (by omega)]
  exact mTk_mt (mTold_mt hM hS hI (by omega) c (Nat.le_refl c)) (mTold_inv hS hI (by omega) c (Nat.le_refl c)).1 (by omega) h3 h1 h2 t (Nat.le_refl t)
theorem mAhead_mt {w : kW} {n c : Nat} (hP : Pn n w) (hI : Ins n c w) : ∀ d, d ≤ 60 → MtOk n (mAhead n c w d)
  | 0, _ => fun k hk => by
    have : (mAhead n c w 0).1 0 28 = 0 := (mZero_23 w n).2
    rw [this] at hk
    exact absurd hk (Nat.not_lt_zero _)
  | d + 1, hd => by
    obtain ⟨h1, h2⟩ := mAhead_inv hP hI d (by omega)
    exact mDawn_mt (mAhead_mt hP hI d (by omega)) h1 (by omega) (hI.keep h2)
theorem mGo_mt {w : kW} {n c d : Nat} (hP : Pn n w) (hI : Ins n c w) (hd : d ≤ 60) : MtOk n (mGo n c w d) := mAhead_mt hP hI d hd
end
section
theorem s_liveU {n c q D : Nat} {w g : kW} {last ins x : Int32} (h : Rel n c q w g) (hD : D ≤ 60) (hl : last = nI D - 1) (hi : ∀ k, k < c → (bt ins k = true ↔ bt x k = false)) : Spec shC yX4_live cX4_live 5 none 4 105 [.ref 15, .int ins, .int (w.1 1 1), .int last] w (fun r w' => r = none ∧ RD n c D w' (mAhead n c (kset g 0 20 x) D) ∧ cK2 w w') :=
  s_X4_live (g := kset g 0 20 x) h.2.1 h.1.2.1.un h.2.2.1 hD hl hi h.2.2.2.1
theorem u_not {k : Nat} (hk : k < 32) {c : Nat} (hc : c ≤ 32) : ∀ j, j < c → (bt ((1 <<< (nI k &&& 31)) ^^^ -1) j = true ↔ bt (1 <<< (nI k &&& 31)) j = false) := fun j hj => by
  rw [bt_m1x _ (by omega)]; simp
set_option maxRecDepth 100000 in
set_option maxHeartbeats 1000000 in
theorem s_X7_worth {w g : kW} {n c q : Nat} (hh : Rel n c q w g) {k : Int32} : Spec shC yX7_worth cX7_worth 3 (some .int) 5 129 [.ref 0, .int k] w (fun r w' => r = some (.int (A_worth n c g k)) ∧ cK2 w w') := by
  obtain ⟨hM, hRP, hRI, hRA, hRR, hRS, hRN⟩ := id hh
  obtain ⟨hP, hI, hc8, hRd, hu, hS⟩ := id hM
  have hn := hP.le
  refine k_enter pn_X7 (Nat.le_of_ble_eq_true rfl) ?_
  refine b_iload_n dX7_worth_0 rfl ?_
  refine b_if_lt (tgt := 15) dX7_worth_1 (by decide) (fun h1 => ?_) (fun h1 => ?_)
  · refine b_iconst (v := (-1)) dX7_worth_15 (by decide) ?_
    refine b_iret dX7_worth_16 rfl ⟨?_, ?_⟩
    · simp only [A_worth, if_neg (show ¬ (¬ k < 0 ∧ k < g.1 0 15) from fun z => z.1 h1)] <;> rfl
    · exact fun _ _ => rfl
  · refine b_iload_n dX7_worth_4 rfl ?_
    refine b_aload_n dX7_worth_5 rfl ?_
    refine b_getr dX7_worth_6 gf_X7_23 rfl rfl ?_
    refine b_geti dX7_worth_9 gf_X7_80 rfl rfl ?_
    refine b_topi (y := g.1 0 15) hh.hc ?_
    refine b_icmp_lt (tgt := 17) dX7_worth_12 (by decide) (fun h12 => ?_) (fun h12 => ?_)
    · have hz : ¬ k < 0 ∧ k < g.1 0 15 := ⟨h1, h12⟩
      obtain ⟨kk, hkk, rfl⟩ := nI_between h1 (hI.1 ▸ h12) (by omega)
      refine b_aload_n dX7_worth_17 rfl ?_
      refine b_getr dX7_worth_18 gf_X7_39 rfl rfl ?_
      refine b_iconst (v := (-1)) dX7_worth_21 (by decide) ?_
      refine b_aload_n dX7_worth_22 rfl ?_
      refine b_getr dX7_worth_23 gf_X7_14 rfl rfl ?_
      refine b_geti dX7_worth_26 gf_X7_104 rfl rfl ?_
      refine b_bipush (v := 59) dX7_worth_29 (by decide) ?_
      refine b_callV3 dX7_worth_31 lk_X7_131 rfl rfl rfl ⟨Nat.le_of_ble_eq_true rfl, Nat.le_of_ble_eq_true rfl⟩ (Nat.le_of_ble_eq_true rfl) (s_live hh (D := 60) (by omega) (by decide)) (fun r w31 h31 => ?_)
      obtain ⟨rfl, hRD, hk⟩ := h31
      have hl := hRD.lv
      refine b_aload_n dX7_worth_34 rfl ?_
      refine b_getr dX7_worth_35 gf_X7_39 rfl rfl ?_
      refine b_getr dX7_worth_38 gf_X7_135 rfl rfl ?_
      refine b_geti dX7_worth_41 gf_X7_139 rfl rfl ?_
      refine b_topi (y := (mGo n c g 60).1 0 28) hl.m ?_
      refine b_istore_n dX7_worth_44 (by decide) ?_
      refine b_aload_n dX7_worth_45 rfl ?_
      refine b_getr dX7_worth_46 gf_X7_39 rfl rfl ?_
      refine b_iload_n dX7_worth_49 rfl ?_
      refine b_callS1 dX7_worth_50 lk_X7_121 ⟨Nat.le_of_ble_eq_true rfl, Nat.le_of_ble_eq_true rfl⟩ (Nat.le_of_ble_eq_true rfl) (s_X7_bit) (fun r w50 h50 => ?_)
      obtain ⟨rfl, rfl⟩ := h50
      refine b_iconst (v := (-1)) dX7_worth_53 (by decide) ?_
      refine b_ixor dX7_worth_54 ?_
      refine b_aload_n dX7_worth_55 rfl ?_
      refine b_getr dX7_worth_56 gf_X7_14 rfl rfl ?_
      refine b_geti dX7_worth_59 gf_X7_104 rfl rfl ?_
      refine b_bipush (v := 59) dX7_worth_62 (by decide) ?_
      refine b_callV3 dX7_worth_64 lk_X7_131 rfl rfl rfl ⟨Nat.le_of_ble_eq_true rfl, Nat.le_of_ble_eq_true rfl⟩ (Nat.le_of_ble_eq_true rfl) (s_liveU (g := g) (D := 60) (x := 1 <<< (nI kk &&& 31)) (hh.k2 hk) (by omega) (by decide) (u_not (by omega) (by omega))) (fun r w64 h64 => ?_)
      obtain ⟨rfl, hRD2, hk2⟩ := h64
      have hl2 := hRD2.lv
      refine b_iload_n dX7_worth_67 rfl ?_
      refine b_aload_n dX7_worth_68 rfl ?_
      refine b_getr dX7_worth_69 gf_X7_39 rfl rfl ?_
      refine b_getr dX7_worth_72 gf_X7_135 rfl rfl ?_
      refine b_geti dX7_worth_75 gf_X7_139 rfl rfl ?_
      refine b_topi (y := (mGo n c (kset g 0 20 (1 <<< (nI kk &&& 31))) 60).1 0 28) hl2.m ?_
      refine b_isub dX7_worth_78 ?_
      refine b_sipush (v := 1000) dX7_worth_79 (by decide) ?_
      refine b_iadd dX7_worth_82 ?_
      refine b_iret dX7_worth_83 rfl ⟨?_, ?_⟩
      · simp only [A_worth, if_pos hz] <;> rfl
      · exact hk.tr hk2
    · refine b_iconst (v := (-1)) dX7_worth_15 (by decide) ?_
      refine b_iret dX7_worth_16 rfl ⟨?_, ?_⟩
      · simp only [A_worth, if_neg (show ¬ (¬ k < 0 ∧ k < g.1 0 15) from fun z => h12 z.2)] <;> rfl
      · exact fun _ _ => rfl
set_option maxRecDepth 100000 in
set_option maxHeartbeats 1000000 in
theorem s_X7_many {w g : kW} {n c q : Nat} (hh : Rel n c q w g) {what : Int32} : Spec shC yX7_many cX7_many 2 (some .int) 5 129 [.ref 0, .int what] w (fun r w' => r = some (.int (A_many n c g what)) ∧ cK2 w w') := by
  obtain ⟨hM, hRP, hRI, hRA, hRR, hRS, hRN⟩ := id hh
  obtain ⟨hP, hI, hc8, hRd, hu, hS⟩ := id hM
  have hn := hP.le
  have many3 : (if g.1 0 5 = 0 then 0 else (mGo n c g 60).1 0 28) = (mGo n c g 60).1 0 28 := by
    by_cases h : g.1 0 5 = 0
    · rw [if_pos h]; exact (mGo_n0 hP hI (Nat.le_refl 60) h).symm
    · rw [if_neg h]
  refine k_enter pn_X7 (Nat.le_of_ble_eq_true rfl) ?_
  refine b_iload_n dX7_many_0 rfl ?_
  by_cases hw : (0 : Int32) ≤ what ∧ what ≤ 3
  obtain ⟨x, hx, rfl⟩ := nI_of2 (n := 3) (M := 3) (by decide) (Int32.not_lt.mpr hw.1) hw.2
  rcases (show x = 0 ∨ x = 1 ∨ x = 2 ∨ x = 3 by omega) with rfl | rfl | rfl | rfl
  · refine b_tsIn (off := 31) (tgt := 32) dX7_many_1 (by decide) (by decide) (by decide) (by decide) ?_
    refine b_aload_n dX7_many_32 rfl ?_
    refine b_getr dX7_many_33 gf_X7_14 rfl rfl ?_
    refine b_geti dX7_many_36 gf_X7_84 rfl rfl ?_
    refine b_topi (y := g.1 0 5) hh.hp ?_
    refine b_iret dX7_many_39 rfl ⟨?_, ?_⟩
    · simp only [A_many, if_neg (show ¬ nI 0 = 3 by decide), if_pos (show nI 0 = 0 by decide)] <;> rfl
    · exact fun _ _ => rfl
  · refine b_tsIn (off := 39) (tgt := 40) dX7_many_1 (by decide) (by decide) (by decide) (by decide) ?_
    refine b_aload_n dX7_many_40 rfl ?_
    refine b_getr dX7_many_41 gf_X7_23 rfl rfl ?_
    refine b_geti dX7_many_44 gf_X7_80 rfl rfl ?_
    refine b_topi (y := g.1 0 15) hh.hc ?_
    refine b_iret dX7_many_47 rfl ⟨?_, ?_⟩
    · simp only [A_many, if_neg (show ¬ nI 1 = 3 by decide), if_neg (show ¬ nI 1 = 0 by decide), if_pos (show nI 1 = 1 by decide)] <;> rfl
    · exact fun _ _ => rfl
  · refine b_tsIn (off := 47) (tgt := 48) dX7_many_1 (by decide) (by decide) (by decide) (by decide) ?_
    refine b_aload_n dX7_many_48 rfl ?_
    refine b_getr dX7_many_49 gf_X7_30 rfl rfl ?_
    refine b_geti dX7_many_52 gf_X7_83 rfl rfl ?_
    refine b_topi (y := g.1 0 35) hh.hq ?_
    refine b_iret dX7_many_55 rfl ⟨?_, ?_⟩
    · simp only [A_many, if_neg (show ¬ nI 2 = 3 by decide), if_neg (show ¬ nI 2 = 0 by decide), if_neg (show ¬ nI 2 = 1 by decide), if_pos (show nI 2 = 2 by decide)] <;> rfl
    · exact fun _ _ => rfl
  · refine b_tsIn (off := 55) (tgt := 56) dX7_many_1 (by decide) (by decide) (by decide) (by decide) ?_
    refine b_aload_n dX7_many_56 rfl ?_
    refine b_getr dX7_many_57 gf_X7_39 rfl rfl ?_
    refine b_iconst (v := (-1)) dX7_many_60 (by decide) ?_
    refine b_aload_n dX7_many_61 rfl ?_
    refine b_getr dX7_many_62 gf_X7_14 rfl rfl ?_
    refine b_geti dX7_many_65 gf_X7_104 rfl rfl ?_
    refine b_bipush (v := 59) dX7_many_68 (by decide) ?_
    refine b_callV3 dX7_many_70 lk_X7_131 rfl rfl rfl ⟨Nat.le_of_ble_eq_true rfl, Nat.le_of_ble_eq_true rfl⟩ (Nat.le_of_ble_eq_true rfl) (s_live hh (D := 60) (by omega) (by decide)) (fun r w70 h70 => ?_)
    obtain ⟨rfl, hRD, hk⟩ := h70
    have hl := hRD.lv
    refine b_aload_n dX7_many_73 rfl ?_
    refine b_getr dX7_many_74 gf_X7_39 rfl rfl ?_
    refine b_getr dX7_many_77 gf_X7_135 rfl rfl ?_
    refine b_geti dX7_many_80 gf_X7_139 rfl rfl ?_
    refine b_topi (y := (mGo n c g 60).1 0 28) hl.m ?_
    refine b_iret dX7_many_83 rfl ⟨?_, ?_⟩
    · simp only [A_many, if_pos (show nI 3 = 3 by decide), many3] <;> rfl
    · exact hk
  · refine b_tsOut (tgt := 84) dX7_many_1 (ts_out 3 (by decide) hw) (by decide) ?_
    refine b_bipush (v := (-2)) dX7_many_84 (by decide) ?_
    refine b_iret dX7_many_86 rfl ⟨?_, ?_⟩
    · simp only [A_many, if_neg (show ¬ what = 3 from fun z => hw (by rw [z]; decide)), if_neg (show ¬ what = 0 from fun z => hw (by rw [z]; decide)), if_neg (show ¬ what = 1 from fun z => hw (by rw [z]; decide)), if_neg (show ¬ what = 2 from fun z => hw (by rw [z]; decide))] <;> rfl
    · exact fun _ _ => rfl
end
section
def cKt (c : Nat) (w v : kW) : Prop := (∀ j, j < 6 ∨ (10 < j ∧ j < 15) ∨ 29 < j → v.1 j = w.1 j) ∧ v.1 6 0 = w.1 6 0 ∧ ∀ j k, 7 ≤ j → j ≤ 10 → k < c → v.1 j k = w.1 j k
theorem cKt.rf {c : Nat} {w : kW} : cKt c w w := ⟨fun _ _ => rfl, rfl, fun _ _ _ _ _ => rfl⟩
theorem cKt.of {c : Nat} {w v : kW} (h : cK2 w v) : cKt c w v := ⟨fun j a => h j (by omega), by rw [h 6 (by omega)], fun j k a b _ => by rw [h j (by omega)]⟩
end
section
/-! ===== arrests ===== -/
theorem mAnswer_all {w : kW} {n i j : Nat} {deg d : Int32} (hP : Pn n w) (ha : ∀ p, p < n → w.1 7 p = 1) (hj : j < n) : mAnswer w i j deg d = w := by
  by_cases h : mTouch w j ≤ deg
  · refine mAnswer_n1 h ?_
    cases hs : mSec w j (nI i) (-9) d with
    | none => rfl
    | some a =>
      have g := mSec_some hP hj hs
      have := g.2.2.2.2.1
      rw [ha a g.1] at this
      exact absurd this (by decide)
  · exact mAnswer_no h
theorem mTold_all {w : kW} {n c d : Nat} (hP : Pn n w) (hI : Ins n c w) (ha : ∀ p, p < n → w.1 7 p = 1) : ∀ k, k ≤ c → mTold w d k = kset w 0 22 0
  | 0, _ => rfl
  | k + 1, hk => by
    have ih := mTold_all (d := d) hP hI ha k (by omega)
    obtain ⟨a, b, dd, gg, h1, h2, h3, h4, h5, h6, h7, h8, h9, h10⟩ := hI.2.2 k (by omega)
    have hn := hP.le
    simp only [mTold]
    rw [ih]
    split
    · have e8 : (kset w 0 22 0).1 12 k = nI b := h8
      rw [cl_of e8 (by omega)]
      exact mAnswer_all (n := n) hP ha h2
    · rfl
theorem mAhead_all {w : kW} {n c : Nat} (hP : Pn n w) (hI : Ins n c w) (ha : ∀ p, p < n → w.1 7 p = 1) : ∀ d, d ≤ 60 → (mAhead n c w d).1 0 28 = 0 ∧ (mAhead n c w d).1 0 23 = 0
  | 0, _ => ⟨(mZero_23 w n).2, (mZero_23 w n).1⟩
  | d + 1, hd => by
    obtain ⟨i1, i2⟩ := mAhead_all hP hI ha d (by omega)
    obtain ⟨h1, h2⟩ := mAhead_inv hP hI d (by omega)
    have hP2 := hP.keep h2
    have e7 : (mAhead n c w d).1 7 = w.1 7 := h2.1 7 (by decide) (by decide)
    show (mDawn c (mAhead n c w d) d).1 0 28 = 0 ∧ (mDawn c (mAhead n c w d) d).1 0 23 = 0
    unfold mDawn
    rw [i2, mTold_all hP2 (hI.keep h2) (fun p hp => by rw [e7]; exact ha p hp) c (Nat.le_refl c)]
    exact ⟨i1, i2⟩
theorem mGo_all {w : kW} {n c d : Nat} (hP : Pn n w) (hI : Ins n c w) (ha : ∀ p, p < n → w.1 7 p = 1) (hd : d ≤ 60) : (mGo n c w d).1 0 28 = 0 := (mAhead_all hP hI ha d hd).1
theorem full_bits : ∀ n, n ≤ 6 → ∀ p, p < n → (2 ^ n - 1).testBit p = true := by decide +kernel
theorem okA_full {n c D : Nat} {w : kW} (hP : Pn n w) (hI : Ins n c w) (hD : D < 60) : okA n c w D (2 ^ n - 1) := by
  have hn := hP.le
  refine mGo_all (arrF_pn hP (Or.inr rfl)) (arrF_ins hI) (fun p hp => ?_) (by omega)
  rw [arrF_at n hp, bt_nI (by omega), if_pos (full_bits n hn p hp)]
def bestC (n c : Nat) (w : kW) (D k f : Nat) : Prop := f < 2 ^ n ∧ okA n c w D f ∧ (f ≤ k ∨ f = 2 ^ n - 1) ∧ ∀ s, s < k → okA n c w D s → pc6 f < pc6 s ∨ (pc6 f = pc6 s ∧ f ≤ s)
theorem bestC.zero {n c D : Nat} {w : kW} (hP : Pn n w) (hI : Ins n c w) (hD : D < 60) : bestC n c w D 0 (2 ^ n - 1) :=
  ⟨by have := Nat.two_pow_pos n; omega, okA_full hP hI hD, Or.inr rfl, fun s hs => absurd hs (Nat.not_lt_zero _)⟩
end
section
/-! ===== odds ===== -/
noncomputable def hF (n c : Nat) (w : kW) (D : Nat) (p : Int32) : Nat → Nat := fun s => b01 (wHu (mGo n c (kset w 0 20 (nI s)) D) p)
end
section
/-! ===== sheets ===== -/
theorem shK {k : Nat} (h : k < 4) : shC[31 + k]? = some (.inl (5, [none, none, none, some (some (35 + k))])) := by
  rcases (show k = 0 ∨ k = 1 ∨ k = 2 ∨ k = 3 by omega) with rfl | rfl | rfl | rfl <;> rfl
theorem shR {k : Nat} (h : k < 4) : shC[35 + k]? = some (.inr (.inl (0, 50))) := by
  rcases (show k = 0 ∨ k = 1 ∨ k = 2 ∨ k = 3 by omega) with rfl | rfl | rfl | rfl <;> rfl
theorem Rel.sh {n c q k : Nat} {w g w' g' : kW} (h : Rel n c q w g) (hk4 : k < 4) (hw : ∀ j, j ≠ 31 + k → j ≠ 35 + k → w'.1 j = w.1 j) (hg : ∀ j, j ≠ 1 → j ≠ 2 → j ≠ 3 → g'.1 j = g.1 j)
    (hg1 : ∀ j, j < 4 → j ≠ k → g'.1 1 j = g.1 1 j ∧ g'.1 2 j = g.1 2 j ∧ ∀ x, x < 50 → g'.1 3 (50 * j + x) = g.1 3 (50 * j + x)) (hk : RS1 k w' g') (hS : (g'.1 1 k = -9 ∨ g'.1 1 k = 0 ∨ g'.1 1 k = 1 ∨ g'.1 1 k = 2) ∧ ∃ l, l ≤ 50 ∧ g'.1 2 k = nI l) : Rel n c q w' g' := by
  obtain ⟨⟨g1, g2, g3, g4, g5, g6⟩, ⟨h2, h3, h4⟩, ⟨h5, h6⟩, h7, ⟨h8, h9⟩, h10, h11, h12⟩ := h
  have e0 := hg 0 (by decide) (by decide) (by decide)
  have e4 := hg 4 (by decide) (by decide) (by decide)
  have e5 := hg 5 (by decide) (by decide) (by decide)
  have e6 := hg 6 (by decide) (by decide) (by decide)
  have e7 := hg 7 (by decide) (by decide) (by decide)
  have hP : Pn n g' := by
    unfold Pn fr at *
    rw [e0, e4, e5, e6, e7]; exact g1
  refine ⟨⟨hP, ?_, g3, ?_, by rw [e0]; exact g5, fun j hj => ?_⟩, ⟨hP, ?_, ?_⟩, ⟨?_, ?_⟩, ?_, ⟨?_, ?_⟩, ?_, ?_, ?_⟩
  · unfold Ins at *
    rw [e0, hg 11 (by decide) (by decide) (by decide), hg 12 (by decide) (by decide) (by decide), hg 13 (by decide) (by decide) (by decide), hg 14 (by decide) (by decide) (by decide)]; exact g2
  · unfold Rd at *
    rw [e0, hg 26 (by decide) (by decide) (by decide), hg 27 (by decide) (by decide) (by decide), hg 28 (by decide) (by decide) (by decide)]; exact g4
  · by_cases e : j = k
    · subst e; exact hS
    · rw [(hg1 j hj e).1, (hg1 j hj e).2.1]; exact g6 j hj
  · rw [hw 1 (by omega) (by omega)]; exact h3
  · intro p hp; rw [hw 2 (by omega) (by omega), hw 3 (by omega) (by omega), hw 4 (by omega) (by omega), hw 5 (by omega) (by omega), e4, e5, e6]; exact h4 p hp
  · rw [hw 6 (by omega) (by omega)]; exact h5
  · intro i hi; rw [hw 7 (by omega) (by omega), hw 8 (by omega) (by omega), hw 9 (by omega) (by omega), hw 10 (by omega) (by omega), hg 11 (by decide) (by decide) (by decide), hg 12 (by decide) (by decide) (by decide), hg 13 (by decide) (by decide) (by decide), hg 14 (by decide) (by decide) (by decide)]; exact h6 i hi
  · intro p hp; rw [hw 1 (by omega) (by omega), e7]; exact h7 p hp
  · rw [hw 11 (by omega) (by omega)]; exact h8
  · intro i hi; rw [hw 12 (by omega) (by omega), hw 13 (by omega) (by omega), hw 14 (by omega) (by omega), hg 26 (by decide) (by decide) (by decide), hg 27 (by decide) (by decide) (by decide), hg 28 (by decide) (by decide) (by decide)]; exact h9 i hi
  · intro j hj
    by_cases e : j = k
    · subst e; exact hk
    · exact (h10 j hj).of (hw _ (by omega) (by omega)) (hw _ (by omega) (by omega)) (hg1 j hj e).1 (hg1 j hj e).2.1 (hg1 j hj e).2.2
  · rw [hw 0 (by omega) (by omega), e0]; exact h11
  · rw [hw 0 (by omega) (by omega), e0]; exact h12
theorem zeroC_row {w : kW} {j c : Nat} (h : c ≠ 3) : ∀ m, (zeroC w j m).1 c = w.1 c
  | 0 => rfl
  | m + 1 => by rw [zeroC, kset_row _ _ _ _ h, zeroC_row h m]
theorem zeroC_in {w : kW} {j x : Nat} : ∀ m, x < m → (zeroC w j m).1 3 (50 * j + x) = 0
  | 0, h => by omega
  | m + 1, h => by
    rw [zeroC, kset_1, if_pos rfl]
    by_cases e : 50 * j + x = 50 * j + m
    · rw [if_pos e]
    · rw [if_neg e]; exact zeroC_in m (by omega)
theorem zeroC_out {w : kW} {j y : Nat} : ∀ m, (y < 50 * j ∨ 50 * j + m ≤ y) → (zeroC w j m).1 3 y = w.1 3 y
  | 0, _ => rfl
  | m + 1, h => by
    rw [zeroC, kset_ne _ _ (Or.inr (by omega))]
    exact zeroC_out m (by omega)
theorem minmax : ∀ m, m < 51 → (if (nI m : Int32) < 50 then nI m else 50) = nI m ∧ (if (0 : Int32) < nI m then nI m else 0) = nI m := by decide +kernel
set_option maxRecDepth 100000 in
set_option maxHeartbeats 1000000 in
theorem s_X7_sheetOf {w : kW} {x : Int32} : Spec shC yX7_sheetOf cX7_sheetOf 2 (some (.object "DuelSeconds$Sheet")) 0 0 [.ref 0, .int x] w (fun r w' => w = w' ∧ ((∃ k, k < 4 ∧ x = nI k ∧ r = some (.ref (31 + k))) ∨ (¬ isS x ∧ r = some .null))) := by
  refine k_enter pn_X7 (Nat.le_of_ble_eq_true rfl) ?_
  refine b_iload_n dX7_sheetOf_0 rfl ?_
  refine b_if_lt (tgt := 18) dX7_sheetOf_1 (by decide) (fun h1 => ?_) (fun h1 => ?_)
  · refine b_null dX7_sheetOf_18 ?_
    exact b_aret (C := "DuelSeconds$Sheet") dX7_sheetOf_19 rfl (Or.inl rfl) ⟨rfl, Or.inr ⟨fun z => absurd z.1 (Int32.not_le.mpr h1), rfl⟩⟩
  · refine b_iload_n dX7_sheetOf_4 rfl ?_
    refine b_iconst (v := 4) dX7_sheetOf_5 (by decide) ?_
    refine b_icmp_ge (tgt := 18) dX7_sheetOf_6 (by decide) (fun h6 => ?_) (fun h6 => ?_)
    · refine b_null dX7_sheetOf_18 ?_
      exact b_aret (C := "DuelSeconds$Sheet") dX7_sheetOf_19 rfl (Or.inl rfl) ⟨rfl, Or.inr ⟨fun z => absurd ((lt_le (a := 3) (b := 4) (by decide)).mpr z.2) (Int32.not_lt.mpr h6), rfl⟩⟩
    · obtain ⟨k, hk, rfl⟩ := sheet_of (x := x) ⟨Int32.not_lt.mp h1, (lt_le (a := 3) (b := 4) (by decide)).mp (Int32.not_le.mp h6)⟩
      refine b_aload_n dX7_sheetOf_9 rfl ?_
      refine b_getr dX7_sheetOf_10 gf_X7_45 rfl rfl ?_
      refine b_iload_n dX7_sheetOf_13 rfl ?_
      refine b_aald (r := 31 + k) dX7_sheetOf_14 rfl (by decide) (by unfold vp_in; rw [nI_clamp (by omega)]; intro z; rcases z with z | z; exact nI_pos (by omega) z; omega) (by rw [nI_clamp (by omega), if_pos hk]) ?_
      refine b_goto (tgt := 19) dX7_sheetOf_15 (by decide) ?_
      exact b_aret (C := "DuelSeconds$Sheet") dX7_sheetOf_19 rfl (Or.inr ⟨_, rfl⟩) ⟨rfl, Or.inl ⟨k, hk, rfl, rfl⟩⟩
set_option maxRecDepth 100000 in
set_option maxHeartbeats 1000000 in
theorem s_X5_holds {w : kW} {k : Nat} (hk : k < 4) {i m : Int32} : Spec shC yX5_holds cX5_holds 3 (some .boolean) 0 0 [.ref (31 + k), .int i, .int m] w (fun r w' => w = w' ∧ ((r = some (.int 1) ∧ (¬ i < 0 ∧ i ≤ w.1 (31 + k) 2 ∧ ¬ m < 0 ∧ m ≤ w.1 (31 + k) 2 - i)) ∨ (r = some (.int 0) ∧ ¬ (¬ i < 0 ∧ i ≤ w.1 (31 + k) 2 ∧ ¬ m < 0 ∧ m ≤ w.1 (31 + k) 2 - i)))) := by
  refine k_enter pn_X5 (Nat.le_of_ble_eq_true rfl) ?_
  refine b_iload_n dX5_holds_0 rfl ?_
  refine b_if_lt (tgt := 30) dX5_holds_1 (by decide) (fun h1 => ?_) (fun h1 => ?_)
  · refine b_iconst (v := 0) dX5_holds_30 (by decide) ?_
    exact b_zret (Or.inl rfl) dX5_holds_31 rfl ⟨rfl, Or.inr ⟨rfl, fun z => z.1 h1⟩⟩
  · refine b_iload_n dX5_holds_4 rfl ?_
    refine b_aload_n dX5_holds_5 rfl ?_
    refine b_geti dX5_holds_6 gf_X5_32 (shK hk) rfl ?_
    refine b_icmp_gt (tgt := 30) dX5_holds_9 (by decide) (fun h9 => ?_) (fun h9 => ?_)
    · refine b_iconst (v := 0) dX5_holds_30 (by decide) ?_
      exact b_zret (Or.inl rfl) dX5_holds_31 rfl ⟨rfl, Or.inr ⟨rfl, fun z => absurd z.2.1 (Int32.not_le.mpr h9)⟩⟩
    · refine b_iload_n dX5_holds_12 rfl ?_
      refine b_if_lt (tgt := 30) dX5_holds_13 (by decide) (fun h13 => ?_) (fun h13 => ?_)
      · refine b_iconst (v := 0) dX5_holds_30 (by decide) ?_
        exact b_zret (Or.inl rfl) dX5_holds_31 rfl ⟨rfl, Or.inr ⟨rfl, fun z => z.2.2.1 h13⟩⟩
      · refine b_iload_n dX5_holds_16 rfl ?_
        refine b_aload_n dX5_holds_17 rfl ?_
        refine b_geti dX5_holds_18 gf_X5_32 (shK hk) rfl ?_
        refine b_iload_n dX5_holds_21 rfl ?_
        refine b_isub dX5_holds_22 ?_
        refine b_icmp_gt (tgt := 30) dX5_holds_23 (by decide) (fun h23 => ?_) (fun h23 => ?_)
        · refine b_iconst (v := 0) dX5_holds_30 (by decide) ?_
          exact b_zret (Or.inl rfl) dX5_holds_31 rfl ⟨rfl, Or.inr ⟨rfl, fun z => absurd z.2.2.2 (Int32.not_le.mpr h23)⟩⟩
        · refine b_iconst (v := 1) dX5_holds_26 (by decide) ?_
          refine b_goto (tgt := 31) dX5_holds_27 (by decide) ?_
          exact b_zret (Or.inr rfl) dX5_holds_31 rfl ⟨rfl, Or.inl ⟨rfl, h1, Int32.not_lt.mp h9, h13, Int32.not_lt.mp h23⟩⟩
set_option maxRecDepth 100000 in
set_option maxHeartbeats 1000000 in
theorem s_X5_at {w : kW} {k : Nat} (hk : k < 4) {i l : Nat} (hl : w.1 (31 + k) 2 = nI l) (hl5 : l ≤ 50) (hi : i < l) : Spec shC yX5_at cX5_at 2 (some .int) 0 0 [.ref (31 + k), .int (nI i)] w (fun r w' => r = some (.int (w.1 (35 + k) i)) ∧ w = w') := by
  refine k_enter pn_X5 (Nat.le_of_ble_eq_true rfl) ?_
  refine b_iload_n dX5_at_0 rfl ?_
  refine b_if_lt (tgt := 21) dX5_at_1 (by decide) (fun h1 => ?_) (fun h1 => ?_)
  · exact absurd h1 (nI_pos (by omega))
  · refine b_iload_n dX5_at_4 rfl ?_
    refine b_aload_n dX5_at_5 rfl ?_
    refine b_geti dX5_at_6 gf_X5_32 (shK hk) rfl ?_
    refine b_topi (y := nI l) hl ?_
    refine b_icmp_ge (tgt := 21) dX5_at_9 (by decide) (fun h9 => ?_) (fun h9 => ?_)
    · exact absurd h9 (nI_ge hi (by omega))
    · refine b_aload_n dX5_at_12 rfl ?_
      refine b_getr dX5_at_13 gf_X5_9 (shK hk) rfl ?_
      refine b_iload_n dX5_at_16 rfl ?_
      refine b_ialdN dX5_at_17 (shR hk) ⟨by omega, by decide⟩ ?_
      refine b_goto (tgt := 22) dX5_at_18 (by decide) ?_
      refine b_iret dX5_at_22 rfl ⟨?_, ?_⟩
      · rfl
      · rfl
set_option maxRecDepth 100000 in
set_option maxHeartbeats 1000000 in
theorem s_X5_faultOfTaking {w g : kW} {k : Nat} (hk : k < 4) (hS : RS1 k w g) {sort i m : Int32} : Spec shC yX5_faultOfTaking cX5_faultOfTaking 4 (some .int) 1 22 [.ref (31 + k), .int sort, .int i, .int m] w (fun r w' => r = some (.int (mAg g k sort i m)) ∧ w = w') := by
  refine k_enter pn_X5 (Nat.le_of_ble_eq_true rfl) ?_
  refine b_aload_n dX5_faultOfTaking_0 rfl ?_
  refine b_geti dX5_faultOfTaking_1 gf_X5_15 (shK hk) rfl ?_
  refine b_if_ne (tgt := 9) dX5_faultOfTaking_4 (by decide) (fun h4 => ?_) (fun h4 => ?_)
  · refine b_aload_n dX5_faultOfTaking_9 rfl ?_
    refine b_geti dX5_faultOfTaking_10 gf_X5_19 (shK hk) rfl ?_
    refine b_iload_n dX5_faultOfTaking_13 rfl ?_
    refine b_icmp_eq (tgt := 19) dX5_faultOfTaking_14 (by decide) (fun h14 => ?_) (fun h14 => ?_)
    · refine b_iload_n dX5_faultOfTaking_19 rfl ?_
      refine b_if_ge (tgt := 25) dX5_faultOfTaking_20 (by decide) (fun h20 => ?_) (fun h20 => ?_)
      · refine b_aload_n dX5_faultOfTaking_25 rfl ?_
        refine b_iload_n dX5_faultOfTaking_26 rfl ?_
        refine b_iload_n dX5_faultOfTaking_27 rfl ?_
        refine b_callV2 dX5_faultOfTaking_28 lk_X5_41 (shK hk) rfl rfl ⟨Nat.le_of_ble_eq_true rfl, Nat.le_of_ble_eq_true rfl⟩ (Nat.le_of_ble_eq_true rfl) (s_X5_holds hk) (fun r w28 h28 => ?_)
        obtain ⟨rfl, h28⟩ := h28
        rcases h28 with ⟨rfl, h28⟩ | ⟨rfl, h28⟩
        · refine b_if_eq (tgt := 38) dX5_faultOfTaking_31 (by decide) (fun h31 => absurd h31 (by decide)) (fun h31 => ?_)
          refine b_iconst (v := 0) dX5_faultOfTaking_34 (by decide) ?_
          refine b_goto (tgt := 39) dX5_faultOfTaking_35 (by decide) ?_
          refine b_iret dX5_faultOfTaking_39 rfl ⟨?_, rfl⟩
          refine congrArg (fun x => some (Value.int x)) ?_
          symm
          obtain ⟨z1, z2, z3⟩ := hS.1.resolve_left (fun z => h4 z.1)
          have n9 : ¬ g.1 1 k = -9 := fun y => by rw [y] at z2; exact absurd z2.1 (by decide)
          unfold mAg
          rw [if_neg (fun y => y.2 (z3.trans h14)), if_neg n9]
          rw [if_pos h20, if_pos ⟨h28.1, by rw [hS.2.1]; exact h28.2.1, by rw [hS.2.1]; exact h28.2.2.2⟩]
        · refine b_if_eq (tgt := 38) dX5_faultOfTaking_31 (by decide) (fun h31 => ?_) (fun h31 => absurd h31 (by decide))
          refine b_iconst (v := 3) dX5_faultOfTaking_38 (by decide) ?_
          refine b_iret dX5_faultOfTaking_39 rfl ⟨?_, rfl⟩
          refine congrArg (fun x => some (Value.int x)) ?_
          symm
          obtain ⟨z1, z2, z3⟩ := hS.1.resolve_left (fun z => h4 z.1)
          have n9 : ¬ g.1 1 k = -9 := fun y => by rw [y] at z2; exact absurd z2.1 (by decide)
          unfold mAg
          rw [if_neg (fun y => y.2 (z3.trans h14)), if_neg n9]
          rw [if_pos h20, if_neg (fun y => h28 ⟨y.1, by rw [hS.2.1] at y; exact y.2.1, Int32.not_lt.mpr h20, by rw [hS.2.1] at y; exact y.2.2⟩)]
      · refine b_iconst (v := 4) dX5_faultOfTaking_23 (by decide) ?_
        refine b_iret dX5_faultOfTaking_24 rfl ⟨?_, rfl⟩
        refine congrArg (fun x => some (Value.int x)) ?_
        symm
        obtain ⟨z1, z2, z3⟩ := hS.1.resolve_left (fun z => h4 z.1)
        have n9 : ¬ g.1 1 k = -9 := fun y => by rw [y] at z2; exact absurd z2.1 (by decide)
        unfold mAg
        rw [if_neg (fun y => y.2 (z3.trans h14)), if_neg n9]
        rw [if_neg h20]
    · refine b_iconst (v := 2) dX5_faultOfTaking_17 (by decide) ?_
      refine b_iret dX5_faultOfTaking_18 rfl ⟨?_, rfl⟩
      refine congrArg (fun x => some (Value.int x)) ?_
      symm
      obtain ⟨z1, z2, z3⟩ := hS.1.resolve_left (fun z => h4 z.1)
      have n9 : ¬ g.1 1 k = -9 := fun y => by rw [y] at z2; exact absurd z2.1 (by decide)
      unfold mAg
      rw [if_pos ⟨n9, fun y => h14 (z3.symm.trans y)⟩]
  · refine b_iconst (v := 1) dX5_faultOfTaking_7 (by decide) ?_
    refine b_iret dX5_faultOfTaking_8 rfl ⟨?_, rfl⟩
    refine congrArg (fun x => some (Value.int x)) ?_
    symm
    rcases hS.1 with z | z
    · unfold mAg; rw [if_neg (fun y => y.1 z.2), if_pos z.2]
    · exact absurd (z.1.symm.trans h4) (by decide)
set_option maxRecDepth 100000 in
set_option maxHeartbeats 1000000 in
theorem s_X5_renew {w : kW} {k : Nat} (hk : k < 4) {lane : Int32} {m : Nat} (hm : m < 51) : Spec shC yX5_renew cX5_renew 3 none 1 23 [.ref (31 + k), .int lane, .int (nI m)] w (fun r w' => r = none ∧ fillF (kset (kset (kset w (31 + k) 0 1) (31 + k) 1 lane) (31 + k) 2 (nI m)) (35 + k) 0 50 = w') := by
  refine k_enter pn_X5 (Nat.le_of_ble_eq_true rfl) ?_
  refine b_aload_n dX5_renew_0 rfl ?_
  refine b_iconst (v := 1) dX5_renew_1 (by decide) ?_
  refine b_putz dX5_renew_2 gf_X5_15 gs_X5_0 (shK hk) rfl (Or.inr rfl) ?_
  refine b_aload_n dX5_renew_5 rfl ?_
  refine b_iload_n dX5_renew_6 rfl ?_
  refine b_puti dX5_renew_7 gf_X5_19 gs_X5_1 (shK hk) rfl ?_
  refine b_aload_n dX5_renew_10 rfl ?_
  refine b_iconst (v := 0) dX5_renew_11 (by decide) ?_
  refine b_bipush (v := 50) dX5_renew_12 (by decide) ?_
  refine b_iload_n dX5_renew_14 rfl ?_
  refine b_min dX5_renew_15 lk_X5_23 (Nat.le_of_ble_eq_true rfl) (Nat.le_of_ble_eq_true rfl) ?_
  refine b_topi (y := nI m) (minmax m hm).1 ?_
  refine b_max dX5_renew_18 lk_X5_29 (Nat.le_of_ble_eq_true rfl) (Nat.le_of_ble_eq_true rfl) ?_
  refine b_topi (y := nI m) (minmax m hm).2 ?_
  refine b_puti dX5_renew_21 gf_X5_32 gs_X5_2 (shK hk) rfl ?_
  refine b_aload_n dX5_renew_24 rfl ?_
  refine b_getr dX5_renew_25 gf_X5_9 (shK hk) rfl ?_
  refine b_iconst (v := 0) dX5_renew_28 (by decide) ?_
  refine b_callS2 dX5_renew_29 lk_X5_35 ⟨Nat.le_of_ble_eq_true rfl, Nat.le_of_ble_eq_true rfl⟩ (Nat.le_of_ble_eq_true rfl) (s_fill (shR hk) (by decide)) (fun r w29 h29 => ?_)
  obtain ⟨rfl, rfl⟩ := h29
  refine b_vret dX5_renew_32 rfl ⟨rfl, ?_⟩
  rfl
end
section
theorem isT_or {s : Int32} (h : isT s) : s = 0 ∨ s = 1 ∨ s = 2 := by
  obtain ⟨x, hx, rfl⟩ := nI_of2 (n := 2) (M := 2) (by decide) (Int32.not_lt.mpr h.1) h.2
  rcases (show x = 0 ∨ x = 1 ∨ x = 2 by omega) with rfl | rfl | rfl
  · exact Or.inl rfl
  · exact Or.inr (Or.inl rfl)
  · exact Or.inr (Or.inr rfl)
theorem Rel.ren {n c q k m : Nat} {w g : kW} {sort : Int32} (h : Rel n c q w g) (hk : k < 4) (hs : isT sort) (hm : m < 51) : Rel n c q (fillF (kset (kset (kset w (31 + k) 0 1) (31 + k) 1 sort) (31 + k) 2 (nI m)) (35 + k) 0 50) (zeroC (kset (kset g 1 k sort) 2 k (nI m)) k 50) := by
  have e1 : (zeroC (kset (kset g 1 k sort) 2 k (nI m)) k 50).1 1 k = sort := by
    rw [zeroC_row (by decide), kset_ne _ _ (Or.inl (by decide)), kset_eq]
  have e2 : (zeroC (kset (kset g 1 k sort) 2 k (nI m)) k 50).1 2 k = nI m := by
    rw [zeroC_row (by decide), kset_eq]
  refine h.sh hk (fun j a b => ?_) (fun j a b d => ?_) (fun j hj e => ⟨?_, ?_, fun x hx => ?_⟩) ⟨Or.inr ⟨?_, ?_, ?_⟩, ?_, fun x hx => ?_⟩ ⟨?_, ?_⟩
  · rw [fillF_row b, kset_row _ _ _ _ a, kset_row _ _ _ _ a, kset_row _ _ _ _ a]
  · rw [zeroC_row d, kset_row _ _ _ _ b, kset_row _ _ _ _ a]
  · rw [zeroC_row (by decide), kset_ne _ _ (Or.inl (by decide)), kset_ne _ _ (Or.inr e)]
  · rw [zeroC_row (by decide), kset_ne _ _ (Or.inr e), kset_ne _ _ (Or.inl (by decide))]
  · rw [zeroC_out 50 (by omega), kset_ne _ _ (Or.inl (by decide)), kset_ne _ _ (Or.inl (by decide))]
  · rw [fillF_row (by omega), kset_ne _ _ (Or.inr (by decide)), kset_ne _ _ (Or.inr (by decide)), kset_eq]
  · rw [e1]; exact hs
  · rw [e1, fillF_row (by omega), kset_ne _ _ (Or.inr (by decide)), kset_eq]
  · rw [e2, fillF_row (by omega), kset_eq]
  · rw [fillF_in 50 x hx, zeroC_in 50 hx]
  · rw [e1]; exact Or.inr (isT_or hs)
  · exact ⟨m, by omega, e2⟩
theorem Rel.pt {n c q k i : Nat} {w g : kW} {v : Int32} (h : Rel n c q w g) (hk : k < 4) (hi : i < 50) : Rel n c q (kset w (35 + k) i v) (kset g 3 (50 * k + i) v) := by
  have hS := h.2.2.2.2.2.1 k hk
  refine h.sh hk (fun j a b => kset_row _ _ _ _ b) (fun j a b d => kset_row _ _ _ _ d) (fun j hj e => ⟨rfl, rfl, fun x hx => kset_ne _ _ (Or.inr (by omega))⟩) ⟨?_, ?_, fun x hx => ?_⟩ (h.1.2.2.2.2.2 k hk)
  · rw [kset_row _ _ _ _ (by omega), kset_row _ _ _ _ (by decide)]; exact hS.1
  · show g.1 2 k = _
    rw [kset_row _ _ _ _ (by omega)]; exact hS.2.1
  · rw [kset_1, kset_1, if_pos rfl, if_pos rfl]
    by_cases e : x = i
    · subst e; rw [if_pos rfl, if_pos rfl]
    · rw [if_neg e, if_neg (by omega)]; exact hS.2.2 x hx
theorem hold1 {l : Nat} (hl : l ≤ 50) {i : Int32} : (¬ i < 0 ∧ i ≤ nI l ∧ ¬ (1 : Int32) < 0 ∧ 1 ≤ nI l - i) ↔ (0 ≤ i ∧ i ≤ nI l - 1) := by
  constructor
  · rintro ⟨a, b, _, d⟩
    obtain ⟨j, hj, rfl⟩ := nle_of (by omega) a b
    rw [nI_sub hj] at d
    have : 1 ≤ l - j := by
      rcases Nat.lt_or_ge (l - j) 1 with z | z
      · rw [show l - j = 0 by omega] at d; exact absurd d (by decide)
      · exact z
    refine ⟨nI_pos' (by omega), ?_⟩
    rw [show nI l - 1 = nI (l - 1) from nI_sub (b := 1) (by omega)]
    exact nI_le (by omega) (by omega)
  · intro h
    obtain ⟨j, hj, rfl⟩ := idx_of hl h
    refine ⟨nI_pos (by omega), nI_le (by omega) (by omega), by decide, ?_⟩
    rw [nI_sub (by omega)]
    exact nI_le (a := 1) (by omega) (by omega)
set_option maxRecDepth 100000 in
set_option maxHeartbeats 1000000 in
theorem s_X7_sheet {w g : kW} {n c q : Nat} (hh : Rel n c q w g) {x sort m : Int32} : Spec shC yX7_sheet cX7_sheet 5 (some .int) 2 45 [.ref 0, .int x, .int sort, .int m] w (fun r w' => RQ (R_sheet g x sort m) r w') := by
  obtain ⟨hM, hRP, hRI, hRA, hRR, hRS, hRN⟩ := id hh
  obtain ⟨hP, hI, hc8, hRd, hu, hS⟩ := id hM
  have hn := hP.le
  have hh0 := hh.flt (x := 0)
  refine k_enter pn_X7 (Nat.le_of_ble_eq_true rfl) ?_
  refine b_aload_n dX7_sheet_0 rfl ?_
  refine b_iconst (v := 0) dX7_sheet_1 (by decide) ?_
  refine b_puti dX7_sheet_2 gf_X7_50 gs_X7_6 rfl rfl ?_
  refine b_wd (w' := kset w 0 6 0) rfl ?_
  refine b_aload_n dX7_sheet_5 rfl ?_
  refine b_iload_n dX7_sheet_6 rfl ?_
  refine b_callV1 dX7_sheet_7 lk_X7_54 rfl rfl rfl ⟨Nat.le_of_ble_eq_true rfl, Nat.le_of_ble_eq_true rfl⟩ (Nat.le_of_ble_eq_true rfl) (s_X7_sheetOf) (fun r w7 h7 => ?_)
  obtain ⟨rfl, h7⟩ := h7
  rcases h7 with ⟨k, hk, rfl, rfl⟩ | ⟨hnok, rfl⟩
  · refine b_astore dX7_sheet_10 (by decide) ?_
    refine b_aload dX7_sheet_12 rfl ?_
    refine b_ifnonnull (tgt := 19) dX7_sheet_14 (by decide) ?_
    refine b_iload_n dX7_sheet_19 rfl ?_
    refine b_callS1 dX7_sheet_20 lk_X7_58 ⟨Nat.le_of_ble_eq_true rfl, Nat.le_of_ble_eq_true rfl⟩ (Nat.le_of_ble_eq_true rfl) (s_X7_isLane) (fun r w20 h20 => ?_)
    obtain ⟨rfl, h20⟩ := h20
    rcases h20 with ⟨rfl, h20⟩ | ⟨rfl, h20⟩
    · refine b_if_eq (tgt := 32) dX7_sheet_23 (by decide) (fun h23 => absurd h23 (by decide)) (fun h23 => ?_)
      refine b_iload_n dX7_sheet_26 rfl ?_
      refine b_bipush (v := 50) dX7_sheet_27 (by decide) ?_
      refine b_icmp_le (tgt := 35) dX7_sheet_29 (by decide) (fun h29 => ?_) (fun h29 => ?_)
      · refine b_iload_n dX7_sheet_35 rfl ?_
        refine b_if_ge (tgt := 45) dX7_sheet_36 (by decide) (fun h36 => ?_) (fun h36 => ?_)
        · have hsm : isT sort ∧ m ≤ 50 := ⟨h20, h29⟩
          have hm0 : 0 ≤ m := h36
          obtain ⟨mm, hmm, rfl⟩ := nle_of (l := 50) (by decide) (Int32.not_lt.mpr h36) h29
          have hm51 : mm < 51 := by omega
          refine b_aload dX7_sheet_45 rfl ?_
          refine b_iload_n dX7_sheet_47 rfl ?_
          refine b_iload_n dX7_sheet_48 rfl ?_
          refine b_callV2 dX7_sheet_49 lk_X7_190 (shK hk) rfl rfl ⟨Nat.le_of_ble_eq_true rfl, Nat.le_of_ble_eq_true rfl⟩ (Nat.le_of_ble_eq_true rfl) (s_X5_renew hk hm51) (fun r w49 h49 => ?_)
          obtain ⟨rfl, rfl⟩ := h49
          refine b_iconst (v := 1) dX7_sheet_52 (by decide) ?_
          refine b_iret dX7_sheet_53 rfl ⟨?_, n, c, q, ?_⟩
          · simp only [R_sheet, if_pos (sheet_in hk), dn_nI (show k < 2 ^ 31 by omega), if_pos hsm, if_pos hm0] <;> rfl
          · simp only [R_sheet, if_pos (sheet_in hk), dn_nI (show k < 2 ^ 31 by omega), if_pos hsm, if_pos hm0] <;> exact hh0.ren hk h20 hm51
        · refine b_aload_n dX7_sheet_39 rfl ?_
          refine b_iconst (v := 4) dX7_sheet_40 (by decide) ?_
          refine b_callV1 dX7_sheet_41 lk_X7_66 rfl rfl rfl ⟨Nat.le_of_ble_eq_true rfl, Nat.le_of_ble_eq_true rfl⟩ (Nat.le_of_ble_eq_true rfl) (s_X7_faulted) (fun r w41 h41 => ?_)
          obtain ⟨rfl, rfl⟩ := h41
          refine b_iret dX7_sheet_44 rfl ⟨?_, n, c, q, ?_⟩
          · simp only [R_sheet, if_pos (sheet_in hk), dn_nI (show k < 2 ^ 31 by omega), if_pos (show isT sort ∧ m ≤ 50 from ⟨h20, h29⟩), if_neg h36] <;> rfl
          · simp only [R_sheet, if_pos (sheet_in hk), dn_nI (show k < 2 ^ 31 by omega), if_pos (show isT sort ∧ m ≤ 50 from ⟨h20, h29⟩), if_neg h36] <;> (rw [kset_kset]; exact hh.flt)
      · refine b_bipush (v := (-2)) dX7_sheet_32 (by decide) ?_
        refine b_iret dX7_sheet_34 rfl ⟨?_, n, c, q, ?_⟩
        · simp only [R_sheet, if_pos (sheet_in hk), dn_nI (show k < 2 ^ 31 by omega), if_neg (show ¬ (isT sort ∧ m ≤ 50) from fun z => h29 z.2)] <;> rfl
        · simp only [R_sheet, if_pos (sheet_in hk), dn_nI (show k < 2 ^ 31 by omega), if_neg (show ¬ (isT sort ∧ m ≤ 50) from fun z => h29 z.2)] <;> exact hh0
    · refine b_if_eq (tgt := 32) dX7_sheet_23 (by decide) (fun h23 => ?_) (fun h23 => absurd h23 (by decide))
      refine b_bipush (v := (-2)) dX7_sheet_32 (by decide) ?_
      refine b_iret dX7_sheet_34 rfl ⟨?_, n, c, q, ?_⟩
      · simp only [R_sheet, if_pos (sheet_in hk), dn_nI (show k < 2 ^ 31 by omega), if_neg (show ¬ (isT sort ∧ m ≤ 50) from fun z => h20 z.1)] <;> rfl
      · simp only [R_sheet, if_pos (sheet_in hk), dn_nI (show k < 2 ^ 31 by omega), if_neg (show ¬ (isT sort ∧ m ≤ 50) from fun z => h20 z.1)] <;> exact hh0
  · refine b_astoreN dX7_sheet_10 (by decide) ?_
    refine b_aloadN dX7_sheet_12 rfl ?_
    refine b_ifnonnullN dX7_sheet_14 ?_
    refine b_iconst (v := (-1)) dX7_sheet_17 (by decide) ?_
    refine b_iret dX7_sheet_18 rfl ⟨?_, n, c, q, ?_⟩
    · simp only [R_sheet, if_neg hnok] <;> rfl
    · simp only [R_sheet, if_neg hnok] <;> exact hh0
set_option maxRecDepth 100000 in
set_option maxHeartbeats 1000000 in
theorem s_X7_put {w g : kW} {n c q : Nat} (hh : Rel n c q w g) {x i v : Int32} : Spec shC yX7_put cX7_put 5 (some .int) 1 22 [.ref 0, .int x, .int i, .int v] w (fun r w' => RQ (R_put g x i v) r w') := by
  obtain ⟨hM, hRP, hRI, hRA, hRR, hRS, hRN⟩ := id hh
  obtain ⟨hP, hI, hc8, hRd, hu, hS⟩ := id hM
  have hn := hP.le
  have hh0 := hh.flt (x := 0)
  refine k_enter pn_X7 (Nat.le_of_ble_eq_true rfl) ?_
  refine b_aload_n dX7_put_0 rfl ?_
  refine b_iconst (v := 0) dX7_put_1 (by decide) ?_
  refine b_puti dX7_put_2 gf_X7_50 gs_X7_6 rfl rfl ?_
  refine b_wd (w' := kset w 0 6 0) rfl ?_
  refine b_aload_n dX7_put_5 rfl ?_
  refine b_iload_n dX7_put_6 rfl ?_
  refine b_callV1 dX7_put_7 lk_X7_54 rfl rfl rfl ⟨Nat.le_of_ble_eq_true rfl, Nat.le_of_ble_eq_true rfl⟩ (Nat.le_of_ble_eq_true rfl) (s_X7_sheetOf) (fun r w7 h7 => ?_)
  obtain ⟨rfl, h7⟩ := h7
  rcases h7 with ⟨k, hk, rfl, rfl⟩ | ⟨hnok, rfl⟩
  · refine b_astore dX7_put_10 (by decide) ?_
    refine b_aload dX7_put_12 rfl ?_
    refine b_ifnonnull (tgt := 19) dX7_put_14 (by decide) ?_
    obtain ⟨hS1, hS2, hS3⟩ : RS1 k (kset w 0 6 0) g := hh0.2.2.2.2.2.1 k hk
    obtain ⟨l, hl5, hl⟩ := (hS k hk).2
    refine b_aload dX7_put_19 rfl ?_
    refine b_geti dX7_put_21 gf_X7_193 (shK hk) rfl ?_
    refine b_if_ne (tgt := 33) dX7_put_24 (by decide) (fun h24 => ?_) (fun h24 => ?_)
    · obtain ⟨_, hT, hLn⟩ := hS1.resolve_left (fun u => h24 u.1)
      have n9 : ¬ g.1 1 k = -9 := fun z => by rw [z] at hT; exact absurd hT.1 (by decide)
      have eL : (kset w 0 6 0).1 (31 + k) 2 = nI l := hS2.symm.trans hl
      refine b_aload dX7_put_33 rfl ?_
      refine b_iload_n dX7_put_35 rfl ?_
      refine b_iconst (v := 1) dX7_put_36 (by decide) ?_
      refine b_callV2 dX7_put_37 lk_X7_197 (shK hk) rfl rfl ⟨Nat.le_of_ble_eq_true rfl, Nat.le_of_ble_eq_true rfl⟩ (Nat.le_of_ble_eq_true rfl) (s_X5_holds hk) (fun r w37 h37 => ?_)
      obtain ⟨rfl, h37⟩ := h37
      rcases h37 with ⟨rfl, h37⟩ | ⟨rfl, h37⟩
      · refine b_if_ne (tgt := 49) dX7_put_40 (by decide) (fun h40 => ?_) (fun h40 => absurd h40 (by decide))
        have hin : 0 ≤ i ∧ i ≤ g.1 2 k - 1 := by rw [eL] at h37; rw [hl]; exact (hold1 hl5).mp h37
        obtain ⟨ii, hii, rfl⟩ := idx_of hl5 (by rw [hl] at hin; exact hin)
        refine b_aload dX7_put_49 rfl ?_
        refine b_getr dX7_put_51 gf_X7_200 (shK hk) rfl ?_
        refine b_iload_n dX7_put_54 rfl ?_
        refine b_iload_n dX7_put_55 rfl ?_
        refine b_aload dX7_put_56 rfl ?_
        refine b_geti dX7_put_58 gf_X7_203 (shK hk) rfl ?_
        refine b_topi (y := g.1 1 k) hLn.symm ?_
        refine b_callS2 dX7_put_61 lk_X7_206 ⟨Nat.le_of_ble_eq_true rfl, Nat.le_of_ble_eq_true rfl⟩ (Nat.le_of_ble_eq_true rfl) (s_X7_cut hT) (fun r w61 h61 => ?_)
        obtain ⟨rfl, rfl⟩ := h61
        refine b_iastN dX7_put_64 (shR hk) ⟨by omega, by decide⟩ ?_
        refine b_iconst (v := 1) dX7_put_65 (by decide) ?_
        refine b_iret dX7_put_66 rfl ⟨?_, n, c, q, ?_⟩
        · simp only [R_put, if_pos (sheet_in hk), dn_nI (show k < 2 ^ 31 by omega), if_neg n9, if_pos hin, dn_nI (show ii < 2 ^ 31 by omega)] <;> rfl
        · simp only [R_put, if_pos (sheet_in hk), dn_nI (show k < 2 ^ 31 by omega), if_neg n9, if_pos hin, dn_nI (show ii < 2 ^ 31 by omega)] <;> exact hh0.pt hk (by omega)
      · refine b_if_ne (tgt := 49) dX7_put_40 (by decide) (fun h40 => absurd h40 (by decide)) (fun h40 => ?_)
        have hni : ¬ (0 ≤ i ∧ i ≤ g.1 2 k - 1) := fun z => h37 (by rw [eL]; rw [hl] at z; exact (hold1 hl5).mpr z)
        refine b_aload_n dX7_put_43 rfl ?_
        refine b_iconst (v := 3) dX7_put_44 (by decide) ?_
        refine b_callV1 dX7_put_45 lk_X7_66 rfl rfl rfl ⟨Nat.le_of_ble_eq_true rfl, Nat.le_of_ble_eq_true rfl⟩ (Nat.le_of_ble_eq_true rfl) (s_X7_faulted) (fun r w45 h45 => ?_)
        obtain ⟨rfl, rfl⟩ := h45
        refine b_iret dX7_put_48 rfl ⟨?_, n, c, q, ?_⟩
        · simp only [R_put, if_pos (sheet_in hk), dn_nI (show k < 2 ^ 31 by omega), if_neg n9, if_neg hni] <;> rfl
        · simp only [R_put, if_pos (sheet_in hk), dn_nI (show k < 2 ^ 31 by omega), if_neg n9, if_neg hni] <;> (rw [kset_kset]; exact hh.flt)
    · have g9 : g.1 1 k = -9 := (hS1.resolve_right (fun z => absurd (z.1.symm.trans h24) (by decide))).2
      refine b_aload_n dX7_put_27 rfl ?_
      refine b_iconst (v := 1) dX7_put_28 (by decide) ?_
      refine b_callV1 dX7_put_29 lk_X7_66 rfl rfl rfl ⟨Nat.le_of_ble_eq_true rfl, Nat.le_of_ble_eq_true rfl⟩ (Nat.le_of_ble_eq_true rfl) (s_X7_faulted) (fun r w29 h29 => ?_)
      obtain ⟨rfl, rfl⟩ := h29
      refine b_iret dX7_put_32 rfl ⟨?_, n, c, q, ?_⟩
      · simp only [R_put, if_pos (sheet_in hk), dn_nI (show k < 2 ^ 31 by omega), if_pos g9] <;> rfl
      · simp only [R_put, if_pos (sheet_in hk), dn_nI (show k < 2 ^ 31 by omega), if_pos g9] <;> (rw [kset_kset]; exact hh.flt)
  · refine b_astoreN dX7_put_10 (by decide) ?_
    refine b_aloadN dX7_put_12 rfl ?_
    refine b_ifnonnullN dX7_put_14 ?_
    refine b_iconst (v := (-1)) dX7_put_17 (by decide) ?_
    refine b_iret dX7_put_18 rfl ⟨?_, n, c, q, ?_⟩
    · simp only [R_put, if_neg hnok] <;> rfl
    · simp only [R_put, if_neg hnok] <;> exact hh0
end
section
/-! ===== row ===== -/
/-- what a row comes to: the number, and the fault left -/
def RowA (n c : Nat) (w : kW) (k sort i m v f : Int32) : Prop :=
  (¬ isS k ∧ v = -1 ∧ f = 0) ∨ (isS k ∧ ¬ isT sort ∧ v = -2 ∧ f = 0) ∨
  (isS k ∧ isT sort ∧ ¬ mAg w (dn k) sort i m = 0 ∧ v = -10 - mAg w (dn k) sort i m ∧ f = mAg w (dn k) sort i m) ∨
  (isS k ∧ isT sort ∧ mAg w (dn k) sort i m = 0 ∧ w.1 0 5 = 0 ∧ v = -3 ∧ f = 0) ∨
  (isS k ∧ isT sort ∧ mAg w (dn k) sort i m = 0 ∧ ¬ w.1 0 5 = 0 ∧ (∃ s, s < dn m ∧ ¬ isPr w (txt w k i s)) ∧ v = -1 ∧ f = 0) ∨
  (isS k ∧ isT sort ∧ mAg w (dn k) sort i m = 0 ∧ ¬ w.1 0 5 = 0 ∧ (∀ s, s < dn m → isPr w (txt w k i s)) ∧ (∃ t, FstP (frAt n c w (txt w k i)) (dn m) t ∧ v = nI t) ∧ f = 0)
set_option maxRecDepth 100000 in
theorem RowA.inj {n c : Nat} {w : kW} {k sort i m v f v' f' : Int32} (h : RowA n c w k sort i m v f) (h' : RowA n c w k sort i m v' f') : v = v' ∧ f = f' := by
  rcases h with ⟨a1, rfl, rfl⟩ | ⟨a1, a2, rfl, rfl⟩ | ⟨a1, a2, a3, rfl, rfl⟩ | ⟨a1, a2, a3, a4, rfl, rfl⟩ | ⟨a1, a2, a3, a4, ⟨s, s1, s2⟩, rfl, rfl⟩ | ⟨a1, a2, a3, a4, a5, ⟨t, t1, rfl⟩, rfl⟩ <;>
  rcases h' with ⟨b1, rfl, rfl⟩ | ⟨b1, b2, rfl, rfl⟩ | ⟨b1, b2, b3, rfl, rfl⟩ | ⟨b1, b2, b3, b4, rfl, rfl⟩ | ⟨b1, b2, b3, b4, ⟨s', s1', s2'⟩, rfl, rfl⟩ | ⟨b1, b2, b3, b4, b5, ⟨t', t1', rfl⟩, rfl⟩ <;>
  first
  | exact absurd b1 a1
  | exact absurd a1 b1
  | exact absurd b2 a2
  | exact absurd a2 b2
  | exact absurd b3 a3
  | exact absurd a3 b3
  | exact absurd b4 a4
  | exact absurd a4 b4
  | exact absurd (b5 s s1) s2
  | exact absurd (a5 s' s1') s2'
  | exact ⟨by rw [FstP_inj t1 t1'], rfl⟩
  | exact ⟨rfl, rfl⟩
theorem PRow.a {n c : Nat} {w w' : kW} {k sort i m : Int32} {r : Option Value} (h : PRow n c w k sort i m r w') : ∃ v f, RowA n c w k sort i m v f ∧ r = some (.int v) ∧ mKp c (kset w 0 0 f) w' := by
  rcases h with ⟨a1, rfl, rfl⟩ | ⟨a1, a2, rfl, rfl⟩ | ⟨a1, a2, a3, rfl, rfl⟩ | ⟨a1, a2, a3, a4, rfl, rfl⟩ | ⟨a1, a2, a3, a4, a5, rfl, rfl⟩ | ⟨a1, a2, a3, a4, a5, t, t1, rfl, a6⟩
  · exact ⟨_, _, Or.inl ⟨a1, rfl, rfl⟩, rfl, mKp.rf⟩
  · exact ⟨_, _, Or.inr (Or.inl ⟨a1, a2, rfl, rfl⟩), rfl, mKp.rf⟩
  · exact ⟨_, _, Or.inr (Or.inr (Or.inl ⟨a1, a2, a3, rfl, rfl⟩)), rfl, mKp.rf⟩
  · exact ⟨_, _, Or.inr (Or.inr (Or.inr (Or.inl ⟨a1, a2, a3, a4, rfl, rfl⟩))), rfl, mKp.rf⟩
  · exact ⟨_, _, Or.inr (Or.inr (Or.inr (Or.inr (Or.inl ⟨a1, a2, a3, a4, a5, rfl, rfl⟩)))), rfl, mKp.rf⟩
  · exact ⟨_, _, Or.inr (Or.inr (Or.inr (Or.inr (Or.inr ⟨a1, a2, a3, a4, a5, ⟨t, t1, rfl⟩, rfl⟩)))), rfl, a6⟩
def Rel0 (n c q : Nat) (w g : kW) : Prop := MInv n c q g ∧ RP n w g ∧ RI c w g ∧ RA n w g ∧ RR q w g ∧ (∀ k, k < 4 → RS1 k w g)
theorem Rel.r0 {n c q : Nat} {w g : kW} (h : Rel n c q w g) : Rel0 n c q (kset w 0 6 0) g := by
  have h0 := h.flt (x := 0)
  exact ⟨h.1, h.2.1, h.2.2.1, h.2.2.2.1, h.2.2.2.2.1, h0.2.2.2.2.2.1⟩
theorem s_has0 {w g : kW} {n : Nat} (h : RP n w g) {p : Int32} : Spec shC yX2_has cX2_has 2 (some .boolean) 0 0 [.ref 1, .int p] w (fun r w' => w = w' ∧ ((r = some (.int 1) ∧ isPr g p) ∨ (r = some (.int 0) ∧ ¬ isPr g p))) := by
  have := @s_X2_has w p
  rw [h.2.1.trans h.1.1.symm] at this
  exact this
set_option maxRecDepth 100000 in
set_option maxHeartbeats 1000000 in
theorem s_X7_freeInTurn_lp {w g : kW} {n c qq kk ii l m : Nat} (hh : Rel0 n c qq w g) (hkk : kk < 4) (hl : w.1 (31 + kk) 2 = nI l) (hl5 : l ≤ 50) (him : ii + m ≤ l) {f : Nat → Int32} (hf : ∀ s, s < m → g.1 3 (50 * kk + (ii + s)) = f s) (hpr : ∀ s, s < m → isPr g (f s)) : ∀ q k, k + q = m → ∀ v : kW, cK2 w v → RD n c k v (mAhead n c g k) → (∀ s, s < k → frAt n c g f s) → BS shC RX7 cX7_freeInTurn 5 (some .int) 4 105 (fun r w' => (∃ t, FstP (frAt n c g f) m t ∧ r = some (.int (nI t))) ∧ cK2 w w') 18 [(0, .ref 0), (1, .ref (31 + kk)), (2, .int (nI ii)), (3, .int (nI m)), (4, .int (nI k))] [] v := by
  intro q
  obtain ⟨hM, hRP, hRI, hRA, hRR, hRS⟩ := id hh
  obtain ⟨hP, hI, hc8, hRd, hu, hS⟩ := id hM
  have hn := hP.le
  induction q with
  | zero =>
    intro k hk v hv hRD hfr
    refine b_iload dX7_freeInTurn_18 rfl ?_
    refine b_iload_n dX7_freeInTurn_20 rfl ?_
    refine b_icmp_ge (tgt := 65) dX7_freeInTurn_21 (by decide) (fun h21 => ?_) (fun h21 => ?_)
    · refine b_iload_n dX7_freeInTurn_65 rfl ?_
      have e : k = m := by omega
      subst e
      exact b_iret dX7_freeInTurn_66 rfl ⟨⟨k, ⟨Nat.le_refl _, hfr, fun z => absurd z (Nat.lt_irrefl _)⟩, rfl⟩, hv⟩
    · exact absurd (nI_le (by omega) (by omega)) h21
  | succ q ih =>
    intro k hk v hv hRD hfr
    obtain ⟨p, hp, ep⟩ := pers_of hP (hpr k (by omega))
    have hlv := hRD.lv
    refine b_iload dX7_freeInTurn_18 rfl ?_
    refine b_iload_n dX7_freeInTurn_20 rfl ?_
    refine b_icmp_ge (tgt := 65) dX7_freeInTurn_21 (by decide) (fun h21 => ?_) (fun h21 => ?_)
    · exact absurd h21 (nI_ge (by omega) (by omega))
    · refine b_aload_n dX7_freeInTurn_24 rfl ?_
      refine b_getr dX7_freeInTurn_25 gf_X7_39 rfl rfl ?_
      refine b_iload dX7_freeInTurn_28 rfl ?_
      refine b_callV1 dX7_freeInTurn_30 lk_X7_146 rfl rfl rfl ⟨Nat.le_of_ble_eq_true rfl, Nat.le_of_ble_eq_true rfl⟩ (Nat.le_of_ble_eq_true rfl) (s_X4_freeAhead (w := v) (d := nI k) hlv.1.2.1 hn) (fun r w30 h30 => ?_)
      obtain ⟨rfl, fs, rfl, hfs⟩ := h30
      refine b_aload_n dX7_freeInTurn_33 rfl ?_
      refine b_iload_n dX7_freeInTurn_34 rfl ?_
      refine b_iload dX7_freeInTurn_35 rfl ?_
      refine b_iadd dX7_freeInTurn_37 ?_
      refine b_topi (y := nI (ii + k)) (nI_add _ _) ?_
      refine b_callV1 dX7_freeInTurn_38 lk_X7_177 (shK hkk) rfl rfl ⟨Nat.le_of_ble_eq_true rfl, Nat.le_of_ble_eq_true rfl⟩ (Nat.le_of_ble_eq_true rfl) (s_X5_at (l := l) hkk ((congrFun (hv (31 + kk) (by omega)) 2).trans hl) hl5 (by omega)) (fun r w38 h38 => ?_)
      obtain ⟨rfl, rfl⟩ := h38
      refine b_topi (y := nI p) ((((congrFun (hv (35 + kk) (by omega)) (ii + k)).trans ((hRS kk hkk).2.2 (ii + k) (by omega))).trans (hf k (by omega))).trans ep) ?_
      refine b_callS2 dX7_freeInTurn_41 lk_X7_107 ⟨Nat.le_of_ble_eq_true rfl, Nat.le_of_ble_eq_true rfl⟩ (Nat.le_of_ble_eq_true rfl) (s_X7_in (k := p) (by omega)) (fun r w41 h41 => ?_)
      obtain ⟨rfl, h41⟩ := h41
      rcases h41 with ⟨rfl, h41⟩ | ⟨rfl, h41⟩
      · refine b_if_ne (tgt := 50) dX7_freeInTurn_44 (by decide) (fun h44 => ?_) (fun h44 => absurd h44 (by decide))
        refine b_aload_n dX7_freeInTurn_50 rfl ?_
        refine b_getr dX7_freeInTurn_51 gf_X7_39 rfl rfl ?_
        refine b_iload dX7_freeInTurn_54 rfl ?_
        refine b_callV1 dX7_freeInTurn_56 lk_X7_187 rfl rfl rfl ⟨Nat.le_of_ble_eq_true rfl, Nat.le_of_ble_eq_true rfl⟩ (Nat.le_of_ble_eq_true rfl) (s_X4_pass hRD (by omega)) (fun r w56 h56 => ?_)
        obtain ⟨rfl, hRD2, hk2⟩ := h56
        refine b_iinc dX7_freeInTurn_59 rfl (nI_inc k) (by decide) ?_
        refine b_goto (tgt := 18) dX7_freeInTurn_62 (by decide) ?_
        refine b_sub [1, 2, 3, 4, 0] rfl ?_
        refine ih (k + 1) (by omega) _ (hv.tr hk2) hRD2 (fun s hs => ?_)
        by_cases e : s = k
        · subst e; unfold frAt; rw [ep, dn_nI (by omega)]; exact ((hlv.free hfs (by omega)).mp h41).2
        · exact hfr s (by omega)
      · refine b_if_ne (tgt := 50) dX7_freeInTurn_44 (by decide) (fun h44 => absurd h44 (by decide)) (fun h44 => ?_)
        refine b_iload dX7_freeInTurn_47 rfl ?_
        exact b_iret dX7_freeInTurn_49 rfl ⟨⟨k, ⟨by omega, hfr, fun _ z => h41 ((hlv.free hfs (by omega)).mpr ⟨hp, by unfold frAt at z; rw [ep, dn_nI (by omega)] at z; exact z⟩)⟩, rfl⟩, hv⟩
set_option maxRecDepth 100000 in
set_option maxHeartbeats 1000000 in
theorem s_X7_freeInTurn {w g : kW} {n c qq kk ii l m : Nat} (hh : Rel0 n c qq w g) (hkk : kk < 4) (hl : w.1 (31 + kk) 2 = nI l) (hl5 : l ≤ 50) (him : ii + m ≤ l) {f : Nat → Int32} (hf : ∀ s, s < m → g.1 3 (50 * kk + (ii + s)) = f s) (hpr : ∀ s, s < m → isPr g (f s)) : Spec shC yX7_freeInTurn cX7_freeInTurn 5 (some .int) 4 105 [.ref 0, .ref (31 + kk), .int (nI ii), .int (nI m)] w (fun r w' => (∃ t, FstP (frAt n c g f) m t ∧ r = some (.int (nI t))) ∧ cK2 w w') := by
  obtain ⟨hM, hRP, hRI, hRA, hRR, hRS⟩ := id hh
  obtain ⟨hP, hI, hc8, hRd, hu, hS⟩ := id hM
  have hn := hP.le
  refine k_enter pn_X7 (Nat.le_of_ble_eq_true rfl) ?_
  refine b_aload_n dX7_freeInTurn_0 rfl ?_
  refine b_getr dX7_freeInTurn_1 gf_X7_39 rfl rfl ?_
  refine b_iconst (v := (-1)) dX7_freeInTurn_4 (by decide) ?_
  refine b_aload_n dX7_freeInTurn_5 rfl ?_
  refine b_getr dX7_freeInTurn_6 gf_X7_14 rfl rfl ?_
  refine b_geti dX7_freeInTurn_9 gf_X7_104 rfl rfl ?_
  refine b_callV2 dX7_freeInTurn_12 lk_X7_183 rfl rfl rfl ⟨Nat.le_of_ble_eq_true rfl, Nat.le_of_ble_eq_true rfl⟩ (Nat.le_of_ble_eq_true rfl) (s_X4_begin (c := c) hRI.1 (by omega) (fun k hk => by obtain ⟨a, b, d, e, z1, z2, z3, z4, z5, z6, z7, z8, z9, z10⟩ := hI.2.2 k hk; exact ⟨d, z4, (hRI.2 k hk).2.2.1.trans z9⟩)) (fun r w12 h12 => ?_)
  obtain ⟨rfl, DB, hDB, rfl⟩ := h12
  refine b_iconst (v := 0) dX7_freeInTurn_15 (by decide) ?_
  refine b_istore dX7_freeInTurn_16 (by decide) ?_
  refine b_sub [1, 2, 3, 4, 0] rfl ?_
  refine s_X7_freeInTurn_lp hh hkk hl hl5 him hf hpr m 0 (by omega) _ (begW_k2 _ _ _ _) (beg_rel hRP hI hRI (fun k hk => ?_) hRA hDB) (fun s hs => absurd hs (Nat.not_lt_zero _))
  rw [b_m1 k (by omega), hu, b_0]; simp
set_option maxRecDepth 100000 in
set_option maxHeartbeats 1000000 in
theorem s_X7_row_lp {w g : kW} {n c qq kk ii l m : Nat} (hh : Rel0 n c qq w g) (hkk : kk < 4) (hl : w.1 (31 + kk) 2 = nI l) (hl5 : l ≤ 50) (him : ii + m ≤ l) {f : Nat → Int32} (hf : ∀ s, s < m → g.1 3 (50 * kk + (ii + s)) = f s) : ∀ q k, k + q = m → (∀ s, s < k → isPr g (f s)) → BS shC RX7 cX7_row 8 (some .int) 5 129 (fun r w' => ((∃ s, s < m ∧ ¬ isPr g (f s)) ∧ r = some (.int (-1)) ∧ cK2 w w') ∨ ((∀ s, s < m → isPr g (f s)) ∧ (∃ t, FstP (frAt n c g f) m t ∧ r = some (.int (nI t))) ∧ cK2 w w')) 65 [(0, .ref 0), (3, .int (nI ii)), (4, .int (nI m)), (5, .ref (31 + kk)), (7, .int (nI k))] [] w := by
  intro q
  obtain ⟨hM, hRP, hRI, hRA, hRR, hRS⟩ := id hh
  obtain ⟨hP, hI, hc8, hRd, hu, hS⟩ := id hM
  have hn := hP.le
  induction q with
  | zero =>
    intro k hk hpr
    refine b_iload dX7_row_65 rfl ?_
    refine b_iload dX7_row_67 rfl ?_
    refine b_icmp_ge (tgt := 99) dX7_row_69 (by decide) (fun h69 => ?_) (fun h69 => ?_)
    · have e : k = m := by omega
      subst e
      refine b_aload_n dX7_row_99 rfl ?_
      refine b_aload dX7_row_100 rfl ?_
      refine b_iload_n dX7_row_102 rfl ?_
      refine b_iload dX7_row_103 rfl ?_
      refine b_callV3 dX7_row_105 lk_X7_180 rfl rfl rfl ⟨Nat.le_of_ble_eq_true rfl, Nat.le_of_ble_eq_true rfl⟩ (Nat.le_of_ble_eq_true rfl) (s_X7_freeInTurn hh hkk hl hl5 him hf hpr) (fun r w105 h105 => ?_)
      obtain ⟨⟨t, ht, rfl⟩, hk⟩ := h105
      exact b_iret dX7_row_108 rfl (Or.inr ⟨hpr, ⟨t, ht, rfl⟩, hk⟩)
    · exact absurd (nI_le (by omega) (by omega)) h69
  | succ q ih =>
    intro k hk hpr
    refine b_iload dX7_row_65 rfl ?_
    refine b_iload dX7_row_67 rfl ?_
    refine b_icmp_ge (tgt := 99) dX7_row_69 (by decide) (fun h69 => ?_) (fun h69 => ?_)
    · exact absurd h69 (nI_ge (by omega) (by omega))
    · refine b_aload_n dX7_row_72 rfl ?_
      refine b_getr dX7_row_73 gf_X7_14 rfl rfl ?_
      refine b_aload dX7_row_76 rfl ?_
      refine b_iload_n dX7_row_78 rfl ?_
      refine b_iload dX7_row_79 rfl ?_
      refine b_iadd dX7_row_81 ?_
      refine b_topi (y := nI (ii + k)) (nI_add _ _) ?_
      refine b_callV1 dX7_row_82 lk_X7_177 (shK hkk) rfl rfl ⟨Nat.le_of_ble_eq_true rfl, Nat.le_of_ble_eq_true rfl⟩ (Nat.le_of_ble_eq_true rfl) (s_X5_at (l := l) hkk hl hl5 (by omega)) (fun r w82 h82 => ?_)
      obtain ⟨rfl, rfl⟩ := h82
      refine b_topi (y := f k) (((hRS kk hkk).2.2 (ii + k) (by omega)).trans (hf k (by omega))) ?_
      refine b_callV1 dX7_row_85 lk_X7_85 rfl rfl rfl ⟨Nat.le_of_ble_eq_true rfl, Nat.le_of_ble_eq_true rfl⟩ (Nat.le_of_ble_eq_true rfl) (s_has0 hRP) (fun r w85 h85 => ?_)
      obtain ⟨rfl, h85⟩ := h85
      rcases h85 with ⟨rfl, h85⟩ | ⟨rfl, h85⟩
      · refine b_if_ne (tgt := 93) dX7_row_88 (by decide) (fun h88 => ?_) (fun h88 => absurd h88 (by decide))
        refine b_iinc dX7_row_93 rfl (nI_inc k) (by decide) ?_
        refine b_goto (tgt := 65) dX7_row_96 (by decide) ?_
        refine b_sub [1, 2, 3, 4, 0] rfl ?_
        refine ih (k + 1) (by omega) (fun s hs => ?_)
        by_cases e : s = k
        · subst e; exact h85
        · exact hpr s (by omega)
      · refine b_if_ne (tgt := 93) dX7_row_88 (by decide) (fun h88 => absurd h88 (by decide)) (fun h88 => ?_)
        refine b_iconst (v := (-1)) dX7_row_91 (by decide) ?_
        exact b_iret dX7_row_92 rfl (Or.inl ⟨⟨k, by omega, h85⟩, rfl, fun _ _ => rfl⟩)
set_option maxRecDepth 100000 in
set_option maxHeartbeats 1000000 in
theorem s_X7_row {w g : kW} {n c qq : Nat} (hh : Rel n c qq w g) {x sort i m0 : Int32} : Spec shC yX7_row cX7_row 8 (some .int) 5 129 [.ref 0, .int x, .int sort, .int i, .int m0] w (fun r w' => ∃ v f, RowA n c g x sort i m0 v f ∧ r = some (.int v) ∧ cK2 (kset w 0 6 f) w') := by
  obtain ⟨hM, hRP, hRI, hRA, hRR, hRS, hRN⟩ := id hh
  obtain ⟨hP, hI, hc8, hRd, hu, hS⟩ := id hM
  have hn := hP.le
  have hh0 := hh.flt (x := 0)
  refine k_enter pn_X7 (Nat.le_of_ble_eq_true rfl) ?_
  refine b_aload_n dX7_row_0 rfl ?_
  refine b_iconst (v := 0) dX7_row_1 (by decide) ?_
  refine b_puti dX7_row_2 gf_X7_50 gs_X7_6 rfl rfl ?_
  refine b_wd (w' := kset w 0 6 0) rfl ?_
  refine b_aload_n dX7_row_5 rfl ?_
  refine b_iload_n dX7_row_6 rfl ?_
  refine b_callV1 dX7_row_7 lk_X7_54 rfl rfl rfl ⟨Nat.le_of_ble_eq_true rfl, Nat.le_of_ble_eq_true rfl⟩ (Nat.le_of_ble_eq_true rfl) (s_X7_sheetOf) (fun r w7 h7 => ?_)
  obtain ⟨rfl, h7⟩ := h7
  rcases h7 with ⟨k, hk, rfl, rfl⟩ | ⟨hnok, rfl⟩
  · refine b_astore dX7_row_10 (by decide) ?_
    refine b_aload dX7_row_12 rfl ?_
    refine b_ifnonnull (tgt := 19) dX7_row_14 (by decide) ?_
    refine b_iload_n dX7_row_19 rfl ?_
    refine b_callS1 dX7_row_20 lk_X7_58 ⟨Nat.le_of_ble_eq_true rfl, Nat.le_of_ble_eq_true rfl⟩ (Nat.le_of_ble_eq_true rfl) (s_X7_isLane) (fun r w20 h20 => ?_)
    obtain ⟨rfl, h20⟩ := h20
    rcases h20 with ⟨rfl, h20⟩ | ⟨rfl, h20⟩
    · refine b_if_ne (tgt := 29) dX7_row_23 (by decide) (fun h23 => ?_) (fun h23 => absurd h23 (by decide))
      refine b_aload dX7_row_29 rfl ?_
      refine b_iload_n dX7_row_31 rfl ?_
      refine b_iload_n dX7_row_32 rfl ?_
      refine b_iload dX7_row_33 rfl ?_
      refine b_callV3 dX7_row_35 lk_X7_62 (shK hk) rfl rfl ⟨Nat.le_of_ble_eq_true rfl, Nat.le_of_ble_eq_true rfl⟩ (Nat.le_of_ble_eq_true rfl) (s_X5_faultOfTaking hk (hh0.2.2.2.2.2.1 k hk)) (fun r w35 h35 => ?_)
      obtain ⟨rfl, rfl⟩ := h35
      refine b_topi (y := mAg g k sort i m0) rfl ?_
      refine b_istore dX7_row_38 (by decide) ?_
      refine b_iload dX7_row_40 rfl ?_
      refine b_if_eq (tgt := 52) dX7_row_42 (by decide) (fun h42 => ?_) (fun h42 => ?_)
      · obtain ⟨l, hl5, hl⟩ := (hS k hk).2
        have hag : mAg g k sort i m0 = 0 := h42
        obtain ⟨ii, m, rfl, rfl, him, hso2⟩ := mAg_0 hag hl hl5
        have eL : (kset w 0 6 0).1 (31 + k) 2 = nI l := by rw [kset_row _ _ _ _ (by omega), ← (hRS k hk).2.1]; exact hl
        have etxt : txt g (nI k) (nI ii) = (fun x => g.1 3 (50 * k + ii + x)) := by
          unfold txt
          rw [dn_nI (by omega), dn_nI (by omega)]
        refine b_aload_n dX7_row_52 rfl ?_
        refine b_callV0 dX7_row_53 lk_X7_127 rfl rfl rfl ⟨Nat.le_of_ble_eq_true rfl, Nat.le_of_ble_eq_true rfl⟩ (Nat.le_of_ble_eq_true rfl) (s_empty hh0) (fun r w53 h53 => ?_)
        obtain ⟨rfl, h53⟩ := h53
        rcases h53 with ⟨rfl, h53⟩ | ⟨rfl, h53⟩
        · refine b_if_eq (tgt := 62) dX7_row_56 (by decide) (fun h56 => absurd h56 (by decide)) (fun h56 => ?_)
          refine b_bipush (v := (-3)) dX7_row_59 (by decide) ?_
          exact b_iret dX7_row_61 rfl ⟨_, _, Or.inr (Or.inr (Or.inr (Or.inl ⟨sheet_in hk, h20, by rw [dn_nI (show k < 2 ^ 31 by omega)]; exact h42, h53, rfl, rfl⟩))), rfl, fun _ _ => rfl⟩
        · refine b_if_eq (tgt := 62) dX7_row_56 (by decide) (fun h56 => ?_) (fun h56 => absurd h56 (by decide))
          refine b_iconst (v := 0) dX7_row_62 (by decide) ?_
          refine b_istore dX7_row_63 (by decide) ?_
          refine b_sub [3, 6, 7, 2, 0] rfl ?_
          refine (s_X7_row_lp hh.r0 (kk := k) (ii := ii) (m := m) (f := fun x => g.1 3 (50 * k + ii + x)) hk eL hl5 him (fun s hs => by rw [← Nat.add_assoc]) m 0 (by omega) (fun s hs => absurd hs (Nat.not_lt_zero _))).mono (fun r w1 h => ?_)
          rcases h with ⟨⟨s, s1, s2⟩, rfl, h3⟩ | ⟨h1, ⟨t, ht, rfl⟩, h3⟩
          · exact ⟨_, _, Or.inr (Or.inr (Or.inr (Or.inr (Or.inl ⟨sheet_in hk, h20, by rw [dn_nI (show k < 2 ^ 31 by omega)]; exact hag, h53, ⟨s, by rw [dn_nI (by omega)]; exact s1, by rw [etxt]; exact s2⟩, rfl, rfl⟩)))), rfl, h3⟩
          · exact ⟨_, _, Or.inr (Or.inr (Or.inr (Or.inr (Or.inr ⟨sheet_in hk, h20, by rw [dn_nI (show k < 2 ^ 31 by omega)]; exact hag, h53, by rw [etxt, dn_nI (by omega)]; exact h1, ⟨t, by rw [etxt, dn_nI (by omega)]; exact ht, rfl⟩, rfl⟩)))), rfl, h3⟩
      · refine b_aload_n dX7_row_45 rfl ?_
        refine b_iload dX7_row_46 rfl ?_
        refine b_callV1 dX7_row_48 lk_X7_66 rfl rfl rfl ⟨Nat.le_of_ble_eq_true rfl, Nat.le_of_ble_eq_true rfl⟩ (Nat.le_of_ble_eq_true rfl) (s_X7_faulted) (fun r w48 h48 => ?_)
        obtain ⟨rfl, rfl⟩ := h48
        refine b_iret dX7_row_51 rfl ⟨_, _, Or.inr (Or.inr (Or.inl ⟨sheet_in hk, h20, ?_, rfl, rfl⟩)), ?_, ?_⟩
        · rw [dn_nI (show k < 2 ^ 31 by omega)]; exact h42
        · rw [dn_nI (show k < 2 ^ 31 by omega)]
        · rw [dn_nI (show k < 2 ^ 31 by omega), kset_kset]; exact fun _ _ => rfl
    · refine b_if_ne (tgt := 29) dX7_row_23 (by decide) (fun h23 => absurd h23 (by decide)) (fun h23 => ?_)
      refine b_bipush (v := (-2)) dX7_row_26 (by decide) ?_
      exact b_iret dX7_row_28 rfl ⟨_, _, Or.inr (Or.inl ⟨sheet_in hk, h20, rfl, rfl⟩), rfl, fun _ _ => rfl⟩
  · refine b_astoreN dX7_row_10 (by decide) ?_
    refine b_aloadN dX7_row_12 rfl ?_
    refine b_ifnonnullN dX7_row_14 ?_
    refine b_iconst (v := (-1)) dX7_row_17 (by decide) ?_
    exact b_iret dX7_row_18 rfl ⟨_, _, Or.inl ⟨hnok, rfl, rfl⟩, rfl, fun _ _ => rfl⟩
end
section
/-! ===== the text of a coast ===== -/
def kofI (x : Int32) : Int32 := if x = 103 then 0 else if x = 104 then 1 else if x = 111 then 2 else -9
theorem div5 : ∀ a, a < 60 → nI a / 5 = nI (a / 5) ∧ nI a - nI a / 5 * 5 = nI (a % 5) := by decide +kernel
theorem gzr0 {f : Nat → Int32} {nn pl : Nat} (h : (pl - 2) % 5 = 0) (hp : (pl - 2) / 5 < nn) : gz f nn pl ↔ f pl = 59 := by
  constructor
  · rintro ⟨_, ⟨_, z⟩ | ⟨y, _⟩ | ⟨y, _⟩ | ⟨y, _⟩⟩
    · exact z
    all_goals omega
  · exact fun z => ⟨hp, Or.inl ⟨h, z⟩⟩
theorem gzr1 {f : Nat → Int32} {nn pl : Nat} (h : (pl - 2) % 5 = 1) (hp : (pl - 2) / 5 < nn) : gz f nn pl ↔ (f pl = 103 ∨ f pl = 104 ∨ f pl = 111) := by
  constructor
  · rintro ⟨_, ⟨y, _⟩ | ⟨_, z⟩ | ⟨y, _⟩ | ⟨y, _⟩⟩
    · omega
    · exact z
    all_goals omega
  · exact fun z => ⟨hp, Or.inr (Or.inl ⟨h, z⟩)⟩
theorem gzr2 {f : Nat → Int32} {nn pl : Nat} (h : (pl - 2) % 5 = 2) (hp : (pl - 2) / 5 < nn) : gz f nn pl ↔ ∃ d, 1 ≤ d ∧ d ≤ 9 ∧ f pl = nI (48 + d) := by
  constructor
  · rintro ⟨_, ⟨y, _⟩ | ⟨y, _⟩ | ⟨_, z⟩ | ⟨y, _⟩⟩
    · omega
    · omega
    · exact z
    · omega
  · exact fun z => ⟨hp, Or.inr (Or.inr (Or.inl ⟨h, z⟩))⟩
theorem gzr3 {f : Nat → Int32} {nn pl : Nat} (h : 3 ≤ (pl - 2) % 5) (hp : (pl - 2) / 5 < nn) : gz f nn pl ↔ ∃ d, d < nn ∧ d ≠ (pl - 2) / 5 ∧ f pl = nI (48 + d) := by
  constructor
  · rintro ⟨_, ⟨y, _⟩ | ⟨y, _⟩ | ⟨y, _⟩ | ⟨_, z⟩⟩
    · omega
    · omega
    · omega
    · exact z
  · exact fun z => ⟨hp, Or.inr (Or.inr (Or.inr ⟨h, z⟩))⟩
theorem kofI_ne {x : Int32} : ¬ kofI x = -9 ↔ (x = 103 ∨ x = 104 ∨ x = 111) := by
  unfold kofI
  by_cases h1 : x = 103
  · rw [if_pos h1]; exact ⟨fun _ => Or.inl h1, fun _ => by decide⟩
  · rw [if_neg h1]
    by_cases h2 : x = 104
    · rw [if_pos h2]; exact ⟨fun _ => Or.inr (Or.inl h2), fun _ => by decide⟩
    · rw [if_neg h2]
      by_cases h3 : x = 111
      · rw [if_pos h3]; exact ⟨fun _ => Or.inr (Or.inr h3), fun _ => by decide⟩
      · rw [if_neg h3]; exact ⟨fun z => absurd rfl z, fun z => z.elim (fun y => absurd y h1) (fun y => y.elim (fun y => absurd y h2) (fun y => absurd y h3))⟩
theorem kofI_k {x : Int32} {k : Nat} (h : kcode x k) : kofI x = nI k := by
  rcases h with ⟨rfl, rfl⟩ | ⟨rfl, rfl⟩ | ⟨rfl, rfl⟩ <;> rfl
theorem dig_ge {x : Int32} {lo : Nat} (hl : lo ≤ 100) (h : x = nI (48 + lo)) : x - 48 = nI lo := by
  rw [h, show nI (48 + lo) - 48 = nI (48 + lo - 48) from nI_sub (b := 48) (by omega)]
  congr 1; omega
theorem dig3 {x : Int32} {nn : Nat} (hn : nn ≤ 6) (h1 : ¬ x < 48) (h2 : x - 48 < nI nn) : ∃ d, d < nn ∧ x = nI (48 + d) := by
  have h0 : ¬ x < 0 := fun z => h1 (Int32.lt_trans z (by decide))
  have hx : x ≤ 2147483647 := by
    rw [Int32.le_iff_toInt_le]
    have := Int32.toInt_lt x
    have e : (2147483647 : Int32).toInt = 2147483647 := by decide
    omega
  obtain ⟨j, hj, rfl⟩ := nI_of2 (n := 2147483647) (M := 2147483647) (by decide) h0 hx
  have h48 : 48 ≤ j := Nat.not_lt.mp (fun z => h1 (nI_lt (b := 48) z (by decide)))
  rw [show nI j - 48 = nI (j - 48) from nI_sub (b := 48) h48] at h2
  have : j - 48 < nn := Nat.not_le.mp (fun z => absurd (nI_le z (by omega)) (Int32.not_le.mpr h2))
  exact ⟨j - 48, this, by congr 1; omega⟩
set_option maxRecDepth 100000 in
set_option maxHeartbeats 1000000 in
theorem s_X6_digit {w : kW} {x : Int32} : Spec shC yX6_digit cX6_digit 1 (some .int) 0 0 [.int x] w (fun r w' => r = some (.int (x - 48)) ∧ w = w') := by
  refine k_enter pn_X6 (Nat.le_of_ble_eq_true rfl) ?_
  refine b_iload_n dX6_digit_0 rfl ?_
  refine b_bipush (v := 48) dX6_digit_1 (by decide) ?_
  refine b_isub dX6_digit_3 ?_
  refine b_iret dX6_digit_4 rfl ⟨?_, ?_⟩
  · rfl
  · rfl
set_option maxRecDepth 100000 in
set_option maxHeartbeats 1000000 in
theorem s_X6_kindOf {w : kW} {x : Int32} : Spec shC yX6_kindOf cX6_kindOf 1 (some .int) 0 0 [.int x] w (fun r w' => r = some (.int (kofI x)) ∧ w = w') := by
  refine k_enter pn_X6 (Nat.le_of_ble_eq_true rfl) ?_
  refine b_iload_n dX6_kindOf_0 rfl ?_
  by_cases e1 : x = 103
  · subst e1
    refine b_lsw (off := 35) (tgt := 36) dX6_kindOf_1 (by decide) (by decide) (by decide) ?_
    refine b_iconst (v := 0) dX6_kindOf_36 (by decide) ?_
    exact b_iret dX6_kindOf_37 rfl ⟨rfl, rfl⟩
  · by_cases e2 : x = 104
    · subst e2
      refine b_lsw (off := 37) (tgt := 38) dX6_kindOf_1 (by decide) (by decide) (by decide) ?_
      refine b_iconst (v := 1) dX6_kindOf_38 (by decide) ?_
      exact b_iret dX6_kindOf_39 rfl ⟨rfl, rfl⟩
    · by_cases e3 : x = 111
      · subst e3
        refine b_lsw (off := 39) (tgt := 40) dX6_kindOf_1 (by decide) (by decide) (by decide) ?_
        refine b_iconst (v := 2) dX6_kindOf_40 (by decide) ?_
        exact b_iret dX6_kindOf_41 rfl ⟨rfl, rfl⟩
      · have n1 : ¬ (103 : Int) = x.toInt := fun z => e1 (Int32.toInt_inj.mp z.symm)
        have n2 : ¬ (104 : Int) = x.toInt := fun z => e2 (Int32.toInt_inj.mp z.symm)
        have n3 : ¬ (111 : Int) = x.toInt := fun z => e3 (Int32.toInt_inj.mp z.symm)
        refine b_lsw (off := 41) (tgt := 42) dX6_kindOf_1 (by decide) (show (if (103 : Int) = x.toInt then (35 : Int) else if (104 : Int) = x.toInt then 37 else if (111 : Int) = x.toInt then 39 else 41) = 41 by rw [if_neg n1, if_neg n2, if_neg n3]) (by decide) ?_
        refine b_bipush (v := (-9)) dX6_kindOf_42 (by decide) ?_
        exact b_iret dX6_kindOf_44 rfl ⟨by unfold kofI; rw [if_neg e1, if_neg e2, if_neg e3], rfl⟩
set_option maxRecDepth 100000 in
set_option maxHeartbeats 1000000 in
theorem s_X6_goesOn {w : kW} {kk ii l n pl : Nat} (hkk : kk < 4) (hl : w.1 (31 + kk) 2 = nI l) (hl5 : l ≤ 50) (hin : ii + n ≤ l) {f : Nat → Int32} (hf : ∀ s, s < n → w.1 (35 + kk) (ii + s) = f s) (hpl : pl < n) (hcn : 2 ≤ pl → ∃ nn, cnt f nn) : Spec shC yX6_goesOn cX6_goesOn 6 (some .boolean) 1 21 [.ref (31 + kk), .int (nI ii), .int (nI pl)] w (fun r w' => w = w' ∧ ((r = some (.int 1) ∧ (goes f pl)) ∨ (r = some (.int 0) ∧ ¬ (goes f pl)))) := by
  refine k_enter pn_X6 (Nat.le_of_ble_eq_true rfl) ?_
  refine b_aload_n dX6_goesOn_0 rfl ?_
  refine b_iload_n dX6_goesOn_1 rfl ?_
  refine b_iload_n dX6_goesOn_2 rfl ?_
  refine b_iadd dX6_goesOn_3 ?_
  refine b_topi (y := nI (ii + pl)) (nI_add _ _) ?_
  refine b_callV1 dX6_goesOn_4 lk_X6_15 (shK hkk) rfl rfl ⟨Nat.le_of_ble_eq_true rfl, Nat.le_of_ble_eq_true rfl⟩ (Nat.le_of_ble_eq_true rfl) (s_X5_at (l := l) hkk hl hl5 (by omega)) (fun r w4 h4 => ?_)
  obtain ⟨rfl, rfl⟩ := h4
  refine b_topi (y := f pl) (hf pl hpl) ?_
  refine b_istore_n dX6_goesOn_7 (by decide) ?_
  refine b_iload_n dX6_goesOn_8 rfl ?_
  refine b_if_ne (tgt := 24) dX6_goesOn_9 (by decide) (fun h9 => ?_) (fun h9 => ?_)
  · refine b_iload_n dX6_goesOn_24 rfl ?_
    refine b_iconst (v := 1) dX6_goesOn_25 (by decide) ?_
    refine b_icmp_ne (tgt := 47) dX6_goesOn_26 (by decide) (fun h26 => ?_) (fun h26 => ?_)
    · have h2 : 2 ≤ pl := by
        rcases (show pl = 0 ∨ pl = 1 ∨ 2 ≤ pl by omega) with z | z | z
        · exact absurd (by rw [z]; rfl) h9
        · exact absurd (by rw [z]; rfl) h26
        · exact z
      obtain ⟨nn, hcn⟩ := hcn h2
      refine b_aload_n dX6_goesOn_47 rfl ?_
      refine b_iload_n dX6_goesOn_48 rfl ?_
      refine b_iconst (v := 1) dX6_goesOn_49 (by decide) ?_
      refine b_iadd dX6_goesOn_50 ?_
      refine b_topi (y := nI (ii + 1)) (nI_add _ 1) ?_
      refine b_callV1 dX6_goesOn_51 lk_X6_15 (shK hkk) rfl rfl ⟨Nat.le_of_ble_eq_true rfl, Nat.le_of_ble_eq_true rfl⟩ (Nat.le_of_ble_eq_true rfl) (s_X5_at (l := l) hkk hl hl5 (by omega)) (fun r w51 h51 => ?_)
      obtain ⟨rfl, rfl⟩ := h51
      refine b_callS1 dX6_goesOn_54 lk_X6_21 ⟨Nat.le_of_ble_eq_true rfl, Nat.le_of_ble_eq_true rfl⟩ (Nat.le_of_ble_eq_true rfl) (s_X6_digit) (fun r w54 h54 => ?_)
      obtain ⟨rfl, rfl⟩ := h54
      refine b_topi (y := nI nn) (by rw [hf 1 (by omega)]; exact dig_ge (by have := hcn.2.1; omega) hcn.2.2) ?_
      refine b_istore dX6_goesOn_57 (by decide) ?_
      refine b_iload_n dX6_goesOn_59 rfl ?_
      refine b_iconst (v := 2) dX6_goesOn_60 (by decide) ?_
      refine b_isub dX6_goesOn_61 ?_
      refine b_topi (y := nI (pl - 2)) (nI_sub (b := 2) h2) ?_
      refine b_iconst (v := 5) dX6_goesOn_62 (by decide) ?_
      refine b_idiv dX6_goesOn_63 (by decide) ?_
      refine b_topi (y := nI ((pl - 2) / 5)) (div5 _ (by omega)).1 ?_
      refine b_istore dX6_goesOn_64 (by decide) ?_
      refine b_iload dX6_goesOn_66 rfl ?_
      refine b_iload dX6_goesOn_68 rfl ?_
      refine b_icmp_lt (tgt := 75) dX6_goesOn_70 (by decide) (fun h70 => ?_) (fun h70 => ?_)
      · have hpn : (pl - 2) / 5 < nn := Nat.not_le.mp (fun z => absurd h70 (Int32.not_lt.mpr (nI_le z (by omega))))
        refine b_iload_n dX6_goesOn_75 rfl ?_
        refine b_iconst (v := 2) dX6_goesOn_76 (by decide) ?_
        refine b_isub dX6_goesOn_77 ?_
        refine b_topi (y := nI (pl - 2)) (nI_sub (b := 2) h2) ?_
        refine b_iconst (v := 5) dX6_goesOn_78 (by decide) ?_
        refine b_irem dX6_goesOn_79 (by decide) ?_
        refine b_topi (y := nI ((pl - 2) % 5)) (div5 _ (by omega)).2 ?_
        rcases (show (pl - 2) % 5 = 0 ∨ (pl - 2) % 5 = 1 ∨ (pl - 2) % 5 = 2 ∨ (pl - 2) % 5 = 3 ∨ (pl - 2) % 5 = 4 by omega) with hr | hr | hr | hr | hr
        · rw [hr]
          refine b_tsIn (off := 28) (tgt := 108) dX6_goesOn_80 (by decide) (by decide) (by decide) (by decide) ?_
          refine b_iload_n dX6_goesOn_108 rfl ?_
          refine b_bipush (v := 59) dX6_goesOn_109 (by decide) ?_
          refine b_icmp_ne (tgt := 118) dX6_goesOn_111 (by decide) (fun h111 => ?_) (fun h111 => ?_)
          · refine b_iconst (v := 0) dX6_goesOn_118 (by decide) ?_
            refine b_zret (Or.inl rfl) dX6_goesOn_119 rfl ⟨rfl, Or.inr ⟨rfl, ?_⟩⟩
            rw [goes_2 hcn (by omega)]
            rw [gzr0 hr hpn]
            exact h111
          · refine b_iconst (v := 1) dX6_goesOn_114 (by decide) ?_
            refine b_goto (tgt := 119) dX6_goesOn_115 (by decide) ?_
            refine b_zret (Or.inr rfl) dX6_goesOn_119 rfl ⟨rfl, Or.inl ⟨rfl, ?_⟩⟩
            rw [goes_2 hcn (by omega)]
            rw [gzr0 hr hpn]
            exact h111
        · rw [hr]
          refine b_tsIn (off := 40) (tgt := 120) dX6_goesOn_80 (by decide) (by decide) (by decide) (by decide) ?_
          refine b_iload_n dX6_goesOn_120 rfl ?_
          refine b_callS1 dX6_goesOn_121 lk_X6_24 ⟨Nat.le_of_ble_eq_true rfl, Nat.le_of_ble_eq_true rfl⟩ (Nat.le_of_ble_eq_true rfl) (s_X6_kindOf) (fun r w121 h121 => ?_)
          obtain ⟨rfl, rfl⟩ := h121
          refine b_bipush (v := (-9)) dX6_goesOn_124 (by decide) ?_
          refine b_icmp_eq (tgt := 133) dX6_goesOn_126 (by decide) (fun h126 => ?_) (fun h126 => ?_)
          · refine b_iconst (v := 0) dX6_goesOn_133 (by decide) ?_
            refine b_zret (Or.inl rfl) dX6_goesOn_134 rfl ⟨rfl, Or.inr ⟨rfl, ?_⟩⟩
            rw [goes_2 hcn (by omega)]
            rw [gzr1 hr hpn]
            exact fun z => absurd h126 (kofI_ne.mpr z)
          · refine b_iconst (v := 1) dX6_goesOn_129 (by decide) ?_
            refine b_goto (tgt := 134) dX6_goesOn_130 (by decide) ?_
            refine b_zret (Or.inr rfl) dX6_goesOn_134 rfl ⟨rfl, Or.inl ⟨rfl, ?_⟩⟩
            rw [goes_2 hcn (by omega)]
            rw [gzr1 hr hpn]
            exact kofI_ne.mp h126
        · rw [hr]
          refine b_tsIn (off := 55) (tgt := 135) dX6_goesOn_80 (by decide) (by decide) (by decide) (by decide) ?_
          refine b_iload_n dX6_goesOn_135 rfl ?_
          refine b_bipush (v := 49) dX6_goesOn_136 (by decide) ?_
          refine b_icmp_lt (tgt := 151) dX6_goesOn_138 (by decide) (fun h138 => ?_) (fun h138 => ?_)
          · refine b_iconst (v := 0) dX6_goesOn_151 (by decide) ?_
            refine b_zret (Or.inl rfl) dX6_goesOn_152 rfl ⟨rfl, Or.inr ⟨rfl, ?_⟩⟩
            rw [goes_2 hcn (by omega)]
            rw [gzr2 hr hpn]
            rintro ⟨d, d1, d2, d3⟩
            rw [d3] at h138
            exact absurd h138 (Int32.not_lt.mpr (nI_le (a := 49) (by omega) (by omega)))
          · refine b_iload_n dX6_goesOn_141 rfl ?_
            refine b_bipush (v := 57) dX6_goesOn_142 (by decide) ?_
            refine b_icmp_gt (tgt := 151) dX6_goesOn_144 (by decide) (fun h144 => ?_) (fun h144 => ?_)
            · refine b_iconst (v := 0) dX6_goesOn_151 (by decide) ?_
              refine b_zret (Or.inl rfl) dX6_goesOn_152 rfl ⟨rfl, Or.inr ⟨rfl, ?_⟩⟩
              rw [goes_2 hcn (by omega)]
              rw [gzr2 hr hpn]
              rintro ⟨d, d1, d2, d3⟩
              rw [d3] at h144
              exact absurd h144 (Int32.not_lt.mpr (nI_le (b := 57) (by omega) (by omega)))
            · refine b_iconst (v := 1) dX6_goesOn_147 (by decide) ?_
              refine b_goto (tgt := 152) dX6_goesOn_148 (by decide) ?_
              refine b_zret (Or.inr rfl) dX6_goesOn_152 rfl ⟨rfl, Or.inl ⟨rfl, ?_⟩⟩
              rw [goes_2 hcn (by omega)]
              rw [gzr2 hr hpn]
              obtain ⟨d, d1, d2, d3⟩ := dig_of (lo := 1) (hi := 9) (by decide) (Int32.not_lt.mp h138) (Int32.not_lt.mp h144)
              exact ⟨d, d1, d2, d3⟩
        · rw [hr]
          refine b_tsOut (tgt := 153) dX6_goesOn_80 (by decide) (by decide) ?_
          have hr : 3 ≤ (pl - 2) % 5 := by omega
          refine b_iload_n dX6_goesOn_153 rfl ?_
          refine b_bipush (v := 48) dX6_goesOn_154 (by decide) ?_
          refine b_icmp_lt (tgt := 181) dX6_goesOn_156 (by decide) (fun h156 => ?_) (fun h156 => ?_)
          · refine b_iconst (v := 0) dX6_goesOn_181 (by decide) ?_
            refine b_zret (Or.inl rfl) dX6_goesOn_182 rfl ⟨rfl, Or.inr ⟨rfl, ?_⟩⟩
            rw [goes_2 hcn (by omega)]
            rw [gzr3 hr hpn]
            rintro ⟨d, d1, d2, d3⟩
            rw [d3] at h156
            exact absurd h156 (Int32.not_lt.mpr (nI_le (a := 48) (by omega) (by have := hcn.2.1; omega)))
          · refine b_iload_n dX6_goesOn_159 rfl ?_
            refine b_callS1 dX6_goesOn_160 lk_X6_21 ⟨Nat.le_of_ble_eq_true rfl, Nat.le_of_ble_eq_true rfl⟩ (Nat.le_of_ble_eq_true rfl) (s_X6_digit) (fun r w160 h160 => ?_)
            obtain ⟨rfl, rfl⟩ := h160
            refine b_iload dX6_goesOn_163 rfl ?_
            refine b_icmp_ge (tgt := 181) dX6_goesOn_165 (by decide) (fun h165 => ?_) (fun h165 => ?_)
            · refine b_iconst (v := 0) dX6_goesOn_181 (by decide) ?_
              refine b_zret (Or.inl rfl) dX6_goesOn_182 rfl ⟨rfl, Or.inr ⟨rfl, ?_⟩⟩
              rw [goes_2 hcn (by omega)]
              rw [gzr3 hr hpn]
              rintro ⟨d, d1, d2, d3⟩
              rw [dig_ge (lo := d) (by have := hcn.2.1; omega) d3] at h165
              exact absurd h165 (nI_ge d1 (by have := hcn.2.1; omega))
            · refine b_iload_n dX6_goesOn_168 rfl ?_
              refine b_callS1 dX6_goesOn_169 lk_X6_21 ⟨Nat.le_of_ble_eq_true rfl, Nat.le_of_ble_eq_true rfl⟩ (Nat.le_of_ble_eq_true rfl) (s_X6_digit) (fun r w169 h169 => ?_)
              obtain ⟨rfl, rfl⟩ := h169
              refine b_iload dX6_goesOn_172 rfl ?_
              refine b_icmp_eq (tgt := 181) dX6_goesOn_174 (by decide) (fun h174 => ?_) (fun h174 => ?_)
              · refine b_iconst (v := 0) dX6_goesOn_181 (by decide) ?_
                refine b_zret (Or.inl rfl) dX6_goesOn_182 rfl ⟨rfl, Or.inr ⟨rfl, ?_⟩⟩
                rw [goes_2 hcn (by omega)]
                rw [gzr3 hr hpn]
                rintro ⟨d, d1, d2, d3⟩
                rw [dig_ge (lo := d) (by have := hcn.2.1; omega) d3] at h174
                exact d2 (nI_inj (by have := hcn.2.1; omega) (by omega) h174)
              · refine b_iconst (v := 1) dX6_goesOn_177 (by decide) ?_
                refine b_goto (tgt := 182) dX6_goesOn_178 (by decide) ?_
                refine b_zret (Or.inr rfl) dX6_goesOn_182 rfl ⟨rfl, Or.inl ⟨rfl, ?_⟩⟩
                rw [goes_2 hcn (by omega)]
                rw [gzr3 hr hpn]
                obtain ⟨d, d1, d2⟩ := dig3 hcn.2.1 h156 (Int32.not_le.mp h165)
                refine ⟨d, d1, fun z => h174 ?_, d2⟩
                rw [dig_ge (lo := d) (by have := hcn.2.1; omega) d2, z]
        · rw [hr]
          refine b_tsOut (tgt := 153) dX6_goesOn_80 (by decide) (by decide) ?_
          have hr : 3 ≤ (pl - 2) % 5 := by omega
          refine b_iload_n dX6_goesOn_153 rfl ?_
          refine b_bipush (v := 48) dX6_goesOn_154 (by decide) ?_
          refine b_icmp_lt (tgt := 181) dX6_goesOn_156 (by decide) (fun h156 => ?_) (fun h156 => ?_)
          · refine b_iconst (v := 0) dX6_goesOn_181 (by decide) ?_
            refine b_zret (Or.inl rfl) dX6_goesOn_182 rfl ⟨rfl, Or.inr ⟨rfl, ?_⟩⟩
            rw [goes_2 hcn (by omega)]
            rw [gzr3 hr hpn]
            rintro ⟨d, d1, d2, d3⟩
            rw [d3] at h156
            exact absurd h156 (Int32.not_lt.mpr (nI_le (a := 48) (by omega) (by have := hcn.2.1; omega)))
          · refine b_iload_n dX6_goesOn_159 rfl ?_
            refine b_callS1 dX6_goesOn_160 lk_X6_21 ⟨Nat.le_of_ble_eq_true rfl, Nat.le_of_ble_eq_true rfl⟩ (Nat.le_of_ble_eq_true rfl) (s_X6_digit) (fun r w160 h160 => ?_)
            obtain ⟨rfl, rfl⟩ := h160
            refine b_iload dX6_goesOn_163 rfl ?_
            refine b_icmp_ge (tgt := 181) dX6_goesOn_165 (by decide) (fun h165 => ?_) (fun h165 => ?_)
            · refine b_iconst (v := 0) dX6_goesOn_181 (by decide) ?_
              refine b_zret (Or.inl rfl) dX6_goesOn_182 rfl ⟨rfl, Or.inr ⟨rfl, ?_⟩⟩
              rw [goes_2 hcn (by omega)]
              rw [gzr3 hr hpn]
              rintro ⟨d, d1, d2, d3⟩
              rw [dig_ge (lo := d) (by have := hcn.2.1; omega) d3] at h165
              exact absurd h165 (nI_ge d1 (by have := hcn.2.1; omega))
            · refine b_iload_n dX6_goesOn_168 rfl ?_
              refine b_callS1 dX6_goesOn_169 lk_X6_21 ⟨Nat.le_of_ble_eq_true rfl, Nat.le_of_ble_eq_true rfl⟩ (Nat.le_of_ble_eq_true rfl) (s_X6_digit) (fun r w169 h169 => ?_)
              obtain ⟨rfl, rfl⟩ := h169
              refine b_iload dX6_goesOn_172 rfl ?_
              refine b_icmp_eq (tgt := 181) dX6_goesOn_174 (by decide) (fun h174 => ?_) (fun h174 => ?_)
              · refine b_iconst (v := 0) dX6_goesOn_181 (by decide) ?_
                refine b_zret (Or.inl rfl) dX6_goesOn_182 rfl ⟨rfl, Or.inr ⟨rfl, ?_⟩⟩
                rw [goes_2 hcn (by omega)]
                rw [gzr3 hr hpn]
                rintro ⟨d, d1, d2, d3⟩
                rw [dig_ge (lo := d) (by have := hcn.2.1; omega) d3] at h174
                exact d2 (nI_inj (by have := hcn.2.1; omega) (by omega) h174)
              · refine b_iconst (v := 1) dX6_goesOn_177 (by decide) ?_
                refine b_goto (tgt := 182) dX6_goesOn_178 (by decide) ?_
                refine b_zret (Or.inr rfl) dX6_goesOn_182 rfl ⟨rfl, Or.inl ⟨rfl, ?_⟩⟩
                rw [goes_2 hcn (by omega)]
                rw [gzr3 hr hpn]
                obtain ⟨d, d1, d2⟩ := dig3 hcn.2.1 h156 (Int32.not_le.mp h165)
                refine ⟨d, d1, fun z => h174 ?_, d2⟩
                rw [dig_ge (lo := d) (by have := hcn.2.1; omega) d2, z]
      · refine b_iconst (v := 0) dX6_goesOn_73 (by decide) ?_
        refine b_zret (Or.inl rfl) dX6_goesOn_74 rfl ⟨rfl, Or.inr ⟨rfl, ?_⟩⟩
        rw [goes_2 hcn (by omega)]
        exact fun z => absurd (nI_lt z.1 (by have := hcn.2.1; omega)) h70
    · refine b_iload_n dX6_goesOn_29 rfl ?_
      refine b_bipush (v := 50) dX6_goesOn_30 (by decide) ?_
      refine b_icmp_lt (tgt := 45) dX6_goesOn_32 (by decide) (fun h32 => ?_) (fun h32 => ?_)
      · refine b_iconst (v := 0) dX6_goesOn_45 (by decide) ?_
        refine b_zret (Or.inl rfl) dX6_goesOn_46 rfl ⟨rfl, Or.inr ⟨rfl, ?_⟩⟩
        have e1 : pl = 1 := nI_inj (by omega) (by decide) h26
        subst e1
        rw [goes_1]
        rintro ⟨d, d1, d2, d3⟩
        rw [d3] at h32
        exact absurd h32 (Int32.not_lt.mpr (nI_le (a := 50) (by omega) (by omega)))
      · refine b_iload_n dX6_goesOn_35 rfl ?_
        refine b_bipush (v := 54) dX6_goesOn_36 (by decide) ?_
        refine b_icmp_gt (tgt := 45) dX6_goesOn_38 (by decide) (fun h38 => ?_) (fun h38 => ?_)
        · refine b_iconst (v := 0) dX6_goesOn_45 (by decide) ?_
          refine b_zret (Or.inl rfl) dX6_goesOn_46 rfl ⟨rfl, Or.inr ⟨rfl, ?_⟩⟩
          have e1 : pl = 1 := nI_inj (by omega) (by decide) h26
          subst e1
          rw [goes_1]
          rintro ⟨d, d1, d2, d3⟩
          rw [d3] at h38
          exact absurd h38 (Int32.not_lt.mpr (nI_le (b := 54) (by omega) (by omega)))
        · refine b_iconst (v := 1) dX6_goesOn_41 (by decide) ?_
          refine b_goto (tgt := 46) dX6_goesOn_42 (by decide) ?_
          refine b_zret (Or.inr rfl) dX6_goesOn_46 rfl ⟨rfl, Or.inl ⟨rfl, ?_⟩⟩
          have e1 : pl = 1 := nI_inj (by omega) (by decide) h26
          subst e1
          rw [goes_1]
          obtain ⟨d, d1, d2, d3⟩ := dig_of (lo := 2) (hi := 6) (by decide) (Int32.not_lt.mp h32) (Int32.not_lt.mp h38)
          exact ⟨d, d1, d2, d3⟩
  · refine b_iload_n dX6_goesOn_12 rfl ?_
    refine b_bipush (v := 100) dX6_goesOn_13 (by decide) ?_
    refine b_icmp_ne (tgt := 22) dX6_goesOn_15 (by decide) (fun h15 => ?_) (fun h15 => ?_)
    · refine b_iconst (v := 0) dX6_goesOn_22 (by decide) ?_
      refine b_zret (Or.inl rfl) dX6_goesOn_23 rfl ⟨rfl, Or.inr ⟨rfl, ?_⟩⟩
      have e0 : pl = 0 := nI_inj (by omega) (by decide) h9
      subst e0
      rw [goes_0]
      exact h15
    · refine b_iconst (v := 1) dX6_goesOn_18 (by decide) ?_
      refine b_goto (tgt := 23) dX6_goesOn_19 (by decide) ?_
      refine b_zret (Or.inr rfl) dX6_goesOn_23 rfl ⟨rfl, Or.inl ⟨rfl, ?_⟩⟩
      have e0 : pl = 0 := nI_inj (by omega) (by decide) h9
      subst e0
      rw [goes_0]
      exact h15
end
section
theorem OKT.tp {f : Nat → Int32} {n nn p : Nat} (h : OKT f n nn) (hp : p < nn) : ∃ k h a b, TP f nn p k h a b := by
  obtain ⟨hc, hn, hg⟩ := h
  have g3 := (gz_3 hp).mp ((goes_2 hc (by omega)).mp (hg (5 * p + 3) (by omega)))
  have g4 := (gz_4 hp).mp ((goes_2 hc (by omega)).mp (hg (5 * p + 4) (by omega)))
  have g5 := (gz_5 hp (i := 0) (by omega)).mp ((goes_2 hc (by omega)).mp (hg (5 * p + 5 + 0) (by omega)))
  have g6 := (gz_5 hp (i := 1) (by omega)).mp ((goes_2 hc (by omega)).mp (hg (5 * p + 5 + 1) (by omega)))
  obtain ⟨hh, a1, a2, a3⟩ := g4
  obtain ⟨x, b1, b2, b3⟩ := g5
  obtain ⟨y, c1, c2, c3⟩ := g6
  rcases g3 with z | z | z
  · exact ⟨0, hh, x, y, Or.inl ⟨z, rfl⟩, ⟨a1, a2, a3⟩, ⟨b1, b2, b3⟩, ⟨c1, c2, c3⟩⟩
  · exact ⟨1, hh, x, y, Or.inr (Or.inl ⟨z, rfl⟩), ⟨a1, a2, a3⟩, ⟨b1, b2, b3⟩, ⟨c1, c2, c3⟩⟩
  · exact ⟨2, hh, x, y, Or.inr (Or.inr ⟨z, rfl⟩), ⟨a1, a2, a3⟩, ⟨b1, b2, b3⟩, ⟨c1, c2, c3⟩⟩
def PFF (f : Nat → Int32) (n : Nat) (r : Option Value) : Prop := (∃ t, FF f n t ∧ r = some (.int (nI t))) ∨ (∃ nn, OKT f n nn ∧ r = some (.int (-9)))
set_option maxRecDepth 100000 in
set_option maxHeartbeats 1000000 in
theorem s_X6_firstFault_lp {w : kW} {kk ii l n : Nat} (hkk : kk < 4) (hl : w.1 (31 + kk) 2 = nI l) (hl5 : l ≤ 50) (hin : ii + n ≤ l) {f : Nat → Int32} (hf : ∀ s, s < n → w.1 (35 + kk) (ii + s) = f s) : ∀ q k, k + q = n → (∀ s, s < k → goes f s) → BS shC RX6 cX6_firstFault 4 (some .int) 2 46 (fun r w' => PFF f n r ∧ w = w') 2 [(0, .ref (31 + kk)), (1, .int (nI ii)), (2, .int (nI n)), (3, .int (nI k))] [] w := by
  intro q
  induction q with
  | zero =>
    intro k hk hgo
    refine b_iload_n dX6_firstFault_2 rfl ?_
    refine b_iload_n dX6_firstFault_3 rfl ?_
    refine b_icmp_ge (tgt := 24) dX6_firstFault_4 (by decide) (fun h4 => ?_) (fun h4 => ?_)
    · have e : k = n := by omega
      subst e
      refine b_iload_n dX6_firstFault_24 rfl ?_
      refine b_iconst (v := 2) dX6_firstFault_25 (by decide) ?_
      refine b_icmp_lt (tgt := 51) dX6_firstFault_26 (by decide) (fun h26 => ?_) (fun h26 => ?_)
      · refine b_iconst (v := 0) dX6_firstFault_51 (by decide) ?_
        refine b_istore_n dX6_firstFault_52 (by decide) ?_
        refine b_iload_n dX6_firstFault_53 rfl ?_
        refine b_if_eq (tgt := 62) dX6_firstFault_54 (by decide) (fun h54 => ?_) (fun h54 => absurd h54 (by decide))
        refine b_iload_n dX6_firstFault_62 rfl ?_
        exact b_iret dX6_firstFault_63 rfl ⟨Or.inl ⟨k, ⟨Nat.le_refl _, hgo, fun z => absurd z (Nat.lt_irrefl _), fun _ m hm z => absurd h26 (Int32.not_lt.mpr (nI_le (a := 2) (by have := hm.1; omega) (by omega)))⟩, rfl⟩, rfl⟩
      · have h2 : 2 ≤ k := Nat.not_lt.mp (fun z => h26 (nI_lt (b := 2) z (by decide)))
        obtain ⟨nn, hcn⟩ := goes_1.mp (hgo 1 (by omega))
        refine b_iload_n dX6_firstFault_29 rfl ?_
        refine b_iconst (v := 2) dX6_firstFault_30 (by decide) ?_
        refine b_iconst (v := 5) dX6_firstFault_31 (by decide) ?_
        refine b_aload_n dX6_firstFault_32 rfl ?_
        refine b_iload_n dX6_firstFault_33 rfl ?_
        refine b_iconst (v := 1) dX6_firstFault_34 (by decide) ?_
        refine b_iadd dX6_firstFault_35 ?_
        refine b_topi (y := nI (ii + 1)) (nI_add _ 1) ?_
        refine b_callV1 dX6_firstFault_36 lk_X6_15 (shK hkk) rfl rfl ⟨Nat.le_of_ble_eq_true rfl, Nat.le_of_ble_eq_true rfl⟩ (Nat.le_of_ble_eq_true rfl) (s_X5_at (l := l) hkk hl hl5 (by omega)) (fun r w36 h36 => ?_)
        obtain ⟨rfl, rfl⟩ := h36
        refine b_callS1 dX6_firstFault_39 lk_X6_21 ⟨Nat.le_of_ble_eq_true rfl, Nat.le_of_ble_eq_true rfl⟩ (Nat.le_of_ble_eq_true rfl) (s_X6_digit) (fun r w39 h39 => ?_)
        obtain ⟨rfl, rfl⟩ := h39
        refine b_topi (y := nI nn) (by rw [hf 1 (by omega)]; exact dig_ge (by have := hcn.2.1; omega) hcn.2.2) ?_
        refine b_imul dX6_firstFault_42 ?_
        refine b_topi (y := nI (5 * nn)) (nI_mul 5 nn) ?_
        refine b_iadd dX6_firstFault_43 ?_
        refine b_topi (y := nI (2 + 5 * nn)) (nI_add 2 _) ?_
        refine b_icmp_ne (tgt := 51) dX6_firstFault_44 (by decide) (fun h44 => ?_) (fun h44 => ?_)
        · refine b_iconst (v := 0) dX6_firstFault_51 (by decide) ?_
          refine b_istore_n dX6_firstFault_52 (by decide) ?_
          refine b_iload_n dX6_firstFault_53 rfl ?_
          refine b_if_eq (tgt := 62) dX6_firstFault_54 (by decide) (fun h54 => ?_) (fun h54 => absurd h54 (by decide))
          refine b_iload_n dX6_firstFault_62 rfl ?_
          exact b_iret dX6_firstFault_63 rfl ⟨Or.inl ⟨k, ⟨Nat.le_refl _, hgo, fun z => absurd z (Nat.lt_irrefl _), fun _ m hm z => h44 (by rw [cnt_inj hcn hm, ← z])⟩, rfl⟩, rfl⟩
        · refine b_iconst (v := 1) dX6_firstFault_47 (by decide) ?_
          refine b_goto (tgt := 52) dX6_firstFault_48 (by decide) ?_
          refine b_istore_n dX6_firstFault_52 (by decide) ?_
          refine b_iload_n dX6_firstFault_53 rfl ?_
          refine b_if_eq (tgt := 62) dX6_firstFault_54 (by decide) (fun h54 => absurd h54 (by decide)) (fun h54 => ?_)
          refine b_bipush (v := (-9)) dX6_firstFault_57 (by decide) ?_
          refine b_goto (tgt := 63) dX6_firstFault_59 (by decide) ?_
          exact b_iret dX6_firstFault_63 rfl ⟨Or.inr ⟨nn, ⟨hcn, nI_inj (by omega) (by have := hcn.2.1; omega) h44, hgo⟩, rfl⟩, rfl⟩
    · exact absurd (nI_le (by omega) (by omega)) h4
  | succ q ih =>
    intro k hk hgo
    refine b_iload_n dX6_firstFault_2 rfl ?_
    refine b_iload_n dX6_firstFault_3 rfl ?_
    refine b_icmp_ge (tgt := 24) dX6_firstFault_4 (by decide) (fun h4 => ?_) (fun h4 => ?_)
    · exact absurd h4 (nI_ge (by omega) (by omega))
    · refine b_aload_n dX6_firstFault_7 rfl ?_
      refine b_iload_n dX6_firstFault_8 rfl ?_
      refine b_iload_n dX6_firstFault_9 rfl ?_
      refine b_callS3 dX6_firstFault_10 lk_X6_9 ⟨Nat.le_of_ble_eq_true rfl, Nat.le_of_ble_eq_true rfl⟩ (Nat.le_of_ble_eq_true rfl) (s_X6_goesOn hkk hl hl5 hin hf (by omega) (fun z => goes_1.mp (hgo 1 (by omega)))) (fun r w10 h10 => ?_)
      obtain ⟨rfl, h10⟩ := h10
      rcases h10 with ⟨rfl, h10⟩ | ⟨rfl, h10⟩
      · refine b_if_ne (tgt := 18) dX6_firstFault_13 (by decide) (fun h13 => ?_) (fun h13 => absurd h13 (by decide))
        refine b_iinc dX6_firstFault_18 rfl (nI_inc k) (by decide) ?_
        refine b_goto (tgt := 2) dX6_firstFault_21 (by decide) ?_
        refine b_sub [1, 2, 3, 0] rfl ?_
        refine ih (k + 1) (by omega) (fun s hs => ?_)
        by_cases e : s = k
        · subst e; exact h10
        · exact hgo s (by omega)
      · refine b_if_ne (tgt := 18) dX6_firstFault_13 (by decide) (fun h13 => absurd h13 (by decide)) (fun h13 => ?_)
        refine b_iload_n dX6_firstFault_16 rfl ?_
        exact b_iret dX6_firstFault_17 rfl ⟨Or.inl ⟨k, ⟨by omega, hgo, fun _ => h10, fun z => absurd z (by omega)⟩, rfl⟩, rfl⟩
set_option maxRecDepth 100000 in
set_option maxHeartbeats 1000000 in
theorem s_X6_firstFault {w : kW} {kk ii l n : Nat} (hkk : kk < 4) (hl : w.1 (31 + kk) 2 = nI l) (hl5 : l ≤ 50) (hin : ii + n ≤ l) {f : Nat → Int32} (hf : ∀ s, s < n → w.1 (35 + kk) (ii + s) = f s) : Spec shC yX6_firstFault cX6_firstFault 4 (some .int) 2 46 [.ref (31 + kk), .int (nI ii), .int (nI n)] w (fun r w' => PFF f n r ∧ w = w') := by
  refine k_enter pn_X6 (Nat.le_of_ble_eq_true rfl) ?_
  refine b_iconst (v := 0) dX6_firstFault_0 (by decide) ?_
  refine b_istore_n dX6_firstFault_1 (by decide) ?_
  refine b_sub [1, 2, 3, 0] rfl ?_
  exact s_X6_firstFault_lp hkk hl hl5 hin hf n 0 (by omega) (fun s hs => absurd hs (Nat.not_lt_zero _))
def CoR (f : Nat → Int32) (nn k : Nat) (w v : kW) : Prop := v.1 1 0 = nI nn ∧ v.1 1 1 = 0 ∧ (∀ j, j < 1 ∨ 5 < j → v.1 j = w.1 j) ∧ ∀ p, p < k → ∃ kd h a b, TP f nn p kd h a b ∧ v.1 2 p = nI kd ∧ v.1 3 p = nI h ∧ v.1 4 p = nI a ∧ v.1 5 p = nI b
theorem minmax6 : ∀ m, m < 7 → (if (nI m : Int32) < 6 then nI m else 6) = nI m ∧ (if (0 : Int32) < nI m then nI m else 0) = nI m := by decide +kernel
theorem CoR.step {f : Nat → Int32} {nn k kd h a b : Nat} {w v : kW} (hv : CoR f nn k w v) (ht : TP f nn k kd h a b) : CoR f nn (k + 1) w (kset (kset (kset (kset v 2 k (nI kd)) 3 k (nI h)) 4 k (nI a)) 5 k (nI b)) := by
  obtain ⟨h1, h2, h3, h4⟩ := hv
  refine ⟨h1, h2, fun j hj => ?_, fun p hp => ?_⟩
  · rw [kset_row _ _ _ _ (by omega), kset_row _ _ _ _ (by omega), kset_row _ _ _ _ (by omega), kset_row _ _ _ _ (by omega)]; exact h3 j hj
  · by_cases e : p = k
    · subst e
      exact ⟨kd, h, a, b, ht, by simp [kset_1], by simp [kset_1], by simp [kset_1], by simp [kset_1]⟩
    · obtain ⟨kd', h', a', b', z1, z2, z3, z4, z5⟩ := h4 p (by omega)
      exact ⟨kd', h', a', b', z1, by simp [kset_1, e, z2], by simp [kset_1, e, z3], by simp [kset_1, e, z4], by simp [kset_1, e, z5]⟩
set_option maxRecDepth 100000 in
set_option maxHeartbeats 1000000 in
theorem s_X6_read_lp {w : kW} {kk ii l n : Nat} (hkk : kk < 4) (hl : w.1 (31 + kk) 2 = nI l) (hl5 : l ≤ 50) (hin : ii + n ≤ l) {f : Nat → Int32} (hf : ∀ s, s < n → w.1 (35 + kk) (ii + s) = f s) {nn : Nat} (hok : OKT f n nn) : ∀ q k, k + q = nn → ∀ v : kW, CoR f nn k w v → BS shC RX6 cX6_read 5 none 1 21 (fun r w' => r = none ∧ CoR f nn nn w w') 30 [(0, .ref (31 + kk)), (1, .int (nI ii)), (2, .ref 1), (3, .int (nI k))] [] v := by
  intro q
  have hn6 : nn ≤ 6 := hok.1.2.1
  have hnn := hok.2.1
  induction q with
  | zero =>
    intro k hk v hv
    refine b_iload_n dX6_read_30 rfl ?_
    refine b_aload_n dX6_read_31 rfl ?_
    refine b_geti dX6_read_32 gf_X6_36 rfl rfl ?_
    refine b_topi (y := nI nn) hv.1 ?_
    refine b_icmp_ge (tgt := 121) dX6_read_35 (by decide) (fun h35 => ?_) (fun h35 => ?_)
    · have e : k = nn := by omega
      subst e
      exact b_vret dX6_read_121 rfl ⟨rfl, hv⟩
    · exact absurd (nI_le (by omega) (by omega)) h35
  | succ q ih =>
    intro k hk v hv
    refine b_iload_n dX6_read_30 rfl ?_
    refine b_aload_n dX6_read_31 rfl ?_
    refine b_geti dX6_read_32 gf_X6_36 rfl rfl ?_
    refine b_topi (y := nI nn) hv.1 ?_
    refine b_icmp_ge (tgt := 121) dX6_read_35 (by decide) (fun h35 => ?_) (fun h35 => ?_)
    · exact absurd h35 (nI_ge (by omega) (by omega))
    · obtain ⟨kd, h, a, b, ht⟩ := hok.tp (p := k) (by omega)
      have ha6 : a < nn := ht.2.2.1.1
      have hb6 : b < nn := ht.2.2.2.1
      have hu : ∀ j, 30 < j → v.1 j = w.1 j := fun j hj => hv.2.2.1 j (by omega)
      refine b_iload_n dX6_read_38 rfl ?_
      refine b_iconst (v := 2) dX6_read_39 (by decide) ?_
      refine b_iadd dX6_read_40 ?_
      refine b_topi (y := nI (ii + 2)) (nI_add _ 2) ?_
      refine b_iconst (v := 5) dX6_read_41 (by decide) ?_
      refine b_iload_n dX6_read_42 rfl ?_
      refine b_imul dX6_read_43 ?_
      refine b_topi (y := nI (5 * k)) (nI_mul 5 k) ?_
      refine b_iadd dX6_read_44 ?_
      refine b_topi (y := nI (ii + 2 + 5 * k)) (nI_add _ _) ?_
      refine b_istore dX6_read_45 (by decide) ?_
      refine b_aload_n dX6_read_47 rfl ?_
      refine b_getr dX6_read_48 gf_X6_45 rfl rfl ?_
      refine b_iload_n dX6_read_51 rfl ?_
      refine b_aload_n dX6_read_52 rfl ?_
      refine b_iload dX6_read_53 rfl ?_
      refine b_iconst (v := 1) dX6_read_55 (by decide) ?_
      refine b_iadd dX6_read_56 ?_
      refine b_topi (y := nI (ii + (5 * k + 3))) (by rw [show ii + (5 * k + 3) = ii + 2 + 5 * k + 1 by omega]; exact nI_add _ 1) ?_
      refine b_callV1 dX6_read_57 lk_X6_15 (shK hkk) rfl rfl ⟨Nat.le_of_ble_eq_true rfl, Nat.le_of_ble_eq_true rfl⟩ (Nat.le_of_ble_eq_true rfl) (s_X5_at (l := l) hkk (i := ii + (5 * k + 3)) ((congrFun (hu (31 + kk) (by omega)) 2).trans hl) hl5 (by omega)) (fun r w57 h57 => ?_)
      obtain ⟨rfl, rfl⟩ := h57
      refine b_topi (y := f (5 * k + 3)) ((congrFun (hu (35 + kk) (by omega)) _).trans (hf (5 * k + 3) (by omega))) ?_
      refine b_callS1 dX6_read_60 lk_X6_24 ⟨Nat.le_of_ble_eq_true rfl, Nat.le_of_ble_eq_true rfl⟩ (Nat.le_of_ble_eq_true rfl) (s_X6_kindOf) (fun r w60 h60 => ?_)
      obtain ⟨rfl, rfl⟩ := h60
      refine b_topi (y := nI kd) (kofI_k ht.1) ?_
      refine b_iastN dX6_read_63 rfl ⟨by omega, by decide⟩ ?_
      refine b_wd (w' := kset v 2 k (nI kd)) rfl ?_
      have hu : ∀ j, 30 < j → (kset v 2 k (nI kd)).1 j = w.1 j := fun j hj => (kset_row _ _ _ _ (by omega)).trans (hu j hj)
      refine b_aload_n dX6_read_64 rfl ?_
      refine b_getr dX6_read_65 gf_X6_49 rfl rfl ?_
      refine b_iload_n dX6_read_68 rfl ?_
      refine b_aload_n dX6_read_69 rfl ?_
      refine b_iload dX6_read_70 rfl ?_
      refine b_iconst (v := 2) dX6_read_72 (by decide) ?_
      refine b_iadd dX6_read_73 ?_
      refine b_topi (y := nI (ii + (5 * k + 4))) (by rw [show ii + (5 * k + 4) = ii + 2 + 5 * k + 2 by omega]; exact nI_add _ 2) ?_
      refine b_callV1 dX6_read_74 lk_X6_15 (shK hkk) rfl rfl ⟨Nat.le_of_ble_eq_true rfl, Nat.le_of_ble_eq_true rfl⟩ (Nat.le_of_ble_eq_true rfl) (s_X5_at (l := l) hkk (i := ii + (5 * k + 4)) ((congrFun (hu (31 + kk) (by omega)) 2).trans hl) hl5 (by omega)) (fun r w74 h74 => ?_)
      obtain ⟨rfl, rfl⟩ := h74
      refine b_topi (y := f (5 * k + 4)) ((congrFun (hu (35 + kk) (by omega)) _).trans (hf (5 * k + 4) (by omega))) ?_
      refine b_callS1 dX6_read_77 lk_X6_21 ⟨Nat.le_of_ble_eq_true rfl, Nat.le_of_ble_eq_true rfl⟩ (Nat.le_of_ble_eq_true rfl) (s_X6_digit) (fun r w77 h77 => ?_)
      obtain ⟨rfl, rfl⟩ := h77
      refine b_topi (y := nI h) (dig_ge (by have := ht.2.1.2.1; omega) ht.2.1.2.2) ?_
      refine b_iastN dX6_read_80 rfl ⟨by omega, by decide⟩ ?_
      refine b_wd (w' := kset (kset v 2 k (nI kd)) 3 k (nI h)) rfl ?_
      have hu : ∀ j, 30 < j → (kset (kset v 2 k (nI kd)) 3 k (nI h)).1 j = w.1 j := fun j hj => (kset_row _ _ _ _ (by omega)).trans (hu j hj)
      refine b_aload_n dX6_read_81 rfl ?_
      refine b_getr dX6_read_82 gf_X6_52 rfl rfl ?_
      refine b_iload_n dX6_read_85 rfl ?_
      refine b_aload_n dX6_read_86 rfl ?_
      refine b_iload dX6_read_87 rfl ?_
      refine b_iconst (v := 3) dX6_read_89 (by decide) ?_
      refine b_iadd dX6_read_90 ?_
      refine b_topi (y := nI (ii + (5 * k + 5))) (by rw [show ii + (5 * k + 5) = ii + 2 + 5 * k + 3 by omega]; exact nI_add _ 3) ?_
      refine b_callV1 dX6_read_91 lk_X6_15 (shK hkk) rfl rfl ⟨Nat.le_of_ble_eq_true rfl, Nat.le_of_ble_eq_true rfl⟩ (Nat.le_of_ble_eq_true rfl) (s_X5_at (l := l) hkk (i := ii + (5 * k + 5)) ((congrFun (hu (31 + kk) (by omega)) 2).trans hl) hl5 (by omega)) (fun r w91 h91 => ?_)
      obtain ⟨rfl, rfl⟩ := h91
      refine b_topi (y := f (5 * k + 5)) ((congrFun (hu (35 + kk) (by omega)) _).trans (hf (5 * k + 5) (by omega))) ?_
      refine b_callS1 dX6_read_94 lk_X6_21 ⟨Nat.le_of_ble_eq_true rfl, Nat.le_of_ble_eq_true rfl⟩ (Nat.le_of_ble_eq_true rfl) (s_X6_digit) (fun r w94 h94 => ?_)
      obtain ⟨rfl, rfl⟩ := h94
      refine b_topi (y := nI a) (dig_ge (by omega) ht.2.2.1.2.2) ?_
      refine b_iastN dX6_read_97 rfl ⟨by omega, by decide⟩ ?_
      refine b_wd (w' := kset (kset (kset v 2 k (nI kd)) 3 k (nI h)) 4 k (nI a)) rfl ?_
      have hu : ∀ j, 30 < j → (kset (kset (kset v 2 k (nI kd)) 3 k (nI h)) 4 k (nI a)).1 j = w.1 j := fun j hj => (kset_row _ _ _ _ (by omega)).trans (hu j hj)
      refine b_aload_n dX6_read_98 rfl ?_
      refine b_getr dX6_read_99 gf_X6_55 rfl rfl ?_
      refine b_iload_n dX6_read_102 rfl ?_
      refine b_aload_n dX6_read_103 rfl ?_
      refine b_iload dX6_read_104 rfl ?_
      refine b_iconst (v := 4) dX6_read_106 (by decide) ?_
      refine b_iadd dX6_read_107 ?_
      refine b_topi (y := nI (ii + (5 * k + 6))) (by rw [show ii + (5 * k + 6) = ii + 2 + 5 * k + 4 by omega]; exact nI_add _ 4) ?_
      refine b_callV1 dX6_read_108 lk_X6_15 (shK hkk) rfl rfl ⟨Nat.le_of_ble_eq_true rfl, Nat.le_of_ble_eq_true rfl⟩ (Nat.le_of_ble_eq_true rfl) (s_X5_at (l := l) hkk (i := ii + (5 * k + 6)) ((congrFun (hu (31 + kk) (by omega)) 2).trans hl) hl5 (by omega)) (fun r w108 h108 => ?_)
      obtain ⟨rfl, rfl⟩ := h108
      refine b_topi (y := f (5 * k + 6)) ((congrFun (hu (35 + kk) (by omega)) _).trans (hf (5 * k + 6) (by omega))) ?_
      refine b_callS1 dX6_read_111 lk_X6_21 ⟨Nat.le_of_ble_eq_true rfl, Nat.le_of_ble_eq_true rfl⟩ (Nat.le_of_ble_eq_true rfl) (s_X6_digit) (fun r w111 h111 => ?_)
      obtain ⟨rfl, rfl⟩ := h111
      refine b_topi (y := nI b) (dig_ge (by omega) ht.2.2.2.2.2) ?_
      refine b_iastN dX6_read_114 rfl ⟨by omega, by decide⟩ ?_
      refine b_iinc dX6_read_115 rfl (nI_inc k) (by decide) ?_
      refine b_goto (tgt := 30) dX6_read_118 (by decide) ?_
      refine b_sub [2, 3, 4, 0] rfl ?_
      exact ih (k + 1) (by omega) _ (hv.step ht)
set_option maxRecDepth 100000 in
set_option maxHeartbeats 1000000 in
theorem s_X6_read {w : kW} {kk ii l n : Nat} (hkk : kk < 4) (hl : w.1 (31 + kk) 2 = nI l) (hl5 : l ≤ 50) (hin : ii + n ≤ l) {f : Nat → Int32} (hf : ∀ s, s < n → w.1 (35 + kk) (ii + s) = f s) {nn : Nat} (hok : OKT f n nn) : Spec shC yX6_read cX6_read 5 none 1 21 [.ref (31 + kk), .int (nI ii), .ref 1] w (fun r w' => r = none ∧ CoR f nn nn w w') := by
  have hn6 : nn ≤ 6 := hok.1.2.1
  have hnn := hok.2.1
  refine k_enter pn_X6 (Nat.le_of_ble_eq_true rfl) ?_
  refine b_aload_n dX6_read_0 rfl ?_
  refine b_iconst (v := 0) dX6_read_1 (by decide) ?_
  refine b_bipush (v := 6) dX6_read_2 (by decide) ?_
  refine b_aload_n dX6_read_4 rfl ?_
  refine b_iload_n dX6_read_5 rfl ?_
  refine b_iconst (v := 1) dX6_read_6 (by decide) ?_
  refine b_iadd dX6_read_7 ?_
  refine b_topi (y := nI (ii + 1)) (nI_add _ 1) ?_
  refine b_callV1 dX6_read_8 lk_X6_15 (shK hkk) rfl rfl ⟨Nat.le_of_ble_eq_true rfl, Nat.le_of_ble_eq_true rfl⟩ (Nat.le_of_ble_eq_true rfl) (s_X5_at (l := l) hkk (i := ii + 1) hl hl5 (by omega)) (fun r w8 h8 => ?_)
  obtain ⟨rfl, rfl⟩ := h8
  refine b_callS1 dX6_read_11 lk_X6_21 ⟨Nat.le_of_ble_eq_true rfl, Nat.le_of_ble_eq_true rfl⟩ (Nat.le_of_ble_eq_true rfl) (s_X6_digit) (fun r w11 h11 => ?_)
  obtain ⟨rfl, rfl⟩ := h11
  refine b_topi (y := nI nn) (by rw [hf 1 (by omega)]; exact dig_ge (by omega) hok.1.2.2) ?_
  refine b_min dX6_read_14 lk_X6_27 (Nat.le_of_ble_eq_true rfl) (Nat.le_of_ble_eq_true rfl) ?_
  refine b_topi (y := nI nn) (minmax6 nn (by omega)).1 ?_
  refine b_max dX6_read_17 lk_X6_33 (Nat.le_of_ble_eq_true rfl) (Nat.le_of_ble_eq_true rfl) ?_
  refine b_topi (y := nI nn) (minmax6 nn (by omega)).2 ?_
  refine b_puti dX6_read_20 gf_X6_36 gs_X2_0 rfl rfl ?_
  refine b_aload_n dX6_read_23 rfl ?_
  refine b_iconst (v := 0) dX6_read_24 (by decide) ?_
  refine b_puti dX6_read_25 gf_X6_42 gs_X2_1 rfl rfl ?_
  refine b_iconst (v := 0) dX6_read_28 (by decide) ?_
  refine b_istore_n dX6_read_29 (by decide) ?_
  refine b_sub [1, 2, 3, 0] rfl ?_
  refine s_X6_read_lp hkk hl hl5 hin hf hok nn 0 (by omega) _ ⟨rfl, rfl, fun j hj => ?_, fun p hp => absurd hp (Nat.not_lt_zero _)⟩
  show (kset (kset w 1 0 (nI nn)) 1 1 0).1 j = w.1 j
  rw [kset_row _ _ _ _ (by omega), kset_row _ _ _ _ (by omega)]
end
section
def CoC (f : Nat → Int32) (nn : Nat) (w w' : kW) : Prop := ∃ u, CoR f nn nn w u ∧ kset (kset u 6 0 0) 11 0 0 = w'
def CCo (w g : kW) (k sort i m : Int32) (r : Option Value) (w' : kW) : Prop :=
  (¬ isS k ∧ r = some (.int (-1)) ∧ cK2 (kset w 0 6 0) w') ∨ (isS k ∧ ¬ isT sort ∧ r = some (.int (-2)) ∧ cK2 (kset w 0 6 0) w') ∨
  (isS k ∧ isT sort ∧ ¬ mAg g (dn k) sort i m = 0 ∧ r = some (.int (-10 - mAg g (dn k) sort i m)) ∧ cK2 (kset w 0 6 (mAg g (dn k) sort i m)) w') ∨
  (isS k ∧ isT sort ∧ mAg g (dn k) sort i m = 0 ∧ ((∃ t, FF (txt g k i) (dn m) t ∧ r = some (.int (-100 - nI t)) ∧ cK2 (kset w 0 6 0) w') ∨ (∃ nn, OKT (txt g k i) (dn m) nn ∧ r = some (.int (nI nn)) ∧ CoC (txt g k i) nn (kset w 0 6 0) w')))
theorem Rel.mkc {n c q : Nat} {w g g' : kW} (h : Rel n c q w g) (hk : mKc g g') : Rel n c q w g' := by
  obtain ⟨⟨g1, g2, g3, g4, g5, g6⟩, ⟨h2, h3, h4⟩, ⟨h5, h6⟩, h7, ⟨h8, h9⟩, h10, h11, h12⟩ := h
  obtain ⟨e, e0⟩ := hk
  have hP : Pn n g' := by
    unfold Pn fr at *
    rw [e0 5 (by decide) (by decide), e 4 (by decide) (by decide) (by decide) (by decide), e 5 (by decide) (by decide) (by decide) (by decide), e 6 (by decide) (by decide) (by decide) (by decide), e 7 (by decide) (by decide) (by decide) (by decide)]; exact g1
  refine ⟨⟨hP, ?_, g3, ?_, by rw [e0 20 (by decide) (by decide)]; exact g5, ?_⟩, ⟨hP, h3, ?_⟩, ⟨h5, ?_⟩, ?_, ⟨h8, ?_⟩, ?_, ?_, ?_⟩
  · unfold Ins at *
    rw [e0 15 (by decide) (by decide), e 11 (by decide) (by decide) (by decide) (by decide), e 12 (by decide) (by decide) (by decide) (by decide), e 13 (by decide) (by decide) (by decide) (by decide), e 14 (by decide) (by decide) (by decide) (by decide)]; exact g2
  · unfold Rd at *
    rw [e0 35 (by decide) (by decide), e 26 (by decide) (by decide) (by decide) (by decide), e 27 (by decide) (by decide) (by decide) (by decide), e 28 (by decide) (by decide) (by decide) (by decide)]; exact g4
  · unfold Shv at *
    rw [e 1 (by decide) (by decide) (by decide) (by decide), e 2 (by decide) (by decide) (by decide) (by decide)]; exact g6
  · intro p hp; rw [e 4 (by decide) (by decide) (by decide) (by decide), e 5 (by decide) (by decide) (by decide) (by decide), e 6 (by decide) (by decide) (by decide) (by decide)]; exact h4 p hp
  · intro k hk2; rw [e 11 (by decide) (by decide) (by decide) (by decide), e 12 (by decide) (by decide) (by decide) (by decide), e 13 (by decide) (by decide) (by decide) (by decide), e 14 (by decide) (by decide) (by decide) (by decide)]; exact h6 k hk2
  · intro p hp; rw [e 7 (by decide) (by decide) (by decide) (by decide)]; exact h7 p hp
  · intro k hk; rw [e 26 (by decide) (by decide) (by decide) (by decide), e 27 (by decide) (by decide) (by decide) (by decide), e 28 (by decide) (by decide) (by decide) (by decide)]; exact h9 k hk
  · intro k hk
    unfold RS1
    rw [e 1 (by decide) (by decide) (by decide) (by decide), e 2 (by decide) (by decide) (by decide) (by decide), e 3 (by decide) (by decide) (by decide) (by decide)]
    exact h10 k hk
  · rw [e0 1 (by decide) (by decide)]; exact h11
  · rw [e0 0 (by decide) (by decide)]; exact h12
theorem coast_ok {n c q nn : Nat} {w g w' g' : kW} {f : Nat → Int32} (h : Rel n c q w g) (hn2 : nn ≤ 6) (hc : CoC f nn (kset w 0 6 0) w') (hm : CoOK f nn g g') : Rel nn 0 0 w' g' := by
  obtain ⟨u, ⟨u1, u2, u3, u4⟩, rfl⟩ := hc
  obtain ⟨m1, m2, m3, m4, m5, m6, m7, m8, m9, m10⟩ := hm
  obtain ⟨⟨g1, g2, g3, g4, g5, g6⟩, ⟨h2, h3, h4⟩, ⟨h5, h6⟩, h7, ⟨h8, h9⟩, h10, h11, h12⟩ := h
  have kc : ∀ {x : Int32} {k : Nat}, kcode x k → k ≤ 2 := fun z => by rcases z with ⟨_, rfl⟩ | ⟨_, rfl⟩ | ⟨_, rfl⟩ <;> omega
  have hfr : ∀ p, p < nn → ∃ a b, a < nn ∧ b < nn ∧ g'.1 6 (2 * p) = nI a ∧ g'.1 6 (2 * p + 1) = nI b := fun p hp => by
    obtain ⟨k, hh, a, b, t, z1, z2, z3, z4, z5⟩ := m10 p hp
    exact ⟨a, b, t.2.2.1.1, t.2.2.2.1, z3, z4⟩
  have hP : Pn nn g' := by
    refine ⟨m1, hn2, fun p hp => ?_, fun k hk => ?_, fun p hp => ?_, fun p hp => ?_⟩
    · obtain ⟨k, hh, a, b, t, z1, z2, z3, z4, z5⟩ := m10 p hp
      exact ⟨hh, t.2.1.1, t.2.1.2.1, z2⟩
    · obtain ⟨a, b, ha, hb, e1, e2⟩ := hfr (k / 2) (by omega)
      unfold fr
      rcases (show k = 2 * (k / 2) ∨ k = 2 * (k / 2) + 1 by omega) with e | e
      · rw [e, e1, nI_clamp (by omega)]; exact ⟨ha, rfl⟩
      · rw [e, e2, nI_clamp (by omega)]; exact ⟨hb, rfl⟩
    · obtain ⟨k, hh, a, b, t, z1, z2, z3, z4, z5⟩ := m10 p hp
      exact Or.inl z5
    · obtain ⟨k, hh, a, b, t, z1, z2, z3, z4, z5⟩ := m10 p hp
      exact ⟨k, kc t.1, z1⟩
  have ew : ∀ j, (j < 1 ∨ 5 < j) → j ≠ 6 → j ≠ 11 → (kset (kset u 6 0 0) 11 0 0).1 j = (kset w 0 6 0).1 j := fun j a b d => by
    rw [kset_row _ _ _ _ d, kset_row _ _ _ _ b]; exact u3 j a
  refine ⟨⟨hP, ⟨m2, by omega, fun k hk => absurd hk (Nat.not_lt_zero _)⟩, by omega, ⟨m3, by omega, fun k hk => absurd hk (Nat.not_lt_zero _)⟩, by rw [m6]; exact g5, ?_⟩, ⟨hP, u1, fun p hp => ?_⟩, ⟨rfl, fun k hk => absurd hk (Nat.not_lt_zero _)⟩, fun p hp => ?_, ⟨rfl, fun k hk => absurd hk (Nat.not_lt_zero _)⟩, fun k hk => ?_, ?_, ?_⟩
  · unfold Shv at *; rw [m7, m8]; exact g6
  · obtain ⟨k, hh, a, b, t, z1, z2, z3, z4, z5⟩ := m10 p hp
    obtain ⟨k', hh', a', b', t', y1, y2, y3, y4⟩ := u4 p hp
    obtain ⟨rfl, rfl, rfl, rfl⟩ := TP_inj hn2 t t'
    exact ⟨y1.trans z1.symm, y2.trans z2.symm, y3.trans z3.symm, y4.trans z4.symm⟩
  · obtain ⟨k, hh, a, b, t, z1, z2, z3, z4, z5⟩ := m10 p hp
    show bt (u.1 1 1) p = false ↔ _
    rw [u2, z5, b_0]; simp
  · refine (h10 k hk).of ?_ ?_ (by rw [m7]) (by rw [m8]) (fun x _ => by rw [m9])
    · rw [ew _ (by omega) (by omega) (by omega), kset_row _ _ _ _ (by omega)]
    · rw [ew _ (by omega) (by omega) (by omega), kset_row _ _ _ _ (by omega)]
  · rw [ew 0 (by decide) (by decide) (by decide), m5]; exact h11
  · rw [ew 0 (by decide) (by decide) (by decide), m4]; rfl
theorem coast_pair {n c q : Nat} {w g w' g' : kW} {x sort i m : Int32} {r r' : Option Value} (h : Rel n c q w g) (hc : CCo w g x sort i m r w') (hm : PCo g x sort i m r' g') : r = r' ∧ ∃ n c q, Rel n c q w' g' := by
  have h0 : ∀ y, Rel n c q (kset w 0 6 y) (kset g 0 0 y) := fun y => h.flt
  rcases hc with ⟨a1, rfl, a4⟩ | ⟨a1, a2, rfl, a4⟩ | ⟨a1, a2, a3, rfl, a4⟩ | ⟨a1, a2, a3, a4⟩
  · rcases hm with ⟨b1, rfl, rfl⟩ | ⟨b1, _⟩ | ⟨b1, _⟩ | ⟨b1, _⟩
    · exact ⟨rfl, n, c, q, (h0 0).k2 a4⟩
    all_goals exact absurd b1 a1
  · rcases hm with ⟨b1, _⟩ | ⟨b1, b2, rfl, rfl⟩ | ⟨b1, b2, _⟩ | ⟨b1, b2, _⟩
    · exact absurd a1 b1
    · exact ⟨rfl, n, c, q, (h0 0).k2 a4⟩
    all_goals exact absurd b2 a2
  · rcases hm with ⟨b1, _⟩ | ⟨b1, b2, _⟩ | ⟨b1, b2, b3, rfl, rfl⟩ | ⟨b1, b2, b3, _⟩
    · exact absurd a1 b1
    · exact absurd a2 b2
    · exact ⟨rfl, n, c, q, (h0 _).k2 a4⟩
    · exact absurd b3 a3
  · rcases hm with ⟨b1, _⟩ | ⟨b1, b2, _⟩ | ⟨b1, b2, b3, _⟩ | ⟨b1, b2, b3, b4⟩
    · exact absurd a1 b1
    · exact absurd a2 b2
    · exact absurd a3 b3
    · rcases a4 with ⟨t, t1, rfl, t3⟩ | ⟨nn, t1, rfl, t3⟩
      · rcases b4 with ⟨t', s1, rfl, s3⟩ | ⟨nn, s1, rfl, s3⟩
        · rw [FF_inj t1 s1]
          exact ⟨rfl, n, c, q, ((h0 0).k2 t3).mkc s3⟩
        · exact (FF_OKT t1 s1).elim
      · rcases b4 with ⟨t', s1, rfl, s3⟩ | ⟨nn', s1, rfl, s3⟩
        · exact (FF_OKT s1 t1).elim
        · have e := cnt_inj t1.1 s1.1
          subst e
          exact ⟨rfl, nn, 0, 0, coast_ok h t1.1.2.1 t3 s3⟩
set_option maxRecDepth 100000 in
set_option maxHeartbeats 1000000 in
theorem s_X7_coast {w g : kW} {n c qq : Nat} (hh : Rel n c qq w g) {x sort i m0 : Int32} : Spec shC yX7_coast cX7_coast 8 (some .int) 3 69 [.ref 0, .int x, .int sort, .int i, .int m0] w (fun r w' => CCo w g x sort i m0 r w') := by
  obtain ⟨hM, hRP, hRI, hRA, hRR, hRS, hRN⟩ := id hh
  obtain ⟨hP, hI, hc8, hRd, hu, hS⟩ := id hM
  have hn := hP.le
  have hh0 := hh.flt (x := 0)
  refine k_enter pn_X7 (Nat.le_of_ble_eq_true rfl) ?_
  refine b_aload_n dX7_coast_0 rfl ?_
  refine b_iconst (v := 0) dX7_coast_1 (by decide) ?_
  refine b_puti dX7_coast_2 gf_X7_50 gs_X7_6 rfl rfl ?_
  refine b_wd (w' := kset w 0 6 0) rfl ?_
  refine b_aload_n dX7_coast_5 rfl ?_
  refine b_iload_n dX7_coast_6 rfl ?_
  refine b_callV1 dX7_coast_7 lk_X7_54 rfl rfl rfl ⟨Nat.le_of_ble_eq_true rfl, Nat.le_of_ble_eq_true rfl⟩ (Nat.le_of_ble_eq_true rfl) (s_X7_sheetOf) (fun r w7 h7 => ?_)
  obtain ⟨rfl, h7⟩ := h7
  rcases h7 with ⟨k, hk, rfl, rfl⟩ | ⟨hnok, rfl⟩
  · refine b_astore dX7_coast_10 (by decide) ?_
    refine b_aload dX7_coast_12 rfl ?_
    refine b_ifnonnull (tgt := 19) dX7_coast_14 (by decide) ?_
    refine b_iload_n dX7_coast_19 rfl ?_
    refine b_callS1 dX7_coast_20 lk_X7_58 ⟨Nat.le_of_ble_eq_true rfl, Nat.le_of_ble_eq_true rfl⟩ (Nat.le_of_ble_eq_true rfl) (s_X7_isLane) (fun r w20 h20 => ?_)
    obtain ⟨rfl, h20⟩ := h20
    rcases h20 with ⟨rfl, h20⟩ | ⟨rfl, h20⟩
    · refine b_if_ne (tgt := 29) dX7_coast_23 (by decide) (fun h23 => ?_) (fun h23 => absurd h23 (by decide))
      refine b_aload dX7_coast_29 rfl ?_
      refine b_iload_n dX7_coast_31 rfl ?_
      refine b_iload_n dX7_coast_32 rfl ?_
      refine b_iload dX7_coast_33 rfl ?_
      refine b_callV3 dX7_coast_35 lk_X7_62 (shK hk) rfl rfl ⟨Nat.le_of_ble_eq_true rfl, Nat.le_of_ble_eq_true rfl⟩ (Nat.le_of_ble_eq_true rfl) (s_X5_faultOfTaking hk (hh0.2.2.2.2.2.1 k hk)) (fun r w35 h35 => ?_)
      obtain ⟨rfl, rfl⟩ := h35
      refine b_topi (y := mAg g k sort i m0) rfl ?_
      refine b_istore dX7_coast_38 (by decide) ?_
      refine b_iload dX7_coast_40 rfl ?_
      refine b_if_eq (tgt := 52) dX7_coast_42 (by decide) (fun h42 => ?_) (fun h42 => ?_)
      · obtain ⟨l, hl5, hl⟩ := (hS k hk).2
        have hag : mAg g k sort i m0 = 0 := h42
        obtain ⟨ii, m, rfl, rfl, him, hso2⟩ := mAg_0 hag hl hl5
        have eL : (kset w 0 6 0).1 (31 + k) 2 = nI l := by rw [kset_row _ _ _ _ (by omega), ← (hRS k hk).2.1]; exact hl
        have etxt : txt g (nI k) (nI ii) = (fun x => g.1 3 (50 * k + ii + x)) := by
          unfold txt
          rw [dn_nI (by omega), dn_nI (by omega)]
        have hf : ∀ s, s < m → (kset w 0 6 0).1 (35 + k) (ii + s) = g.1 3 (50 * k + ii + s) := fun s hs => by
          rw [Nat.add_assoc]; exact (hh0.2.2.2.2.2.1 k hk).2.2 (ii + s) (by omega)
        refine b_aload dX7_coast_52 rfl ?_
        refine b_iload_n dX7_coast_54 rfl ?_
        refine b_iload dX7_coast_55 rfl ?_
        refine b_callS3 dX7_coast_57 lk_X7_70 ⟨Nat.le_of_ble_eq_true rfl, Nat.le_of_ble_eq_true rfl⟩ (Nat.le_of_ble_eq_true rfl) (s_X6_firstFault (f := fun x => g.1 3 (50 * k + ii + x)) hk eL hl5 him hf) (fun r w57 h57 => ?_)
        obtain ⟨h57, rfl⟩ := h57
        rcases h57 with ⟨t, ht, rfl⟩ | ⟨nn, hok, rfl⟩
        · refine b_istore dX7_coast_60 (by decide) ?_
          refine b_iload dX7_coast_62 rfl ?_
          refine b_bipush (v := (-9)) dX7_coast_64 (by decide) ?_
          refine b_icmp_eq (tgt := 75) dX7_coast_66 (by decide) (fun h66 => ?_) (fun h66 => ?_)
          · exact absurd h66 (nI_ne9 (by have := ht.1; omega))
          · refine b_bipush (v := (-100)) dX7_coast_69 (by decide) ?_
            refine b_iload dX7_coast_71 rfl ?_
            refine b_isub dX7_coast_73 ?_
            refine b_iret dX7_coast_74 rfl (Or.inr (Or.inr (Or.inr ⟨sheet_in hk, h20, ?_, Or.inl ⟨t, ?_, rfl, fun _ _ => rfl⟩⟩)))
            · rw [dn_nI (show k < 2 ^ 31 by omega)]; exact hag
            · rw [etxt, dn_nI (by omega)]; exact ht
        · refine b_istore dX7_coast_60 (by decide) ?_
          refine b_iload dX7_coast_62 rfl ?_
          refine b_bipush (v := (-9)) dX7_coast_64 (by decide) ?_
          refine b_icmp_eq (tgt := 75) dX7_coast_66 (by decide) (fun h66 => ?_) (fun h66 => absurd h66 (by decide))
          refine b_aload dX7_coast_75 rfl ?_
          refine b_iload_n dX7_coast_77 rfl ?_
          refine b_aload_n dX7_coast_78 rfl ?_
          refine b_getr dX7_coast_79 gf_X7_14 rfl rfl ?_
          refine b_callS3 dX7_coast_82 lk_X7_76 ⟨Nat.le_of_ble_eq_true rfl, Nat.le_of_ble_eq_true rfl⟩ (Nat.le_of_ble_eq_true rfl) (s_X6_read (f := fun x => g.1 3 (50 * k + ii + x)) hk eL hl5 him hf hok) (fun r w82 h82 => ?_)
          obtain ⟨rfl, hu⟩ := h82
          refine b_aload_n dX7_coast_85 rfl ?_
          refine b_getr dX7_coast_86 gf_X7_23 rfl rfl ?_
          refine b_iconst (v := 0) dX7_coast_89 (by decide) ?_
          refine b_puti dX7_coast_90 gf_X7_80 gs_X0_0 rfl rfl ?_
          refine b_aload_n dX7_coast_93 rfl ?_
          refine b_getr dX7_coast_94 gf_X7_30 rfl rfl ?_
          refine b_iconst (v := 0) dX7_coast_97 (by decide) ?_
          refine b_puti dX7_coast_98 gf_X7_83 gs_X3_0 rfl rfl ?_
          refine b_aload_n dX7_coast_101 rfl ?_
          refine b_getr dX7_coast_102 gf_X7_14 rfl rfl ?_
          refine b_geti dX7_coast_105 gf_X7_84 rfl rfl ?_
          refine b_iret dX7_coast_108 rfl (Or.inr (Or.inr (Or.inr ⟨sheet_in hk, h20, ?_, Or.inr ⟨nn, ?_, congrArg (fun x => some (Value.int x)) hu.1, ?_⟩⟩)))
          · rw [dn_nI (show k < 2 ^ 31 by omega)]; exact hag
          · rw [etxt, dn_nI (by omega)]; exact hok
          · rw [etxt]; exact ⟨_, hu, rfl⟩
      · refine b_aload_n dX7_coast_45 rfl ?_
        refine b_iload dX7_coast_46 rfl ?_
        refine b_callV1 dX7_coast_48 lk_X7_66 rfl rfl rfl ⟨Nat.le_of_ble_eq_true rfl, Nat.le_of_ble_eq_true rfl⟩ (Nat.le_of_ble_eq_true rfl) (s_X7_faulted) (fun r w48 h48 => ?_)
        obtain ⟨rfl, rfl⟩ := h48
        refine b_iret dX7_coast_51 rfl (Or.inr (Or.inr (Or.inl ⟨sheet_in hk, h20, ?_, ?_, ?_⟩)))
        · rw [dn_nI (show k < 2 ^ 31 by omega)]; exact h42
        · rw [dn_nI (show k < 2 ^ 31 by omega)]
        · rw [dn_nI (show k < 2 ^ 31 by omega), kset_kset]; exact fun _ _ => rfl
    · refine b_if_ne (tgt := 29) dX7_coast_23 (by decide) (fun h23 => absurd h23 (by decide)) (fun h23 => ?_)
      refine b_bipush (v := (-2)) dX7_coast_26 (by decide) ?_
      exact b_iret dX7_coast_28 rfl (Or.inr (Or.inl ⟨sheet_in hk, h20, rfl, fun _ _ => rfl⟩))
  · refine b_astoreN dX7_coast_10 (by decide) ?_
    refine b_aloadN dX7_coast_12 rfl ?_
    refine b_ifnonnullN dX7_coast_14 ?_
    refine b_iconst (v := (-1)) dX7_coast_17 (by decide) ?_
    exact b_iret dX7_coast_18 rfl (Or.inl ⟨hnok, rfl, fun _ _ => rfl⟩)
end
section
def va_AOA (ty : FieldType) (U : State) : Prop := (Cond.arrayOver (.array ty)).before #[] U = true
theorem va_AOA.use {ty : FieldType} {A : Array Value} {U : State} (h : va_AOA ty U) : (Cond.arrayOver (.array ty)).before A U = true := h
theorem va_AOA.moved {ty : FieldType} {u U : State} (hvm : u.vm.Alike U.vm) (h : va_AOA ty u) : va_AOA ty U := by
  obtain ⟨comp, c, k, h1, h2, h3, h4, h5⟩ := arrayOverA_spec h
  obtain ⟨k', hk', he⟩ := hvm.2.2 _ _ h3
  have hi : (U.vm.classes.findIdx? fun (x : Class) => match x.kind with | .array component _ => component == comp | _ => false) = some c := by
    have e1 := va_idx_bare U.vm comp
    have e2 := va_idx_bare u.vm comp
    have eb : U.vm.bare = u.vm.bare := by first | exact hvm.bare_eq | exact hvm.bare_eq.symm
    rw [eb] at e1
    exact (e1.symm.trans e2).trans h2
  have hkind : k'.kind = .array comp (.array ty) := by rw [he]; exact h4
  have f1 : U.vm.findClass (FieldType.array ty).toString = some comp := by rw [hvm.findClass]; exact h1
  have f2 : U.vm.findClass ("[" ++ (FieldType.array ty).toString) = some c := by rw [hvm.findClass]; exact h5
  unfold va_AOA Cond.before Cond.holds
  simp only [Cond.value]
  rw [f1, Option.bind_some]
  refine (congrArg (fun o : Option Nat => (o.bind (fun c => (U.vm.classes[c]?).map fun (k : Class) => match k.kind with | .array _ t => decide (t = FieldType.array ty) && decide (U.vm.findClass ("[" ++ (FieldType.array ty).toString) = some c) | _ => false) == some true)) hi).trans ?_
  simp [hk', hkind, f2]
/-! ===== BEGIN new T[n][m]: the outer array a place, the inner ones among the pooled ===== -/
/-- f, but v at every address of l -/
def vr_up {α : Type} (f : Nat → α) (l : List Nat) (v : α) : Nat → α := fun a => if a ∈ l then v else f a
theorem vr_up_in {α : Type} {f : Nat → α} {l : List Nat} {v : α} {a : Nat} (h : a ∈ l) : vr_up f l v a = v := if_pos h
theorem vr_up_ne {α : Type} {f : Nat → α} {l : List Nat} {v : α} {a : Nat} (h : a ∉ l) : vr_up f l v a = f a := if_neg h
theorem vr_rows {L l : List Nat} {f : Nat → va_E} {e : va_E} (h : ∀ a, a ∈ l → a ∉ L) : va_pl L f ++ l.map (fun a => (a, e)) = va_pl (L ++ l) (vr_up f l e) := by
  unfold va_pl
  rw [List.map_append]
  congr 1
  · apply List.map_congr_left
    intro a ha
    rw [vr_up_ne (fun q => h a q ha)]
  · apply List.map_congr_left
    intro a ha
    rw [vr_up_in ha]
theorem vr_lay {X rows : va_W} {x : Nat × va_E} {pl : va_W} {D : va_G} {cl : List vw_C} {H : Heap} (hP : va_P D cl (((X ++ pl) ++ [x]) ++ rows) H) : va_P D cl ((X ++ [x]) ++ (pl ++ rows)) H := by
  rw [List.append_assoc (X ++ pl)] at hP
  have h := va_P.swap hP
  rw [← List.append_assoc X] at h
  have h2 := va_P.swap h
  rw [List.append_assoc (X ++ [x])] at h2
  exact h2
theorem vr_layD {X rows : va_W} {x : Nat × va_E} {pl : va_W} {A : Nat → Prop} (hD : va_D A (((X ++ pl) ++ [x]) ++ rows)) : va_D A ((X ++ [x]) ++ (pl ++ rows)) := by
  rw [List.append_assoc (X ++ pl)] at hD
  have h := va_D.swap hD
  rw [← List.append_assoc X] at h
  have h2 := va_D.swap h
  rw [List.append_assoc (X ++ [x])] at h2
  exact h2
theorem vr_outer (c : ClassId) (N h0 : Nat) : ∀ i : Nat, Jvm.Free.Multi.outerC c N h0 i = arrV c N (fun j => va_rf (if j < i then some (h0 + 1 + j) else none))
  | 0 => by
    show ({ cls := c, slots := Array.replicate N .null, vm := .none } : Cell) = _
    rw [arrV_new]
    refine congrArg (arrV c N) (funext fun j => ?_)
    simp [va_rf]
  | i + 1 => by
    show (Jvm.Free.Multi.outerC c N h0 i).setSlot i (.ref (h0 + 1 + i)) = _
    rw [vr_outer c N h0 i, arrV_store]
    refine congrArg (arrV c N) (funext fun j => ?_)
    by_cases e : j = i
    · subst e
      simp [updV, va_rf]
    · by_cases h : j < i
      · simp [updV, e, h, Nat.lt_succ_of_lt h]
      · simp [updV, e, h, show ¬ j < i + 1 by omega]
section VGM
variable {p : Program} {l : Launch} {e : Env} {R : Room} {s : State} {m : MethodId} {args : Array Value} {below : List Frame} {meth : Method} {c : Code} {H : Heap} {locs : List Loc} {cells slots : Nat} {Q : State → Prop}
variable {cc : ByteArray} {pc : Nat} {ls : Array Slot} {rest : List Value} {D : va_G} {cl : List vw_C} {A : Nat → Prop} {a : Nat} {tys : List (ClassId × FieldType)} {ws : va_W} {H0 : Heap}
theorem va_mna {X : va_W} {L : List Nat} {f : Nat → va_E} {cc : ByteArray} (hexec : p.tables.exec = Jvm.exec) (hb : c.code = cc) {own : String} {index : Nat} {ty : FieldType} {cy : ClassId} (hown : s.vm.findClass own = some m.cls) (hclink : (Cond.classLink own index ("[" ++ (FieldType.array ty).toString)).before args s = true) (hover : va_AOA ty s) (harr : (Cond.arrayClass ty).before args s = true) (hcy : s.vm.findClass (FieldType.array ty).toString = some cy)
    (hK : va_K D cl tys s) (hP : va_P D cl (X ++ va_pl L f) H) (hD : va_D A (X ++ va_pl L f)) (hS : va_S A H0 H locs) (hA : ∀ q, H0.size ≤ q → A q) {n k : Int32} {N' K' : Nat} {z : vp_A} (hn : ¬ n < 0) (hk : ¬ k < 0) (hN : n.toNatClampNeg = N') (hM : k.toNatClampNeg = K')
    (hb1 : N' * 4 ≤ 536870912) (hb2 : K' * componentBytes ty ≤ 536870912) (hb3 : K' ≤ 536870912) (hdf : fits ty (defaultValue ty) = true) (hdd : (defaultValue ty).isDefault = true) (hcells : cells + (1 + N') ≤ R.cells) (hslots : slots + (N' + N' * K') ≤ R.slots) (hz : ∀ c : ClassId, Jvm.Free.Multi.innerC c K' (defaultValue ty) = vp_cell c z) (hdg : decode cc pc = .ok (.multianewarray index 2, 4))
    (kk : ∀ (q : Nat) (r : Nat → Nat) (cA : ClassId) (H1 : Heap), (∀ i j : Nat, i < N' → j < N' → r i = r j → i = j) → (∀ i : Nat, i < N' → r i ∉ L) → va_K D cl (tys ++ [(cA, .array ty)]) s →
      va_P D cl ((X ++ [(q, .inl (cA, N', .inr (.inr (.inr (.inr (fun i => if i < N' then some (r i) else none))))))]) ++ va_pl (L ++ (List.range N').map r) (vr_up f ((List.range N').map r) (.inl (cy, z)))) H1 → va_D A ((X ++ [(q, .inl (cA, N', .inr (.inr (.inr (.inr (fun i => if i < N' then some (r i) else none))))))]) ++ va_pl (L ++ (List.range N').map r) (vr_up f ((List.range N').map r) (.inl (cy, z)))) → va_S A H0 H1 locs →
      W p l e R s m args below meth c H1 locs (cells + 1 + N') (slots + N' + N' * K') Q (F0 m (pc + 4) ls (.ref q :: rest))) : W p l e R s m args below meth c H locs cells slots Q (F0 m pc ls (.int k :: .int n :: rest)) := by
  subst hN
  subst hM
  intro T hT Xs
  obtain ⟨vm₁, cA, comp, -, fA, fC, hO, -, X', step⟩ := Xs.multianewarray2F hexec hown hclink (va_AOA.use hover) harr (g := F0 m pc ls (.int k :: .int n :: rest)) rfl (by rw [hb]; exact hdg) rfl hn hk hb1 hb2 hb3 hdf hdd hcells hslots
  have ec : some cy = some comp := hcy.symm.trans fC
  cases ec
  generalize hF : Jvm.Free.Multi.fill (T.setVm vm₁) cA cy n.toNatClampNeg k.toNatClampNeg (defaultValue ty) n.toNatClampNeg = F at X' step
  have hTh : (T.setVm vm₁).heap = H := hT
  obtain ⟨f1, f2, -, -⟩ := Jvm.Free.Multi.fill_facts (T.setVm vm₁) cA cy n.toNatClampNeg k.toNatClampNeg (defaultValue ty) n.toNatClampNeg
  rw [hF, hTh] at f1 f2
  have hold : ∀ x : Nat, x < H.size → F.heap[x]? = H[x]? := fun x hx => by
    have := Jvm.Free.Multi.fill_old (T.setVm vm₁) cA cy n.toNatClampNeg k.toNatClampNeg (defaultValue ty) (a := x) (by rw [hTh]; exact hx) n.toNatClampNeg
    rw [hF, hTh] at this
    exact this
  have hrow : ∀ j : Nat, j < n.toNatClampNeg → F.heap[H.size + 1 + j]? = some (vp_cell cy z) := fun j hj => by
    have := Jvm.Free.Multi.fill_inner (T.setVm vm₁) cA cy n.toNatClampNeg k.toNatClampNeg (defaultValue ty) n.toNatClampNeg j hj
    rw [hF, hTh, hz] at this
    exact this
  have hout : Jvm.Free.Multi.outerC cA n.toNatClampNeg H.size n.toNatClampNeg = vp_cell cA (n.toNatClampNeg, .inr (.inr (.inr (.inr (fun i => if i < n.toNatClampNeg then some (H.size + 1 + i) else none))))) := by
    rw [vp_cell_q]
    exact vr_outer cA n.toNatClampNeg H.size n.toNatClampNeg
  rw [hout] at f2
  have hlt : ∀ a, a ∈ L → a < H.size := fun a ha => by
    obtain ⟨k9, hk9⟩ := va_pl_get (X := X) (f := f) ha
    exact (hP k9 _ hk9).lt
  have hnl : ∀ i : Nat, i < n.toNatClampNeg → H.size + 1 + i ∉ L := fun i _ h => by
    have := hlt _ h
    omega
  have hnm : ∀ a, a ∈ (List.range n.toNatClampNeg).map (fun i => H.size + 1 + i) → a ∉ L := fun a ha h => by
    obtain ⟨i, -, rfl⟩ := List.mem_map.mp ha
    have := hlt _ h
    omega
  have hP0 : va_P D cl (X ++ va_pl L f) F.heap := hP.kept (fun k9 x hx => hold x.1 ((hP k9 x hx).lt))
  have hP1 : va_P D cl ((X ++ va_pl L f) ++ [(H.size, .inl (cA, n.toNatClampNeg, .inr (.inr (.inr (.inr (fun i => if i < n.toNatClampNeg then some (H.size + 1 + i) else none))))))]) F.heap := hP0.app (fun k9 x hx => by
    have h0 : k9 < 1 := (List.getElem?_eq_some_iff.mp hx).1
    rw [show k9 = 0 by omega] at hx
    cases hx
    exact f2)
  have hP2 : va_P D cl (((X ++ va_pl L f) ++ [(H.size, .inl (cA, n.toNatClampNeg, .inr (.inr (.inr (.inr (fun i => if i < n.toNatClampNeg then some (H.size + 1 + i) else none))))))]) ++ ((List.range n.toNatClampNeg).map (fun i => H.size + 1 + i)).map (fun a => (a, .inl (cy, z)))) F.heap := hP1.app (fun k9 x hx => by
    obtain ⟨a, ha, rfl⟩ := List.mem_map.mp (List.mem_of_getElem? hx)
    obtain ⟨i, hi, rfl⟩ := List.mem_map.mp ha
    exact hrow i (List.mem_range.mp hi))
  have hD2 : va_D A (((X ++ va_pl L f) ++ [(H.size, .inl (cA, n.toNatClampNeg, .inr (.inr (.inr (.inr (fun i => if i < n.toNatClampNeg then some (H.size + 1 + i) else none))))))]) ++ ((List.range n.toNatClampNeg).map (fun i => H.size + 1 + i)).map (fun a => (a, .inl (cy, z)))) := by
    have hD1 := hD.push (e := .inl (cA, n.toNatClampNeg, .inr (.inr (.inr (.inr (fun i => if i < n.toNatClampNeg then some (H.size + 1 + i) else none)))))) hP rfl (hA _ hS.1)
    generalize hW1 : (X ++ va_pl L f) ++ [(H.size, .inl (cA, n.toNatClampNeg, .inr (.inr (.inr (.inr (fun i => if i < n.toNatClampNeg then some (H.size + 1 + i) else none))))))] = W1 at hD1 hP1 ⊢
    have hle : ∀ (k9 : Nat) (x : Nat × va_E), W1[k9]? = some x → x.1 ≤ H.size := fun k9 x hx => by
      rw [← hW1] at hx
      by_cases hl : k9 < (X ++ va_pl L f).length
      · rw [List.getElem?_append_left hl] at hx
        exact Nat.le_of_lt ((hP k9 x hx).lt)
      · rw [List.getElem?_append_right (by omega)] at hx
        have h0 : k9 - (X ++ va_pl L f).length < 1 := (List.getElem?_eq_some_iff.mp hx).1
        rw [show k9 - (X ++ va_pl L f).length = 0 by omega] at hx
        cases hx
        exact Nat.le_refl _
    have hr : ∀ (k9 : Nat) (x : Nat × va_E), (((List.range n.toNatClampNeg).map (fun i => H.size + 1 + i)).map (fun a => ((a, .inl (cy, z)) : Nat × va_E)))[k9]? = some x → x.1 = H.size + 1 + k9 := fun k9 x hx => by
      rw [List.getElem?_map, List.getElem?_map] at hx
      by_cases h9 : k9 < n.toNatClampNeg
      · rw [List.getElem?_range h9] at hx
        cases hx
        rfl
      · have hn0 : (List.range n.toNatClampNeg)[k9]? = none := List.getElem?_eq_none (by rw [List.length_range]; omega)
        rw [hn0] at hx
        cases hx
    refine ⟨fun i j x y hi hj hxy => ?_, fun k9 x hx => ?_⟩
    · by_cases h1 : i < W1.length <;> by_cases h2 : j < W1.length
      · rw [List.getElem?_append_left h1] at hi
        rw [List.getElem?_append_left h2] at hj
        exact hD1.1 i j x y hi hj hxy
      · rw [List.getElem?_append_left h1] at hi
        rw [List.getElem?_append_right (by omega)] at hj
        have := hle _ _ hi
        have := hr _ _ hj
        omega
      · rw [List.getElem?_append_right (by omega)] at hi
        rw [List.getElem?_append_left h2] at hj
        have := hle _ _ hj
        have := hr _ _ hi
        omega
      · rw [List.getElem?_append_right (by omega)] at hi hj
        have := hr _ _ hi
        have := hr _ _ hj
        omega
    · by_cases h1 : k9 < W1.length
      · rw [List.getElem?_append_left h1] at hx
        exact hD1.2 k9 x hx
      · rw [List.getElem?_append_right (by omega)] at hx
        have := hr _ _ hx
        exact hA _ (by have := hS.1; omega)
  have hAr : ArrOfT s cA (.array ty) := fun N9 z9 => by
    obtain ⟨-, k9, hk9, cm9, hkk9⟩ := (hO 0 0 0).1
    exact ⟨(fun q hq => by cases hq), k9, hk9, cm9, hkk9⟩
  have hK2 : va_K D cl (tys ++ [(cA, .array ty)]) s := ⟨hK.1, fun k9 x hx => by
    by_cases hl : k9 < tys.length
    · rw [List.getElem?_append_left hl] at hx
      exact hK.2 k9 x hx
    · rw [List.getElem?_append_right (by omega)] at hx
      have h0 : k9 - tys.length < 1 := (List.getElem?_eq_some_iff.mp hx).1
      rw [show k9 - tys.length = 0 by omega] at hx
      cases hx
      exact ⟨hAr, fA⟩⟩
  obtain ⟨t, a1, b1⟩ := kk H.size (fun i => H.size + 1 + i) cA F.heap (fun i j _ _ h => by have h9 : H.size + 1 + i = H.size + 1 + j := h; omega) hnl hK2 (by rw [← vr_rows hnm]; exact vr_lay hP2) (by rw [← vr_rows hnm]; exact vr_layD hD2) ⟨by rw [f1]; have := hS.1; omega, fun x h1 h2 => (hold x (Nat.lt_of_lt_of_le h1 hS.1)).trans (hS.2.1 x h1 h2), hS.2.2⟩ F rfl X'
  refine ⟨t, step t ?_, b1⟩
  have e : T.heap.size = H.size := by rw [hT]
  rw [e]
  exact a1
end VGM
/-! ===== the judgement of constructors: worlds of explicit cells ===== -/
def k_O (U : State) : Prop := va_AO "DuelSeconds$Sheet" U ∧ va_AOA .int U
theorem k_O.warm {s U : State} (hW : s.WarmedH U.vm) (h : k_O s) : k_O U := ⟨va_AO.moved hW.alike h.1, va_AOA.moved hW.alike h.2⟩
def i_A (h0 sz : Nat) : Nat → Prop := fun q => q = h0 ∨ sz ≤ q
def i_cx (p : Program) (s : State) (m : MethodId) (args : Array Value) (meth : Method) (c : Code) (own : String) (cc : ByteArray) (n : Nat) (D : va_G) (ca : Nat → ClassId) : Prop :=
  p.tables.exec = Jvm.exec ∧ c.code = cc ∧ c.maxLocals = n ∧ s.vm.findClass own = some m.cls ∧ (∀ w ∈ cw, w.before args s = true) ∧ meth.sig.returnType = none ∧ meth.locks = false ∧ meth.name = "<init>" ∧ k_K D ca s ∧ k_O s
def i_Q (D : va_G) (ca : Nat → ClassId) (h0 sz : Nat) (Ψ : va_W → Prop) : Array Value → State → Outcome → State → Prop := va_Qv (fun W : va_W => Ψ W) (fun W t => va_P D vwCl W t.heap ∧ va_K D vwCl (k_tys ca) t ∧ va_D (i_A h0 sz) W) (i_A h0 sz)
def IB (D : va_G) (ca : Nat → ClassId) (h0 : Nat) (own : String) (cc : ByteArray) (n fr lo mc ms : Nat) (Ψ : va_W → Prop) (pc : Nat) (L : List (Nat × Value)) (st : List Value) (ws : va_W) (k j : Nat) : Prop :=
  ∀ (p : Program) (l : Launch) (e : Env) (s : State) (m : MethodId) (args : Array Value) (below : List Frame) (meth : Method) (c : Code) (H : Heap) (locs : List Loc) (ls : Array Slot),
    i_cx p s m args meth c own cc n D ca → va_P D vwCl ws H → va_D (i_A h0 s.heap.size) ws → va_S (i_A h0 s.heap.size) s.heap H locs → lv_has ls n L →
    W p l e ({ frames := fr, cells := mc, slots := ms, locals := lo } : Room) s m args below meth c H locs k j (MQ below (i_Q D ca h0 s.heap.size Ψ) args s mc ms (i_A h0 s.heap.size)) (F0 m pc ls st)
def ISpec (y : MethodName) (cc : ByteArray) (n fr lo mc ms ci : Nat) (fs As : List Value) (Ψ : (Nat → ClassId) → Nat → va_W → Prop) : Prop :=
  ∀ (l : Launch) (D : va_G) (ca : Nat → ClassId) (h0 sz : Nat), Met l y (.code y cc n none :: cw) ({ frames := fr, cells := mc, slots := ms, locals := lo } : Room) (va_Pc (.ref h0 :: As) (fun U => U.heap.size = sz ∧ va_P D vwCl [(h0, .inr (ci, fs))] U.heap ∧ (k_K D ca U ∧ k_O U) ∧ va_D (fun _ => True) [(h0, .inr (ci, fs))])) (i_Q D ca h0 sz (Ψ ca h0)) mc ms (i_A h0 sz)
theorem i_enter {y : MethodName} {cc : ByteArray} {n fr lo mc ms ci : Nat} {fs As : List Value} {Ψ : (Nat → ClassId) → Nat → va_W → Prop} (hy : plainName y.cls = true) (hyn : y.name = "<init>") (hn : (lg_sl (.ref 0 :: As)).length ≤ n) (h : ∀ D ca h0, IB D ca h0 y.cls cc n fr lo mc ms (Ψ ca h0) 0 (lv_args 0 (.ref h0 :: As)) [] [(h0, .inr (ci, fs))] 0 0) : ISpec y cc n fr lo mc ms ci fs As Ψ := by
  intro l D ca h0 sz
  refine Met.ofW (cc := cc) (maxL := n) (ret := none) hy rfl ?_
  intro p e s m args below meth c s₁ B hml hv
  obtain ⟨rfl, hsz, hP, hK, hD0⟩ := hv
  subst hsz
  have hts0 := atoms_spec (ws := .code y cc n none :: cw) B.pre
  have hts : ∀ w ∈ cw, w.before (.ref h0 :: As : List Value).toArray s = true := fun w hw => hts0 w (List.mem_cons_of_mem _ hw)
  have hl := lv_entry (.ref h0 :: As) (n := n) hn
  rw [lg_entry_eq]
  exact h D ca h0 p l e s m _ below meth c s.heap [] _ ⟨B.exec, B.bytes, hml, findClass_of_methodNamed B.named, hts, B.returns, B.notSynchronized, (name_of_methodNamed B.named B.method).1.trans hyn, hK⟩ hP (hD0.weaken (fun k q hk _ => by
    have hz : k < 1 := (List.getElem?_eq_some_iff.mp hk).1
    rw [show k = 0 by omega] at hk
    cases hk
    exact Or.inl rfl)) va_S.rf hl
theorem i_lget {n : Nat} {L : List (Nat × Value)} {ls : Array Slot} {i : Nat} {v : Value} (hl : lv_has ls n L) (h : L.lookup i = some v) : ls[i]? = some (.val v) := by
  have ev : ∀ v : Value, k_v id v = v := fun v => by cases v <;> rfl
  have e : k_L id L = L := by
    unfold k_L
    rw [show (fun q : Nat × Value => (q.1, k_v id q.2)) = id from funext fun q => by rw [ev]; rfl]
    simp
  have h1 := k_lget (ad := id) (by rw [e]; exact hl) h
  rw [ev] at h1
  exact h1
section IBR
variable {D : va_G} {ca : Nat → ClassId} {h0 : Nat} {own : String} {cc : ByteArray} {n fr lo mc ms : Nat} {Ψ : va_W → Prop} {pc : Nat} {L : List (Nat × Value)} {st : List Value} {ws : va_W} {k j : Nat}
theorem i_ws {ws' : va_W} (h : ws = ws') (kk : IB D ca h0 own cc n fr lo mc ms Ψ pc L st ws' k j) : IB D ca h0 own cc n fr lo mc ms Ψ pc L st ws k j := h ▸ kk
theorem i_aload {i : Fin 4} {a : Nat} (hd : decode cc pc = .ok (.aload_n i, 1)) (hv : L.lookup (i : Nat) = some (.ref a)) (kk : IB D ca h0 own cc n fr lo mc ms Ψ (pc + 1) L (.ref a :: st) ws k j) : IB D ca h0 own cc n fr lo mc ms Ψ pc L st ws k j := by
  intro p l e s m args below meth c H locs ls cx hP hD hS hl
  exact lv_aload_n cx.1 cx.2.1 hd rfl (i_lget hl hv) (kk p l e s m args below meth c H locs ls cx hP hD hS hl)
theorem i_iload {i : Fin 4} {x : Int32} (hd : decode cc pc = .ok (.iload_n i, 1)) (hv : L.lookup (i : Nat) = some (.int x)) (kk : IB D ca h0 own cc n fr lo mc ms Ψ (pc + 1) L (.int x :: st) ws k j) : IB D ca h0 own cc n fr lo mc ms Ψ pc L st ws k j := by
  intro p l e s m args below meth c H locs ls cx hP hD hS hl
  exact lv_iload_n cx.1 cx.2.1 hd rfl (i_lget hl hv) (kk p l e s m args below meth c H locs ls cx hP hD hS hl)
theorem i_iconst {v : Int32} {x : Int} (hd : decode cc pc = .ok (.iconst x, 1)) (hv : Int32.ofInt x = v) (kk : IB D ca h0 own cc n fr lo mc ms Ψ (pc + 1) L (.int v :: st) ws k j) : IB D ca h0 own cc n fr lo mc ms Ψ pc L st ws k j := by
  intro p l e s m args below meth c H locs ls cx hP hD hS hl
  exact lv_iconst cx.1 cx.2.1 hd hv (kk p l e s m args below meth c H locs ls cx hP hD hS hl)
theorem i_bipush {v : Int32} {x : Int} (hd : decode cc pc = .ok (.bipush x, 2)) (hv : (Int8.ofInt x).toInt32 = v) (kk : IB D ca h0 own cc n fr lo mc ms Ψ (pc + 2) L (.int v :: st) ws k j) : IB D ca h0 own cc n fr lo mc ms Ψ pc L st ws k j := by
  intro p l e s m args below meth c H locs ls cx hP hD hS hl
  exact lv_bipush cx.1 cx.2.1 hd hv (kk p l e s m args below meth c H locs ls cx hP hD hS hl)
theorem i_sipush {v : Int32} {x : Int} (hd : decode cc pc = .ok (.sipush x, 3)) (hv : (Int16.ofInt x).toInt32 = v) (kk : IB D ca h0 own cc n fr lo mc ms Ψ (pc + 3) L (.int v :: st) ws k j) : IB D ca h0 own cc n fr lo mc ms Ψ pc L st ws k j := by
  intro p l e s m args below meth c H locs ls cx hP hD hS hl
  exact lv_sipush cx.1 cx.2.1 hd hv (kk p l e s m args below meth c H locs ls cx hP hD hS hl)
theorem i_dup {v : Value} (hd : decode cc pc = .ok (.dup, 1)) (hv : v.category = 1) (kk : IB D ca h0 own cc n fr lo mc ms Ψ (pc + 1) L (v :: v :: st) ws k j) : IB D ca h0 own cc n fr lo mc ms Ψ pc L (v :: st) ws k j := by
  intro p l e s m args below meth c H locs ls cx hP hD hS hl
  exact lv_dup cx.1 cx.2.1 hd hv (kk p l e s m args below meth c H locs ls cx hP hD hS hl)
theorem i_goto {off : Int} {tgt : Nat} (hd : decode cc pc = .ok (.goto off, 3)) (ht : (pc : Int) + off = (tgt : Int)) (kk : IB D ca h0 own cc n fr lo mc ms Ψ tgt L st ws k j) : IB D ca h0 own cc n fr lo mc ms Ψ pc L st ws k j := by
  intro p l e s m args below meth c H locs ls cx hP hD hS hl
  exact lv_goto cx.1 cx.2.1 hd ht (kk p l e s m args below meth c H locs ls cx hP hD hS hl)
theorem i_obj {a ix : Nat} (hd : decode cc pc = .ok (.invokespecial ix, 3)) (hl1 : Cond.methodLink own ix Lib.objectInit ∈ cw) (hi : Cond.instanceMethod Lib.objectInit ∈ cw) (hc : Cond.code Lib.objectInit ⟨#[0xb1]⟩ 1 none ∈ cw) (hf : 1 ≤ fr) (hs : 8 + 12 ≤ lo) (hst : (st.map fun v => v.category).sum ≤ 8) (kk : IB D ca h0 own cc n fr lo mc ms Ψ (pc + 3) L st ws k j) : IB D ca h0 own cc n fr lo mc ms Ψ pc L (.ref a :: st) ws k j := by
  intro p l e s m args below meth c H locs ls cx hP hD hS hl
  refine W.objInit cx.1 cx.2.1 cx.2.2.2.1 (cx.2.2.2.2.1 _ hl1) (cx.2.2.2.2.1 _ hi) (cx.2.2.2.2.1 _ hc) rfl (by rw [cx.2.2.1]; exact hl.1) rfl hd hf ?_ (kk p l e s m args below meth c H locs ls cx hP hD hS hl)
  show 2 * 0 + (st.map fun v => v.category).sum + 12 ≤ lo
  omega
theorem i_vret (hd : decode cc pc = .ok (.return_, 1)) (hk : k ≤ mc) (hj : j ≤ ms) (h : Ψ ws) : IB D ca h0 own cc n fr lo mc ms Ψ pc L [] ws k j := by
  intro p l e s m args below meth c H locs ls cx hP hD hS hl
  refine W.widen (k := mc) (n := ms) hk hj ?_
  exact W.vret cx.1 cx.2.1 cx.2.2.2.2.2.1 (fun t ht hW => ⟨⟨ws, rfl, h, by rw [ht]; exact hP, va_K.moved hW.alike cx.2.2.2.2.2.2.2.2.1.1, hD⟩, hS.F ht⟩) hS.2.2 hd cx.2.2.2.2.2.2.1
end IBR
end
section
section IBH
variable {D : va_G} {ca : Nat → ClassId} {h0 : Nat} {own : String} {cc : ByteArray} {n fr lo mc ms : Nat} {Ψ : va_W → Prop} {pc : Nat} {L : List (Nat × Value)} {st : List Value} {ws : va_W} {k j : Nat}
theorem i_newa {at' : ArrayType} {t N : Nat} {x : Int32} (hd : decode cc pc = .ok (.newarray at', 2)) (ht : (at' = .int ∧ t = 0) ∨ (at' = .boolean ∧ t = 1)) (hw : Cond.arrayClass (newarray.typeOf at') ∈ cw) (hx : ¬ x < 0 ∧ x.toNatClampNeg = N) (hN : N ≤ 1000) (hk : k + 1 ≤ mc) (hj : j + N ≤ ms) (kk : ∀ q : Nat, IB D ca h0 own cc n fr lo mc ms Ψ (pc + 2) L (.ref q :: st) (ws ++ [(q, .inl (ca t, N, .inl (fun _ => 0)))]) (k + 1) (j + N)) : IB D ca h0 own cc n fr lo mc ms Ψ pc L (.int x :: st) ws k j := by
  intro p l e s m args below meth c H locs ls cx hP hD hS hl
  have hK := cx.2.2.2.2.2.2.2.2.1.1
  have hA : ∀ q, s.heap.size ≤ q → i_A h0 s.heap.size q := fun q h => Or.inr h
  rcases ht with ⟨rfl, rfl⟩ | ⟨rfl, rfl⟩
  · refine va_newa (ty := .int) (a0 := (N, .inl (fun _ => 0))) cx.1 cx.2.1 (cx.2.2.2.2.1 _ hw) rfl hK hP hD hS hA (fun _ => rfl) hx.1 hx.2 (by show N * 4 ≤ _; omega) hk hj hd (fun q cA H1 hK1 hP1 hD1 hS1 => ?_)
    have e1 : s.vm.findClass ("[" ++ FieldType.int.toString) = some cA := (hK1.2 4 (cA, .int) rfl).2
    have e2 : s.vm.findClass ("[" ++ FieldType.int.toString) = some (ca 0) := (hK.2 0 (ca 0, .int) rfl).2
    obtain rfl : ca 0 = cA := Option.some.inj (e2.symm.trans e1)
    exact kk q p l e s m args below meth c H1 locs ls cx hP1 hD1 hS1 hl
  · refine va_newa (ty := .boolean) (a0 := (N, .inl (fun _ => 0))) cx.1 cx.2.1 (cx.2.2.2.2.1 _ hw) rfl hK hP hD hS hA (fun _ => rfl) hx.1 hx.2 (by show N * 1 ≤ _; omega) hk hj hd (fun q cA H1 hK1 hP1 hD1 hS1 => ?_)
    have e1 : s.vm.findClass ("[" ++ FieldType.boolean.toString) = some cA := (hK1.2 4 (cA, .boolean) rfl).2
    have e2 : s.vm.findClass ("[" ++ FieldType.boolean.toString) = some (ca 1) := (hK.2 1 (ca 1, .boolean) rfl).2
    obtain rfl : ca 1 = cA := Option.some.inj (e2.symm.trans e1)
    exact kk q p l e s m args below meth c H1 locs ls cx hP1 hD1 hS1 hl
/-- a store into a final field of references -/
def k_ffs (own : String) (ci f : Nat) : Prop := ∃ (C : String) (T : u_T) (N : Nat) (t0 : Nat → FieldType) (ty : FieldType), vwCl[ci]? = some (C, T, N) ∧ (∀ a, a < N → parseFieldDescriptor (T a).2.2.1 = some (t0 a)) ∧ (∀ a, a < N → ∀ b, b < N → a ≠ b → (T a).2.1 ≠ (T b).2.1) ∧ (T f).2.2.2 = true ∧ (T f).1 = own ∧ parseFieldDescriptor (T f).2.2.1 = some ty ∧ (∀ a : Nat, narrow ty (.ref a) = .ref a ∧ fits ty (.ref a) = true)
theorem i_put {ix a b ci f i : Nat} {fs : List Value} (hd : decode cc pc = .ok (.putfield ix, 3)) (hF : k_fld own ix ci f) (hG : k_ffs own ci f) (he : ws[i]? = some (a, .inr (ci, fs))) (hl9 : f < fs.length) (kk : IB D ca h0 own cc n fr lo mc ms Ψ (pc + 3) L st (ws.set i (a, .inr (ci, fs.set f (.ref b)))) k j) : IB D ca h0 own cc n fr lo mc ms Ψ pc L (.ref b :: .ref a :: st) ws k j := by
  intro p l e s m args below meth c H locs ls cx hP hD hS hl
  obtain ⟨C, T, N, hcl, hin, hk, hlk⟩ := hF
  obtain ⟨C', T', N', t0, ty, hcl', hty, hnm, hfin, hdecl, hpd, hnf⟩ := hG
  cases hcl.symm.trans hcl'
  exact va_putF (v := .ref b) cx.1 cx.2.1 cx.2.2.2.2.1 hin t0 hty hnm cx.2.2.2.1 cx.2.2.2.2.2.2.2.2.1.1 hP hD hS i he hcl f hk (cx.2.2.2.2.1 _ hlk) (fun x h => h) hfin cx.2.2.2.2.2.2.2.1 hdecl hpd (hnf b).1 (hnf b).2 hl9 hd (fun H1 locs1 hP1 hD1 hS1 => kk p l e s m args below meth c H1 locs1 ls cx hP1 hD1 hS1 hl)
theorem i_get {ix a ci f i : Nat} {fs : List Value} {v : Value} (hd : decode cc pc = .ok (.getfield ix, 3)) (hF : k_fld own ix ci f) (he : ws[i]? = some (a, .inr (ci, fs))) (hv : fs[f]? = some v) (kk : IB D ca h0 own cc n fr lo mc ms Ψ (pc + 3) L (v :: st) ws k j) : IB D ca h0 own cc n fr lo mc ms Ψ pc L (.ref a :: st) ws k j := by
  intro p l e s m args below meth c H locs ls cx hP hD hS hl
  obtain ⟨C, T, N, hcl, hin, hk, hlk⟩ := hF
  exact va_get cx.1 cx.2.1 cx.2.2.2.2.1 hin cx.2.2.2.1 cx.2.2.2.2.2.2.2.2.1.1 hP i he hcl f hk (cx.2.2.2.2.1 _ hlk) (fun x h => h) hv hd (kk p l e s m args below meth c H locs ls cx hP hD hS hl)
theorem i_new {ix ci N : Nat} {C : String} {T : u_T} {fs : List Value} {ty : Nat → FieldType} (hd : decode cc pc = .ok (.new ix, 3)) (hc : vwCl[ci]? = some (C, T, N)) (hin : ∀ w ∈ u_ws C T N, w ∈ cw) (hty : ∀ k, k < N → parseFieldDescriptor (T k).2.2.1 = some (ty k)) (h1 : Cond.classLink own ix C ∈ cw) (h2 : Cond.instantiable C N ∈ cw) (h3 : Cond.initialized C ∈ cw) (hfs : ∀ j, j < N → defaultValue (ty j) = vp_V fs j) (hk : k + 1 ≤ mc) (hj : j + N ≤ ms) (kk : ∀ q : Nat, IB D ca h0 own cc n fr lo mc ms Ψ (pc + 3) L (.ref q :: st) (ws ++ [(q, .inr (ci, fs))]) (k + 1) (j + N)) : IB D ca h0 own cc n fr lo mc ms Ψ pc L st ws k j := by
  intro p l e s m args below meth c H locs ls cx hP hD hS hl
  exact va_new cx.1 cx.2.1 cx.2.2.2.2.1 hin ty hty cx.2.2.2.1 (cx.2.2.2.2.1 _ h1) (cx.2.2.2.2.1 _ h2) (cx.2.2.2.2.1 _ h3) cx.2.2.2.2.2.2.2.2.1.1 hP hD hS (fun q h => Or.inr h) hc hfs hk hj hd (fun q H1 hP1 hD1 hS1 => kk q p l e s m args below meth c H1 locs ls cx hP1 hD1 hS1 hl)
theorem i_newq {ix N : Nat} {x : Int32} (hd : decode cc pc = .ok (.anewarray ix, 3)) (h1 : Cond.classLink own ix "DuelSeconds$Sheet" ∈ cw) (hx : ¬ x < 0 ∧ x.toNatClampNeg = N) (hN : N ≤ 1000) (hk : k + 1 ≤ mc) (hj : j + N ≤ ms) (kk : ∀ q : Nat, IB D ca h0 own cc n fr lo mc ms Ψ (pc + 3) L (.ref q :: st) (ws ++ [(q, .inl (ca 2, N, .inr (.inr (.inr (.inr (fun _ => none))))))]) (k + 1) (j + N)) : IB D ca h0 own cc n fr lo mc ms Ψ pc L (.int x :: st) ws k j := by
  intro p l e s m args below meth c H locs ls cx hP hD hS hl
  have hK := cx.2.2.2.2.2.2.2.2.1.1
  refine va_newq cx.1 cx.2.1 cx.2.2.2.1 (cx.2.2.2.2.1 _ h1) cx.2.2.2.2.2.2.2.2.2.1 hK hP hD hS (fun q h => Or.inr h) hx.1 hx.2 (by omega) hk hj hd (fun q cA H1 hK1 hP1 hD1 hS1 => ?_)
  obtain ⟨_, _, _, _, _, e1⟩ := (hK1.2 4 (cA, .object "DuelSeconds$Sheet") rfl).2
  obtain ⟨_, _, _, _, _, e2⟩ := (hK.2 2 (ca 2, .object "DuelSeconds$Sheet") rfl).2
  obtain rfl : ca 2 = cA := Option.some.inj (e2.symm.trans e1)
  exact kk q p l e s m args below meth c H1 locs ls cx hP1 hD1 hS1 hl
theorem i_astq {a b i i2 N : Nat} {g : Nat → Option Nat} {x : Int32} {vs : List Value} {q : vw_C} {ci : Nat} (hd : decode cc pc = .ok (.aastore, 1)) (ha : ws[i]? = some (a, .inl (ca 2, N, .inr (.inr (.inr (.inr g)))))) (hv : ws[i2]? = some (b, .inr (ci, vs))) (hc : vwCl[ci]? = some q) (hq : q.1 = "DuelSeconds$Sheet") (hin : vp_in x N) (kk : IB D ca h0 own cc n fr lo mc ms Ψ (pc + 1) L st (ws.set i (a, .inl (ca 2, N, .inr (.inr (.inr (.inr (va_up g x.toNatClampNeg (some b)))))))) k j) : IB D ca h0 own cc n fr lo mc ms Ψ pc L (.ref b :: .int x :: .ref a :: st) ws k j := by
  intro p l e s m args below meth c H locs ls cx hP hD hS hl
  exact va_astq cx.1 cx.2.1 cx.2.2.2.2.2.2.2.2.1.1 hP hD hS i 2 i2 ci ha (by rw [hq]; rfl) hv hc hin hd (fun H1 locs1 hP1 hD1 hS1 => kk p l e s m args below meth c H1 locs1 ls cx hP1 hD1 hS1 hl)
theorem i_mna {ix : Nat} (hd : decode cc pc = .ok (.multianewarray ix 2, 4)) (h1 : Cond.classLink own ix "[[I" ∈ cw) (hw : Cond.arrayClass .int ∈ cw) (hk : k + 7 ≤ mc) (hj : j + (6 + 6 * 180) ≤ ms) (kk : ∀ (q : Nat) (r : Nat → Nat), IB D ca h0 own cc n fr lo mc ms Ψ (pc + 4) L (.ref q :: st) (ws ++ ((q, .inl (ca 3, 6, .inr (.inr (.inr (.inr (fun i => if i < 6 then some (r i) else none)))))) :: [(r 0, .inl (ca 0, 180, .inl (fun _ => 0))), (r 1, .inl (ca 0, 180, .inl (fun _ => 0))), (r 2, .inl (ca 0, 180, .inl (fun _ => 0))), (r 3, .inl (ca 0, 180, .inl (fun _ => 0))), (r 4, .inl (ca 0, 180, .inl (fun _ => 0))), (r 5, .inl (ca 0, 180, .inl (fun _ => 0)))])) (k + 7) (j + (6 + 6 * 180))) : IB D ca h0 own cc n fr lo mc ms Ψ pc L (.int 180 :: .int 6 :: st) ws k j := by
  intro p l e s m args below meth c H locs ls cx hP hD hS hl
  have hK := cx.2.2.2.2.2.2.2.2.1.1
  have e2 : s.vm.findClass (FieldType.array .int).toString = some (ca 0) := (hK.2 0 (ca 0, .int) rfl).2
  refine va_mna (X := ws) (L := []) (f := fun _ => .inr (0, [])) (ty := .int) (cy := ca 0) (z := (180, .inl (fun _ => 0))) cx.1 cx.2.1 cx.2.2.2.1 (cx.2.2.2.2.1 _ h1) cx.2.2.2.2.2.2.2.2.2.2 (cx.2.2.2.2.1 _ hw) e2 hK (by rw [show va_pl [] (fun _ => (.inr (0, []) : va_E)) = [] from rfl, List.append_nil]; exact hP) (by rw [show va_pl [] (fun _ => (.inr (0, []) : va_E)) = [] from rfl, List.append_nil]; exact hD) hS (fun q h => Or.inr h) (n := 6) (k := 180) (N' := 6) (K' := 180) (by decide) (by decide) (by decide) (by decide) (by decide) (by decide) (by decide) rfl rfl (by omega) (by omega) (fun c => ?_) hd (fun q r cA H1 hr1 hr2 hK1 hP1 hD1 hS1 => ?_)
  · show ({ cls := c, slots := Array.replicate 180 (.int 0), vm := .none } : Cell) = arrV c 180 (fun _ => .int 0)
    exact arrV_new ..
  · have e1 : s.vm.findClass ("[" ++ (FieldType.array .int).toString) = some cA := (hK1.2 4 (cA, .array .int) rfl).2
    have e3 : s.vm.findClass ("[" ++ (FieldType.array .int).toString) = some (ca 3) := (hK.2 3 (ca 3, .array .int) rfl).2
    obtain rfl : ca 3 = cA := Option.some.inj (e3.symm.trans e1)
    have el : va_pl ([] ++ (List.range 6).map r) (vr_up (fun _ => (.inr (0, []) : va_E)) ((List.range 6).map r) (.inl (ca 0, 180, .inl (fun _ => 0)))) = [(r 0, .inl (ca 0, 180, .inl (fun _ => 0))), (r 1, .inl (ca 0, 180, .inl (fun _ => 0))), (r 2, .inl (ca 0, 180, .inl (fun _ => 0))), (r 3, .inl (ca 0, 180, .inl (fun _ => 0))), (r 4, .inl (ca 0, 180, .inl (fun _ => 0))), (r 5, .inl (ca 0, 180, .inl (fun _ => 0)))] := by
      have hm : ∀ i, i < 6 → vr_up (fun _ => (.inr (0, []) : va_E)) ((List.range 6).map r) (.inl (ca 0, 180, .inl (fun _ => 0))) (r i) = .inl (ca 0, 180, .inl (fun _ => 0)) := fun i hi => vr_up_in (List.mem_map.mpr ⟨i, List.mem_range.mpr hi, rfl⟩)
      show [(r 0, vr_up _ _ _ (r 0)), (r 1, vr_up _ _ _ (r 1)), (r 2, vr_up _ _ _ (r 2)), (r 3, vr_up _ _ _ (r 3)), (r 4, vr_up _ _ _ (r 4)), (r 5, vr_up _ _ _ (r 5))] = _
      rw [hm 0 (by decide), hm 1 (by decide), hm 2 (by decide), hm 3 (by decide), hm 4 (by decide), hm 5 (by decide)]
    rw [el, List.append_assoc] at hP1 hD1
    exact kk q r p l e s m args below meth c H1 locs ls cx hP1 hD1 hS1 hl
theorem i_istore {i : Fin 4} {x : Int32} {L' : List (Nat × Value)} (hd : decode cc pc = .ok (.istore_n i, 1)) (hi : (i : Nat) < n) (hL : ((i : Nat), Value.int x) :: L.filter (fun q => !(q.1 == (i : Nat)) && !(q.1 + 1 == (i : Nat) && q.2.category == 2)) = L') (kk : IB D ca h0 own cc n fr lo mc ms Ψ (pc + 1) L' st ws k j) : IB D ca h0 own cc n fr lo mc ms Ψ pc L (.int x :: st) ws k j := by
  intro p l e s m args below meth c H locs ls cx hP hD hS hl
  exact lv_istore_n (lv' := L') cx.1 cx.2.1 hd rfl hl hi hL (fun ls hl => kk p l e s m args below meth c H locs ls cx hP hD hS hl)
theorem i_iinc {i a : Nat} {d : Int} {x v : Int32} {L' : List (Nat × Value)} (hd : decode cc pc = .ok (.iinc i d, 3)) (ha : L[a]? = some (i, .int x)) (hv : x + Int32.ofInt d = v) (hi : i < n) (hL : (i, Value.int v) :: L.filter (fun q => !(q.1 == i) && !(q.1 + 1 == i && q.2.category == 2)) = L') (kk : IB D ca h0 own cc n fr lo mc ms Ψ (pc + 3) L' st ws k j) : IB D ca h0 own cc n fr lo mc ms Ψ pc L st ws k j := by
  intro p l e s m args below meth c H locs ls cx hP hD hS hl
  exact lv_iinc (lv' := L') cx.1 cx.2.1 hd hl ha hv hi hL (fun ls hl => kk p l e s m args below meth c H locs ls cx hP hD hS hl)
theorem i_icmp_ge {x y : Int32} {off : Int} {tgt : Nat} (hd : decode cc pc = .ok (.if_icmp .ge off, 3)) (ht : (pc : Int) + off = (tgt : Int)) (kt : y ≤ x → IB D ca h0 own cc n fr lo mc ms Ψ tgt L st ws k j) (kf : ¬ y ≤ x → IB D ca h0 own cc n fr lo mc ms Ψ (pc + 3) L st ws k j) : IB D ca h0 own cc n fr lo mc ms Ψ pc L (.int y :: .int x :: st) ws k j := by
  intro p l e s m args below meth c H locs ls cx hP hD hS hl
  exact lv_icmp_ge cx.1 cx.2.1 hd ht (fun h => kt h p l e s m args below meth c H locs ls cx hP hD hS hl) (fun h => kf h p l e s m args below meth c H locs ls cx hP hD hS hl)
theorem i_call {z : MethodName} {zc : ByteArray} {zn zf zl zmc zms ix a q ci i : Nat} {fs As : List Value} {wr : va_W} {Ψz : (Nat → ClassId) → Nat → va_W → Prop} (isR : List Nat) (hd : decode cc pc = .ok (.invokespecial ix, 3)) (hlk : Cond.methodLink own ix z ∈ cw) (h2 : Cond.initialized z.cls ∈ cw) (h3 : Cond.code z zc zn none ∈ cw) (h4 : z.cls ≠ "java/lang/invoke/MethodHandle" ∧ z.cls ≠ "java/lang/invoke/VarHandle" ∧ (parseMethodDescriptor z.desc).map (fun d => d.parameters.length) = some a) (h5 : Cond.instanceMethod z ∈ cw) (hzn : z.name = "<init>") (hn : As.length = a) (hR : zf + 1 ≤ fr ∧ 8 + (zn + 11) + zl ≤ lo) (hs : (st.map fun v => v.category).sum ≤ 8) (hkj : k + zmc ≤ mc ∧ j + zms ≤ ms)
    (hM : ISpec z zc zn zf zl zmc zms ci fs As Ψz) (hC : ws[i]? = some (q, .inr (ci, fs))) (hRr : isR.map (fun i => ws[i]?) = wr.map some) (hnd : va_nd isR = true) (hdis : i ∉ isR) (kk : ∀ W : va_W, Ψz ca q W → IB D ca h0 own cc n fr lo mc ms Ψ (pc + 3) L st (wr ++ W) (k + zmc) (j + zms)) : IB D ca h0 own cc n fr lo mc ms Ψ pc L (As.reverse ++ .ref q :: st) ws k j := by
  intro p l e s m args below meth c H locs ls cx hP hD hS hl
  have hK := cx.2.2.2.2.2.2.2.2.1
  have hts := cx.2.2.2.2.1
  have hPc : va_P D vwCl [(q, .inr (ci, fs))] H := hP.sub [i] (by simp [hC])
  have hDc : va_D (i_A h0 s.heap.size) [(q, .inr (ci, fs))] := hD.sub [i] (by rfl) (by simp [hC])
  have hA0 : ∀ x, i_A q H.size x → i_A h0 s.heap.size x := fun x h => h.elim (fun e => by subst e; exact hD.2 i _ hC) (fun h => Or.inr (Nat.le_trans hS.1 h))
  have hAv : ∀ x, va_A [(q, .inr (ci, fs))] H.size x ↔ i_A q H.size x := fun x => ⟨fun h => h.elim (fun ⟨k9, e9, h9⟩ => by
    have hz : k9 < 1 := (List.getElem?_eq_some_iff.mp h9).1
    rw [show k9 = 0 by omega] at h9
    cases h9
    exact Or.inl rfl) Or.inr, fun h => h.elim (fun e => Or.inl ⟨0, _, by subst e; rfl⟩) Or.inr⟩
  refine va_callv (va_runI (As := As) (rest := st) (b := q) ⟨cx.1, cx.2.1, cx.2.2.1, cx.2.2.2.1, hts⟩ (hM l D ca q H.size) ⟨callB_of a hts (k_goodIn h3) rfl rfl rfl (hts _ h2) (hts _ hlk) h4 hR, hzn, hts _ h5⟩ ⟨fun a U g mk q => ?_, fun U hU hW => ⟨rfl, by rw [hU], by rw [hU]; exact hPc, ⟨k_K.warm hW hK, k_O.warm hW cx.2.2.2.2.2.2.2.2.2⟩, hDc.weaken (fun _ _ _ _ => trivial)⟩⟩ rfl hn hl.1 rfl (lv_room hs) hd hkj) hS (fun x _ h => hA0 x h) (fun x h => hA0 x h) (fun W t H1 locs1 ht hvm hw hB hz1 hk1 hS1 => ?_)
  · obtain ⟨q0, q1, qP, qK, qD⟩ := q
    exact ⟨q0, q1, qP, ⟨⟨va_K.moved (u := U) (U := U.calling g mk a) (Vm.Alike.refl U.vm) qK.1.1, k_N.same (s := U) (U := U.calling g mk a) rfl qK.1.2⟩, ⟨va_AO.moved (u := U) (U := U.calling g mk a) (Vm.Alike.refl U.vm) qK.2.1, va_AOA.moved (u := U) (U := U.calling g mk a) (Vm.Alike.refl U.vm) qK.2.2⟩⟩, qD⟩
  · obtain ⟨hP1, hK1, hD1⟩ := hB
    rw [ht] at hP1
    obtain ⟨hP2, hD2⟩ := va_join (wc := [(q, .inr (ci, fs))]) (wr := wr) (w1 := W) hP hD [i] isR (by simp [hC]) hRr hnd (fun x hx h => by
      rw [List.mem_singleton] at h
      subst h
      exact hdis hx) (fun x h1 h2 => hk1 x h1 (fun y => h2 ((hAv x).mpr y))) (fun x h => hA0 x ((hAv x).mp h)) hP1 (hD1.weaken (fun _ _ _ h => (hAv _).mpr h))
    exact kk W hw p l e s m args below meth c H1 locs1 ls cx hP2 hD2 hS1 hl
theorem i_callN {z : MethodName} {zc : ByteArray} {zn zf zl zmc zms ix a q ci i : Nat} {fs As : List Value} {wr : va_W} {Ψz : (Nat → ClassId) → Nat → va_W → Prop} (isR : List Nat) (hd : decode cc pc = .ok (.invokespecial ix, 3)) (hlk : ∃ host : String, (own, ix, z, host) ∈ nst) (h2 : Cond.initialized z.cls ∈ cw) (h3 : Cond.code z zc zn none ∈ cw) (h4 : z.cls ≠ "java/lang/invoke/MethodHandle" ∧ z.cls ≠ "java/lang/invoke/VarHandle" ∧ (parseMethodDescriptor z.desc).map (fun d => d.parameters.length) = some a) (h5 : Cond.instanceMethod z ∈ cw) (hzn : z.name = "<init>") (hn : As.length = a) (hR : zf + 1 ≤ fr ∧ 8 + (zn + 11) + zl ≤ lo) (hs : (st.map fun v => v.category).sum ≤ 8) (hkj : k + zmc ≤ mc ∧ j + zms ≤ ms)
    (hM : ISpec z zc zn zf zl zmc zms ci fs As Ψz) (hC : ws[i]? = some (q, .inr (ci, fs))) (hRr : isR.map (fun i => ws[i]?) = wr.map some) (hnd : va_nd isR = true) (hdis : i ∉ isR) (kk : ∀ W : va_W, Ψz ca q W → IB D ca h0 own cc n fr lo mc ms Ψ (pc + 3) L st (wr ++ W) (k + zmc) (j + zms)) : IB D ca h0 own cc n fr lo mc ms Ψ pc L (As.reverse ++ .ref q :: st) ws k j := by
  intro p l e s m args below meth c H locs ls cx hP hD hS hl
  have hK := cx.2.2.2.2.2.2.2.2.1
  have hts := cx.2.2.2.2.1
  have hPc : va_P D vwCl [(q, .inr (ci, fs))] H := hP.sub [i] (by simp [hC])
  have hDc : va_D (i_A h0 s.heap.size) [(q, .inr (ci, fs))] := hD.sub [i] (by rfl) (by simp [hC])
  have hA0 : ∀ x, i_A q H.size x → i_A h0 s.heap.size x := fun x h => h.elim (fun e => by subst e; exact hD.2 i _ hC) (fun h => Or.inr (Nat.le_trans hS.1 h))
  have hAv : ∀ x, va_A [(q, .inr (ci, fs))] H.size x ↔ i_A q H.size x := fun x => ⟨fun h => h.elim (fun ⟨k9, e9, h9⟩ => by
    have hz : k9 < 1 := (List.getElem?_eq_some_iff.mp h9).1
    rw [show k9 = 0 by omega] at h9
    cases h9
    exact Or.inl rfl) Or.inr, fun h => h.elim (fun e => Or.inl ⟨0, _, by subst e; rfl⟩) Or.inr⟩
  refine va_callv (va_runIN (As := As) (rest := st) (b := q) ⟨cx.1, cx.2.1, cx.2.2.1, cx.2.2.2.1, hts⟩ (hM l D ca q H.size) ⟨va_cnB a hts (k_goodIn h3) rfl rfl rfl (hK.2 _ hlk.choose_spec) (hts _ h2) h4 hR, hzn, hts _ h5⟩ ⟨fun a U g mk q => ?_, fun U hU hW => ⟨rfl, by rw [hU], by rw [hU]; exact hPc, ⟨k_K.warm hW hK, k_O.warm hW cx.2.2.2.2.2.2.2.2.2⟩, hDc.weaken (fun _ _ _ _ => trivial)⟩⟩ rfl hn hl.1 rfl (lv_room hs) hd hkj) hS (fun x _ h => hA0 x h) (fun x h => hA0 x h) (fun W t H1 locs1 ht hvm hw hB hz1 hk1 hS1 => ?_)
  · obtain ⟨q0, q1, qP, qK, qD⟩ := q
    exact ⟨q0, q1, qP, ⟨⟨va_K.moved (u := U) (U := U.calling g mk a) (Vm.Alike.refl U.vm) qK.1.1, k_N.same (s := U) (U := U.calling g mk a) rfl qK.1.2⟩, ⟨va_AO.moved (u := U) (U := U.calling g mk a) (Vm.Alike.refl U.vm) qK.2.1, va_AOA.moved (u := U) (U := U.calling g mk a) (Vm.Alike.refl U.vm) qK.2.2⟩⟩, qD⟩
  · obtain ⟨hP1, hK1, hD1⟩ := hB
    rw [ht] at hP1
    obtain ⟨hP2, hD2⟩ := va_join (wc := [(q, .inr (ci, fs))]) (wr := wr) (w1 := W) hP hD [i] isR (by simp [hC]) hRr hnd (fun x hx h => by
      rw [List.mem_singleton] at h
      subst h
      exact hdis hx) (fun x h1 h2 => hk1 x h1 (fun y => h2 ((hAv x).mpr y))) (fun x h => hA0 x ((hAv x).mp h)) hP1 (hD1.weaken (fun _ _ _ h => (hAv _).mpr h))
    exact kk W hw p l e s m args below meth c H1 locs1 ls cx hP2 hD2 hS1 hl
end IBH
end
section
theorem ob_i : Cond.instanceMethod Lib.objectInit ∈ cw := (cw_1 17 rfl rfl)
theorem ob_c : Cond.code Lib.objectInit ⟨#[0xb1]⟩ 1 none ∈ cw := (cw_1 18 rfl rfl)
theorem aw_int : Cond.arrayClass .int ∈ cw := (cw_1 58 rfl rfl)
theorem aw_bool : Cond.arrayClass .boolean ∈ cw := (cw_1 106 rfl rfl)
theorem ff_X0_1 : k_ffs RX0 0 1 := ⟨RX0, TX0, 5, tyX0, tyX0 1, rfl, tyX0_ok, nmX0, rfl, rfl, tyX0_ok 1 (by decide), fun _ => ⟨rfl, rfl⟩⟩
theorem ff_X0_2 : k_ffs RX0 0 2 := ⟨RX0, TX0, 5, tyX0, tyX0 2, rfl, tyX0_ok, nmX0, rfl, rfl, tyX0_ok 2 (by decide), fun _ => ⟨rfl, rfl⟩⟩
theorem ff_X0_3 : k_ffs RX0 0 3 := ⟨RX0, TX0, 5, tyX0, tyX0 3, rfl, tyX0_ok, nmX0, rfl, rfl, tyX0_ok 3 (by decide), fun _ => ⟨rfl, rfl⟩⟩
theorem ff_X0_4 : k_ffs RX0 0 4 := ⟨RX0, TX0, 5, tyX0, tyX0 4, rfl, tyX0_ok, nmX0, rfl, rfl, tyX0_ok 4 (by decide), fun _ => ⟨rfl, rfl⟩⟩
theorem ff_X1_1 : k_ffs RX1 1 1 := ⟨RX1, TX1, 2, tyX1, tyX1 1, rfl, tyX1_ok, nmX1, rfl, rfl, tyX1_ok 1 (by decide), fun _ => ⟨rfl, rfl⟩⟩
theorem ff_X2_2 : k_ffs RX2 2 2 := ⟨RX2, TX2, 6, tyX2, tyX2 2, rfl, tyX2_ok, nmX2, rfl, rfl, tyX2_ok 2 (by decide), fun _ => ⟨rfl, rfl⟩⟩
theorem ff_X2_3 : k_ffs RX2 2 3 := ⟨RX2, TX2, 6, tyX2, tyX2 3, rfl, tyX2_ok, nmX2, rfl, rfl, tyX2_ok 3 (by decide), fun _ => ⟨rfl, rfl⟩⟩
theorem ff_X2_4 : k_ffs RX2 2 4 := ⟨RX2, TX2, 6, tyX2, tyX2 4, rfl, tyX2_ok, nmX2, rfl, rfl, tyX2_ok 4 (by decide), fun _ => ⟨rfl, rfl⟩⟩
theorem ff_X2_5 : k_ffs RX2 2 5 := ⟨RX2, TX2, 6, tyX2, tyX2 5, rfl, tyX2_ok, nmX2, rfl, rfl, tyX2_ok 5 (by decide), fun _ => ⟨rfl, rfl⟩⟩
theorem ff_X3_1 : k_ffs RX3 3 1 := ⟨RX3, TX3, 4, tyX3, tyX3 1, rfl, tyX3_ok, nmX3, rfl, rfl, tyX3_ok 1 (by decide), fun _ => ⟨rfl, rfl⟩⟩
theorem ff_X3_2 : k_ffs RX3 3 2 := ⟨RX3, TX3, 4, tyX3, tyX3 2, rfl, tyX3_ok, nmX3, rfl, rfl, tyX3_ok 2 (by decide), fun _ => ⟨rfl, rfl⟩⟩
theorem ff_X3_3 : k_ffs RX3 3 3 := ⟨RX3, TX3, 4, tyX3, tyX3 3, rfl, tyX3_ok, nmX3, rfl, rfl, tyX3_ok 3 (by decide), fun _ => ⟨rfl, rfl⟩⟩
theorem ff_X4_0 : k_ffs RX4 4 0 := ⟨RX4, TX4, 11, tyX4, tyX4 0, rfl, tyX4_ok, nmX4, rfl, rfl, tyX4_ok 0 (by decide), fun _ => ⟨rfl, rfl⟩⟩
theorem ff_X4_2 : k_ffs RX4 4 2 := ⟨RX4, TX4, 11, tyX4, tyX4 2, rfl, tyX4_ok, nmX4, rfl, rfl, tyX4_ok 2 (by decide), fun _ => ⟨rfl, rfl⟩⟩
theorem ff_X4_3 : k_ffs RX4 4 3 := ⟨RX4, TX4, 11, tyX4, tyX4 3, rfl, tyX4_ok, nmX4, rfl, rfl, tyX4_ok 3 (by decide), fun _ => ⟨rfl, rfl⟩⟩
theorem ff_X4_4 : k_ffs RX4 4 4 := ⟨RX4, TX4, 11, tyX4, tyX4 4, rfl, tyX4_ok, nmX4, rfl, rfl, tyX4_ok 4 (by decide), fun _ => ⟨rfl, rfl⟩⟩
theorem ff_X4_6 : k_ffs RX4 4 6 := ⟨RX4, TX4, 11, tyX4, tyX4 6, rfl, tyX4_ok, nmX4, rfl, rfl, tyX4_ok 6 (by decide), fun _ => ⟨rfl, rfl⟩⟩
theorem ff_X5_3 : k_ffs RX5 5 3 := ⟨RX5, TX5, 4, tyX5, tyX5 3, rfl, tyX5_ok, nmX5, rfl, rfl, tyX5_ok 3 (by decide), fun _ => ⟨rfl, rfl⟩⟩
theorem ff_X7_0 : k_ffs RX7 6 0 := ⟨RX7, TX7, 7, tyX7, tyX7 0, rfl, tyX7_ok, nmX7, rfl, rfl, tyX7_ok 0 (by decide), fun _ => ⟨rfl, rfl⟩⟩
theorem ff_X7_1 : k_ffs RX7 6 1 := ⟨RX7, TX7, 7, tyX7, tyX7 1, rfl, tyX7_ok, nmX7, rfl, rfl, tyX7_ok 1 (by decide), fun _ => ⟨rfl, rfl⟩⟩
theorem ff_X7_2 : k_ffs RX7 6 2 := ⟨RX7, TX7, 7, tyX7, tyX7 2, rfl, tyX7_ok, nmX7, rfl, rfl, tyX7_ok 2 (by decide), fun _ => ⟨rfl, rfl⟩⟩
theorem ff_X7_3 : k_ffs RX7 6 3 := ⟨RX7, TX7, 7, tyX7, tyX7 3, rfl, tyX7_ok, nmX7, rfl, rfl, tyX7_ok 3 (by decide), fun _ => ⟨rfl, rfl⟩⟩
theorem ff_X7_4 : k_ffs RX7 6 4 := ⟨RX7, TX7, 7, tyX7, tyX7 4, rfl, tyX7_ok, nmX7, rfl, rfl, tyX7_ok 4 (by decide), fun _ => ⟨rfl, rfl⟩⟩
def X0_psi (N : Nat) : (Nat → ClassId) → Nat → va_W → Prop := fun ca h0 W => ∃ q1 : Nat, ∃ q2 : Nat, ∃ q3 : Nat, ∃ q4 : Nat, W = [(h0, .inr (0, [.int 0, .ref q1, .ref q2, .ref q3, .ref q4])), (q1, .inl (ca 0, N, .inl (fun _ => 0))), (q2, .inl (ca 0, N, .inl (fun _ => 0))), (q3, .inl (ca 0, N, .inl (fun _ => 0))), (q4, .inl (ca 0, N, .inl (fun _ => 0)))]
set_option maxRecDepth 100000 in
set_option maxHeartbeats 4000000 in
theorem s_X0_init {N : Nat} (hN : N ≤ 180) : ISpec yX0_init cX0_init 2 1 20 4 (4 * N) 0 [.int 0, .null, .null, .null, .null] [.int (nI N)] (X0_psi N) := by
  refine i_enter pn_X0 rfl (Nat.le_of_ble_eq_true rfl) (fun D ca h0 => ?_)
  refine i_aload dX0_init_0 rfl ?_
  refine i_obj dX0_init_1 (cw_1 64 rfl rfl) ob_i ob_c (by decide) (by decide) (by decide) ?_
  refine i_aload dX0_init_4 rfl ?_
  refine i_iload dX0_init_5 rfl ?_
  refine i_newa (t := 0) (N := N) dX0_init_6 (Or.inl ⟨rfl, rfl⟩) aw_int ⟨nI_pos (by omega), nI_clamp (by omega)⟩ (by omega) (by decide) (by omega) (fun q1 => ?_)
  refine i_put (i := 0) dX0_init_8 gf_X0_7 ff_X0_1 rfl (Nat.le_of_ble_eq_true rfl) ?_
  refine i_ws (ws' := [(h0, .inr (0, [.int 0, .ref q1, .null, .null, .null])), (q1, .inl (ca 0, N, .inl (fun _ => 0)))]) rfl ?_
  refine i_aload dX0_init_11 rfl ?_
  refine i_iload dX0_init_12 rfl ?_
  refine i_newa (t := 0) (N := N) dX0_init_13 (Or.inl ⟨rfl, rfl⟩) aw_int ⟨nI_pos (by omega), nI_clamp (by omega)⟩ (by omega) (by decide) (by omega) (fun q2 => ?_)
  refine i_put (i := 0) dX0_init_15 gf_X0_13 ff_X0_2 rfl (Nat.le_of_ble_eq_true rfl) ?_
  refine i_ws (ws' := [(h0, .inr (0, [.int 0, .ref q1, .ref q2, .null, .null])), (q1, .inl (ca 0, N, .inl (fun _ => 0))), (q2, .inl (ca 0, N, .inl (fun _ => 0)))]) rfl ?_
  refine i_aload dX0_init_18 rfl ?_
  refine i_iload dX0_init_19 rfl ?_
  refine i_newa (t := 0) (N := N) dX0_init_20 (Or.inl ⟨rfl, rfl⟩) aw_int ⟨nI_pos (by omega), nI_clamp (by omega)⟩ (by omega) (by decide) (by omega) (fun q3 => ?_)
  refine i_put (i := 0) dX0_init_22 gf_X0_16 ff_X0_3 rfl (Nat.le_of_ble_eq_true rfl) ?_
  refine i_ws (ws' := [(h0, .inr (0, [.int 0, .ref q1, .ref q2, .ref q3, .null])), (q1, .inl (ca 0, N, .inl (fun _ => 0))), (q2, .inl (ca 0, N, .inl (fun _ => 0))), (q3, .inl (ca 0, N, .inl (fun _ => 0)))]) rfl ?_
  refine i_aload dX0_init_25 rfl ?_
  refine i_iload dX0_init_26 rfl ?_
  refine i_newa (t := 0) (N := N) dX0_init_27 (Or.inl ⟨rfl, rfl⟩) aw_int ⟨nI_pos (by omega), nI_clamp (by omega)⟩ (by omega) (by decide) (by omega) (fun q4 => ?_)
  refine i_put (i := 0) dX0_init_29 gf_X0_19 ff_X0_4 rfl (Nat.le_of_ble_eq_true rfl) ?_
  refine i_ws (ws' := [(h0, .inr (0, [.int 0, .ref q1, .ref q2, .ref q3, .ref q4])), (q1, .inl (ca 0, N, .inl (fun _ => 0))), (q2, .inl (ca 0, N, .inl (fun _ => 0))), (q3, .inl (ca 0, N, .inl (fun _ => 0))), (q4, .inl (ca 0, N, .inl (fun _ => 0)))]) rfl ?_
  exact i_vret dX0_init_32 (by omega) (by omega) ⟨q1, q2, q3, q4, rfl⟩

def X1_psi  : (Nat → ClassId) → Nat → va_W → Prop := fun ca h0 W => ∃ q1 : Nat, ∃ r2 : Nat → Nat, W = [(h0, .inr (1, [.int 0, .ref q1])), (q1, .inl (ca 3, 6, .inr (.inr (.inr (.inr (fun i => if i < 6 then some (r2 i) else none)))))), (r2 0, .inl (ca 0, 180, .inl (fun _ => 0))), (r2 1, .inl (ca 0, 180, .inl (fun _ => 0))), (r2 2, .inl (ca 0, 180, .inl (fun _ => 0))), (r2 3, .inl (ca 0, 180, .inl (fun _ => 0))), (r2 4, .inl (ca 0, 180, .inl (fun _ => 0))), (r2 5, .inl (ca 0, 180, .inl (fun _ => 0)))]
set_option maxRecDepth 100000 in
set_option maxHeartbeats 4000000 in
theorem s_X1_init  : ISpec yX1_init cX1_init 1 1 20 7 1086 1 [.int 0, .null] [] (X1_psi) := by
  refine i_enter pn_X1 rfl (Nat.le_of_ble_eq_true rfl) (fun D ca h0 => ?_)
  refine i_aload dX1_init_0 rfl ?_
  refine i_obj dX1_init_1 (cw_1 118 rfl rfl) ob_i ob_c (by decide) (by decide) (by decide) ?_
  refine i_aload dX1_init_4 rfl ?_
  refine i_bipush (v := 6) dX1_init_5 (by decide) ?_
  refine i_sipush (v := 180) dX1_init_7 (by decide) ?_
  refine i_mna dX1_init_10 (cw_1 119 rfl rfl) aw_int (by decide) (by decide) (fun q1 r2 => ?_)
  refine i_put (i := 0) dX1_init_14 gf_X1_11 ff_X1_1 rfl (Nat.le_of_ble_eq_true rfl) ?_
  refine i_ws (ws' := [(h0, .inr (1, [.int 0, .ref q1])), (q1, .inl (ca 3, 6, .inr (.inr (.inr (.inr (fun i => if i < 6 then some (r2 i) else none)))))), (r2 0, .inl (ca 0, 180, .inl (fun _ => 0))), (r2 1, .inl (ca 0, 180, .inl (fun _ => 0))), (r2 2, .inl (ca 0, 180, .inl (fun _ => 0))), (r2 3, .inl (ca 0, 180, .inl (fun _ => 0))), (r2 4, .inl (ca 0, 180, .inl (fun _ => 0))), (r2 5, .inl (ca 0, 180, .inl (fun _ => 0)))]) rfl ?_
  exact i_vret dX1_init_17 (by decide) (by decide) ⟨q1, r2, rfl⟩

def X2_psi  : (Nat → ClassId) → Nat → va_W → Prop := fun ca h0 W => ∃ q1 : Nat, ∃ q2 : Nat, ∃ q3 : Nat, ∃ q4 : Nat, W = [(h0, .inr (2, [.int 0, .int 0, .ref q1, .ref q2, .ref q3, .ref q4])), (q1, .inl (ca 0, 6, .inl (fun _ => 0))), (q2, .inl (ca 0, 6, .inl (fun _ => 0))), (q3, .inl (ca 0, 6, .inl (fun _ => 0))), (q4, .inl (ca 0, 6, .inl (fun _ => 0)))]
set_option maxRecDepth 100000 in
set_option maxHeartbeats 4000000 in
theorem s_X2_init  : ISpec yX2_init cX2_init 1 1 20 4 24 2 [.int 0, .int 0, .null, .null, .null, .null] [] (X2_psi) := by
  refine i_enter pn_X2 rfl (Nat.le_of_ble_eq_true rfl) (fun D ca h0 => ?_)
  refine i_aload dX2_init_0 rfl ?_
  refine i_obj dX2_init_1 (cw_1 24 rfl rfl) ob_i ob_c (by decide) (by decide) (by decide) ?_
  refine i_aload dX2_init_4 rfl ?_
  refine i_bipush (v := 6) dX2_init_5 (by decide) ?_
  refine i_newa (t := 0) (N := 6) dX2_init_7 (Or.inl ⟨rfl, rfl⟩) aw_int ⟨by decide, by decide⟩ (by decide) (by decide) (by decide) (fun q1 => ?_)
  refine i_put (i := 0) dX2_init_9 gf_X2_9 ff_X2_2 rfl (Nat.le_of_ble_eq_true rfl) ?_
  refine i_ws (ws' := [(h0, .inr (2, [.int 0, .int 0, .ref q1, .null, .null, .null])), (q1, .inl (ca 0, 6, .inl (fun _ => 0)))]) rfl ?_
  refine i_aload dX2_init_12 rfl ?_
  refine i_bipush (v := 6) dX2_init_13 (by decide) ?_
  refine i_newa (t := 0) (N := 6) dX2_init_15 (Or.inl ⟨rfl, rfl⟩) aw_int ⟨by decide, by decide⟩ (by decide) (by decide) (by decide) (fun q2 => ?_)
  refine i_put (i := 0) dX2_init_17 gf_X2_15 ff_X2_3 rfl (Nat.le_of_ble_eq_true rfl) ?_
  refine i_ws (ws' := [(h0, .inr (2, [.int 0, .int 0, .ref q1, .ref q2, .null, .null])), (q1, .inl (ca 0, 6, .inl (fun _ => 0))), (q2, .inl (ca 0, 6, .inl (fun _ => 0)))]) rfl ?_
  refine i_aload dX2_init_20 rfl ?_
  refine i_bipush (v := 6) dX2_init_21 (by decide) ?_
  refine i_newa (t := 0) (N := 6) dX2_init_23 (Or.inl ⟨rfl, rfl⟩) aw_int ⟨by decide, by decide⟩ (by decide) (by decide) (by decide) (fun q3 => ?_)
  refine i_put (i := 0) dX2_init_25 gf_X2_18 ff_X2_4 rfl (Nat.le_of_ble_eq_true rfl) ?_
  refine i_ws (ws' := [(h0, .inr (2, [.int 0, .int 0, .ref q1, .ref q2, .ref q3, .null])), (q1, .inl (ca 0, 6, .inl (fun _ => 0))), (q2, .inl (ca 0, 6, .inl (fun _ => 0))), (q3, .inl (ca 0, 6, .inl (fun _ => 0)))]) rfl ?_
  refine i_aload dX2_init_28 rfl ?_
  refine i_bipush (v := 6) dX2_init_29 (by decide) ?_
  refine i_newa (t := 0) (N := 6) dX2_init_31 (Or.inl ⟨rfl, rfl⟩) aw_int ⟨by decide, by decide⟩ (by decide) (by decide) (by decide) (fun q4 => ?_)
  refine i_put (i := 0) dX2_init_33 gf_X2_21 ff_X2_5 rfl (Nat.le_of_ble_eq_true rfl) ?_
  refine i_ws (ws' := [(h0, .inr (2, [.int 0, .int 0, .ref q1, .ref q2, .ref q3, .ref q4])), (q1, .inl (ca 0, 6, .inl (fun _ => 0))), (q2, .inl (ca 0, 6, .inl (fun _ => 0))), (q3, .inl (ca 0, 6, .inl (fun _ => 0))), (q4, .inl (ca 0, 6, .inl (fun _ => 0)))]) rfl ?_
  exact i_vret dX2_init_36 (by decide) (by decide) ⟨q1, q2, q3, q4, rfl⟩

def X3_psi  : (Nat → ClassId) → Nat → va_W → Prop := fun ca h0 W => ∃ q1 : Nat, ∃ q2 : Nat, ∃ q3 : Nat, W = [(h0, .inr (3, [.int 0, .ref q1, .ref q2, .ref q3])), (q1, .inl (ca 0, 8, .inl (fun _ => 0))), (q2, .inl (ca 0, 8, .inl (fun _ => 0))), (q3, .inl (ca 1, 8, .inl (fun _ => 0)))]
set_option maxRecDepth 100000 in
set_option maxHeartbeats 4000000 in
theorem s_X3_init  : ISpec yX3_init cX3_init 1 1 20 3 24 3 [.int 0, .null, .null, .null] [] (X3_psi) := by
  refine i_enter pn_X3 rfl (Nat.le_of_ble_eq_true rfl) (fun D ca h0 => ?_)
  refine i_aload dX3_init_0 rfl ?_
  refine i_obj dX3_init_1 (cw_1 92 rfl rfl) ob_i ob_c (by decide) (by decide) (by decide) ?_
  refine i_aload dX3_init_4 rfl ?_
  refine i_bipush (v := 8) dX3_init_5 (by decide) ?_
  refine i_newa (t := 0) (N := 8) dX3_init_7 (Or.inl ⟨rfl, rfl⟩) aw_int ⟨by decide, by decide⟩ (by decide) (by decide) (by decide) (fun q1 => ?_)
  refine i_put (i := 0) dX3_init_9 gf_X3_9 ff_X3_1 rfl (Nat.le_of_ble_eq_true rfl) ?_
  refine i_ws (ws' := [(h0, .inr (3, [.int 0, .ref q1, .null, .null])), (q1, .inl (ca 0, 8, .inl (fun _ => 0)))]) rfl ?_
  refine i_aload dX3_init_12 rfl ?_
  refine i_bipush (v := 8) dX3_init_13 (by decide) ?_
  refine i_newa (t := 0) (N := 8) dX3_init_15 (Or.inl ⟨rfl, rfl⟩) aw_int ⟨by decide, by decide⟩ (by decide) (by decide) (by decide) (fun q2 => ?_)
  refine i_put (i := 0) dX3_init_17 gf_X3_15 ff_X3_2 rfl (Nat.le_of_ble_eq_true rfl) ?_
  refine i_ws (ws' := [(h0, .inr (3, [.int 0, .ref q1, .ref q2, .null])), (q1, .inl (ca 0, 8, .inl (fun _ => 0))), (q2, .inl (ca 0, 8, .inl (fun _ => 0)))]) rfl ?_
  refine i_aload dX3_init_20 rfl ?_
  refine i_bipush (v := 8) dX3_init_21 (by decide) ?_
  refine i_newa (t := 1) (N := 8) dX3_init_23 (Or.inr ⟨rfl, rfl⟩) aw_bool ⟨by decide, by decide⟩ (by decide) (by decide) (by decide) (fun q3 => ?_)
  refine i_put (i := 0) dX3_init_25 gf_X3_18 ff_X3_3 rfl (Nat.le_of_ble_eq_true rfl) ?_
  refine i_ws (ws' := [(h0, .inr (3, [.int 0, .ref q1, .ref q2, .ref q3])), (q1, .inl (ca 0, 8, .inl (fun _ => 0))), (q2, .inl (ca 0, 8, .inl (fun _ => 0))), (q3, .inl (ca 1, 8, .inl (fun _ => 0)))]) rfl ?_
  exact i_vret dX3_init_28 (by decide) (by decide) ⟨q1, q2, q3, rfl⟩

def X5_psi  : (Nat → ClassId) → Nat → va_W → Prop := fun ca h0 W => ∃ q1 : Nat, W = [(h0, .inr (5, [.int 0, .int 0, .int 0, .ref q1])), (q1, .inl (ca 0, 50, .inl (fun _ => 0)))]
set_option maxRecDepth 100000 in
set_option maxHeartbeats 4000000 in
theorem s_X5_init  : ISpec yX5_init cX5_init 1 1 20 1 50 5 [.int 0, .int 0, .int 0, .null] [] (X5_psi) := by
  refine i_enter pn_X5 rfl (Nat.le_of_ble_eq_true rfl) (fun D ca h0 => ?_)
  refine i_aload dX5_init_0 rfl ?_
  refine i_obj dX5_init_1 (cw_1 174 rfl rfl) ob_i ob_c (by decide) (by decide) (by decide) ?_
  refine i_aload dX5_init_4 rfl ?_
  refine i_bipush (v := 50) dX5_init_5 (by decide) ?_
  refine i_newa (t := 0) (N := 50) dX5_init_7 (Or.inl ⟨rfl, rfl⟩) aw_int ⟨by decide, by decide⟩ (by decide) (by decide) (by decide) (fun q1 => ?_)
  refine i_put (i := 0) dX5_init_9 gf_X5_9 ff_X5_3 rfl (Nat.le_of_ble_eq_true rfl) ?_
  refine i_ws (ws' := [(h0, .inr (5, [.int 0, .int 0, .int 0, .ref q1])), (q1, .inl (ca 0, 50, .inl (fun _ => 0)))]) rfl ?_
  exact i_vret dX5_init_12 (by decide) (by decide) ⟨q1, rfl⟩

def X4_psi (ap aq : Nat) : (Nat → ClassId) → Nat → va_W → Prop := fun ca h0 W => ∃ q1 : Nat, ∃ q2 : Nat, ∃ r3 : Nat → Nat, ∃ q4 : Nat, ∃ q5 : Nat, ∃ q6 : Nat, ∃ q7 : Nat, ∃ q8 : Nat, ∃ q9 : Nat, W = [(h0, .inr (4, [.ref q1, .int 0, .ref ap, .ref aq, .ref q4, .int 0, .ref q9, .int 0, .long 0, .int 0, .int 0])), (q1, .inr (1, [.int 0, .ref q2])), (q2, .inl (ca 3, 6, .inr (.inr (.inr (.inr (fun i => if i < 6 then some (r3 i) else none)))))), (r3 0, .inl (ca 0, 180, .inl (fun _ => 0))), (r3 1, .inl (ca 0, 180, .inl (fun _ => 0))), (r3 2, .inl (ca 0, 180, .inl (fun _ => 0))), (r3 3, .inl (ca 0, 180, .inl (fun _ => 0))), (r3 4, .inl (ca 0, 180, .inl (fun _ => 0))), (r3 5, .inl (ca 0, 180, .inl (fun _ => 0))), (q4, .inr (0, [.int 0, .ref q5, .ref q6, .ref q7, .ref q8])), (q5, .inl (ca 0, 180, .inl (fun _ => 0))), (q6, .inl (ca 0, 180, .inl (fun _ => 0))), (q7, .inl (ca 0, 180, .inl (fun _ => 0))), (q8, .inl (ca 0, 180, .inl (fun _ => 0))), (q9, .inl (ca 0, 6, .inl (fun _ => 0)))]
set_option maxRecDepth 100000 in
set_option maxHeartbeats 4000000 in
theorem s_X4_init {ap aq : Nat} : ISpec yX4_init cX4_init 3 2 41 14 1819 4 [.null, .int 0, .null, .null, .null, .int 0, .null, .int 0, .long 0, .int 0, .int 0] [.ref ap, .ref aq] (X4_psi ap aq) := by
  refine i_enter pn_X4 rfl (Nat.le_of_ble_eq_true rfl) (fun D ca h0 => ?_)
  refine i_aload dX4_init_0 rfl ?_
  refine i_obj dX4_init_1 (cw_1 112 rfl rfl) ob_i ob_c (by decide) (by decide) (by decide) ?_
  refine i_aload dX4_init_4 rfl ?_
  refine i_new (ci := 1) (fs := [.int 0, .null]) dX4_init_5 rfl in_X1 tyX1_ok (cw_1 113 rfl rfl) (cw_1 114 rfl rfl) (cw_1 6 rfl rfl) (fun j hj => by rcases (show j = 0 ∨ j = 1 by omega) with rfl | rfl <;> rfl) (by decide) (by decide) (fun q1 => ?_)
  refine i_dup dX4_init_8 rfl ?_
  refine i_callN (a := 0) (As := []) (wr := [(h0, .inr (4, [.null, .int 0, .null, .null, .null, .int 0, .null, .int 0, .long 0, .int 0, .int 0]))]) (i := 1) [0] dX4_init_9 ⟨_, List.mem_of_getElem? (i := 2) rfl⟩ (cw_1 6 rfl rfl) (cw_1 117 rfl rfl) ⟨by decide +kernel, by decide +kernel, by decide +kernel⟩ (cw_1 116 rfl rfl) rfl rfl ⟨by decide, by decide⟩ (Nat.le_of_ble_eq_true rfl) ⟨by decide, by decide⟩ (s_X1_init) rfl rfl rfl (by decide) (fun W hW => ?_)
  obtain ⟨q2, r3, rfl⟩ := hW
  refine i_put (i := 0) dX4_init_12 gf_X4_12 ff_X4_0 rfl (Nat.le_of_ble_eq_true rfl) ?_
  refine i_ws (ws' := [(h0, .inr (4, [.ref q1, .int 0, .null, .null, .null, .int 0, .null, .int 0, .long 0, .int 0, .int 0])), (q1, .inr (1, [.int 0, .ref q2])), (q2, .inl (ca 3, 6, .inr (.inr (.inr (.inr (fun i => if i < 6 then some (r3 i) else none)))))), (r3 0, .inl (ca 0, 180, .inl (fun _ => 0))), (r3 1, .inl (ca 0, 180, .inl (fun _ => 0))), (r3 2, .inl (ca 0, 180, .inl (fun _ => 0))), (r3 3, .inl (ca 0, 180, .inl (fun _ => 0))), (r3 4, .inl (ca 0, 180, .inl (fun _ => 0))), (r3 5, .inl (ca 0, 180, .inl (fun _ => 0)))]) rfl ?_
  refine i_aload dX4_init_15 rfl ?_
  refine i_new (ci := 0) (fs := [.int 0, .null, .null, .null, .null]) dX4_init_16 rfl in_X0 tyX0_ok (cw_1 131 rfl rfl) (cw_1 60 rfl rfl) (cw_1 3 rfl rfl) (fun j hj => by rcases (show j = 0 ∨ j = 1 ∨ j = 2 ∨ j = 3 ∨ j = 4 by omega) with rfl | rfl | rfl | rfl | rfl <;> rfl) (by decide) (by decide) (fun q4 => ?_)
  refine i_dup dX4_init_19 rfl ?_
  refine i_sipush (v := 180) dX4_init_20 (by decide) ?_
  refine i_call (a := 1) (As := [.int 180]) (wr := [(h0, .inr (4, [.ref q1, .int 0, .null, .null, .null, .int 0, .null, .int 0, .long 0, .int 0, .int 0])), (q1, .inr (1, [.int 0, .ref q2])), (q2, .inl (ca 3, 6, .inr (.inr (.inr (.inr (fun i => if i < 6 then some (r3 i) else none)))))), (r3 0, .inl (ca 0, 180, .inl (fun _ => 0))), (r3 1, .inl (ca 0, 180, .inl (fun _ => 0))), (r3 2, .inl (ca 0, 180, .inl (fun _ => 0))), (r3 3, .inl (ca 0, 180, .inl (fun _ => 0))), (r3 4, .inl (ca 0, 180, .inl (fun _ => 0))), (r3 5, .inl (ca 0, 180, .inl (fun _ => 0)))]) (i := 9) [0, 1, 2, 3, 4, 5, 6, 7, 8] dX4_init_23 (cw_1 132 rfl rfl) (cw_1 3 rfl rfl) (cw_1 63 rfl rfl) ⟨by decide +kernel, by decide +kernel, by decide +kernel⟩ (cw_1 62 rfl rfl) rfl rfl ⟨by decide, by decide⟩ (Nat.le_of_ble_eq_true rfl) ⟨by decide, by decide⟩ (s_X0_init (N := 180) (by decide)) rfl rfl rfl (by decide) (fun W hW => ?_)
  obtain ⟨q5, q6, q7, q8, rfl⟩ := hW
  refine i_put (i := 0) dX4_init_26 gf_X4_23 ff_X4_4 rfl (Nat.le_of_ble_eq_true rfl) ?_
  refine i_ws (ws' := [(h0, .inr (4, [.ref q1, .int 0, .null, .null, .ref q4, .int 0, .null, .int 0, .long 0, .int 0, .int 0])), (q1, .inr (1, [.int 0, .ref q2])), (q2, .inl (ca 3, 6, .inr (.inr (.inr (.inr (fun i => if i < 6 then some (r3 i) else none)))))), (r3 0, .inl (ca 0, 180, .inl (fun _ => 0))), (r3 1, .inl (ca 0, 180, .inl (fun _ => 0))), (r3 2, .inl (ca 0, 180, .inl (fun _ => 0))), (r3 3, .inl (ca 0, 180, .inl (fun _ => 0))), (r3 4, .inl (ca 0, 180, .inl (fun _ => 0))), (r3 5, .inl (ca 0, 180, .inl (fun _ => 0))), (q4, .inr (0, [.int 0, .ref q5, .ref q6, .ref q7, .ref q8])), (q5, .inl (ca 0, 180, .inl (fun _ => 0))), (q6, .inl (ca 0, 180, .inl (fun _ => 0))), (q7, .inl (ca 0, 180, .inl (fun _ => 0))), (q8, .inl (ca 0, 180, .inl (fun _ => 0)))]) rfl ?_
  refine i_aload dX4_init_29 rfl ?_
  refine i_bipush (v := 6) dX4_init_30 (by decide) ?_
  refine i_newa (t := 0) (N := 6) dX4_init_32 (Or.inl ⟨rfl, rfl⟩) aw_int ⟨by decide, by decide⟩ (by decide) (by decide) (by decide) (fun q9 => ?_)
  refine i_put (i := 0) dX4_init_34 gf_X4_27 ff_X4_6 rfl (Nat.le_of_ble_eq_true rfl) ?_
  refine i_ws (ws' := [(h0, .inr (4, [.ref q1, .int 0, .null, .null, .ref q4, .int 0, .ref q9, .int 0, .long 0, .int 0, .int 0])), (q1, .inr (1, [.int 0, .ref q2])), (q2, .inl (ca 3, 6, .inr (.inr (.inr (.inr (fun i => if i < 6 then some (r3 i) else none)))))), (r3 0, .inl (ca 0, 180, .inl (fun _ => 0))), (r3 1, .inl (ca 0, 180, .inl (fun _ => 0))), (r3 2, .inl (ca 0, 180, .inl (fun _ => 0))), (r3 3, .inl (ca 0, 180, .inl (fun _ => 0))), (r3 4, .inl (ca 0, 180, .inl (fun _ => 0))), (r3 5, .inl (ca 0, 180, .inl (fun _ => 0))), (q4, .inr (0, [.int 0, .ref q5, .ref q6, .ref q7, .ref q8])), (q5, .inl (ca 0, 180, .inl (fun _ => 0))), (q6, .inl (ca 0, 180, .inl (fun _ => 0))), (q7, .inl (ca 0, 180, .inl (fun _ => 0))), (q8, .inl (ca 0, 180, .inl (fun _ => 0))), (q9, .inl (ca 0, 6, .inl (fun _ => 0)))]) rfl ?_
  refine i_aload dX4_init_37 rfl ?_
  refine i_aload dX4_init_38 rfl ?_
  refine i_put (i := 0) dX4_init_39 gf_X4_31 ff_X4_2 rfl (Nat.le_of_ble_eq_true rfl) ?_
  refine i_ws (ws' := [(h0, .inr (4, [.ref q1, .int 0, .ref ap, .null, .ref q4, .int 0, .ref q9, .int 0, .long 0, .int 0, .int 0])), (q1, .inr (1, [.int 0, .ref q2])), (q2, .inl (ca 3, 6, .inr (.inr (.inr (.inr (fun i => if i < 6 then some (r3 i) else none)))))), (r3 0, .inl (ca 0, 180, .inl (fun _ => 0))), (r3 1, .inl (ca 0, 180, .inl (fun _ => 0))), (r3 2, .inl (ca 0, 180, .inl (fun _ => 0))), (r3 3, .inl (ca 0, 180, .inl (fun _ => 0))), (r3 4, .inl (ca 0, 180, .inl (fun _ => 0))), (r3 5, .inl (ca 0, 180, .inl (fun _ => 0))), (q4, .inr (0, [.int 0, .ref q5, .ref q6, .ref q7, .ref q8])), (q5, .inl (ca 0, 180, .inl (fun _ => 0))), (q6, .inl (ca 0, 180, .inl (fun _ => 0))), (q7, .inl (ca 0, 180, .inl (fun _ => 0))), (q8, .inl (ca 0, 180, .inl (fun _ => 0))), (q9, .inl (ca 0, 6, .inl (fun _ => 0)))]) rfl ?_
  refine i_aload dX4_init_42 rfl ?_
  refine i_aload dX4_init_43 rfl ?_
  refine i_put (i := 0) dX4_init_44 gf_X4_35 ff_X4_3 rfl (Nat.le_of_ble_eq_true rfl) ?_
  refine i_ws (ws' := [(h0, .inr (4, [.ref q1, .int 0, .ref ap, .ref aq, .ref q4, .int 0, .ref q9, .int 0, .long 0, .int 0, .int 0])), (q1, .inr (1, [.int 0, .ref q2])), (q2, .inl (ca 3, 6, .inr (.inr (.inr (.inr (fun i => if i < 6 then some (r3 i) else none)))))), (r3 0, .inl (ca 0, 180, .inl (fun _ => 0))), (r3 1, .inl (ca 0, 180, .inl (fun _ => 0))), (r3 2, .inl (ca 0, 180, .inl (fun _ => 0))), (r3 3, .inl (ca 0, 180, .inl (fun _ => 0))), (r3 4, .inl (ca 0, 180, .inl (fun _ => 0))), (r3 5, .inl (ca 0, 180, .inl (fun _ => 0))), (q4, .inr (0, [.int 0, .ref q5, .ref q6, .ref q7, .ref q8])), (q5, .inl (ca 0, 180, .inl (fun _ => 0))), (q6, .inl (ca 0, 180, .inl (fun _ => 0))), (q7, .inl (ca 0, 180, .inl (fun _ => 0))), (q8, .inl (ca 0, 180, .inl (fun _ => 0))), (q9, .inl (ca 0, 6, .inl (fun _ => 0)))]) rfl ?_
  exact i_vret dX4_init_47 (by decide) (by decide) ⟨q1, q2, r3, q4, q5, q6, q7, q8, q9, rfl⟩

def X7_psi  : (Nat → ClassId) → Nat → va_W → Prop := fun ca h0 W => ∃ q1 : Nat, ∃ q2 : Nat, ∃ q3 : Nat, ∃ q4 : Nat, ∃ q5 : Nat, ∃ q6 : Nat, ∃ q7 : Nat, ∃ q8 : Nat, ∃ q9 : Nat, ∃ q10 : Nat, ∃ q11 : Nat, ∃ q12 : Nat, ∃ q13 : Nat, ∃ q14 : Nat, ∃ q15 : Nat, ∃ q16 : Nat, ∃ q17 : Nat, ∃ r18 : Nat → Nat, ∃ q19 : Nat, ∃ q20 : Nat, ∃ q21 : Nat, ∃ q22 : Nat, ∃ q23 : Nat, ∃ q24 : Nat, ∃ q25 : Nat, ∃ q26 : Nat, ∃ q27 : Nat, ∃ q28 : Nat, ∃ q29 : Nat, ∃ q30 : Nat, ∃ q31 : Nat, ∃ q32 : Nat, ∃ q33 : Nat, W = [(h0, .inr (6, [.ref q1, .ref q6, .ref q11, .ref q15, .ref q25, .int 0, .int 0])), (q1, .inr (2, [.int 0, .int 0, .ref q2, .ref q3, .ref q4, .ref q5])), (q2, .inl (ca 0, 6, .inl (fun _ => 0))), (q3, .inl (ca 0, 6, .inl (fun _ => 0))), (q4, .inl (ca 0, 6, .inl (fun _ => 0))), (q5, .inl (ca 0, 6, .inl (fun _ => 0))), (q6, .inr (0, [.int 0, .ref q7, .ref q8, .ref q9, .ref q10])), (q7, .inl (ca 0, 9, .inl (fun _ => 0))), (q8, .inl (ca 0, 9, .inl (fun _ => 0))), (q9, .inl (ca 0, 9, .inl (fun _ => 0))), (q10, .inl (ca 0, 9, .inl (fun _ => 0))), (q11, .inr (3, [.int 0, .ref q12, .ref q13, .ref q14])), (q12, .inl (ca 0, 8, .inl (fun _ => 0))), (q13, .inl (ca 0, 8, .inl (fun _ => 0))), (q14, .inl (ca 1, 8, .inl (fun _ => 0))), (q15, .inr (4, [.ref q16, .int 0, .ref q1, .ref q6, .ref q19, .int 0, .ref q24, .int 0, .long 0, .int 0, .int 0])), (q16, .inr (1, [.int 0, .ref q17])), (q17, .inl (ca 3, 6, .inr (.inr (.inr (.inr (fun i => if i < 6 then some (r18 i) else none)))))), (r18 0, .inl (ca 0, 180, .inl (fun _ => 0))), (r18 1, .inl (ca 0, 180, .inl (fun _ => 0))), (r18 2, .inl (ca 0, 180, .inl (fun _ => 0))), (r18 3, .inl (ca 0, 180, .inl (fun _ => 0))), (r18 4, .inl (ca 0, 180, .inl (fun _ => 0))), (r18 5, .inl (ca 0, 180, .inl (fun _ => 0))), (q19, .inr (0, [.int 0, .ref q20, .ref q21, .ref q22, .ref q23])), (q20, .inl (ca 0, 180, .inl (fun _ => 0))), (q21, .inl (ca 0, 180, .inl (fun _ => 0))), (q22, .inl (ca 0, 180, .inl (fun _ => 0))), (q23, .inl (ca 0, 180, .inl (fun _ => 0))), (q24, .inl (ca 0, 6, .inl (fun _ => 0))), (q25, .inl (ca 2, 4, .inr (.inr (.inr (.inr (va_up (va_up (va_up (va_up (fun _ => none) (Int32.toNatClampNeg 0) (some q26)) (Int32.toNatClampNeg 1) (some q28)) (Int32.toNatClampNeg 2) (some q30)) (Int32.toNatClampNeg 3) (some q32))))))), (q26, .inr (5, [.int 0, .int 0, .int 0, .ref q27])), (q27, .inl (ca 0, 50, .inl (fun _ => 0))), (q28, .inr (5, [.int 0, .int 0, .int 0, .ref q29])), (q29, .inl (ca 0, 50, .inl (fun _ => 0))), (q30, .inr (5, [.int 0, .int 0, .int 0, .ref q31])), (q31, .inl (ca 0, 50, .inl (fun _ => 0))), (q32, .inr (5, [.int 0, .int 0, .int 0, .ref q33])), (q33, .inl (ca 0, 50, .inl (fun _ => 0)))]
set_option maxRecDepth 100000 in
set_option maxHeartbeats 4000000 in
theorem s_X7_init  : ISpec yX7_init cX7_init 2 3 63 38 2149 6 [.null, .null, .null, .null, .null, .int 0, .int 0] [] (X7_psi) := by
  refine i_enter pn_X7 rfl (Nat.le_of_ble_eq_true rfl) (fun D ca h0 => ?_)
  refine i_aload dX7_init_0 rfl ?_
  refine i_obj dX7_init_1 (cw_1 16 rfl rfl) ob_i ob_c (by decide) (by decide) (by decide) ?_
  refine i_aload dX7_init_4 rfl ?_
  refine i_new (ci := 2) (fs := [.int 0, .int 0, .null, .null, .null, .null]) dX7_init_5 rfl in_X2 tyX2_ok (cw_1 19 rfl rfl) (cw_1 20 rfl rfl) (cw_1 2 rfl rfl) (fun j hj => by rcases (show j = 0 ∨ j = 1 ∨ j = 2 ∨ j = 3 ∨ j = 4 ∨ j = 5 by omega) with rfl | rfl | rfl | rfl | rfl | rfl <;> rfl) (by decide) (by decide) (fun q1 => ?_)
  refine i_dup dX7_init_8 rfl ?_
  refine i_callN (a := 0) (As := []) (wr := [(h0, .inr (6, [.null, .null, .null, .null, .null, .int 0, .int 0]))]) (i := 1) [0] dX7_init_9 ⟨_, List.mem_of_getElem? (i := 0) rfl⟩ (cw_1 2 rfl rfl) (cw_1 23 rfl rfl) ⟨by decide +kernel, by decide +kernel, by decide +kernel⟩ (cw_1 22 rfl rfl) rfl rfl ⟨by decide, by decide⟩ (Nat.le_of_ble_eq_true rfl) ⟨by decide, by decide⟩ (s_X2_init) rfl rfl rfl (by decide) (fun W hW => ?_)
  obtain ⟨q2, q3, q4, q5, rfl⟩ := hW
  refine i_put (i := 0) dX7_init_12 gf_X7_14 ff_X7_0 rfl (Nat.le_of_ble_eq_true rfl) ?_
  refine i_ws (ws' := [(h0, .inr (6, [.ref q1, .null, .null, .null, .null, .int 0, .int 0])), (q1, .inr (2, [.int 0, .int 0, .ref q2, .ref q3, .ref q4, .ref q5])), (q2, .inl (ca 0, 6, .inl (fun _ => 0))), (q3, .inl (ca 0, 6, .inl (fun _ => 0))), (q4, .inl (ca 0, 6, .inl (fun _ => 0))), (q5, .inl (ca 0, 6, .inl (fun _ => 0)))]) rfl ?_
  refine i_aload dX7_init_15 rfl ?_
  refine i_new (ci := 0) (fs := [.int 0, .null, .null, .null, .null]) dX7_init_16 rfl in_X0 tyX0_ok (cw_1 59 rfl rfl) (cw_1 60 rfl rfl) (cw_1 3 rfl rfl) (fun j hj => by rcases (show j = 0 ∨ j = 1 ∨ j = 2 ∨ j = 3 ∨ j = 4 by omega) with rfl | rfl | rfl | rfl | rfl <;> rfl) (by decide) (by decide) (fun q6 => ?_)
  refine i_dup dX7_init_19 rfl ?_
  refine i_bipush (v := 9) dX7_init_20 (by decide) ?_
  refine i_call (a := 1) (As := [.int 9]) (wr := [(h0, .inr (6, [.ref q1, .null, .null, .null, .null, .int 0, .int 0])), (q1, .inr (2, [.int 0, .int 0, .ref q2, .ref q3, .ref q4, .ref q5])), (q2, .inl (ca 0, 6, .inl (fun _ => 0))), (q3, .inl (ca 0, 6, .inl (fun _ => 0))), (q4, .inl (ca 0, 6, .inl (fun _ => 0))), (q5, .inl (ca 0, 6, .inl (fun _ => 0)))]) (i := 6) [0, 1, 2, 3, 4, 5] dX7_init_22 (cw_1 61 rfl rfl) (cw_1 3 rfl rfl) (cw_1 63 rfl rfl) ⟨by decide +kernel, by decide +kernel, by decide +kernel⟩ (cw_1 62 rfl rfl) rfl rfl ⟨by decide, by decide⟩ (Nat.le_of_ble_eq_true rfl) ⟨by decide, by decide⟩ (s_X0_init (N := 9) (by decide)) rfl rfl rfl (by decide) (fun W hW => ?_)
  obtain ⟨q7, q8, q9, q10, rfl⟩ := hW
  refine i_put (i := 0) dX7_init_25 gf_X7_23 ff_X7_1 rfl (Nat.le_of_ble_eq_true rfl) ?_
  refine i_ws (ws' := [(h0, .inr (6, [.ref q1, .ref q6, .null, .null, .null, .int 0, .int 0])), (q1, .inr (2, [.int 0, .int 0, .ref q2, .ref q3, .ref q4, .ref q5])), (q2, .inl (ca 0, 6, .inl (fun _ => 0))), (q3, .inl (ca 0, 6, .inl (fun _ => 0))), (q4, .inl (ca 0, 6, .inl (fun _ => 0))), (q5, .inl (ca 0, 6, .inl (fun _ => 0))), (q6, .inr (0, [.int 0, .ref q7, .ref q8, .ref q9, .ref q10])), (q7, .inl (ca 0, 9, .inl (fun _ => 0))), (q8, .inl (ca 0, 9, .inl (fun _ => 0))), (q9, .inl (ca 0, 9, .inl (fun _ => 0))), (q10, .inl (ca 0, 9, .inl (fun _ => 0)))]) rfl ?_
  refine i_aload dX7_init_28 rfl ?_
  refine i_new (ci := 3) (fs := [.int 0, .null, .null, .null]) dX7_init_29 rfl in_X3 tyX3_ok (cw_1 87 rfl rfl) (cw_1 88 rfl rfl) (cw_1 4 rfl rfl) (fun j hj => by rcases (show j = 0 ∨ j = 1 ∨ j = 2 ∨ j = 3 by omega) with rfl | rfl | rfl | rfl <;> rfl) (by decide) (by decide) (fun q11 => ?_)
  refine i_dup dX7_init_32 rfl ?_
  refine i_callN (a := 0) (As := []) (wr := [(h0, .inr (6, [.ref q1, .ref q6, .null, .null, .null, .int 0, .int 0])), (q1, .inr (2, [.int 0, .int 0, .ref q2, .ref q3, .ref q4, .ref q5])), (q2, .inl (ca 0, 6, .inl (fun _ => 0))), (q3, .inl (ca 0, 6, .inl (fun _ => 0))), (q4, .inl (ca 0, 6, .inl (fun _ => 0))), (q5, .inl (ca 0, 6, .inl (fun _ => 0))), (q6, .inr (0, [.int 0, .ref q7, .ref q8, .ref q9, .ref q10])), (q7, .inl (ca 0, 9, .inl (fun _ => 0))), (q8, .inl (ca 0, 9, .inl (fun _ => 0))), (q9, .inl (ca 0, 9, .inl (fun _ => 0))), (q10, .inl (ca 0, 9, .inl (fun _ => 0)))]) (i := 11) [0, 1, 2, 3, 4, 5, 6, 7, 8, 9, 10] dX7_init_33 ⟨_, List.mem_of_getElem? (i := 1) rfl⟩ (cw_1 4 rfl rfl) (cw_1 91 rfl rfl) ⟨by decide +kernel, by decide +kernel, by decide +kernel⟩ (cw_1 90 rfl rfl) rfl rfl ⟨by decide, by decide⟩ (Nat.le_of_ble_eq_true rfl) ⟨by decide, by decide⟩ (s_X3_init) rfl rfl rfl (by decide) (fun W hW => ?_)
  obtain ⟨q12, q13, q14, rfl⟩ := hW
  refine i_put (i := 0) dX7_init_36 gf_X7_30 ff_X7_2 rfl (Nat.le_of_ble_eq_true rfl) ?_
  refine i_ws (ws' := [(h0, .inr (6, [.ref q1, .ref q6, .ref q11, .null, .null, .int 0, .int 0])), (q1, .inr (2, [.int 0, .int 0, .ref q2, .ref q3, .ref q4, .ref q5])), (q2, .inl (ca 0, 6, .inl (fun _ => 0))), (q3, .inl (ca 0, 6, .inl (fun _ => 0))), (q4, .inl (ca 0, 6, .inl (fun _ => 0))), (q5, .inl (ca 0, 6, .inl (fun _ => 0))), (q6, .inr (0, [.int 0, .ref q7, .ref q8, .ref q9, .ref q10])), (q7, .inl (ca 0, 9, .inl (fun _ => 0))), (q8, .inl (ca 0, 9, .inl (fun _ => 0))), (q9, .inl (ca 0, 9, .inl (fun _ => 0))), (q10, .inl (ca 0, 9, .inl (fun _ => 0))), (q11, .inr (3, [.int 0, .ref q12, .ref q13, .ref q14])), (q12, .inl (ca 0, 8, .inl (fun _ => 0))), (q13, .inl (ca 0, 8, .inl (fun _ => 0))), (q14, .inl (ca 1, 8, .inl (fun _ => 0)))]) rfl ?_
  refine i_aload dX7_init_39 rfl ?_
  refine i_new (ci := 4) (fs := [.null, .int 0, .null, .null, .null, .int 0, .null, .int 0, .long 0, .int 0, .int 0]) dX7_init_40 rfl in_X4 tyX4_ok (cw_1 107 rfl rfl) (cw_1 108 rfl rfl) (cw_1 5 rfl rfl) (fun j hj => by rcases (show j = 0 ∨ j = 1 ∨ j = 2 ∨ j = 3 ∨ j = 4 ∨ j = 5 ∨ j = 6 ∨ j = 7 ∨ j = 8 ∨ j = 9 ∨ j = 10 by omega) with rfl | rfl | rfl | rfl | rfl | rfl | rfl | rfl | rfl | rfl | rfl <;> rfl) (by decide) (by decide) (fun q15 => ?_)
  refine i_dup dX7_init_43 rfl ?_
  refine i_aload dX7_init_44 rfl ?_
  refine i_get (i := 0) dX7_init_45 gf_X7_14 rfl rfl ?_
  refine i_aload dX7_init_48 rfl ?_
  refine i_get (i := 0) dX7_init_49 gf_X7_23 rfl rfl ?_
  refine i_call (a := 2) (As := [.ref q1, .ref q6]) (wr := [(h0, .inr (6, [.ref q1, .ref q6, .ref q11, .null, .null, .int 0, .int 0])), (q1, .inr (2, [.int 0, .int 0, .ref q2, .ref q3, .ref q4, .ref q5])), (q2, .inl (ca 0, 6, .inl (fun _ => 0))), (q3, .inl (ca 0, 6, .inl (fun _ => 0))), (q4, .inl (ca 0, 6, .inl (fun _ => 0))), (q5, .inl (ca 0, 6, .inl (fun _ => 0))), (q6, .inr (0, [.int 0, .ref q7, .ref q8, .ref q9, .ref q10])), (q7, .inl (ca 0, 9, .inl (fun _ => 0))), (q8, .inl (ca 0, 9, .inl (fun _ => 0))), (q9, .inl (ca 0, 9, .inl (fun _ => 0))), (q10, .inl (ca 0, 9, .inl (fun _ => 0))), (q11, .inr (3, [.int 0, .ref q12, .ref q13, .ref q14])), (q12, .inl (ca 0, 8, .inl (fun _ => 0))), (q13, .inl (ca 0, 8, .inl (fun _ => 0))), (q14, .inl (ca 1, 8, .inl (fun _ => 0)))]) (i := 15) [0, 1, 2, 3, 4, 5, 6, 7, 8, 9, 10, 11, 12, 13, 14] dX7_init_52 (cw_1 109 rfl rfl) (cw_1 5 rfl rfl) (cw_1 111 rfl rfl) ⟨by decide +kernel, by decide +kernel, by decide +kernel⟩ (cw_1 110 rfl rfl) rfl rfl ⟨by decide, by decide⟩ (Nat.le_of_ble_eq_true rfl) ⟨by decide, by decide⟩ (s_X4_init) rfl rfl rfl (by decide) (fun W hW => ?_)
  obtain ⟨q16, q17, r18, q19, q20, q21, q22, q23, q24, rfl⟩ := hW
  refine i_put (i := 0) dX7_init_55 gf_X7_39 ff_X7_3 rfl (Nat.le_of_ble_eq_true rfl) ?_
  refine i_ws (ws' := [(h0, .inr (6, [.ref q1, .ref q6, .ref q11, .ref q15, .null, .int 0, .int 0])), (q1, .inr (2, [.int 0, .int 0, .ref q2, .ref q3, .ref q4, .ref q5])), (q2, .inl (ca 0, 6, .inl (fun _ => 0))), (q3, .inl (ca 0, 6, .inl (fun _ => 0))), (q4, .inl (ca 0, 6, .inl (fun _ => 0))), (q5, .inl (ca 0, 6, .inl (fun _ => 0))), (q6, .inr (0, [.int 0, .ref q7, .ref q8, .ref q9, .ref q10])), (q7, .inl (ca 0, 9, .inl (fun _ => 0))), (q8, .inl (ca 0, 9, .inl (fun _ => 0))), (q9, .inl (ca 0, 9, .inl (fun _ => 0))), (q10, .inl (ca 0, 9, .inl (fun _ => 0))), (q11, .inr (3, [.int 0, .ref q12, .ref q13, .ref q14])), (q12, .inl (ca 0, 8, .inl (fun _ => 0))), (q13, .inl (ca 0, 8, .inl (fun _ => 0))), (q14, .inl (ca 1, 8, .inl (fun _ => 0))), (q15, .inr (4, [.ref q16, .int 0, .ref q1, .ref q6, .ref q19, .int 0, .ref q24, .int 0, .long 0, .int 0, .int 0])), (q16, .inr (1, [.int 0, .ref q17])), (q17, .inl (ca 3, 6, .inr (.inr (.inr (.inr (fun i => if i < 6 then some (r18 i) else none)))))), (r18 0, .inl (ca 0, 180, .inl (fun _ => 0))), (r18 1, .inl (ca 0, 180, .inl (fun _ => 0))), (r18 2, .inl (ca 0, 180, .inl (fun _ => 0))), (r18 3, .inl (ca 0, 180, .inl (fun _ => 0))), (r18 4, .inl (ca 0, 180, .inl (fun _ => 0))), (r18 5, .inl (ca 0, 180, .inl (fun _ => 0))), (q19, .inr (0, [.int 0, .ref q20, .ref q21, .ref q22, .ref q23])), (q20, .inl (ca 0, 180, .inl (fun _ => 0))), (q21, .inl (ca 0, 180, .inl (fun _ => 0))), (q22, .inl (ca 0, 180, .inl (fun _ => 0))), (q23, .inl (ca 0, 180, .inl (fun _ => 0))), (q24, .inl (ca 0, 6, .inl (fun _ => 0)))]) rfl ?_
  refine i_aload dX7_init_58 rfl ?_
  refine i_iconst (v := 4) dX7_init_59 (by decide) ?_
  refine i_newq (N := 4) dX7_init_60 (cw_1 168 rfl rfl) ⟨by decide, by decide⟩ (by decide) (by decide) (by decide) (fun q25 => ?_)
  refine i_put (i := 0) dX7_init_63 gf_X7_45 ff_X7_4 rfl (Nat.le_of_ble_eq_true rfl) ?_
  refine i_ws (ws' := [(h0, .inr (6, [.ref q1, .ref q6, .ref q11, .ref q15, .ref q25, .int 0, .int 0])), (q1, .inr (2, [.int 0, .int 0, .ref q2, .ref q3, .ref q4, .ref q5])), (q2, .inl (ca 0, 6, .inl (fun _ => 0))), (q3, .inl (ca 0, 6, .inl (fun _ => 0))), (q4, .inl (ca 0, 6, .inl (fun _ => 0))), (q5, .inl (ca 0, 6, .inl (fun _ => 0))), (q6, .inr (0, [.int 0, .ref q7, .ref q8, .ref q9, .ref q10])), (q7, .inl (ca 0, 9, .inl (fun _ => 0))), (q8, .inl (ca 0, 9, .inl (fun _ => 0))), (q9, .inl (ca 0, 9, .inl (fun _ => 0))), (q10, .inl (ca 0, 9, .inl (fun _ => 0))), (q11, .inr (3, [.int 0, .ref q12, .ref q13, .ref q14])), (q12, .inl (ca 0, 8, .inl (fun _ => 0))), (q13, .inl (ca 0, 8, .inl (fun _ => 0))), (q14, .inl (ca 1, 8, .inl (fun _ => 0))), (q15, .inr (4, [.ref q16, .int 0, .ref q1, .ref q6, .ref q19, .int 0, .ref q24, .int 0, .long 0, .int 0, .int 0])), (q16, .inr (1, [.int 0, .ref q17])), (q17, .inl (ca 3, 6, .inr (.inr (.inr (.inr (fun i => if i < 6 then some (r18 i) else none)))))), (r18 0, .inl (ca 0, 180, .inl (fun _ => 0))), (r18 1, .inl (ca 0, 180, .inl (fun _ => 0))), (r18 2, .inl (ca 0, 180, .inl (fun _ => 0))), (r18 3, .inl (ca 0, 180, .inl (fun _ => 0))), (r18 4, .inl (ca 0, 180, .inl (fun _ => 0))), (r18 5, .inl (ca 0, 180, .inl (fun _ => 0))), (q19, .inr (0, [.int 0, .ref q20, .ref q21, .ref q22, .ref q23])), (q20, .inl (ca 0, 180, .inl (fun _ => 0))), (q21, .inl (ca 0, 180, .inl (fun _ => 0))), (q22, .inl (ca 0, 180, .inl (fun _ => 0))), (q23, .inl (ca 0, 180, .inl (fun _ => 0))), (q24, .inl (ca 0, 6, .inl (fun _ => 0))), (q25, .inl (ca 2, 4, .inr (.inr (.inr (.inr (fun _ => none))))))]) rfl ?_
  refine i_iconst (v := 0) dX7_init_66 (by decide) ?_
  refine i_istore (L' := [(1, .int 0), (0, .ref h0)]) dX7_init_67 (by decide) rfl ?_
  refine i_iload dX7_init_68 rfl ?_
  refine i_iconst (v := 4) dX7_init_69 (by decide) ?_
  refine i_icmp_ge (tgt := 92) dX7_init_70 (by decide) (fun h => absurd h (by decide)) (fun _ => ?_)
  refine i_aload dX7_init_73 rfl ?_
  refine i_get (i := 0) dX7_init_74 gf_X7_45 rfl rfl ?_
  refine i_iload dX7_init_77 rfl ?_
  refine i_new (ci := 5) (fs := [.int 0, .int 0, .int 0, .null]) dX7_init_78 rfl in_X5 tyX5_ok (cw_1 168 rfl rfl) (cw_1 170 rfl rfl) (cw_1 7 rfl rfl) (fun j hj => by rcases (show j = 0 ∨ j = 1 ∨ j = 2 ∨ j = 3 by omega) with rfl | rfl | rfl | rfl <;> rfl) (by decide) (by decide) (fun q26 => ?_)
  refine i_dup dX7_init_81 rfl ?_
  refine i_callN (a := 0) (As := []) (wr := [(h0, .inr (6, [.ref q1, .ref q6, .ref q11, .ref q15, .ref q25, .int 0, .int 0])), (q1, .inr (2, [.int 0, .int 0, .ref q2, .ref q3, .ref q4, .ref q5])), (q2, .inl (ca 0, 6, .inl (fun _ => 0))), (q3, .inl (ca 0, 6, .inl (fun _ => 0))), (q4, .inl (ca 0, 6, .inl (fun _ => 0))), (q5, .inl (ca 0, 6, .inl (fun _ => 0))), (q6, .inr (0, [.int 0, .ref q7, .ref q8, .ref q9, .ref q10])), (q7, .inl (ca 0, 9, .inl (fun _ => 0))), (q8, .inl (ca 0, 9, .inl (fun _ => 0))), (q9, .inl (ca 0, 9, .inl (fun _ => 0))), (q10, .inl (ca 0, 9, .inl (fun _ => 0))), (q11, .inr (3, [.int 0, .ref q12, .ref q13, .ref q14])), (q12, .inl (ca 0, 8, .inl (fun _ => 0))), (q13, .inl (ca 0, 8, .inl (fun _ => 0))), (q14, .inl (ca 1, 8, .inl (fun _ => 0))), (q15, .inr (4, [.ref q16, .int 0, .ref q1, .ref q6, .ref q19, .int 0, .ref q24, .int 0, .long 0, .int 0, .int 0])), (q16, .inr (1, [.int 0, .ref q17])), (q17, .inl (ca 3, 6, .inr (.inr (.inr (.inr (fun i => if i < 6 then some (r18 i) else none)))))), (r18 0, .inl (ca 0, 180, .inl (fun _ => 0))), (r18 1, .inl (ca 0, 180, .inl (fun _ => 0))), (r18 2, .inl (ca 0, 180, .inl (fun _ => 0))), (r18 3, .inl (ca 0, 180, .inl (fun _ => 0))), (r18 4, .inl (ca 0, 180, .inl (fun _ => 0))), (r18 5, .inl (ca 0, 180, .inl (fun _ => 0))), (q19, .inr (0, [.int 0, .ref q20, .ref q21, .ref q22, .ref q23])), (q20, .inl (ca 0, 180, .inl (fun _ => 0))), (q21, .inl (ca 0, 180, .inl (fun _ => 0))), (q22, .inl (ca 0, 180, .inl (fun _ => 0))), (q23, .inl (ca 0, 180, .inl (fun _ => 0))), (q24, .inl (ca 0, 6, .inl (fun _ => 0))), (q25, .inl (ca 2, 4, .inr (.inr (.inr (.inr (fun _ => none))))))]) (i := 31) [0, 1, 2, 3, 4, 5, 6, 7, 8, 9, 10, 11, 12, 13, 14, 15, 16, 17, 18, 19, 20, 21, 22, 23, 24, 25, 26, 27, 28, 29, 30] dX7_init_82 ⟨_, List.mem_of_getElem? (i := 3) rfl⟩ (cw_1 7 rfl rfl) (cw_1 173 rfl rfl) ⟨by decide +kernel, by decide +kernel, by decide +kernel⟩ (cw_1 172 rfl rfl) rfl rfl ⟨by decide, by decide⟩ (Nat.le_of_ble_eq_true rfl) ⟨by decide, by decide⟩ (s_X5_init) rfl rfl rfl (by decide) (fun W hW => ?_)
  obtain ⟨q27, rfl⟩ := hW
  refine i_astq (i := 30) (i2 := 31) dX7_init_85 rfl rfl rfl rfl (by unfold vp_in; decide) ?_
  refine i_ws (ws' := [(h0, .inr (6, [.ref q1, .ref q6, .ref q11, .ref q15, .ref q25, .int 0, .int 0])), (q1, .inr (2, [.int 0, .int 0, .ref q2, .ref q3, .ref q4, .ref q5])), (q2, .inl (ca 0, 6, .inl (fun _ => 0))), (q3, .inl (ca 0, 6, .inl (fun _ => 0))), (q4, .inl (ca 0, 6, .inl (fun _ => 0))), (q5, .inl (ca 0, 6, .inl (fun _ => 0))), (q6, .inr (0, [.int 0, .ref q7, .ref q8, .ref q9, .ref q10])), (q7, .inl (ca 0, 9, .inl (fun _ => 0))), (q8, .inl (ca 0, 9, .inl (fun _ => 0))), (q9, .inl (ca 0, 9, .inl (fun _ => 0))), (q10, .inl (ca 0, 9, .inl (fun _ => 0))), (q11, .inr (3, [.int 0, .ref q12, .ref q13, .ref q14])), (q12, .inl (ca 0, 8, .inl (fun _ => 0))), (q13, .inl (ca 0, 8, .inl (fun _ => 0))), (q14, .inl (ca 1, 8, .inl (fun _ => 0))), (q15, .inr (4, [.ref q16, .int 0, .ref q1, .ref q6, .ref q19, .int 0, .ref q24, .int 0, .long 0, .int 0, .int 0])), (q16, .inr (1, [.int 0, .ref q17])), (q17, .inl (ca 3, 6, .inr (.inr (.inr (.inr (fun i => if i < 6 then some (r18 i) else none)))))), (r18 0, .inl (ca 0, 180, .inl (fun _ => 0))), (r18 1, .inl (ca 0, 180, .inl (fun _ => 0))), (r18 2, .inl (ca 0, 180, .inl (fun _ => 0))), (r18 3, .inl (ca 0, 180, .inl (fun _ => 0))), (r18 4, .inl (ca 0, 180, .inl (fun _ => 0))), (r18 5, .inl (ca 0, 180, .inl (fun _ => 0))), (q19, .inr (0, [.int 0, .ref q20, .ref q21, .ref q22, .ref q23])), (q20, .inl (ca 0, 180, .inl (fun _ => 0))), (q21, .inl (ca 0, 180, .inl (fun _ => 0))), (q22, .inl (ca 0, 180, .inl (fun _ => 0))), (q23, .inl (ca 0, 180, .inl (fun _ => 0))), (q24, .inl (ca 0, 6, .inl (fun _ => 0))), (q25, .inl (ca 2, 4, .inr (.inr (.inr (.inr (va_up (fun _ => none) (Int32.toNatClampNeg 0) (some q26))))))), (q26, .inr (5, [.int 0, .int 0, .int 0, .ref q27])), (q27, .inl (ca 0, 50, .inl (fun _ => 0)))]) rfl ?_
  refine i_iinc (a := 0) (v := 1) (L' := [(1, .int 1), (0, .ref h0)]) dX7_init_86 rfl (by decide) (by decide) rfl ?_
  refine i_goto (tgt := 68) dX7_init_89 (by decide) ?_
  refine i_iload dX7_init_68 rfl ?_
  refine i_iconst (v := 4) dX7_init_69 (by decide) ?_
  refine i_icmp_ge (tgt := 92) dX7_init_70 (by decide) (fun h => absurd h (by decide)) (fun _ => ?_)
  refine i_aload dX7_init_73 rfl ?_
  refine i_get (i := 0) dX7_init_74 gf_X7_45 rfl rfl ?_
  refine i_iload dX7_init_77 rfl ?_
  refine i_new (ci := 5) (fs := [.int 0, .int 0, .int 0, .null]) dX7_init_78 rfl in_X5 tyX5_ok (cw_1 168 rfl rfl) (cw_1 170 rfl rfl) (cw_1 7 rfl rfl) (fun j hj => by rcases (show j = 0 ∨ j = 1 ∨ j = 2 ∨ j = 3 by omega) with rfl | rfl | rfl | rfl <;> rfl) (by decide) (by decide) (fun q28 => ?_)
  refine i_dup dX7_init_81 rfl ?_
  refine i_callN (a := 0) (As := []) (wr := [(h0, .inr (6, [.ref q1, .ref q6, .ref q11, .ref q15, .ref q25, .int 0, .int 0])), (q1, .inr (2, [.int 0, .int 0, .ref q2, .ref q3, .ref q4, .ref q5])), (q2, .inl (ca 0, 6, .inl (fun _ => 0))), (q3, .inl (ca 0, 6, .inl (fun _ => 0))), (q4, .inl (ca 0, 6, .inl (fun _ => 0))), (q5, .inl (ca 0, 6, .inl (fun _ => 0))), (q6, .inr (0, [.int 0, .ref q7, .ref q8, .ref q9, .ref q10])), (q7, .inl (ca 0, 9, .inl (fun _ => 0))), (q8, .inl (ca 0, 9, .inl (fun _ => 0))), (q9, .inl (ca 0, 9, .inl (fun _ => 0))), (q10, .inl (ca 0, 9, .inl (fun _ => 0))), (q11, .inr (3, [.int 0, .ref q12, .ref q13, .ref q14])), (q12, .inl (ca 0, 8, .inl (fun _ => 0))), (q13, .inl (ca 0, 8, .inl (fun _ => 0))), (q14, .inl (ca 1, 8, .inl (fun _ => 0))), (q15, .inr (4, [.ref q16, .int 0, .ref q1, .ref q6, .ref q19, .int 0, .ref q24, .int 0, .long 0, .int 0, .int 0])), (q16, .inr (1, [.int 0, .ref q17])), (q17, .inl (ca 3, 6, .inr (.inr (.inr (.inr (fun i => if i < 6 then some (r18 i) else none)))))), (r18 0, .inl (ca 0, 180, .inl (fun _ => 0))), (r18 1, .inl (ca 0, 180, .inl (fun _ => 0))), (r18 2, .inl (ca 0, 180, .inl (fun _ => 0))), (r18 3, .inl (ca 0, 180, .inl (fun _ => 0))), (r18 4, .inl (ca 0, 180, .inl (fun _ => 0))), (r18 5, .inl (ca 0, 180, .inl (fun _ => 0))), (q19, .inr (0, [.int 0, .ref q20, .ref q21, .ref q22, .ref q23])), (q20, .inl (ca 0, 180, .inl (fun _ => 0))), (q21, .inl (ca 0, 180, .inl (fun _ => 0))), (q22, .inl (ca 0, 180, .inl (fun _ => 0))), (q23, .inl (ca 0, 180, .inl (fun _ => 0))), (q24, .inl (ca 0, 6, .inl (fun _ => 0))), (q25, .inl (ca 2, 4, .inr (.inr (.inr (.inr (va_up (fun _ => none) (Int32.toNatClampNeg 0) (some q26))))))), (q26, .inr (5, [.int 0, .int 0, .int 0, .ref q27])), (q27, .inl (ca 0, 50, .inl (fun _ => 0)))]) (i := 33) [0, 1, 2, 3, 4, 5, 6, 7, 8, 9, 10, 11, 12, 13, 14, 15, 16, 17, 18, 19, 20, 21, 22, 23, 24, 25, 26, 27, 28, 29, 30, 31, 32] dX7_init_82 ⟨_, List.mem_of_getElem? (i := 3) rfl⟩ (cw_1 7 rfl rfl) (cw_1 173 rfl rfl) ⟨by decide +kernel, by decide +kernel, by decide +kernel⟩ (cw_1 172 rfl rfl) rfl rfl ⟨by decide, by decide⟩ (Nat.le_of_ble_eq_true rfl) ⟨by decide, by decide⟩ (s_X5_init) rfl rfl rfl (by decide) (fun W hW => ?_)
  obtain ⟨q29, rfl⟩ := hW
  refine i_astq (i := 30) (i2 := 33) dX7_init_85 rfl rfl rfl rfl (by unfold vp_in; decide) ?_
  refine i_ws (ws' := [(h0, .inr (6, [.ref q1, .ref q6, .ref q11, .ref q15, .ref q25, .int 0, .int 0])), (q1, .inr (2, [.int 0, .int 0, .ref q2, .ref q3, .ref q4, .ref q5])), (q2, .inl (ca 0, 6, .inl (fun _ => 0))), (q3, .inl (ca 0, 6, .inl (fun _ => 0))), (q4, .inl (ca 0, 6, .inl (fun _ => 0))), (q5, .inl (ca 0, 6, .inl (fun _ => 0))), (q6, .inr (0, [.int 0, .ref q7, .ref q8, .ref q9, .ref q10])), (q7, .inl (ca 0, 9, .inl (fun _ => 0))), (q8, .inl (ca 0, 9, .inl (fun _ => 0))), (q9, .inl (ca 0, 9, .inl (fun _ => 0))), (q10, .inl (ca 0, 9, .inl (fun _ => 0))), (q11, .inr (3, [.int 0, .ref q12, .ref q13, .ref q14])), (q12, .inl (ca 0, 8, .inl (fun _ => 0))), (q13, .inl (ca 0, 8, .inl (fun _ => 0))), (q14, .inl (ca 1, 8, .inl (fun _ => 0))), (q15, .inr (4, [.ref q16, .int 0, .ref q1, .ref q6, .ref q19, .int 0, .ref q24, .int 0, .long 0, .int 0, .int 0])), (q16, .inr (1, [.int 0, .ref q17])), (q17, .inl (ca 3, 6, .inr (.inr (.inr (.inr (fun i => if i < 6 then some (r18 i) else none)))))), (r18 0, .inl (ca 0, 180, .inl (fun _ => 0))), (r18 1, .inl (ca 0, 180, .inl (fun _ => 0))), (r18 2, .inl (ca 0, 180, .inl (fun _ => 0))), (r18 3, .inl (ca 0, 180, .inl (fun _ => 0))), (r18 4, .inl (ca 0, 180, .inl (fun _ => 0))), (r18 5, .inl (ca 0, 180, .inl (fun _ => 0))), (q19, .inr (0, [.int 0, .ref q20, .ref q21, .ref q22, .ref q23])), (q20, .inl (ca 0, 180, .inl (fun _ => 0))), (q21, .inl (ca 0, 180, .inl (fun _ => 0))), (q22, .inl (ca 0, 180, .inl (fun _ => 0))), (q23, .inl (ca 0, 180, .inl (fun _ => 0))), (q24, .inl (ca 0, 6, .inl (fun _ => 0))), (q25, .inl (ca 2, 4, .inr (.inr (.inr (.inr (va_up (va_up (fun _ => none) (Int32.toNatClampNeg 0) (some q26)) (Int32.toNatClampNeg 1) (some q28))))))), (q26, .inr (5, [.int 0, .int 0, .int 0, .ref q27])), (q27, .inl (ca 0, 50, .inl (fun _ => 0))), (q28, .inr (5, [.int 0, .int 0, .int 0, .ref q29])), (q29, .inl (ca 0, 50, .inl (fun _ => 0)))]) rfl ?_
  refine i_iinc (a := 0) (v := 2) (L' := [(1, .int 2), (0, .ref h0)]) dX7_init_86 rfl (by decide) (by decide) rfl ?_
  refine i_goto (tgt := 68) dX7_init_89 (by decide) ?_
  refine i_iload dX7_init_68 rfl ?_
  refine i_iconst (v := 4) dX7_init_69 (by decide) ?_
  refine i_icmp_ge (tgt := 92) dX7_init_70 (by decide) (fun h => absurd h (by decide)) (fun _ => ?_)
  refine i_aload dX7_init_73 rfl ?_
  refine i_get (i := 0) dX7_init_74 gf_X7_45 rfl rfl ?_
  refine i_iload dX7_init_77 rfl ?_
  refine i_new (ci := 5) (fs := [.int 0, .int 0, .int 0, .null]) dX7_init_78 rfl in_X5 tyX5_ok (cw_1 168 rfl rfl) (cw_1 170 rfl rfl) (cw_1 7 rfl rfl) (fun j hj => by rcases (show j = 0 ∨ j = 1 ∨ j = 2 ∨ j = 3 by omega) with rfl | rfl | rfl | rfl <;> rfl) (by decide) (by decide) (fun q30 => ?_)
  refine i_dup dX7_init_81 rfl ?_
  refine i_callN (a := 0) (As := []) (wr := [(h0, .inr (6, [.ref q1, .ref q6, .ref q11, .ref q15, .ref q25, .int 0, .int 0])), (q1, .inr (2, [.int 0, .int 0, .ref q2, .ref q3, .ref q4, .ref q5])), (q2, .inl (ca 0, 6, .inl (fun _ => 0))), (q3, .inl (ca 0, 6, .inl (fun _ => 0))), (q4, .inl (ca 0, 6, .inl (fun _ => 0))), (q5, .inl (ca 0, 6, .inl (fun _ => 0))), (q6, .inr (0, [.int 0, .ref q7, .ref q8, .ref q9, .ref q10])), (q7, .inl (ca 0, 9, .inl (fun _ => 0))), (q8, .inl (ca 0, 9, .inl (fun _ => 0))), (q9, .inl (ca 0, 9, .inl (fun _ => 0))), (q10, .inl (ca 0, 9, .inl (fun _ => 0))), (q11, .inr (3, [.int 0, .ref q12, .ref q13, .ref q14])), (q12, .inl (ca 0, 8, .inl (fun _ => 0))), (q13, .inl (ca 0, 8, .inl (fun _ => 0))), (q14, .inl (ca 1, 8, .inl (fun _ => 0))), (q15, .inr (4, [.ref q16, .int 0, .ref q1, .ref q6, .ref q19, .int 0, .ref q24, .int 0, .long 0, .int 0, .int 0])), (q16, .inr (1, [.int 0, .ref q17])), (q17, .inl (ca 3, 6, .inr (.inr (.inr (.inr (fun i => if i < 6 then some (r18 i) else none)))))), (r18 0, .inl (ca 0, 180, .inl (fun _ => 0))), (r18 1, .inl (ca 0, 180, .inl (fun _ => 0))), (r18 2, .inl (ca 0, 180, .inl (fun _ => 0))), (r18 3, .inl (ca 0, 180, .inl (fun _ => 0))), (r18 4, .inl (ca 0, 180, .inl (fun _ => 0))), (r18 5, .inl (ca 0, 180, .inl (fun _ => 0))), (q19, .inr (0, [.int 0, .ref q20, .ref q21, .ref q22, .ref q23])), (q20, .inl (ca 0, 180, .inl (fun _ => 0))), (q21, .inl (ca 0, 180, .inl (fun _ => 0))), (q22, .inl (ca 0, 180, .inl (fun _ => 0))), (q23, .inl (ca 0, 180, .inl (fun _ => 0))), (q24, .inl (ca 0, 6, .inl (fun _ => 0))), (q25, .inl (ca 2, 4, .inr (.inr (.inr (.inr (va_up (va_up (fun _ => none) (Int32.toNatClampNeg 0) (some q26)) (Int32.toNatClampNeg 1) (some q28))))))), (q26, .inr (5, [.int 0, .int 0, .int 0, .ref q27])), (q27, .inl (ca 0, 50, .inl (fun _ => 0))), (q28, .inr (5, [.int 0, .int 0, .int 0, .ref q29])), (q29, .inl (ca 0, 50, .inl (fun _ => 0)))]) (i := 35) [0, 1, 2, 3, 4, 5, 6, 7, 8, 9, 10, 11, 12, 13, 14, 15, 16, 17, 18, 19, 20, 21, 22, 23, 24, 25, 26, 27, 28, 29, 30, 31, 32, 33, 34] dX7_init_82 ⟨_, List.mem_of_getElem? (i := 3) rfl⟩ (cw_1 7 rfl rfl) (cw_1 173 rfl rfl) ⟨by decide +kernel, by decide +kernel, by decide +kernel⟩ (cw_1 172 rfl rfl) rfl rfl ⟨by decide, by decide⟩ (Nat.le_of_ble_eq_true rfl) ⟨by decide, by decide⟩ (s_X5_init) rfl rfl rfl (by decide) (fun W hW => ?_)
  obtain ⟨q31, rfl⟩ := hW
  refine i_astq (i := 30) (i2 := 35) dX7_init_85 rfl rfl rfl rfl (by unfold vp_in; decide) ?_
  refine i_ws (ws' := [(h0, .inr (6, [.ref q1, .ref q6, .ref q11, .ref q15, .ref q25, .int 0, .int 0])), (q1, .inr (2, [.int 0, .int 0, .ref q2, .ref q3, .ref q4, .ref q5])), (q2, .inl (ca 0, 6, .inl (fun _ => 0))), (q3, .inl (ca 0, 6, .inl (fun _ => 0))), (q4, .inl (ca 0, 6, .inl (fun _ => 0))), (q5, .inl (ca 0, 6, .inl (fun _ => 0))), (q6, .inr (0, [.int 0, .ref q7, .ref q8, .ref q9, .ref q10])), (q7, .inl (ca 0, 9, .inl (fun _ => 0))), (q8, .inl (ca 0, 9, .inl (fun _ => 0))), (q9, .inl (ca 0, 9, .inl (fun _ => 0))), (q10, .inl (ca 0, 9, .inl (fun _ => 0))), (q11, .inr (3, [.int 0, .ref q12, .ref q13, .ref q14])), (q12, .inl (ca 0, 8, .inl (fun _ => 0))), (q13, .inl (ca 0, 8, .inl (fun _ => 0))), (q14, .inl (ca 1, 8, .inl (fun _ => 0))), (q15, .inr (4, [.ref q16, .int 0, .ref q1, .ref q6, .ref q19, .int 0, .ref q24, .int 0, .long 0, .int 0, .int 0])), (q16, .inr (1, [.int 0, .ref q17])), (q17, .inl (ca 3, 6, .inr (.inr (.inr (.inr (fun i => if i < 6 then some (r18 i) else none)))))), (r18 0, .inl (ca 0, 180, .inl (fun _ => 0))), (r18 1, .inl (ca 0, 180, .inl (fun _ => 0))), (r18 2, .inl (ca 0, 180, .inl (fun _ => 0))), (r18 3, .inl (ca 0, 180, .inl (fun _ => 0))), (r18 4, .inl (ca 0, 180, .inl (fun _ => 0))), (r18 5, .inl (ca 0, 180, .inl (fun _ => 0))), (q19, .inr (0, [.int 0, .ref q20, .ref q21, .ref q22, .ref q23])), (q20, .inl (ca 0, 180, .inl (fun _ => 0))), (q21, .inl (ca 0, 180, .inl (fun _ => 0))), (q22, .inl (ca 0, 180, .inl (fun _ => 0))), (q23, .inl (ca 0, 180, .inl (fun _ => 0))), (q24, .inl (ca 0, 6, .inl (fun _ => 0))), (q25, .inl (ca 2, 4, .inr (.inr (.inr (.inr (va_up (va_up (va_up (fun _ => none) (Int32.toNatClampNeg 0) (some q26)) (Int32.toNatClampNeg 1) (some q28)) (Int32.toNatClampNeg 2) (some q30))))))), (q26, .inr (5, [.int 0, .int 0, .int 0, .ref q27])), (q27, .inl (ca 0, 50, .inl (fun _ => 0))), (q28, .inr (5, [.int 0, .int 0, .int 0, .ref q29])), (q29, .inl (ca 0, 50, .inl (fun _ => 0))), (q30, .inr (5, [.int 0, .int 0, .int 0, .ref q31])), (q31, .inl (ca 0, 50, .inl (fun _ => 0)))]) rfl ?_
  refine i_iinc (a := 0) (v := 3) (L' := [(1, .int 3), (0, .ref h0)]) dX7_init_86 rfl (by decide) (by decide) rfl ?_
  refine i_goto (tgt := 68) dX7_init_89 (by decide) ?_
  refine i_iload dX7_init_68 rfl ?_
  refine i_iconst (v := 4) dX7_init_69 (by decide) ?_
  refine i_icmp_ge (tgt := 92) dX7_init_70 (by decide) (fun h => absurd h (by decide)) (fun _ => ?_)
  refine i_aload dX7_init_73 rfl ?_
  refine i_get (i := 0) dX7_init_74 gf_X7_45 rfl rfl ?_
  refine i_iload dX7_init_77 rfl ?_
  refine i_new (ci := 5) (fs := [.int 0, .int 0, .int 0, .null]) dX7_init_78 rfl in_X5 tyX5_ok (cw_1 168 rfl rfl) (cw_1 170 rfl rfl) (cw_1 7 rfl rfl) (fun j hj => by rcases (show j = 0 ∨ j = 1 ∨ j = 2 ∨ j = 3 by omega) with rfl | rfl | rfl | rfl <;> rfl) (by decide) (by decide) (fun q32 => ?_)
  refine i_dup dX7_init_81 rfl ?_
  refine i_callN (a := 0) (As := []) (wr := [(h0, .inr (6, [.ref q1, .ref q6, .ref q11, .ref q15, .ref q25, .int 0, .int 0])), (q1, .inr (2, [.int 0, .int 0, .ref q2, .ref q3, .ref q4, .ref q5])), (q2, .inl (ca 0, 6, .inl (fun _ => 0))), (q3, .inl (ca 0, 6, .inl (fun _ => 0))), (q4, .inl (ca 0, 6, .inl (fun _ => 0))), (q5, .inl (ca 0, 6, .inl (fun _ => 0))), (q6, .inr (0, [.int 0, .ref q7, .ref q8, .ref q9, .ref q10])), (q7, .inl (ca 0, 9, .inl (fun _ => 0))), (q8, .inl (ca 0, 9, .inl (fun _ => 0))), (q9, .inl (ca 0, 9, .inl (fun _ => 0))), (q10, .inl (ca 0, 9, .inl (fun _ => 0))), (q11, .inr (3, [.int 0, .ref q12, .ref q13, .ref q14])), (q12, .inl (ca 0, 8, .inl (fun _ => 0))), (q13, .inl (ca 0, 8, .inl (fun _ => 0))), (q14, .inl (ca 1, 8, .inl (fun _ => 0))), (q15, .inr (4, [.ref q16, .int 0, .ref q1, .ref q6, .ref q19, .int 0, .ref q24, .int 0, .long 0, .int 0, .int 0])), (q16, .inr (1, [.int 0, .ref q17])), (q17, .inl (ca 3, 6, .inr (.inr (.inr (.inr (fun i => if i < 6 then some (r18 i) else none)))))), (r18 0, .inl (ca 0, 180, .inl (fun _ => 0))), (r18 1, .inl (ca 0, 180, .inl (fun _ => 0))), (r18 2, .inl (ca 0, 180, .inl (fun _ => 0))), (r18 3, .inl (ca 0, 180, .inl (fun _ => 0))), (r18 4, .inl (ca 0, 180, .inl (fun _ => 0))), (r18 5, .inl (ca 0, 180, .inl (fun _ => 0))), (q19, .inr (0, [.int 0, .ref q20, .ref q21, .ref q22, .ref q23])), (q20, .inl (ca 0, 180, .inl (fun _ => 0))), (q21, .inl (ca 0, 180, .inl (fun _ => 0))), (q22, .inl (ca 0, 180, .inl (fun _ => 0))), (q23, .inl (ca 0, 180, .inl (fun _ => 0))), (q24, .inl (ca 0, 6, .inl (fun _ => 0))), (q25, .inl (ca 2, 4, .inr (.inr (.inr (.inr (va_up (va_up (va_up (fun _ => none) (Int32.toNatClampNeg 0) (some q26)) (Int32.toNatClampNeg 1) (some q28)) (Int32.toNatClampNeg 2) (some q30))))))), (q26, .inr (5, [.int 0, .int 0, .int 0, .ref q27])), (q27, .inl (ca 0, 50, .inl (fun _ => 0))), (q28, .inr (5, [.int 0, .int 0, .int 0, .ref q29])), (q29, .inl (ca 0, 50, .inl (fun _ => 0))), (q30, .inr (5, [.int 0, .int 0, .int 0, .ref q31])), (q31, .inl (ca 0, 50, .inl (fun _ => 0)))]) (i := 37) [0, 1, 2, 3, 4, 5, 6, 7, 8, 9, 10, 11, 12, 13, 14, 15, 16, 17, 18, 19, 20, 21, 22, 23, 24, 25, 26, 27, 28, 29, 30, 31, 32, 33, 34, 35, 36] dX7_init_82 ⟨_, List.mem_of_getElem? (i := 3) rfl⟩ (cw_1 7 rfl rfl) (cw_1 173 rfl rfl) ⟨by decide +kernel, by decide +kernel, by decide +kernel⟩ (cw_1 172 rfl rfl) rfl rfl ⟨by decide, by decide⟩ (Nat.le_of_ble_eq_true rfl) ⟨by decide, by decide⟩ (s_X5_init) rfl rfl rfl (by decide) (fun W hW => ?_)
  obtain ⟨q33, rfl⟩ := hW
  refine i_astq (i := 30) (i2 := 37) dX7_init_85 rfl rfl rfl rfl (by unfold vp_in; decide) ?_
  refine i_ws (ws' := [(h0, .inr (6, [.ref q1, .ref q6, .ref q11, .ref q15, .ref q25, .int 0, .int 0])), (q1, .inr (2, [.int 0, .int 0, .ref q2, .ref q3, .ref q4, .ref q5])), (q2, .inl (ca 0, 6, .inl (fun _ => 0))), (q3, .inl (ca 0, 6, .inl (fun _ => 0))), (q4, .inl (ca 0, 6, .inl (fun _ => 0))), (q5, .inl (ca 0, 6, .inl (fun _ => 0))), (q6, .inr (0, [.int 0, .ref q7, .ref q8, .ref q9, .ref q10])), (q7, .inl (ca 0, 9, .inl (fun _ => 0))), (q8, .inl (ca 0, 9, .inl (fun _ => 0))), (q9, .inl (ca 0, 9, .inl (fun _ => 0))), (q10, .inl (ca 0, 9, .inl (fun _ => 0))), (q11, .inr (3, [.int 0, .ref q12, .ref q13, .ref q14])), (q12, .inl (ca 0, 8, .inl (fun _ => 0))), (q13, .inl (ca 0, 8, .inl (fun _ => 0))), (q14, .inl (ca 1, 8, .inl (fun _ => 0))), (q15, .inr (4, [.ref q16, .int 0, .ref q1, .ref q6, .ref q19, .int 0, .ref q24, .int 0, .long 0, .int 0, .int 0])), (q16, .inr (1, [.int 0, .ref q17])), (q17, .inl (ca 3, 6, .inr (.inr (.inr (.inr (fun i => if i < 6 then some (r18 i) else none)))))), (r18 0, .inl (ca 0, 180, .inl (fun _ => 0))), (r18 1, .inl (ca 0, 180, .inl (fun _ => 0))), (r18 2, .inl (ca 0, 180, .inl (fun _ => 0))), (r18 3, .inl (ca 0, 180, .inl (fun _ => 0))), (r18 4, .inl (ca 0, 180, .inl (fun _ => 0))), (r18 5, .inl (ca 0, 180, .inl (fun _ => 0))), (q19, .inr (0, [.int 0, .ref q20, .ref q21, .ref q22, .ref q23])), (q20, .inl (ca 0, 180, .inl (fun _ => 0))), (q21, .inl (ca 0, 180, .inl (fun _ => 0))), (q22, .inl (ca 0, 180, .inl (fun _ => 0))), (q23, .inl (ca 0, 180, .inl (fun _ => 0))), (q24, .inl (ca 0, 6, .inl (fun _ => 0))), (q25, .inl (ca 2, 4, .inr (.inr (.inr (.inr (va_up (va_up (va_up (va_up (fun _ => none) (Int32.toNatClampNeg 0) (some q26)) (Int32.toNatClampNeg 1) (some q28)) (Int32.toNatClampNeg 2) (some q30)) (Int32.toNatClampNeg 3) (some q32))))))), (q26, .inr (5, [.int 0, .int 0, .int 0, .ref q27])), (q27, .inl (ca 0, 50, .inl (fun _ => 0))), (q28, .inr (5, [.int 0, .int 0, .int 0, .ref q29])), (q29, .inl (ca 0, 50, .inl (fun _ => 0))), (q30, .inr (5, [.int 0, .int 0, .int 0, .ref q31])), (q31, .inl (ca 0, 50, .inl (fun _ => 0))), (q32, .inr (5, [.int 0, .int 0, .int 0, .ref q33])), (q33, .inl (ca 0, 50, .inl (fun _ => 0)))]) rfl ?_
  refine i_iinc (a := 0) (v := 4) (L' := [(1, .int 4), (0, .ref h0)]) dX7_init_86 rfl (by decide) (by decide) rfl ?_
  refine i_goto (tgt := 68) dX7_init_89 (by decide) ?_
  refine i_iload dX7_init_68 rfl ?_
  refine i_iconst (v := 4) dX7_init_69 (by decide) ?_
  refine i_icmp_ge (tgt := 92) dX7_init_70 (by decide) (fun _ => ?_) (fun h => absurd (by decide) h)
  exact i_vret dX7_init_92 (by decide) (by decide) ⟨q1, q2, q3, q4, q5, q6, q7, q8, q9, q10, q11, q12, q13, q14, q15, q16, q17, r18, q19, q20, q21, q22, q23, q24, q25, q26, q27, q28, q29, q30, q31, q32, q33, rfl⟩
end
section
def kw0 : kW := (fun _ _ => 0, fun _ _ => 0)
def sort0 : Nat → Int32 := upd (upd (upd (upd (fun _ => 0) (Int32.toNatClampNeg 0) (-9)) (Int32.toNatClampNeg 1) (-9)) (Int32.toNatClampNeg 2) (-9)) (Int32.toNatClampNeg 3) (-9)
def kg0 : kW := (fun c => if c = 1 then sort0 else fun _ => 0, fun _ _ => 0)
theorem rel0 : Rel 0 0 0 kw0 kg0 := by
  have hs : ∀ k, k < 4 → kg0.1 1 k = -9 := by decide +kernel
  have hP : Pn 0 kg0 := ⟨rfl, by decide, fun p hp => absurd hp (Nat.not_lt_zero _), fun p hp => absurd hp (Nat.not_lt_zero _), fun p hp => absurd hp (Nat.not_lt_zero _), fun p hp => absurd hp (Nat.not_lt_zero _)⟩
  refine ⟨⟨hP, ⟨rfl, by decide, fun p hp => absurd hp (Nat.not_lt_zero _)⟩, by decide, ⟨rfl, by decide, fun p hp => absurd hp (Nat.not_lt_zero _)⟩, rfl, fun k hk => ⟨Or.inl (hs k hk), 0, by decide, rfl⟩⟩, ⟨hP, rfl, fun p hp => absurd hp (Nat.not_lt_zero _)⟩, ⟨rfl, fun p hp => absurd hp (Nat.not_lt_zero _)⟩, fun p hp => absurd hp (Nat.not_lt_zero _), ⟨rfl, fun p hp => absurd hp (Nat.not_lt_zero _)⟩, fun k hk => ⟨Or.inl ⟨rfl, hs k hk⟩, rfl, fun x hx => rfl⟩, rfl, rfl⟩
theorem k_of_W {D : va_G} {A : Nat → Prop} {ca : Nat → ClassId} {ad : Nat → Nat} {sh : List kE} {w : kW} {W : va_W} {H : Heap} (hP : va_P D vwCl W H) (hD : va_D A W) (h : ∀ k e, sh[k]? = some e → W[k]? = some (ad k, k_ent ad ca w k e)) : va_P D vwCl (k_wd ad ca sh w) H ∧ va_D A (k_wd ad ca sh w) := by
  have key : ∀ (k : Nat) (q : Nat × va_E), (k_wd ad ca sh w)[k]? = some q → W[k]? = some q := fun k q hk => by
    obtain ⟨hl, he⟩ := k_wd_addr hk
    have h1 := List.getElem?_eq_getElem hl
    rw [k_wd_get h1] at hk
    rw [← hk]
    exact h k _ h1
  exact ⟨fun k q hk => hP k q (key k q hk), fun i j p q hi hj => hD.1 i j p q (key i p hi) (key j q hj), fun k q hk => hD.2 k q (key k q hk)⟩
theorem k_ob {ad : Nat → Nat} {ca : Nat → ClassId} {w : kW} {c ci : Nat} {fs : List kF} {vs : List Value} (h : fs.mapIdx (fun j f => k_val ad w c j f) = vs) : k_ent ad ca w c (.inl (ci, fs)) = .inr (ci, vs) := by
  rw [← h]; rfl
def Wc7 (ca : Nat → ClassId) (h0 : Nat) (q1 : Nat) (q2 : Nat) (q3 : Nat) (q4 : Nat) (q5 : Nat) (q6 : Nat) (q7 : Nat) (q8 : Nat) (q9 : Nat) (q10 : Nat) (q11 : Nat) (q12 : Nat) (q13 : Nat) (q14 : Nat) (q15 : Nat) (q16 : Nat) (q17 : Nat) (r18 : Nat → Nat) (q19 : Nat) (q20 : Nat) (q21 : Nat) (q22 : Nat) (q23 : Nat) (q24 : Nat) (q25 : Nat) (q26 : Nat) (q27 : Nat) (q28 : Nat) (q29 : Nat) (q30 : Nat) (q31 : Nat) (q32 : Nat) (q33 : Nat) : va_W := [(h0, .inr (6, [.ref q1, .ref q6, .ref q11, .ref q15, .ref q25, .int 0, .int 0])), (q1, .inr (2, [.int 0, .int 0, .ref q2, .ref q3, .ref q4, .ref q5])), (q2, .inl (ca 0, 6, .inl (fun _ => 0))), (q3, .inl (ca 0, 6, .inl (fun _ => 0))), (q4, .inl (ca 0, 6, .inl (fun _ => 0))), (q5, .inl (ca 0, 6, .inl (fun _ => 0))), (q6, .inr (0, [.int 0, .ref q7, .ref q8, .ref q9, .ref q10])), (q7, .inl (ca 0, 9, .inl (fun _ => 0))), (q8, .inl (ca 0, 9, .inl (fun _ => 0))), (q9, .inl (ca 0, 9, .inl (fun _ => 0))), (q10, .inl (ca 0, 9, .inl (fun _ => 0))), (q11, .inr (3, [.int 0, .ref q12, .ref q13, .ref q14])), (q12, .inl (ca 0, 8, .inl (fun _ => 0))), (q13, .inl (ca 0, 8, .inl (fun _ => 0))), (q14, .inl (ca 1, 8, .inl (fun _ => 0))), (q15, .inr (4, [.ref q16, .int 0, .ref q1, .ref q6, .ref q19, .int 0, .ref q24, .int 0, .long 0, .int 0, .int 0])), (q16, .inr (1, [.int 0, .ref q17])), (q17, .inl (ca 3, 6, .inr (.inr (.inr (.inr (fun i => if i < 6 then some (r18 i) else none)))))), (r18 0, .inl (ca 0, 180, .inl (fun _ => 0))), (r18 1, .inl (ca 0, 180, .inl (fun _ => 0))), (r18 2, .inl (ca 0, 180, .inl (fun _ => 0))), (r18 3, .inl (ca 0, 180, .inl (fun _ => 0))), (r18 4, .inl (ca 0, 180, .inl (fun _ => 0))), (r18 5, .inl (ca 0, 180, .inl (fun _ => 0))), (q19, .inr (0, [.int 0, .ref q20, .ref q21, .ref q22, .ref q23])), (q20, .inl (ca 0, 180, .inl (fun _ => 0))), (q21, .inl (ca 0, 180, .inl (fun _ => 0))), (q22, .inl (ca 0, 180, .inl (fun _ => 0))), (q23, .inl (ca 0, 180, .inl (fun _ => 0))), (q24, .inl (ca 0, 6, .inl (fun _ => 0))), (q25, .inl (ca 2, 4, .inr (.inr (.inr (.inr (va_up (va_up (va_up (va_up (fun _ => none) (Int32.toNatClampNeg 0) (some q26)) (Int32.toNatClampNeg 1) (some q28)) (Int32.toNatClampNeg 2) (some q30)) (Int32.toNatClampNeg 3) (some q32))))))), (q26, .inr (5, [.int 0, .int 0, .int 0, .ref q27])), (q28, .inr (5, [.int 0, .int 0, .int 0, .ref q29])), (q30, .inr (5, [.int 0, .int 0, .int 0, .ref q31])), (q32, .inr (5, [.int 0, .int 0, .int 0, .ref q33])), (q27, .inl (ca 0, 50, .inl (fun _ => 0))), (q29, .inl (ca 0, 50, .inl (fun _ => 0))), (q31, .inl (ca 0, 50, .inl (fun _ => 0))), (q33, .inl (ca 0, 50, .inl (fun _ => 0)))]
def adc7 (h0 : Nat) (q1 : Nat) (q2 : Nat) (q3 : Nat) (q4 : Nat) (q5 : Nat) (q6 : Nat) (q7 : Nat) (q8 : Nat) (q9 : Nat) (q10 : Nat) (q11 : Nat) (q12 : Nat) (q13 : Nat) (q14 : Nat) (q15 : Nat) (q16 : Nat) (q17 : Nat) (r18 : Nat → Nat) (q19 : Nat) (q20 : Nat) (q21 : Nat) (q22 : Nat) (q23 : Nat) (q24 : Nat) (q25 : Nat) (q26 : Nat) (q27 : Nat) (q28 : Nat) (q29 : Nat) (q30 : Nat) (q31 : Nat) (q32 : Nat) (q33 : Nat) : Nat → Nat := fun c => match c with
  | 0 => h0
  | 1 => q1
  | 2 => q2
  | 3 => q3
  | 4 => q4
  | 5 => q5
  | 6 => q6
  | 7 => q7
  | 8 => q8
  | 9 => q9
  | 10 => q10
  | 11 => q11
  | 12 => q12
  | 13 => q13
  | 14 => q14
  | 15 => q15
  | 16 => q16
  | 17 => q17
  | 18 => r18 0
  | 19 => r18 1
  | 20 => r18 2
  | 21 => r18 3
  | 22 => r18 4
  | 23 => r18 5
  | 24 => q19
  | 25 => q20
  | 26 => q21
  | 27 => q22
  | 28 => q23
  | 29 => q24
  | 30 => q25
  | 31 => q26
  | 32 => q28
  | 33 => q30
  | 34 => q32
  | 35 => q27
  | 36 => q29
  | 37 => q31
  | 38 => q33
  | _ => 0
set_option maxRecDepth 100000 in
set_option maxHeartbeats 400000 in
theorem wc7_0 (ca : Nat → ClassId) (h0 : Nat) (q1 : Nat) (q2 : Nat) (q3 : Nat) (q4 : Nat) (q5 : Nat) (q6 : Nat) (q7 : Nat) (q8 : Nat) (q9 : Nat) (q10 : Nat) (q11 : Nat) (q12 : Nat) (q13 : Nat) (q14 : Nat) (q15 : Nat) (q16 : Nat) (q17 : Nat) (r18 : Nat → Nat) (q19 : Nat) (q20 : Nat) (q21 : Nat) (q22 : Nat) (q23 : Nat) (q24 : Nat) (q25 : Nat) (q26 : Nat) (q27 : Nat) (q28 : Nat) (q29 : Nat) (q30 : Nat) (q31 : Nat) (q32 : Nat) (q33 : Nat) : k_ent (adc7 h0 q1 q2 q3 q4 q5 q6 q7 q8 q9 q10 q11 q12 q13 q14 q15 q16 q17 r18 q19 q20 q21 q22 q23 q24 q25 q26 q27 q28 q29 q30 q31 q32 q33) ca kw0 0 (.inl (6, [some (some 1), some (some 6), some (some 11), some (some 15), some (some 30), none, none])) = .inr (6, [.ref q1, .ref q6, .ref q11, .ref q15, .ref q25, .int 0, .int 0]) := by
  refine k_ob ?_
  simp only [List.mapIdx_cons, List.mapIdx_nil]
  rfl
set_option maxRecDepth 100000 in
set_option maxHeartbeats 400000 in
theorem wc7_1 (ca : Nat → ClassId) (h0 : Nat) (q1 : Nat) (q2 : Nat) (q3 : Nat) (q4 : Nat) (q5 : Nat) (q6 : Nat) (q7 : Nat) (q8 : Nat) (q9 : Nat) (q10 : Nat) (q11 : Nat) (q12 : Nat) (q13 : Nat) (q14 : Nat) (q15 : Nat) (q16 : Nat) (q17 : Nat) (r18 : Nat → Nat) (q19 : Nat) (q20 : Nat) (q21 : Nat) (q22 : Nat) (q23 : Nat) (q24 : Nat) (q25 : Nat) (q26 : Nat) (q27 : Nat) (q28 : Nat) (q29 : Nat) (q30 : Nat) (q31 : Nat) (q32 : Nat) (q33 : Nat) : k_ent (adc7 h0 q1 q2 q3 q4 q5 q6 q7 q8 q9 q10 q11 q12 q13 q14 q15 q16 q17 r18 q19 q20 q21 q22 q23 q24 q25 q26 q27 q28 q29 q30 q31 q32 q33) ca kw0 1 (.inl (2, [none, none, some (some 2), some (some 3), some (some 4), some (some 5)])) = .inr (2, [.int 0, .int 0, .ref q2, .ref q3, .ref q4, .ref q5]) := by
  refine k_ob ?_
  simp only [List.mapIdx_cons, List.mapIdx_nil]
  rfl
set_option maxRecDepth 100000 in
set_option maxHeartbeats 400000 in
theorem wc7_6 (ca : Nat → ClassId) (h0 : Nat) (q1 : Nat) (q2 : Nat) (q3 : Nat) (q4 : Nat) (q5 : Nat) (q6 : Nat) (q7 : Nat) (q8 : Nat) (q9 : Nat) (q10 : Nat) (q11 : Nat) (q12 : Nat) (q13 : Nat) (q14 : Nat) (q15 : Nat) (q16 : Nat) (q17 : Nat) (r18 : Nat → Nat) (q19 : Nat) (q20 : Nat) (q21 : Nat) (q22 : Nat) (q23 : Nat) (q24 : Nat) (q25 : Nat) (q26 : Nat) (q27 : Nat) (q28 : Nat) (q29 : Nat) (q30 : Nat) (q31 : Nat) (q32 : Nat) (q33 : Nat) : k_ent (adc7 h0 q1 q2 q3 q4 q5 q6 q7 q8 q9 q10 q11 q12 q13 q14 q15 q16 q17 r18 q19 q20 q21 q22 q23 q24 q25 q26 q27 q28 q29 q30 q31 q32 q33) ca kw0 6 (.inl (0, [none, some (some 7), some (some 8), some (some 9), some (some 10)])) = .inr (0, [.int 0, .ref q7, .ref q8, .ref q9, .ref q10]) := by
  refine k_ob ?_
  simp only [List.mapIdx_cons, List.mapIdx_nil]
  rfl
set_option maxRecDepth 100000 in
set_option maxHeartbeats 400000 in
theorem wc7_11 (ca : Nat → ClassId) (h0 : Nat) (q1 : Nat) (q2 : Nat) (q3 : Nat) (q4 : Nat) (q5 : Nat) (q6 : Nat) (q7 : Nat) (q8 : Nat) (q9 : Nat) (q10 : Nat) (q11 : Nat) (q12 : Nat) (q13 : Nat) (q14 : Nat) (q15 : Nat) (q16 : Nat) (q17 : Nat) (r18 : Nat → Nat) (q19 : Nat) (q20 : Nat) (q21 : Nat) (q22 : Nat) (q23 : Nat) (q24 : Nat) (q25 : Nat) (q26 : Nat) (q27 : Nat) (q28 : Nat) (q29 : Nat) (q30 : Nat) (q31 : Nat) (q32 : Nat) (q33 : Nat) : k_ent (adc7 h0 q1 q2 q3 q4 q5 q6 q7 q8 q9 q10 q11 q12 q13 q14 q15 q16 q17 r18 q19 q20 q21 q22 q23 q24 q25 q26 q27 q28 q29 q30 q31 q32 q33) ca kw0 11 (.inl (3, [none, some (some 12), some (some 13), some (some 14)])) = .inr (3, [.int 0, .ref q12, .ref q13, .ref q14]) := by
  refine k_ob ?_
  simp only [List.mapIdx_cons, List.mapIdx_nil]
  rfl
set_option maxRecDepth 100000 in
set_option maxHeartbeats 400000 in
theorem wc7_15 (ca : Nat → ClassId) (h0 : Nat) (q1 : Nat) (q2 : Nat) (q3 : Nat) (q4 : Nat) (q5 : Nat) (q6 : Nat) (q7 : Nat) (q8 : Nat) (q9 : Nat) (q10 : Nat) (q11 : Nat) (q12 : Nat) (q13 : Nat) (q14 : Nat) (q15 : Nat) (q16 : Nat) (q17 : Nat) (r18 : Nat → Nat) (q19 : Nat) (q20 : Nat) (q21 : Nat) (q22 : Nat) (q23 : Nat) (q24 : Nat) (q25 : Nat) (q26 : Nat) (q27 : Nat) (q28 : Nat) (q29 : Nat) (q30 : Nat) (q31 : Nat) (q32 : Nat) (q33 : Nat) : k_ent (adc7 h0 q1 q2 q3 q4 q5 q6 q7 q8 q9 q10 q11 q12 q13 q14 q15 q16 q17 r18 q19 q20 q21 q22 q23 q24 q25 q26 q27 q28 q29 q30 q31 q32 q33) ca kw0 15 (.inl (4, [some (some 16), none, some (some 1), some (some 6), some (some 24), none, some (some 29), none, some none, none, none])) = .inr (4, [.ref q16, .int 0, .ref q1, .ref q6, .ref q19, .int 0, .ref q24, .int 0, .long 0, .int 0, .int 0]) := by
  refine k_ob ?_
  simp only [List.mapIdx_cons, List.mapIdx_nil]
  rfl
set_option maxRecDepth 100000 in
set_option maxHeartbeats 400000 in
theorem wc7_16 (ca : Nat → ClassId) (h0 : Nat) (q1 : Nat) (q2 : Nat) (q3 : Nat) (q4 : Nat) (q5 : Nat) (q6 : Nat) (q7 : Nat) (q8 : Nat) (q9 : Nat) (q10 : Nat) (q11 : Nat) (q12 : Nat) (q13 : Nat) (q14 : Nat) (q15 : Nat) (q16 : Nat) (q17 : Nat) (r18 : Nat → Nat) (q19 : Nat) (q20 : Nat) (q21 : Nat) (q22 : Nat) (q23 : Nat) (q24 : Nat) (q25 : Nat) (q26 : Nat) (q27 : Nat) (q28 : Nat) (q29 : Nat) (q30 : Nat) (q31 : Nat) (q32 : Nat) (q33 : Nat) : k_ent (adc7 h0 q1 q2 q3 q4 q5 q6 q7 q8 q9 q10 q11 q12 q13 q14 q15 q16 q17 r18 q19 q20 q21 q22 q23 q24 q25 q26 q27 q28 q29 q30 q31 q32 q33) ca kw0 16 (.inl (1, [none, some (some 17)])) = .inr (1, [.int 0, .ref q17]) := by
  refine k_ob ?_
  simp only [List.mapIdx_cons, List.mapIdx_nil]
  rfl
set_option maxRecDepth 100000 in
set_option maxHeartbeats 400000 in
theorem wc7_17 (h0 : Nat) (q1 : Nat) (q2 : Nat) (q3 : Nat) (q4 : Nat) (q5 : Nat) (q6 : Nat) (q7 : Nat) (q8 : Nat) (q9 : Nat) (q10 : Nat) (q11 : Nat) (q12 : Nat) (q13 : Nat) (q14 : Nat) (q15 : Nat) (q16 : Nat) (q17 : Nat) (r18 : Nat → Nat) (q19 : Nat) (q20 : Nat) (q21 : Nat) (q22 : Nat) (q23 : Nat) (q24 : Nat) (q25 : Nat) (q26 : Nat) (q27 : Nat) (q28 : Nat) (q29 : Nat) (q30 : Nat) (q31 : Nat) (q32 : Nat) (q33 : Nat) : (fun i => if i < 6 then some (r18 i) else none : Nat → Option Nat) = (fun i => Option.map (adc7 h0 q1 q2 q3 q4 q5 q6 q7 q8 q9 q10 q11 q12 q13 q14 q15 q16 q17 r18 q19 q20 q21 q22 q23 q24 q25 q26 q27 q28 q29 q30 q31 q32 q33) (if i < 6 then some (18 + i) else none)) := by
  funext i
  by_cases h : i < 6
  · rcases (show i = 0 ∨ i = 1 ∨ i = 2 ∨ i = 3 ∨ i = 4 ∨ i = 5 by omega) with rfl | rfl | rfl | rfl | rfl | rfl <;> rfl
  · rw [if_neg h, if_neg h]; rfl
set_option maxRecDepth 100000 in
set_option maxHeartbeats 400000 in
theorem wc7_24 (ca : Nat → ClassId) (h0 : Nat) (q1 : Nat) (q2 : Nat) (q3 : Nat) (q4 : Nat) (q5 : Nat) (q6 : Nat) (q7 : Nat) (q8 : Nat) (q9 : Nat) (q10 : Nat) (q11 : Nat) (q12 : Nat) (q13 : Nat) (q14 : Nat) (q15 : Nat) (q16 : Nat) (q17 : Nat) (r18 : Nat → Nat) (q19 : Nat) (q20 : Nat) (q21 : Nat) (q22 : Nat) (q23 : Nat) (q24 : Nat) (q25 : Nat) (q26 : Nat) (q27 : Nat) (q28 : Nat) (q29 : Nat) (q30 : Nat) (q31 : Nat) (q32 : Nat) (q33 : Nat) : k_ent (adc7 h0 q1 q2 q3 q4 q5 q6 q7 q8 q9 q10 q11 q12 q13 q14 q15 q16 q17 r18 q19 q20 q21 q22 q23 q24 q25 q26 q27 q28 q29 q30 q31 q32 q33) ca kw0 24 (.inl (0, [none, some (some 25), some (some 26), some (some 27), some (some 28)])) = .inr (0, [.int 0, .ref q20, .ref q21, .ref q22, .ref q23]) := by
  refine k_ob ?_
  simp only [List.mapIdx_cons, List.mapIdx_nil]
  rfl
set_option maxRecDepth 100000 in
set_option maxHeartbeats 400000 in
theorem wc7_30 (h0 : Nat) (q1 : Nat) (q2 : Nat) (q3 : Nat) (q4 : Nat) (q5 : Nat) (q6 : Nat) (q7 : Nat) (q8 : Nat) (q9 : Nat) (q10 : Nat) (q11 : Nat) (q12 : Nat) (q13 : Nat) (q14 : Nat) (q15 : Nat) (q16 : Nat) (q17 : Nat) (r18 : Nat → Nat) (q19 : Nat) (q20 : Nat) (q21 : Nat) (q22 : Nat) (q23 : Nat) (q24 : Nat) (q25 : Nat) (q26 : Nat) (q27 : Nat) (q28 : Nat) (q29 : Nat) (q30 : Nat) (q31 : Nat) (q32 : Nat) (q33 : Nat) : (va_up (va_up (va_up (va_up (fun _ => none) (Int32.toNatClampNeg 0) (some q26)) (Int32.toNatClampNeg 1) (some q28)) (Int32.toNatClampNeg 2) (some q30)) (Int32.toNatClampNeg 3) (some q32) : Nat → Option Nat) = (fun i => Option.map (adc7 h0 q1 q2 q3 q4 q5 q6 q7 q8 q9 q10 q11 q12 q13 q14 q15 q16 q17 r18 q19 q20 q21 q22 q23 q24 q25 q26 q27 q28 q29 q30 q31 q32 q33) (if i < 4 then some (31 + i) else none)) := by
  funext i
  by_cases h : i < 4
  · rcases (show i = 0 ∨ i = 1 ∨ i = 2 ∨ i = 3 by omega) with rfl | rfl | rfl | rfl <;> rfl
  · rw [if_neg h]
    have z0 : ¬ i = 0 := by omega
    have z1 : ¬ i = 1 := by omega
    have z2 : ¬ i = 2 := by omega
    have z3 : ¬ i = 3 := by omega
    have t1 : Int32.toNatClampNeg 1 = 1 := by decide
    have t2 : Int32.toNatClampNeg 2 = 2 := by decide
    have t3 : Int32.toNatClampNeg 3 = 3 := by decide
    have t0 : Int32.toNatClampNeg 0 = 0 := by decide
    simp only [va_up, t0, t1, t2, t3, if_neg z0, if_neg z1, if_neg z2, if_neg z3]
    rfl
set_option maxRecDepth 100000 in
set_option maxHeartbeats 400000 in
theorem wc7_31 (ca : Nat → ClassId) (h0 : Nat) (q1 : Nat) (q2 : Nat) (q3 : Nat) (q4 : Nat) (q5 : Nat) (q6 : Nat) (q7 : Nat) (q8 : Nat) (q9 : Nat) (q10 : Nat) (q11 : Nat) (q12 : Nat) (q13 : Nat) (q14 : Nat) (q15 : Nat) (q16 : Nat) (q17 : Nat) (r18 : Nat → Nat) (q19 : Nat) (q20 : Nat) (q21 : Nat) (q22 : Nat) (q23 : Nat) (q24 : Nat) (q25 : Nat) (q26 : Nat) (q27 : Nat) (q28 : Nat) (q29 : Nat) (q30 : Nat) (q31 : Nat) (q32 : Nat) (q33 : Nat) : k_ent (adc7 h0 q1 q2 q3 q4 q5 q6 q7 q8 q9 q10 q11 q12 q13 q14 q15 q16 q17 r18 q19 q20 q21 q22 q23 q24 q25 q26 q27 q28 q29 q30 q31 q32 q33) ca kw0 31 (.inl (5, [none, none, none, some (some 35)])) = .inr (5, [.int 0, .int 0, .int 0, .ref q27]) := by
  refine k_ob ?_
  simp only [List.mapIdx_cons, List.mapIdx_nil]
  rfl
set_option maxRecDepth 100000 in
set_option maxHeartbeats 400000 in
theorem wc7_32 (ca : Nat → ClassId) (h0 : Nat) (q1 : Nat) (q2 : Nat) (q3 : Nat) (q4 : Nat) (q5 : Nat) (q6 : Nat) (q7 : Nat) (q8 : Nat) (q9 : Nat) (q10 : Nat) (q11 : Nat) (q12 : Nat) (q13 : Nat) (q14 : Nat) (q15 : Nat) (q16 : Nat) (q17 : Nat) (r18 : Nat → Nat) (q19 : Nat) (q20 : Nat) (q21 : Nat) (q22 : Nat) (q23 : Nat) (q24 : Nat) (q25 : Nat) (q26 : Nat) (q27 : Nat) (q28 : Nat) (q29 : Nat) (q30 : Nat) (q31 : Nat) (q32 : Nat) (q33 : Nat) : k_ent (adc7 h0 q1 q2 q3 q4 q5 q6 q7 q8 q9 q10 q11 q12 q13 q14 q15 q16 q17 r18 q19 q20 q21 q22 q23 q24 q25 q26 q27 q28 q29 q30 q31 q32 q33) ca kw0 32 (.inl (5, [none, none, none, some (some 36)])) = .inr (5, [.int 0, .int 0, .int 0, .ref q29]) := by
  refine k_ob ?_
  simp only [List.mapIdx_cons, List.mapIdx_nil]
  rfl
set_option maxRecDepth 100000 in
set_option maxHeartbeats 400000 in
theorem wc7_33 (ca : Nat → ClassId) (h0 : Nat) (q1 : Nat) (q2 : Nat) (q3 : Nat) (q4 : Nat) (q5 : Nat) (q6 : Nat) (q7 : Nat) (q8 : Nat) (q9 : Nat) (q10 : Nat) (q11 : Nat) (q12 : Nat) (q13 : Nat) (q14 : Nat) (q15 : Nat) (q16 : Nat) (q17 : Nat) (r18 : Nat → Nat) (q19 : Nat) (q20 : Nat) (q21 : Nat) (q22 : Nat) (q23 : Nat) (q24 : Nat) (q25 : Nat) (q26 : Nat) (q27 : Nat) (q28 : Nat) (q29 : Nat) (q30 : Nat) (q31 : Nat) (q32 : Nat) (q33 : Nat) : k_ent (adc7 h0 q1 q2 q3 q4 q5 q6 q7 q8 q9 q10 q11 q12 q13 q14 q15 q16 q17 r18 q19 q20 q21 q22 q23 q24 q25 q26 q27 q28 q29 q30 q31 q32 q33) ca kw0 33 (.inl (5, [none, none, none, some (some 37)])) = .inr (5, [.int 0, .int 0, .int 0, .ref q31]) := by
  refine k_ob ?_
  simp only [List.mapIdx_cons, List.mapIdx_nil]
  rfl
set_option maxRecDepth 100000 in
set_option maxHeartbeats 400000 in
theorem wc7_34 (ca : Nat → ClassId) (h0 : Nat) (q1 : Nat) (q2 : Nat) (q3 : Nat) (q4 : Nat) (q5 : Nat) (q6 : Nat) (q7 : Nat) (q8 : Nat) (q9 : Nat) (q10 : Nat) (q11 : Nat) (q12 : Nat) (q13 : Nat) (q14 : Nat) (q15 : Nat) (q16 : Nat) (q17 : Nat) (r18 : Nat → Nat) (q19 : Nat) (q20 : Nat) (q21 : Nat) (q22 : Nat) (q23 : Nat) (q24 : Nat) (q25 : Nat) (q26 : Nat) (q27 : Nat) (q28 : Nat) (q29 : Nat) (q30 : Nat) (q31 : Nat) (q32 : Nat) (q33 : Nat) : k_ent (adc7 h0 q1 q2 q3 q4 q5 q6 q7 q8 q9 q10 q11 q12 q13 q14 q15 q16 q17 r18 q19 q20 q21 q22 q23 q24 q25 q26 q27 q28 q29 q30 q31 q32 q33) ca kw0 34 (.inl (5, [none, none, none, some (some 38)])) = .inr (5, [.int 0, .int 0, .int 0, .ref q33]) := by
  refine k_ob ?_
  simp only [List.mapIdx_cons, List.mapIdx_nil]
  rfl
set_option maxRecDepth 100000 in
set_option maxHeartbeats 400000 in
theorem wc7_all (ca : Nat → ClassId) (h0 : Nat) (q1 : Nat) (q2 : Nat) (q3 : Nat) (q4 : Nat) (q5 : Nat) (q6 : Nat) (q7 : Nat) (q8 : Nat) (q9 : Nat) (q10 : Nat) (q11 : Nat) (q12 : Nat) (q13 : Nat) (q14 : Nat) (q15 : Nat) (q16 : Nat) (q17 : Nat) (r18 : Nat → Nat) (q19 : Nat) (q20 : Nat) (q21 : Nat) (q22 : Nat) (q23 : Nat) (q24 : Nat) (q25 : Nat) (q26 : Nat) (q27 : Nat) (q28 : Nat) (q29 : Nat) (q30 : Nat) (q31 : Nat) (q32 : Nat) (q33 : Nat) : ∀ k e, shC[k]? = some e → (Wc7 ca h0 q1 q2 q3 q4 q5 q6 q7 q8 q9 q10 q11 q12 q13 q14 q15 q16 q17 r18 q19 q20 q21 q22 q23 q24 q25 q26 q27 q28 q29 q30 q31 q32 q33)[k]? = some ((adc7 h0 q1 q2 q3 q4 q5 q6 q7 q8 q9 q10 q11 q12 q13 q14 q15 q16 q17 r18 q19 q20 q21 q22 q23 q24 q25 q26 q27 q28 q29 q30 q31 q32 q33) k, k_ent (adc7 h0 q1 q2 q3 q4 q5 q6 q7 q8 q9 q10 q11 q12 q13 q14 q15 q16 q17 r18 q19 q20 q21 q22 q23 q24 q25 q26 q27 q28 q29 q30 q31 q32 q33) ca kw0 k e) := by
  intro k e he
  have hk : k < 39 := (List.getElem?_eq_some_iff.mp he).1
  rcases (show k = 0 ∨ k = 1 ∨ k = 2 ∨ k = 3 ∨ k = 4 ∨ k = 5 ∨ k = 6 ∨ k = 7 ∨ k = 8 ∨ k = 9 ∨ k = 10 ∨ k = 11 ∨ k = 12 ∨ k = 13 ∨ k = 14 ∨ k = 15 ∨ k = 16 ∨ k = 17 ∨ k = 18 ∨ k = 19 ∨ k = 20 ∨ k = 21 ∨ k = 22 ∨ k = 23 ∨ k = 24 ∨ k = 25 ∨ k = 26 ∨ k = 27 ∨ k = 28 ∨ k = 29 ∨ k = 30 ∨ k = 31 ∨ k = 32 ∨ k = 33 ∨ k = 34 ∨ k = 35 ∨ k = 36 ∨ k = 37 ∨ k = 38 by omega) with rfl | rfl | rfl | rfl | rfl | rfl | rfl | rfl | rfl | rfl | rfl | rfl | rfl | rfl | rfl | rfl | rfl | rfl | rfl | rfl | rfl | rfl | rfl | rfl | rfl | rfl | rfl | rfl | rfl | rfl | rfl | rfl | rfl | rfl | rfl | rfl | rfl | rfl | rfl
  · cases he; exact congrArg (fun x : va_E => some (h0, x)) (wc7_0 ca h0 q1 q2 q3 q4 q5 q6 q7 q8 q9 q10 q11 q12 q13 q14 q15 q16 q17 r18 q19 q20 q21 q22 q23 q24 q25 q26 q27 q28 q29 q30 q31 q32 q33).symm
  · cases he; exact congrArg (fun x : va_E => some (q1, x)) (wc7_1 ca h0 q1 q2 q3 q4 q5 q6 q7 q8 q9 q10 q11 q12 q13 q14 q15 q16 q17 r18 q19 q20 q21 q22 q23 q24 q25 q26 q27 q28 q29 q30 q31 q32 q33).symm
  · cases he; rfl
  · cases he; rfl
  · cases he; rfl
  · cases he; rfl
  · cases he; exact congrArg (fun x : va_E => some (q6, x)) (wc7_6 ca h0 q1 q2 q3 q4 q5 q6 q7 q8 q9 q10 q11 q12 q13 q14 q15 q16 q17 r18 q19 q20 q21 q22 q23 q24 q25 q26 q27 q28 q29 q30 q31 q32 q33).symm
  · cases he; rfl
  · cases he; rfl
  · cases he; rfl
  · cases he; rfl
  · cases he; exact congrArg (fun x : va_E => some (q11, x)) (wc7_11 ca h0 q1 q2 q3 q4 q5 q6 q7 q8 q9 q10 q11 q12 q13 q14 q15 q16 q17 r18 q19 q20 q21 q22 q23 q24 q25 q26 q27 q28 q29 q30 q31 q32 q33).symm
  · cases he; rfl
  · cases he; rfl
  · cases he; rfl
  · cases he; exact congrArg (fun x : va_E => some (q15, x)) (wc7_15 ca h0 q1 q2 q3 q4 q5 q6 q7 q8 q9 q10 q11 q12 q13 q14 q15 q16 q17 r18 q19 q20 q21 q22 q23 q24 q25 q26 q27 q28 q29 q30 q31 q32 q33).symm
  · cases he; exact congrArg (fun x : va_E => some (q16, x)) (wc7_16 ca h0 q1 q2 q3 q4 q5 q6 q7 q8 q9 q10 q11 q12 q13 q14 q15 q16 q17 r18 q19 q20 q21 q22 q23 q24 q25 q26 q27 q28 q29 q30 q31 q32 q33).symm
  · cases he; exact congrArg (fun F : Nat → Option Nat => (some (q17, .inl (ca 3, 6, .inr (.inr (.inr (.inr F))))) : Option (Nat × va_E))) (wc7_17 h0 q1 q2 q3 q4 q5 q6 q7 q8 q9 q10 q11 q12 q13 q14 q15 q16 q17 r18 q19 q20 q21 q22 q23 q24 q25 q26 q27 q28 q29 q30 q31 q32 q33)
  · cases he; rfl
  · cases he; rfl
  · cases he; rfl
  · cases he; rfl
  · cases he; rfl
  · cases he; rfl
  · cases he; exact congrArg (fun x : va_E => some (q19, x)) (wc7_24 ca h0 q1 q2 q3 q4 q5 q6 q7 q8 q9 q10 q11 q12 q13 q14 q15 q16 q17 r18 q19 q20 q21 q22 q23 q24 q25 q26 q27 q28 q29 q30 q31 q32 q33).symm
  · cases he; rfl
  · cases he; rfl
  · cases he; rfl
  · cases he; rfl
  · cases he; rfl
  · cases he; exact congrArg (fun F : Nat → Option Nat => (some (q25, .inl (ca 2, 4, .inr (.inr (.inr (.inr F))))) : Option (Nat × va_E))) (wc7_30 h0 q1 q2 q3 q4 q5 q6 q7 q8 q9 q10 q11 q12 q13 q14 q15 q16 q17 r18 q19 q20 q21 q22 q23 q24 q25 q26 q27 q28 q29 q30 q31 q32 q33)
  · cases he; exact congrArg (fun x : va_E => some (q26, x)) (wc7_31 ca h0 q1 q2 q3 q4 q5 q6 q7 q8 q9 q10 q11 q12 q13 q14 q15 q16 q17 r18 q19 q20 q21 q22 q23 q24 q25 q26 q27 q28 q29 q30 q31 q32 q33).symm
  · cases he; exact congrArg (fun x : va_E => some (q28, x)) (wc7_32 ca h0 q1 q2 q3 q4 q5 q6 q7 q8 q9 q10 q11 q12 q13 q14 q15 q16 q17 r18 q19 q20 q21 q22 q23 q24 q25 q26 q27 q28 q29 q30 q31 q32 q33).symm
  · cases he; exact congrArg (fun x : va_E => some (q30, x)) (wc7_33 ca h0 q1 q2 q3 q4 q5 q6 q7 q8 q9 q10 q11 q12 q13 q14 q15 q16 q17 r18 q19 q20 q21 q22 q23 q24 q25 q26 q27 q28 q29 q30 q31 q32 q33).symm
  · cases he; exact congrArg (fun x : va_E => some (q32, x)) (wc7_34 ca h0 q1 q2 q3 q4 q5 q6 q7 q8 q9 q10 q11 q12 q13 q14 q15 q16 q17 r18 q19 q20 q21 q22 q23 q24 q25 q26 q27 q28 q29 q30 q31 q32 q33).symm
  · cases he; rfl
  · cases he; rfl
  · cases he; rfl
  · cases he; rfl
end
section
/-! ===== more of the pure lemmas ===== -/
theorem nI_lit (n : Nat) : Int32.ofNat n = nI n := rfl
theorem nI_two (j : Nat) : 2 * nI j = nI (2 * j) := nI_mul 2 j
theorem k_narz {x : Int32} (h : x = 0 ∨ x = 1) : vp_nar .boolean x = x := by
  rcases h with rfl | rfl <;> decide
theorem b_big {x : Int32} {i : Nat} (h : 32 ≤ i) : bt x i = false := BitVec.getLsbD_of_ge _ _ h
theorem b_shl8 (x : Int32) {i : Nat} (hi : i < 32) : bt (x <<< ((8 : Int32) &&& 31)) i = (decide (8 ≤ i) && bt x (i - 8)) := b_shl 8 (by omega) x hi
theorem bit_0 (x : Int32) {k : Nat} (hk : k < 32) : (x >>> (nI k &&& 31)) &&& 1 = 0 ↔ bt x k = false := by
  have e : ∀ i, i < 32 → bt ((x >>> (nI k &&& 31)) &&& 1) i = (decide (i = 0) && bt x k) := by
    intro i hi
    rw [b_and, b_sshr k hk x hi]
    by_cases h : i = 0
    · subst h
      simp [hk, show bt 1 0 = true from by decide]
    · have h1 : bt 1 i = false := by
        have : ∀ i, i < 32 → i ≠ 0 → bt 1 i = false := by decide +kernel
        exact this i hi h
      simp [h, h1]
  constructor
  · intro h
    have h0 := e 0 (by omega)
    rw [h] at h0
    simpa [show bt 0 0 = false from by decide] using h0.symm
  · intro h
    apply b_ext
    intro i hi
    rw [e i hi, h, b_0]
    simp
theorem bit_n1 (x : Int32) {k : Nat} (hk : k < 32) : ¬ (x >>> (nI k &&& 31)) &&& 1 = 0 ↔ bt x k = true := by
  rw [bit_0 x hk]; simp
theorem bit_n0 (x : Int32) {k : Nat} (hk : k < 32) : ¬ (x >>> (nI k &&& 31)) &&& 1 = 1 ↔ bt x k = false := by
  rw [bit_1 x hk]; simp
/-- the takings of the answers so far stay -/
def TkMore (w v : kW) : Prop := ∀ t, t < 200 → w.1 0 23 = nI t → ∃ t', t ≤ t' ∧ v.1 0 23 = nI t' ∧ ∀ k, k < t → v.1 16 k = w.1 16 k ∧ v.1 17 k = w.1 17 k ∧ v.1 18 k = w.1 18 k ∧ v.1 19 k = w.1 19 k
theorem mKp.un0 {c : Nat} {w v : kW} {x y : Int32} (h : mKp c (kset w 0 20 x) v) : mKp c (kset w 0 20 y) (kset v 0 20 y) :=
  ⟨fun j a b => by rw [kset_row _ _ _ _ a, kset_row _ _ _ _ a, h.1 j a b, kset_row _ _ _ _ a], fun j k a b hk => by rw [kset_row _ _ _ _ (by omega), kset_row _ _ _ _ (by omega), h.2.1 j k a b hk, kset_row _ _ _ _ (by omega)], fun j a b d => by
    by_cases e : j = 20
    · subst e; rw [kset_eq, kset_eq]
    · rw [kset_ne _ _ (Or.inr e), kset_ne _ _ (Or.inr e), h.2.2 j a b d, kset_ne _ _ (Or.inr e)]⟩
theorem mKp.un1 {c : Nat} {w v : kW} {x y : Int32} (h : mKp c (kset w 0 20 x) v) (hy : w.1 0 20 = y) : mKp c w (kset v 0 20 y) := by
  have h2 := h.un0 (y := y)
  rwa [kset_self hy] at h2
def R_reading (w : kW) (p d was : Int32) : Int32 × kW := if isPr w p then (if isDw d then (if w.1 0 35 = 8 then (-4, w) else (w.1 0 35, kset (kset (kset (kset w 26 (dn (w.1 0 35)) p) 27 (dn (w.1 0 35)) d) 28 (dn (w.1 0 35)) was) 0 35 (w.1 0 35 + 1))) else (-2, w)) else (-1, w)
def R_back (w : kW) (k : Int32) : Int32 × kW := if 0 ≤ k ∧ k ≤ w.1 0 35 then (w.1 0 35 - k, kset w 0 35 (w.1 0 35 - k)) else (-2, w)
def R_tell (w : kW) (p : Int32) : Int32 × kW := if isPr w p then (if w.1 4 (dn p) = 1 then (w.1 5 (dn p) + 100, tr1 (tr1 w 2) 1) else if w.1 4 (dn p) = 2 then (2 * w.1 5 (dn p) + 100, tr1 (tr1 (tr1 (tr1 w 3) 2) 1) 1) else (w.1 5 (dn p), tr1 w 1)) else (-1, w)
def R_salute (w : kW) (p : Int32) : Int32 × kW := if isPr w p then (if w.1 4 (dn p) = 2 then (80, tr1 w 5) else (p, tr1 w 4)) else (-1, w)
def R_as (w : kW) (p k : Int32) : Int32 × kW := if isPr w p then (if 0 ≤ k ∧ k ≤ 2 then (if w.1 4 (dn p) < k then (-12, kset w 0 0 2) else (1, kset w 0 0 0)) else (-2, kset w 0 0 0)) else (-1, kset w 0 0 0)
theorem nI_50 (j : Nat) : 50 * nI j = nI (50 * j) := nI_mul 50 j
def R_lose (w : kW) (k : Int32) : Int32 × kW := if isS k then (if w.1 1 (dn k) = -9 then 0 else 1, kset w 1 (dn k) (-9)) else (-1, w)
abbrev LOSTv : Int64 := -9223372036854775808
def R_cell (w : kW) (k i sort : Int32) : Int64 × kW := if isS k ∧ isT sort then (if ¬ w.1 1 (dn k) = -9 ∧ ¬ w.1 1 (dn k) = sort then (LOSTv, kset w 0 0 2) else if w.1 1 (dn k) = -9 then (LOSTv, kset w 0 0 1) else if 0 ≤ i ∧ i ≤ w.1 2 (dn k) - 1 then ((w.1 3 (50 * dn k + dn i)).toInt64, kset w 0 0 0) else (LOSTv, kset w 0 0 3)) else (LOSTv, kset w 0 0 0)
abbrev cpOk (w : kW) (k o : Nat) (i j n : Int32) : Prop := ¬ i < 0 ∧ ¬ j < 0 ∧ ¬ n < 0 ∧ i ≤ w.1 2 k ∧ j ≤ w.1 2 o ∧ n ≤ w.1 2 k - i ∧ n ≤ w.1 2 o - j
def R_copy (w : kW) (k i o j n : Int32) : Int32 × kW := if isS k ∧ isS o then (if w.1 1 (dn k) = -9 ∨ w.1 1 (dn o) = -9 then (-11, kset w 0 0 1) else if w.1 1 (dn k) = w.1 1 (dn o) then (if cpOk w (dn k) (dn o) i j n then (n, ((k_cpy (kset w 0 0 0).1 3 3 (50 * dn k + dn i) (50 * dn o + dn j) (dn n)), w.2)) else (-13, kset w 0 0 3)) else (-12, kset w 0 0 2)) else (-1, kset w 0 0 0)
def cpB (f : Nat → Nat → Int32) (S D n q : Nat) : Nat → Nat → Int32 := fun c x => if c = 3 then (if D + (n - q) ≤ x ∧ x < D + n then f 3 (S + (x - D)) else f c x) else f c x
theorem cpF_step {f : Nat → Nat → Int32} {S D q : Nat} (h : ¬ (D ≤ S + q ∧ S + q < D + q)) : k_up (k_cpy f 3 3 S D q) 3 (D + q) (k_cpy f 3 3 S D q 3 (S + q)) = k_cpy f 3 3 S D (q + 1) := by
  funext c x
  simp only [k_up, k_cpy]
  by_cases hc : c = 3
  · subst hc
    simp only [if_true, if_neg h]
    by_cases hx : x = D + q
    · subst hx
      rw [if_pos rfl, if_pos (by omega), Nat.add_sub_cancel_left]
    · rw [if_neg hx]
      by_cases h2 : D ≤ x ∧ x < D + q
      · rw [if_pos h2, if_pos (by omega)]
      · rw [if_neg h2, if_neg (by omega)]
  · simp only [if_neg hc]
theorem cpB_step {f : Nat → Nat → Int32} {S D n q : Nat} (hq : q < n) (h : ¬ (D + (n - q) ≤ S + (n - 1 - q) ∧ S + (n - 1 - q) < D + n)) : k_up (cpB f S D n q) 3 (D + (n - 1 - q)) (cpB f S D n q 3 (S + (n - 1 - q))) = cpB f S D n (q + 1) := by
  funext c x
  simp only [k_up, cpB]
  by_cases hc : c = 3
  · subst hc
    simp only [if_true, if_neg h]
    by_cases hx : x = D + (n - 1 - q)
    · subst hx
      rw [if_pos rfl, if_pos (by omega), Nat.add_sub_cancel_left]
    · rw [if_neg hx]
      by_cases h2 : D + (n - q) ≤ x ∧ x < D + n
      · rw [if_pos h2, if_pos (by omega)]
      · rw [if_neg h2, if_neg (by omega)]
  · simp only [if_neg hc]
theorem cpF_0 (f : Nat → Nat → Int32) (S D : Nat) : k_cpy f 3 3 S D 0 = f := by
  funext c x
  simp only [k_cpy]
  split
  · rw [if_neg (by omega)]
  · rfl
theorem cpB_0 (f : Nat → Nat → Int32) (S D n : Nat) : cpB f S D n 0 = f := by
  funext c x
  simp only [cpB]
  split
  · rw [if_neg (by omega)]
  · rfl
theorem cpB_n (f : Nat → Nat → Int32) (S D n : Nat) : cpB f S D n n = k_cpy f 3 3 S D n := by
  funext c x
  simp only [cpB, k_cpy, Nat.sub_self, Nat.add_zero]
def RDP (w : kW) (p k h a b : Nat) : Prop := w.1 8 p = nI k ∧ w.1 9 p = nI h ∧ w.1 10 (2 * p) = nI a ∧ w.1 10 (2 * p + 1) = nI b
def failR (f : Nat → Int32) (S n lo : Nat) (w w' : kW) (hi : Nat) : Prop := ∃ t, lo ≤ t ∧ t ≤ hi ∧ t ≤ n ∧ goesR f lo t ∧ (t < n → ¬ goes f t) ∧ w'.1 0 10 = nI (S + t) ∧ mKc w w'
def okR (f : Nat → Int32) (S n nn p : Nat) (w w' : kW) : Prop := 5 * p + 7 ≤ n ∧ goesR f (5 * p + 3) (5 * p + 7) ∧ w'.1 0 10 = nI (S + (5 * p + 7)) ∧ w'.1 0 11 = nI nn ∧ (∃ k h a b, TP f nn p k h a b ∧ RDP w' p k h a b) ∧ rowsQ p w w' ∧ mKc w w'
def RPp (f : Nat → Int32) (S n nn p : Nat) (w : kW) (r : Option Value) (w' : kW) : Prop := (r = some (.int 1) ∧ okR f S n nn p w w') ∨ (r = some (.int 0) ∧ failR f S n (5 * p + 3) w w' (5 * p + 6))
theorem gz_2 {f : Nat → Int32} {nn p : Nat} (hp : p < nn) : gz f nn (5 * p + 2) ↔ f (5 * p + 2) = 59 := by
  unfold gz
  rw [show (5 * p + 2 - 2) / 5 = p by omega, show (5 * p + 2 - 2) % 5 = 0 by omega]
  simp [hp]
def RS (f : Nat → Int32) (S n nn p k : Nat) (w v : kW) (kp h : Nat) (fr : Nat → Nat) : Prop := v.1 0 10 = nI (S + (5 * p + 5 + k)) ∧ 5 * p + 5 + k ≤ n ∧ mKc w v ∧ v.1 0 11 = nI nn ∧ goesR f (5 * p + 3) (5 * p + 5 + k) ∧ (kcode (f (5 * p + 3)) kp ∧ v.1 8 p = nI kp) ∧ (1 ≤ h ∧ h ≤ 9 ∧ f (5 * p + 4) = nI (48 + h) ∧ v.1 9 p = nI h) ∧ (∀ i, i < k → fr i < nn ∧ fr i ≠ p ∧ f (5 * p + 5 + i) = nI (48 + fr i) ∧ v.1 10 (2 * p + i) = nI (fr i)) ∧ rowsQ p w v
end
section
/-! ===== a contract on some cells, beside more cells ===== -/
theorem k_wd_pre {ad : Nat → Nat} {ca : Nat → ClassId} {sh sx : List kE} {w : kW} {k : Nat} {q : Nat × va_E} (h : (k_wd ad ca sh w)[k]? = some q) : (k_wd ad ca (sh ++ sx) w)[k]? = some q := by
  obtain ⟨hl, he⟩ := k_wd_addr h
  have h1 := List.getElem?_eq_getElem hl
  rw [k_wd_get h1] at h
  rw [← h, k_wd_get (e := sh[k])]
  rw [List.getElem?_append_left hl]
  exact h1
theorem k_A_pre {sh sx : List kE} {ad : Nat → Nat} {sz q : Nat} (h : k_A sh ad sz q) : k_A (sh ++ sx) ad sz q := h.elim (fun ⟨c, hc, e⟩ => Or.inl ⟨c, by rw [List.length_append]; omega, e⟩) Or.inr
/-- what a call on the first cells leaves of a larger world -/
def k_mix (sh : List kE) (w1 w : kW) : kW := (fun c => if c < sh.length then w1.1 c else w.1 c, fun c => if c < sh.length then w1.2 c else w.2 c)
theorem Spec.up {sh sx : List kE} {y : MethodName} {cc : ByteArray} {n : Nat} {rt : Option FieldType} {fr lo : Nat} {As : List Value} {w : kW} {Φ : Option Value → kW → Prop} (h : Spec sh y cc n rt fr lo As w Φ) : Spec (sh ++ sx) y cc n rt fr lo As w (fun r w' => ∃ w1, Φ r w1 ∧ w' = k_mix sh w1 w) := by
  intro l D ca ad sz
  refine MetFree.mono (h l D ca ad sz) (fun a s hp => ?_) (fun _ _ _ _ _ h => h) (fun a s o t hp hq => ?_)
  · obtain ⟨q0, q1, qP, qK, qD⟩ := hp
    exact ⟨q0, q1, fun k q hk => qP k q (k_wd_pre hk), qK, fun i j p q hi hj => qD.1 i j p q (k_wd_pre hi) (k_wd_pre hj), fun k q hk => qD.2 k q (k_wd_pre hk)⟩
  · obtain ⟨q0, q1, qP, qK, qD⟩ := hp
    obtain ⟨⟨⟨r, w1, e1, e2, e3, e4⟩, e5⟩, L, f1, f2⟩ := hq
    refine ⟨⟨⟨r, k_mix sh w1 w, e1, ⟨w1, e2, rfl⟩, fun k q hk => ?_, e4⟩, e5.1, fun q h1 h2 => e5.2 q h1 (fun z => h2 (k_A_pre z))⟩, L, f1, fun q hq => k_A_pre (f2 q hq)⟩
    obtain ⟨hl, he⟩ := k_wd_addr hk
    by_cases hc : k < sh.length
    · have h1 := List.getElem?_eq_getElem hc
      have h2 : (sh ++ sx)[k]? = some sh[k] := by rw [List.getElem?_append_left hc]; exact h1
      rw [k_wd_get h2] at hk
      refine e3 k q ?_
      rw [k_wd_get h1, ← hk, k_ent_row (w := w1) (w' := k_mix sh w1 w) _ (by simp [k_mix, hc]) (by simp [k_mix, hc])]
    · have h2 : (sh ++ sx)[k]? = some (sh ++ sx)[k] := List.getElem?_eq_getElem hl
      rw [k_wd_get h2] at hk
      have hk0 : (k_wd ad ca (sh ++ sx) w)[k]? = some q := by
        rw [k_wd_get h2, ← hk, k_ent_row (w := w) (w' := k_mix sh w1 w) _ (by simp [k_mix, hc]) (by simp [k_mix, hc])]
      have hP := qP k q hk0
      refine hP.kept (e5.2 q.1 hP.lt (fun z => ?_))
      rcases z with ⟨c, hc2, e⟩ | z
      · have hcl : c < (sh ++ sx).length := by rw [List.length_append]; omega
        have h3 := qD.1 k c q _ hk0 (k_wd_get (List.getElem?_eq_getElem hcl)) e
        omega
      · have := hP.lt
        rw [q1] at this
        omega
/-! ===== two more rules ===== -/
section KB9
variable {sh : List kE} {own : String} {cc : ByteArray} {n : Nat} {rt : Option FieldType} {fr lo : Nat} {Φ : Option Value → kW → Prop} {pc : Nat} {L : List (Nat × Value)} {st : List Value} {w : kW}
theorem b_ldc {ix : Nat} {v : Int32} (hd : decode cc pc = .ok (.ldc ix, 2)) (hc : Cond.constant own ix v ∈ cw) (kk : BS sh own cc n rt fr lo Φ (pc + 2) L (.int v :: st) w) : BS sh own cc n rt fr lo Φ pc L st w := by
  intro p l e s m args below meth co D ca ad H locs ls cx hP hD hS hl
  exact lv_ldc cx.1 cx.2.1 cx.2.2.2.1 (cx.2.2.2.2.1 _ hc) hd (kk p l e s m args below meth co D ca ad H locs ls cx hP hD hS hl)
theorem b_dup2 {a b : Value} (hd : decode cc pc = .ok (.dup2, 1)) (ha : a.category = 1) (hb : b.category = 1) (kk : BS sh own cc n rt fr lo Φ (pc + 1) L (a :: b :: a :: b :: st) w) : BS sh own cc n rt fr lo Φ pc L (a :: b :: st) w := by
  intro p l e s m args below meth co D ca ad H locs ls cx hP hD hS hl
  exact lv_dup2_11 cx.1 cx.2.1 hd (by rw [k_v_cat]; exact ha) (by rw [k_v_cat]; exact hb) (kk p l e s m args below meth co D ca ad H locs ls cx hP hD hS hl)
end KB9
/-! ===== the law's judgement: a world, and the script beside it ===== -/
abbrev lQ : Type := List Frame → Array Value → State → va_G → (Nat → ClassId) → (Nat → Nat) → State → Prop
/-- the script lies at ad 1000, apart from the world; top: the world's cells are all new -/
def kSc (top : Bool) (sh : List kE) (ad : Nat → Nat) (s : State) : Prop := (∃ N xs, N ≤ 260 ∧ va_X (ad 1000) N xs s s.heap) ∧ ad 1000 < s.heap.size ∧ (∀ c, c < sh.length → ad c ≠ ad 1000) ∧ (top = true → ∀ c, c < sh.length → s.heap.size ≤ ad c)
def LJ (R : Room) (K J : Nat) (top : Bool) (Qf : lQ) (sh : List kE) (own : String) (cc : ByteArray) (n : Nat) (rt : Option FieldType) (pc : Nat) (L : List (Nat × Value)) (st : List Value) (w : kW) : Prop :=
  ∀ (p : Program) (l : Launch) (e : Env) (s : State) (m : MethodId) (args : Array Value) (below : List Frame) (meth : Method) (c : Code) (D : va_G) (ca : Nat → ClassId) (ad : Nat → Nat) (H : Heap) (locs : List Loc) (ls : Array Slot),
    k_cx p s m args meth c own cc n rt D ca → kSc top sh ad s → va_P D vwCl (k_wd ad ca sh w) H → va_D (k_A sh ad s.heap.size) (k_wd ad ca sh w) → va_S (k_A sh ad s.heap.size) s.heap H locs → lv_has ls n (k_L ad L) →
    W p l e R s m args below meth c H locs K J (Qf below args s D ca ad) (F0 m pc ls (st.map (k_v ad)))
theorem kSc.notA {top : Bool} {sh : List kE} {ad : Nat → Nat} {s : State} (h : kSc top sh ad s) : ¬ k_A sh ad s.heap.size (ad 1000) := fun z => z.elim (fun ⟨c, hc, e⟩ => h.2.2.1 c hc e.symm) (fun z => absurd h.2.1 (Nat.not_lt.mpr z))
/-- the end of a method with a contract -/
def lMQ (sh : List kE) (Φ : Option Value → kW → Prop) : lQ := fun below args s D ca ad => MQ below (k_Qc sh D ca ad s.heap.size Φ) args s 0 0 (k_A sh ad s.heap.size)
def k_PcS (sh : List kE) (D : va_G) (ca : Nat → ClassId) (ad : Nat → Nat) (sz : Nat) (As : List Value) (w : kW) : Array Value → State → Prop := fun v U => k_Pc sh D ca ad sz As w v U ∧ kSc false sh ad U
/-- a contract of a method that looks at the script -/
def SpecS (sh : List kE) (y : MethodName) (cc : ByteArray) (n : Nat) (rt : Option FieldType) (fr lo : Nat) (As : List Value) (w : kW) (Φ : Option Value → kW → Prop) : Prop :=
  ∀ (l : Launch) (D : va_G) (ca : Nat → ClassId) (ad : Nat → Nat) (sz : Nat), Met l y (.code y cc n rt :: cw) ({ frames := fr, cells := 0, slots := 0, locals := lo } : Room) (k_PcS sh D ca ad sz As w) (k_Qc sh D ca ad sz Φ) 0 0 (k_A sh ad sz)
theorem l_enter {sh : List kE} {y : MethodName} {cc : ByteArray} {n : Nat} {rt : Option FieldType} {fr lo : Nat} {As : List Value} {w : kW} {Φ : Option Value → kW → Prop} (hy : plainName y.cls = true) (hn : (lg_sl As).length ≤ n) (h : LJ ({ frames := fr, cells := 0, slots := 0, locals := lo } : Room) 0 0 false (lMQ sh Φ) sh y.cls cc n rt 0 (lv_args 0 As) [] w) : SpecS sh y cc n rt fr lo As w Φ := by
  intro l D ca ad sz
  refine Met.ofW (cc := cc) (maxL := n) (ret := rt) hy rfl ?_
  intro p e s m args below meth c s₁ B hml hv
  obtain ⟨⟨rfl, hsz, hP, hK, hD0⟩, hX⟩ := hv
  subst hsz
  have hts0 := atoms_spec (ws := .code y cc n rt :: cw) B.pre
  have hts : ∀ w ∈ cw, w.before (As.map (k_v ad)).toArray s = true := fun w hw => hts0 w (List.mem_cons_of_mem _ hw)
  have hl := lv_entry (As.map (k_v ad)) (n := n) (by rw [k_sl_len]; exact hn)
  rw [lg_entry_eq]
  rw [k_args] at hl
  exact h p l e s m _ below meth c D ca ad s.heap [] _ ⟨B.exec, B.bytes, hml, findClass_of_methodNamed B.named, hts, B.returns, B.notSynchronized, hK⟩ hX hP (k_D_self hD0) va_S.rf hl
theorem k_blindS {sh : List kE} {D : va_G} {ca : Nat → ClassId} {ad : Nat → Nat} {sz : Nat} {As : List Value} {w : kW} : FrameBlind (k_PcS sh D ca ad sz As w) := by
  intro a U g mk q
  obtain ⟨q0, ⟨N, xs, q1, q2⟩, q3⟩ := q
  exact ⟨k_blind a U g mk q0, ⟨N, xs, q1, va_X.moved (u := U) (U := U.calling g mk a) (Vm.Alike.refl U.vm) q2⟩, q3⟩
section LK
variable {R : Room} {K J : Nat} {top : Bool} {Qf : lQ} {sh : List kE} {own : String} {cc : ByteArray} {n : Nat} {rt : Option FieldType} {pc : Nat} {L : List (Nat × Value)} {st : List Value} {w : kW}
theorem l_iconst {k : Int} {v : Int32} (hd : decode cc pc = .ok (.iconst k, 1)) (hv : Int32.ofInt k = v) (kk : LJ R K J top Qf sh own cc n rt (pc + 1) L (.int v :: st) w) : LJ R K J top Qf sh own cc n rt pc L st w := by
  intro p l e s m args below meth co D ca ad H locs ls cx hX hP hD hS hl
  exact lv_iconst cx.1 cx.2.1 hd hv (kk p l e s m args below meth co D ca ad H locs ls cx hX hP hD hS hl)
theorem l_bipush {k : Int} {v : Int32} (hd : decode cc pc = .ok (.bipush k, 2)) (hv : (Int8.ofInt k).toInt32 = v) (kk : LJ R K J top Qf sh own cc n rt (pc + 2) L (.int v :: st) w) : LJ R K J top Qf sh own cc n rt pc L st w := by
  intro p l e s m args below meth co D ca ad H locs ls cx hX hP hD hS hl
  exact lv_bipush cx.1 cx.2.1 hd hv (kk p l e s m args below meth co D ca ad H locs ls cx hX hP hD hS hl)
theorem l_sipush {k : Int} {v : Int32} (hd : decode cc pc = .ok (.sipush k, 3)) (hv : (Int16.ofInt k).toInt32 = v) (kk : LJ R K J top Qf sh own cc n rt (pc + 3) L (.int v :: st) w) : LJ R K J top Qf sh own cc n rt pc L st w := by
  intro p l e s m args below meth co D ca ad H locs ls cx hX hP hD hS hl
  exact lv_sipush cx.1 cx.2.1 hd hv (kk p l e s m args below meth co D ca ad H locs ls cx hX hP hD hS hl)
theorem l_iload_n {k : Fin 4} {x : Int32} (hd : decode cc pc = .ok (.iload_n k, 1)) (hv : L.lookup (k : Nat) = some (.int x)) (kk : LJ R K J top Qf sh own cc n rt (pc + 1) L (.int x :: st) w) : LJ R K J top Qf sh own cc n rt pc L st w := by
  intro p l e s m args below meth co D ca ad H locs ls cx hX hP hD hS hl
  exact lv_iload_n cx.1 cx.2.1 hd rfl (k_lget hl hv) (kk p l e s m args below meth co D ca ad H locs ls cx hX hP hD hS hl)
theorem l_iload {k : Nat} {x : Int32} (hd : decode cc pc = .ok (.iload k, 2)) (hv : L.lookup k = some (.int x)) (kk : LJ R K J top Qf sh own cc n rt (pc + 2) L (.int x :: st) w) : LJ R K J top Qf sh own cc n rt pc L st w := by
  intro p l e s m args below meth co D ca ad H locs ls cx hX hP hD hS hl
  exact lv_iload cx.1 cx.2.1 hd (k_lget hl hv) (kk p l e s m args below meth co D ca ad H locs ls cx hX hP hD hS hl)
theorem l_aload_n {k : Fin 4} {x : Nat} (hd : decode cc pc = .ok (.aload_n k, 1)) (hv : L.lookup (k : Nat) = some (.ref x)) (kk : LJ R K J top Qf sh own cc n rt (pc + 1) L (.ref x :: st) w) : LJ R K J top Qf sh own cc n rt pc L st w := by
  intro p l e s m args below meth co D ca ad H locs ls cx hX hP hD hS hl
  exact lv_aload_n cx.1 cx.2.1 hd rfl (k_lget hl hv) (kk p l e s m args below meth co D ca ad H locs ls cx hX hP hD hS hl)
theorem l_aload {k : Nat} {x : Nat} (hd : decode cc pc = .ok (.aload k, 2)) (hv : L.lookup k = some (.ref x)) (kk : LJ R K J top Qf sh own cc n rt (pc + 2) L (.ref x :: st) w) : LJ R K J top Qf sh own cc n rt pc L st w := by
  intro p l e s m args below meth co D ca ad H locs ls cx hX hP hD hS hl
  exact lv_aload cx.1 cx.2.1 hd (k_lget hl hv) (kk p l e s m args below meth co D ca ad H locs ls cx hX hP hD hS hl)
theorem l_istore_n {k : Fin 4} {x : Int32} (hd : decode cc pc = .ok (.istore_n k, 1)) (hn : (k : Nat) < n) (kk : LJ R K J top Qf sh own cc n rt (pc + 1) (k_st1 L k (.int x)) st w) : LJ R K J top Qf sh own cc n rt pc L (.int x :: st) w := by
  intro p l e s m args below meth co D ca ad H locs ls cx hX hP hD hS hl
  exact lv_istore_n cx.1 cx.2.1 hd rfl hl hn (k_st1_L ad k (.int x)) (fun ls9 hl9 => kk p l e s m args below meth co D ca ad H locs ls9 cx hX hP hD hS hl9)
theorem l_istore {k : Nat} {x : Int32} (hd : decode cc pc = .ok (.istore k, 2)) (hn : k < n) (kk : LJ R K J top Qf sh own cc n rt (pc + 2) (k_st1 L k (.int x)) st w) : LJ R K J top Qf sh own cc n rt pc L (.int x :: st) w := by
  intro p l e s m args below meth co D ca ad H locs ls cx hX hP hD hS hl
  exact lv_istore cx.1 cx.2.1 hd hl hn (k_st1_L ad k (.int x)) (fun ls9 hl9 => kk p l e s m args below meth co D ca ad H locs ls9 cx hX hP hD hS hl9)
theorem l_astore_n {k : Fin 4} {x : Nat} (hd : decode cc pc = .ok (.astore_n k, 1)) (hn : (k : Nat) < n) (kk : LJ R K J top Qf sh own cc n rt (pc + 1) (k_st1 L k (.ref x)) st w) : LJ R K J top Qf sh own cc n rt pc L (.ref x :: st) w := by
  intro p l e s m args below meth co D ca ad H locs ls cx hX hP hD hS hl
  exact lv_astore_n cx.1 cx.2.1 hd rfl hl hn (k_st1_L ad k (.ref x)) (fun ls9 hl9 => kk p l e s m args below meth co D ca ad H locs ls9 cx hX hP hD hS hl9)
theorem l_astore {k : Nat} {x : Nat} (hd : decode cc pc = .ok (.astore k, 2)) (hn : k < n) (kk : LJ R K J top Qf sh own cc n rt (pc + 2) (k_st1 L k (.ref x)) st w) : LJ R K J top Qf sh own cc n rt pc L (.ref x :: st) w := by
  intro p l e s m args below meth co D ca ad H locs ls cx hX hP hD hS hl
  exact lv_astore cx.1 cx.2.1 hd hl hn (k_st1_L ad k (.ref x)) (fun ls9 hl9 => kk p l e s m args below meth co D ca ad H locs ls9 cx hX hP hD hS hl9)
theorem l_iinc {k : Nat} {d : Int} {x v : Int32} (hd : decode cc pc = .ok (.iinc k d, 3)) (hv : L.lookup k = some (.int x)) (he : x + Int32.ofInt d = v) (hn : k < n) (kk : LJ R K J top Qf sh own cc n rt (pc + 3) (k_st1 L k (.int v)) st w) : LJ R K J top Qf sh own cc n rt pc L st w := by
  intro p l e s m args below meth co D ca ad H locs ls cx hX hP hD hS hl
  have hm : ls[k]? = some (.val (k_v ad (.int x))) := k_lget hl hv
  obtain ⟨j, hj⟩ : ∃ j, ((k, Value.int x) :: k_L ad L)[j]? = some (k, Value.int x) := ⟨0, rfl⟩
  have hl2 : lv_has ls n ((k, Value.int x) :: k_L ad L) := ⟨hl.1, hl.2.1, fun q hq => by
    rcases List.mem_cons.mp hq with h | h
    · rw [h]; exact hm
    · exact hl.2.2 q h⟩
  refine lv_iinc cx.1 cx.2.1 hd hl2 hj he hn (lv' := k_L ad (k_st1 L k (.int v))) ?_ (fun ls9 hl9 => kk p l e s m args below meth co D ca ad H locs ls9 cx hX hP hD hS hl9)
  rw [← k_st1_L ad k (.int v), List.filter_cons_of_neg (by simp)]
  rfl
theorem l_iadd {x y : Int32} (hd : decode cc pc = .ok (.iadd, 1)) (kk : LJ R K J top Qf sh own cc n rt (pc + 1) L (.int (x + y) :: st) w) : LJ R K J top Qf sh own cc n rt pc L (.int y :: .int x :: st) w := by
  intro p l e s m args below meth co D ca ad H locs ls cx hX hP hD hS hl
  exact lv_iadd cx.1 cx.2.1 hd (kk p l e s m args below meth co D ca ad H locs ls cx hX hP hD hS hl)
theorem l_isub {x y : Int32} (hd : decode cc pc = .ok (.isub, 1)) (kk : LJ R K J top Qf sh own cc n rt (pc + 1) L (.int (x - y) :: st) w) : LJ R K J top Qf sh own cc n rt pc L (.int y :: .int x :: st) w := by
  intro p l e s m args below meth co D ca ad H locs ls cx hX hP hD hS hl
  exact lv_isub cx.1 cx.2.1 hd (kk p l e s m args below meth co D ca ad H locs ls cx hX hP hD hS hl)
theorem l_imul {x y : Int32} (hd : decode cc pc = .ok (.imul, 1)) (kk : LJ R K J top Qf sh own cc n rt (pc + 1) L (.int (x * y) :: st) w) : LJ R K J top Qf sh own cc n rt pc L (.int y :: .int x :: st) w := by
  intro p l e s m args below meth co D ca ad H locs ls cx hX hP hD hS hl
  exact lv_imul cx.1 cx.2.1 hd (kk p l e s m args below meth co D ca ad H locs ls cx hX hP hD hS hl)
theorem l_iand {x y : Int32} (hd : decode cc pc = .ok (.iand, 1)) (kk : LJ R K J top Qf sh own cc n rt (pc + 1) L (.int (x &&& y) :: st) w) : LJ R K J top Qf sh own cc n rt pc L (.int y :: .int x :: st) w := by
  intro p l e s m args below meth co D ca ad H locs ls cx hX hP hD hS hl
  exact lv_iand cx.1 cx.2.1 hd (kk p l e s m args below meth co D ca ad H locs ls cx hX hP hD hS hl)
theorem l_ior {x y : Int32} (hd : decode cc pc = .ok (.ior, 1)) (kk : LJ R K J top Qf sh own cc n rt (pc + 1) L (.int (x ||| y) :: st) w) : LJ R K J top Qf sh own cc n rt pc L (.int y :: .int x :: st) w := by
  intro p l e s m args below meth co D ca ad H locs ls cx hX hP hD hS hl
  exact lv_ior cx.1 cx.2.1 hd (kk p l e s m args below meth co D ca ad H locs ls cx hX hP hD hS hl)
theorem l_ixor {x y : Int32} (hd : decode cc pc = .ok (.ixor, 1)) (kk : LJ R K J top Qf sh own cc n rt (pc + 1) L (.int (x ^^^ y) :: st) w) : LJ R K J top Qf sh own cc n rt pc L (.int y :: .int x :: st) w := by
  intro p l e s m args below meth co D ca ad H locs ls cx hX hP hD hS hl
  exact lv_ixor cx.1 cx.2.1 hd (kk p l e s m args below meth co D ca ad H locs ls cx hX hP hD hS hl)
theorem l_ishl {x y : Int32} (hd : decode cc pc = .ok (.ishl, 1)) (kk : LJ R K J top Qf sh own cc n rt (pc + 1) L (.int (x <<< (y &&& 31)) :: st) w) : LJ R K J top Qf sh own cc n rt pc L (.int y :: .int x :: st) w := by
  intro p l e s m args below meth co D ca ad H locs ls cx hX hP hD hS hl
  exact lv_ishl cx.1 cx.2.1 hd (kk p l e s m args below meth co D ca ad H locs ls cx hX hP hD hS hl)
theorem l_ishr {x y : Int32} (hd : decode cc pc = .ok (.ishr, 1)) (kk : LJ R K J top Qf sh own cc n rt (pc + 1) L (.int (x >>> (y &&& 31)) :: st) w) : LJ R K J top Qf sh own cc n rt pc L (.int y :: .int x :: st) w := by
  intro p l e s m args below meth co D ca ad H locs ls cx hX hP hD hS hl
  exact lv_ishr cx.1 cx.2.1 hd (kk p l e s m args below meth co D ca ad H locs ls cx hX hP hD hS hl)
theorem l_idiv {x y : Int32} (hd : decode cc pc = .ok (.idiv, 1)) (hne : ¬ y = 0) (kk : LJ R K J top Qf sh own cc n rt (pc + 1) L (.int (x / y) :: st) w) : LJ R K J top Qf sh own cc n rt pc L (.int y :: .int x :: st) w := by
  intro p l e s m args below meth co D ca ad H locs ls cx hX hP hD hS hl
  exact lv_idiv cx.1 cx.2.1 hd hne (kk p l e s m args below meth co D ca ad H locs ls cx hX hP hD hS hl)
theorem l_irem {x y : Int32} (hd : decode cc pc = .ok (.irem, 1)) (hne : ¬ y = 0) (kk : LJ R K J top Qf sh own cc n rt (pc + 1) L (.int (x - x / y * y) :: st) w) : LJ R K J top Qf sh own cc n rt pc L (.int y :: .int x :: st) w := by
  intro p l e s m args below meth co D ca ad H locs ls cx hX hP hD hS hl
  exact lv_irem cx.1 cx.2.1 hd hne (kk p l e s m args below meth co D ca ad H locs ls cx hX hP hD hS hl)
theorem l_dup {v : Value} (hd : decode cc pc = .ok (.dup, 1)) (hv : v.category = 1) (kk : LJ R K J top Qf sh own cc n rt (pc + 1) L (v :: v :: st) w) : LJ R K J top Qf sh own cc n rt pc L (v :: st) w := by
  intro p l e s m args below meth co D ca ad H locs ls cx hX hP hD hS hl
  exact lv_dup cx.1 cx.2.1 hd (by rw [k_v_cat]; exact hv) (kk p l e s m args below meth co D ca ad H locs ls cx hX hP hD hS hl)
theorem l_if_eq {x : Int32} {off : Int} {tgt : Nat} (hd : decode cc pc = .ok (.ifCond .eq off, 3)) (ht : (pc : Int) + off = (tgt : Int)) (kt : x = 0 → LJ R K J top Qf sh own cc n rt tgt L st w) (kf : ¬ x = 0 → LJ R K J top Qf sh own cc n rt (pc + 3) L st w) : LJ R K J top Qf sh own cc n rt pc L (.int x :: st) w := by
  intro p l e s m args below meth co D ca ad H locs ls cx hX hP hD hS hl
  exact lv_if_eq cx.1 cx.2.1 hd ht (fun h9 => kt h9 p l e s m args below meth co D ca ad H locs ls cx hX hP hD hS hl) (fun h9 => kf h9 p l e s m args below meth co D ca ad H locs ls cx hX hP hD hS hl)
theorem l_if_ne {x : Int32} {off : Int} {tgt : Nat} (hd : decode cc pc = .ok (.ifCond .ne off, 3)) (ht : (pc : Int) + off = (tgt : Int)) (kt : ¬ x = 0 → LJ R K J top Qf sh own cc n rt tgt L st w) (kf : x = 0 → LJ R K J top Qf sh own cc n rt (pc + 3) L st w) : LJ R K J top Qf sh own cc n rt pc L (.int x :: st) w := by
  intro p l e s m args below meth co D ca ad H locs ls cx hX hP hD hS hl
  exact lv_if_ne cx.1 cx.2.1 hd ht (fun h9 => kt h9 p l e s m args below meth co D ca ad H locs ls cx hX hP hD hS hl) (fun h9 => kf h9 p l e s m args below meth co D ca ad H locs ls cx hX hP hD hS hl)
theorem l_if_lt {x : Int32} {off : Int} {tgt : Nat} (hd : decode cc pc = .ok (.ifCond .lt off, 3)) (ht : (pc : Int) + off = (tgt : Int)) (kt : x < 0 → LJ R K J top Qf sh own cc n rt tgt L st w) (kf : ¬ x < 0 → LJ R K J top Qf sh own cc n rt (pc + 3) L st w) : LJ R K J top Qf sh own cc n rt pc L (.int x :: st) w := by
  intro p l e s m args below meth co D ca ad H locs ls cx hX hP hD hS hl
  exact lv_if_lt cx.1 cx.2.1 hd ht (fun h9 => kt h9 p l e s m args below meth co D ca ad H locs ls cx hX hP hD hS hl) (fun h9 => kf h9 p l e s m args below meth co D ca ad H locs ls cx hX hP hD hS hl)
theorem l_if_ge {x : Int32} {off : Int} {tgt : Nat} (hd : decode cc pc = .ok (.ifCond .ge off, 3)) (ht : (pc : Int) + off = (tgt : Int)) (kt : 0 ≤ x → LJ R K J top Qf sh own cc n rt tgt L st w) (kf : ¬ 0 ≤ x → LJ R K J top Qf sh own cc n rt (pc + 3) L st w) : LJ R K J top Qf sh own cc n rt pc L (.int x :: st) w := by
  intro p l e s m args below meth co D ca ad H locs ls cx hX hP hD hS hl
  exact lv_if_ge cx.1 cx.2.1 hd ht (fun h9 => kt h9 p l e s m args below meth co D ca ad H locs ls cx hX hP hD hS hl) (fun h9 => kf h9 p l e s m args below meth co D ca ad H locs ls cx hX hP hD hS hl)
theorem l_if_gt {x : Int32} {off : Int} {tgt : Nat} (hd : decode cc pc = .ok (.ifCond .gt off, 3)) (ht : (pc : Int) + off = (tgt : Int)) (kt : 0 < x → LJ R K J top Qf sh own cc n rt tgt L st w) (kf : ¬ 0 < x → LJ R K J top Qf sh own cc n rt (pc + 3) L st w) : LJ R K J top Qf sh own cc n rt pc L (.int x :: st) w := by
  intro p l e s m args below meth co D ca ad H locs ls cx hX hP hD hS hl
  exact lv_if_gt cx.1 cx.2.1 hd ht (fun h9 => kt h9 p l e s m args below meth co D ca ad H locs ls cx hX hP hD hS hl) (fun h9 => kf h9 p l e s m args below meth co D ca ad H locs ls cx hX hP hD hS hl)
theorem l_if_le {x : Int32} {off : Int} {tgt : Nat} (hd : decode cc pc = .ok (.ifCond .le off, 3)) (ht : (pc : Int) + off = (tgt : Int)) (kt : x ≤ 0 → LJ R K J top Qf sh own cc n rt tgt L st w) (kf : ¬ x ≤ 0 → LJ R K J top Qf sh own cc n rt (pc + 3) L st w) : LJ R K J top Qf sh own cc n rt pc L (.int x :: st) w := by
  intro p l e s m args below meth co D ca ad H locs ls cx hX hP hD hS hl
  exact lv_if_le cx.1 cx.2.1 hd ht (fun h9 => kt h9 p l e s m args below meth co D ca ad H locs ls cx hX hP hD hS hl) (fun h9 => kf h9 p l e s m args below meth co D ca ad H locs ls cx hX hP hD hS hl)
theorem l_icmp_eq {x y : Int32} {off : Int} {tgt : Nat} (hd : decode cc pc = .ok (.if_icmp .eq off, 3)) (ht : (pc : Int) + off = (tgt : Int)) (kt : x = y → LJ R K J top Qf sh own cc n rt tgt L st w) (kf : ¬ x = y → LJ R K J top Qf sh own cc n rt (pc + 3) L st w) : LJ R K J top Qf sh own cc n rt pc L (.int y :: .int x :: st) w := by
  intro p l e s m args below meth co D ca ad H locs ls cx hX hP hD hS hl
  exact lv_icmp_eq cx.1 cx.2.1 hd ht (fun h9 => kt h9 p l e s m args below meth co D ca ad H locs ls cx hX hP hD hS hl) (fun h9 => kf h9 p l e s m args below meth co D ca ad H locs ls cx hX hP hD hS hl)
theorem l_icmp_ne {x y : Int32} {off : Int} {tgt : Nat} (hd : decode cc pc = .ok (.if_icmp .ne off, 3)) (ht : (pc : Int) + off = (tgt : Int)) (kt : ¬ x = y → LJ R K J top Qf sh own cc n rt tgt L st w) (kf : x = y → LJ R K J top Qf sh own cc n rt (pc + 3) L st w) : LJ R K J top Qf sh own cc n rt pc L (.int y :: .int x :: st) w := by
  intro p l e s m args below meth co D ca ad H locs ls cx hX hP hD hS hl
  exact lv_icmp_ne cx.1 cx.2.1 hd ht (fun h9 => kt h9 p l e s m args below meth co D ca ad H locs ls cx hX hP hD hS hl) (fun h9 => kf h9 p l e s m args below meth co D ca ad H locs ls cx hX hP hD hS hl)
theorem l_icmp_lt {x y : Int32} {off : Int} {tgt : Nat} (hd : decode cc pc = .ok (.if_icmp .lt off, 3)) (ht : (pc : Int) + off = (tgt : Int)) (kt : x < y → LJ R K J top Qf sh own cc n rt tgt L st w) (kf : ¬ x < y → LJ R K J top Qf sh own cc n rt (pc + 3) L st w) : LJ R K J top Qf sh own cc n rt pc L (.int y :: .int x :: st) w := by
  intro p l e s m args below meth co D ca ad H locs ls cx hX hP hD hS hl
  exact lv_icmp_lt cx.1 cx.2.1 hd ht (fun h9 => kt h9 p l e s m args below meth co D ca ad H locs ls cx hX hP hD hS hl) (fun h9 => kf h9 p l e s m args below meth co D ca ad H locs ls cx hX hP hD hS hl)
theorem l_icmp_ge {x y : Int32} {off : Int} {tgt : Nat} (hd : decode cc pc = .ok (.if_icmp .ge off, 3)) (ht : (pc : Int) + off = (tgt : Int)) (kt : y ≤ x → LJ R K J top Qf sh own cc n rt tgt L st w) (kf : ¬ y ≤ x → LJ R K J top Qf sh own cc n rt (pc + 3) L st w) : LJ R K J top Qf sh own cc n rt pc L (.int y :: .int x :: st) w := by
  intro p l e s m args below meth co D ca ad H locs ls cx hX hP hD hS hl
  exact lv_icmp_ge cx.1 cx.2.1 hd ht (fun h9 => kt h9 p l e s m args below meth co D ca ad H locs ls cx hX hP hD hS hl) (fun h9 => kf h9 p l e s m args below meth co D ca ad H locs ls cx hX hP hD hS hl)
theorem l_icmp_gt {x y : Int32} {off : Int} {tgt : Nat} (hd : decode cc pc = .ok (.if_icmp .gt off, 3)) (ht : (pc : Int) + off = (tgt : Int)) (kt : y < x → LJ R K J top Qf sh own cc n rt tgt L st w) (kf : ¬ y < x → LJ R K J top Qf sh own cc n rt (pc + 3) L st w) : LJ R K J top Qf sh own cc n rt pc L (.int y :: .int x :: st) w := by
  intro p l e s m args below meth co D ca ad H locs ls cx hX hP hD hS hl
  exact lv_icmp_gt cx.1 cx.2.1 hd ht (fun h9 => kt h9 p l e s m args below meth co D ca ad H locs ls cx hX hP hD hS hl) (fun h9 => kf h9 p l e s m args below meth co D ca ad H locs ls cx hX hP hD hS hl)
theorem l_icmp_le {x y : Int32} {off : Int} {tgt : Nat} (hd : decode cc pc = .ok (.if_icmp .le off, 3)) (ht : (pc : Int) + off = (tgt : Int)) (kt : x ≤ y → LJ R K J top Qf sh own cc n rt tgt L st w) (kf : ¬ x ≤ y → LJ R K J top Qf sh own cc n rt (pc + 3) L st w) : LJ R K J top Qf sh own cc n rt pc L (.int y :: .int x :: st) w := by
  intro p l e s m args below meth co D ca ad H locs ls cx hX hP hD hS hl
  exact lv_icmp_le cx.1 cx.2.1 hd ht (fun h9 => kt h9 p l e s m args below meth co D ca ad H locs ls cx hX hP hD hS hl) (fun h9 => kf h9 p l e s m args below meth co D ca ad H locs ls cx hX hP hD hS hl)
theorem l_goto {off : Int} {tgt : Nat} (hd : decode cc pc = .ok (.goto off, 3)) (ht : (pc : Int) + off = (tgt : Int)) (kk : LJ R K J top Qf sh own cc n rt tgt L st w) : LJ R K J top Qf sh own cc n rt pc L st w := by
  intro p l e s m args below meth co D ca ad H locs ls cx hX hP hD hS hl
  exact lv_goto cx.1 cx.2.1 hd ht (kk p l e s m args below meth co D ca ad H locs ls cx hX hP hD hS hl)
theorem l_iald {c N : Nat} {i : Int32} (hd : decode cc pc = .ok (.iaload, 1)) (hc : sh[c]? = some (.inr (.inl (0, N)))) (hi : vp_in i N) (kk : LJ R K J top Qf sh own cc n rt (pc + 1) L (.int (w.1 c i.toNatClampNeg) :: st) w) : LJ R K J top Qf sh own cc n rt pc L (.int i :: .ref c :: st) w := by
  intro p l e s m args below meth co D ca ad H locs ls cx hX hP hD hS hl
  exact va_iald cx.1 cx.2.1 cx.2.2.2.2.2.2.2.1 hP c 0 (k_arr hc) rfl hi hd (kk p l e s m args below meth co D ca ad H locs ls cx hX hP hD hS hl)
theorem l_iast {c N : Nat} {i x : Int32} (hd : decode cc pc = .ok (.iastore, 1)) (hc : sh[c]? = some (.inr (.inl (0, N)))) (hi : vp_in i N) (kk : LJ R K J top Qf sh own cc n rt (pc + 1) L st (k_up w.1 c i.toNatClampNeg x, w.2)) : LJ R K J top Qf sh own cc n rt pc L (.int x :: .int i :: .ref c :: st) w := by
  intro p l e s m args below meth co D ca ad H locs ls cx hX hP hD hS hl
  refine va_iast cx.1 cx.2.1 cx.2.2.2.2.2.2.2.1 hP hD hS c 0 (k_arr hc) rfl hi hd (fun H1 locs1 hP1 hD1 hS1 => ?_)
  have e9 := k_set_a (w := w) (ad := ad) (ca := ca) (i := i.toNatClampNeg) (v := x) hc
  exact kk p l e s m args below meth co D ca ad H1 locs1 ls cx hX (e9 ▸ hP1) (k_D_self hD) hS1 hl
theorem l_topi {x y : Int32} (h : x = y) (kk : LJ R K J top Qf sh own cc n rt pc L (.int y :: st) w) : LJ R K J top Qf sh own cc n rt pc L (.int x :: st) w := h ▸ kk
theorem l_wd {w' : kW} (h : w = w') (kk : LJ R K J top Qf sh own cc n rt pc L st w') : LJ R K J top Qf sh own cc n rt pc L st w := h ▸ kk
theorem l_sub {L' : List (Nat × Value)} (ks : List Nat) (h : lv_pick L ks = L') (kk : LJ R K J top Qf sh own cc n rt pc L' st w) : LJ R K J top Qf sh own cc n rt pc L st w := by
  intro p l e s m args below meth co D ca ad H locs ls cx hX hP hD hS hl
  refine kk p l e s m args below meth co D ca ad H locs ls cx hX hP hD hS (lv_sub hl ks ?_)
  subst h
  simp only [lv_pick, k_L, List.getElem?_map, List.map_filterMap]
theorem l_ialdN {c N j : Nat} (hd : decode cc pc = .ok (.iaload, 1)) (hc : sh[c]? = some (.inr (.inl (0, N)))) (hi : j < N ∧ N ≤ 1000) (kk : LJ R K J top Qf sh own cc n rt (pc + 1) L (.int (w.1 c j) :: st) w) : LJ R K J top Qf sh own cc n rt pc L (.int (nI j) :: .ref c :: st) w := by
  refine l_iald hd hc (vp_nI hi) ?_
  rw [nI_clamp (by omega)]
  exact kk
theorem l_iastN {c N j : Nat} {x : Int32} (hd : decode cc pc = .ok (.iastore, 1)) (hc : sh[c]? = some (.inr (.inl (0, N)))) (hi : j < N ∧ N ≤ 1000) (kk : LJ R K J top Qf sh own cc n rt (pc + 1) L st (k_up w.1 c j x, w.2)) : LJ R K J top Qf sh own cc n rt pc L (.int x :: .int (nI j) :: .ref c :: st) w := by
  refine l_iast hd hc (vp_nI hi) ?_
  rw [nI_clamp (by omega)]
  exact kk
theorem l_ldc {ix : Nat} {v : Int32} (hd : decode cc pc = .ok (.ldc ix, 2)) (hc : Cond.constant own ix v ∈ cw) (kk : LJ R K J top Qf sh own cc n rt (pc + 2) L (.int v :: st) w) : LJ R K J top Qf sh own cc n rt pc L st w := by
  intro p l e s m args below meth co D ca ad H locs ls cx hX hP hD hS hl
  exact lv_ldc cx.1 cx.2.1 cx.2.2.2.1 (cx.2.2.2.2.1 _ hc) hd (kk p l e s m args below meth co D ca ad H locs ls cx hX hP hD hS hl)
theorem l_slen (hd : decode cc pc = .ok (.arraylength, 1)) (kk : ∀ N : Nat, N ≤ 260 → LJ R K J top Qf sh own cc n rt (pc + 1) L (.int (nI N) :: st) w) : LJ R K J top Qf sh own cc n rt pc L (.ref 1000 :: st) w := by
  intro p l e s m args below meth co D ca ad H locs ls cx hX hP hD hS hl
  obtain ⟨N, xs, hN, hx⟩ := hX.1
  exact va_slen cx.1 cx.2.1 hx hX.2.1 hX.notA hS hd (kk N hN p l e s m args below meth co D ca ad H locs ls cx hX hP hD hS hl)
/-- the law's own end -/
theorem k_goesL {p : Program} {l : Launch} {e : Env} {s : State} {m : MethodId} {args : Array Value} {below : List Frame} {meth : Method} {c : Code} {H H0 : Heap} {locs : List Loc} {Q : State → Prop} {ls : Array Slot} {st0 rest : List Value} {D : va_G} {ca : Nat → ClassId} {ad : Nat → Nat} {Ψ : Option Value → kW → Prop} {a : Array Value}
    (hr : va_Run p l e R s m args below meth c H locs K J 0 0 (F0 m pc ls st0) (rest.map (k_v ad)) (k_Qc sh D ca ad H.size Ψ a) (k_A sh ad H.size)) (hS : va_S (k_A sh ad H0.size) H0 H locs)
    (kk : ∀ (r : Option Value) (w' : kW) (H1 : Heap) (locs1 : List Loc), Ψ r w' → va_P D vwCl (k_wd ad ca sh w') H1 → va_S (k_A sh ad H0.size) H0 H1 locs1 → W p l e R s m args below meth c H1 locs1 K J Q (F0 m (pc + 3) ls ((r.toList ++ rest).map (k_v ad)))) : W p l e R s m args below meth c H locs K J Q (F0 m pc ls st0) := by
  intro T hT X
  obtain ⟨v, st₀, t, T', L, h0, X', hL, e1, e2, ⟨⟨r, w', hv, hp, hb, hK⟩, hz, hk⟩, st⟩ := hr T hT X
  cases hv
  rw [h0] at hz hk
  have hA : ∀ q, k_A sh ad H.size q → k_A sh ad H0.size q := fun q h => h.elim Or.inl (fun h => Or.inr (Nat.le_trans hS.1 h))
  obtain ⟨t2, a1, b1⟩ := kk r w' T'.heap (locs ++ L) hp (by rw [e1]; exact hb)
    ⟨Nat.le_trans hS.1 (by rw [e1]; exact hz), fun q h1 h2 => by rw [e1, hk q (Nat.lt_of_lt_of_le h1 hS.1) (fun z => h2 (hA q z))]; exact hS.2.1 q h1 h2, fun q hq => by
      rcases List.mem_append.mp hq with h | h
      · exact hS.2.2 q h
      · exact hA _ (hL q h)⟩ T' rfl X'
  refine ⟨t2, st t2 ?_, b1⟩
  have e9 : (r.map (k_v ad)).toList ++ rest.map (k_v ad) = (r.toList ++ rest).map (k_v ad) := by cases r <;> rfl
  rw [e9]
  exact a1
theorem l_callV {z : MethodName} {zc : ByteArray} {zn zf zl ix a b ci : Nat} {zr : Option FieldType} {fs : List kF} {q : vw_C} {As : List Value} {Ψ : Option Value → kW → Prop} (hKJ : K ≤ R.cells ∧ J ≤ R.slots) (hd : decode cc pc = .ok (.invokevirtual ix, 3)) (hF : k_lkV own ix z zc zn zr a) (hn : As.length = a) (hc : sh[b]? = some (.inl (ci, fs))) (hq : vwCl[ci]? = some q) (hz : q.1 = z.cls) (hR : zf + 1 ≤ R.frames ∧ 8 + (zn + 11) + zl ≤ R.locals) (hs : (st.map fun v => v.category).sum ≤ 8) (hM : Spec sh z zc zn zr zf zl (.ref b :: As) w Ψ) (kk : ∀ (r : Option Value) (w' : kW), Ψ r w' → LJ R K J top Qf sh own cc n rt (pc + 3) L (r.toList ++ st) w') : LJ R K J top Qf sh own cc n rt pc L (As.reverse ++ .ref b :: st) w := by
  intro p l e s m args below meth co D ca ad H locs ls cx hX hP hD hS hl
  obtain ⟨⟨h1, h2, h3, h4, h5, h6⟩, h7, h8⟩ := hF
  have hts := cx.2.2.2.2.1
  have hK := cx.2.2.2.2.2.2.2
  refine k_goesL (va_runV (As := As.map (k_v ad)) (rest := st.map (k_v ad)) (b := ad b) ⟨cx.1, cx.2.1, cx.2.2.1, cx.2.2.2.1, hts⟩ (hM l D ca ad H.size) ⟨callB_of a hts (k_goodIn h3) rfl rfl rfl (hts _ h2) (hts _ h1) ⟨h4, h5, h6⟩ hR, hts _ h7, hts _ h8⟩ ⟨k_blind, ?_, fun U hU hW => ⟨rfl, by rw [hU], by rw [hU]; exact hP, k_K.warm hW hK, k_D_of hD (fun _ _ => trivial)⟩⟩ rfl (by rw [List.length_map]; exact hn) hl.1 (by simp [k_v]) (lv_room (by rw [k_cats]; exact hs)) hd hKJ) hS (fun r w' H1 locs1 hp hP1 hS1 => kk r w' hp p l e s m args below meth co D ca ad H1 locs1 ls cx hX hP1 (k_D_self hD) hS1 hl)
  have h9 := va_recv hK.1 hP hq (k_obj hc)
  rw [hz] at h9
  exact h9
theorem l_callS {z : MethodName} {zc : ByteArray} {zn zf zl ix a : Nat} {zr : Option FieldType} {As : List Value} {Ψ : Option Value → kW → Prop} (hKJ : K ≤ R.cells ∧ J ≤ R.slots) (hd : decode cc pc = .ok (.invokestatic ix, 3)) (hF : k_lkS own ix z zc zn zr a) (hn : As.length = a) (hR : zf + 1 ≤ R.frames ∧ 8 + (zn + 11) + zl ≤ R.locals) (hs : (st.map fun v => v.category).sum ≤ 8) (hM : Spec sh z zc zn zr zf zl As w Ψ) (kk : ∀ (r : Option Value) (w' : kW), Ψ r w' → LJ R K J top Qf sh own cc n rt (pc + 3) L (r.toList ++ st) w') : LJ R K J top Qf sh own cc n rt pc L (As.reverse ++ st) w := by
  intro p l e s m args below meth co D ca ad H locs ls cx hX hP hD hS hl
  obtain ⟨⟨h1, h2, h3, h4, h5, h6⟩, h7⟩ := hF
  have hts := cx.2.2.2.2.1
  have hK := cx.2.2.2.2.2.2.2
  exact k_goesL (va_runS (As := As.map (k_v ad)) (rest := st.map (k_v ad)) ⟨cx.1, cx.2.1, cx.2.2.1, cx.2.2.2.1, hts⟩ (hM l D ca ad H.size) ⟨callB_of a hts (k_goodIn h3) rfl rfl rfl (hts _ h2) (hts _ h1) ⟨h4, h5, h6⟩ hR, hts _ h7⟩ ⟨k_blind, fun U hU hW => ⟨rfl, by rw [hU], by rw [hU]; exact hP, k_K.warm hW hK, k_D_of hD (fun _ _ => trivial)⟩⟩ rfl (by rw [List.length_map]; exact hn) hl.1 (by simp) (lv_room (by rw [k_cats]; exact hs)) hd hKJ) hS (fun r w' H1 locs1 hp hP1 hS1 => kk r w' hp p l e s m args below meth co D ca ad H1 locs1 ls cx hX hP1 (k_D_self hD) hS1 hl)
theorem kSc.at {U s : State} {ad : Nat → Nat} {H : Heap} {locs : List Loc} (hX : kSc top sh ad s) (hS : va_S (k_A sh ad s.heap.size) s.heap H locs) (hU : U.heap = H) (hW : s.WarmedH U.vm) : kSc false sh ad U := by
  obtain ⟨N, xs, hN, hx⟩ := hX.1
  refine ⟨⟨N, xs, hN, ?_⟩, by rw [hU]; exact Nat.lt_of_lt_of_le hX.2.1 hS.1, hX.2.2.1, fun h => absurd h (by decide)⟩
  rw [hU]
  exact (hx.kept (hS.2.1 _ hX.2.1 hX.notA)).moved hW.alike
theorem l_callX {z : MethodName} {zc : ByteArray} {zn zf zl ix a : Nat} {zr : Option FieldType} {As : List Value} {Ψ : Option Value → kW → Prop} (hKJ : K ≤ R.cells ∧ J ≤ R.slots) (hd : decode cc pc = .ok (.invokestatic ix, 3)) (hF : k_lkS own ix z zc zn zr a) (hn : As.length = a) (hR : zf + 1 ≤ R.frames ∧ 8 + (zn + 11) + zl ≤ R.locals) (hs : (st.map fun v => v.category).sum ≤ 8) (hM : SpecS sh z zc zn zr zf zl As w Ψ) (kk : ∀ (r : Option Value) (w' : kW), Ψ r w' → LJ R K J top Qf sh own cc n rt (pc + 3) L (r.toList ++ st) w') : LJ R K J top Qf sh own cc n rt pc L (As.reverse ++ st) w := by
  intro p l e s m args below meth co D ca ad H locs ls cx hX hP hD hS hl
  obtain ⟨⟨h1, h2, h3, h4, h5, h6⟩, h7⟩ := hF
  have hts := cx.2.2.2.2.1
  have hK := cx.2.2.2.2.2.2.2
  exact k_goesL (va_runS (As := As.map (k_v ad)) (rest := st.map (k_v ad)) ⟨cx.1, cx.2.1, cx.2.2.1, cx.2.2.2.1, hts⟩ (hM l D ca ad H.size) ⟨callB_of a hts (k_goodIn h3) rfl rfl rfl (hts _ h2) (hts _ h1) ⟨h4, h5, h6⟩ hR, hts _ h7⟩ ⟨k_blindS, fun U hU hW => ⟨⟨rfl, by rw [hU], by rw [hU]; exact hP, k_K.warm hW hK, k_D_of hD (fun _ _ => trivial)⟩, hX.at hS hU hW⟩⟩ rfl (by rw [List.length_map]; exact hn) hl.1 (by simp) (lv_room (by rw [k_cats]; exact hs)) hd hKJ) hS (fun r w' H1 locs1 hp hP1 hS1 => kk r w' hp p l e s m args below meth co D ca ad H1 locs1 ls cx hX hP1 (k_D_self hD) hS1 hl)
end LK
section LR
variable {sh : List kE} {own : String} {cc : ByteArray} {n : Nat} {rt : Option FieldType} {fr lo : Nat} {Φ : Option Value → kW → Prop} {pc : Nat} {L : List (Nat × Value)} {w : kW}
theorem l_iret {v : Int32} (hd : decode cc pc = .ok (.ireturn, 1)) (hr : rt = some .int) (h : Φ (some (.int v)) w) : LJ ({ frames := fr, cells := 0, slots := 0, locals := lo } : Room) 0 0 false (lMQ sh Φ) sh own cc n rt pc L [(.int v)] w := by
  intro p l e s m args below meth co D ca ad H locs ls cx hX hP hD hS hl
  exact W.iret cx.1 cx.2.1 (cx.2.2.2.2.2.1.trans hr) (fun t ht hW => ⟨⟨some (.int v), w, rfl, h, by rw [ht]; exact hP, va_K.moved hW.alike cx.2.2.2.2.2.2.2.1⟩, hS.F ht⟩) hS.2.2 hd cx.2.2.2.2.2.2.1
end LR
section LC
variable {R : Room} {K J : Nat} {top : Bool} {Qf : lQ} {sh : List kE} {own : String} {cc : ByteArray} {n : Nat} {rt : Option FieldType} {pc : Nat} {L : List (Nat × Value)} {st : List Value} {w : kW}
theorem l_callS0 {z : MethodName} {zc : ByteArray} {zn zf zl ix : Nat} {zr : Option FieldType} {Ψ : Option Value → kW → Prop} (hKJ : K ≤ R.cells ∧ J ≤ R.slots) (hd : decode cc pc = .ok (.invokestatic ix, 3)) (hF : k_lkS own ix z zc zn zr 0) (hR : zf + 1 ≤ R.frames ∧ 8 + (zn + 11) + zl ≤ R.locals) (hs : (st.map fun v => v.category).sum ≤ 8) (hM : Spec sh z zc zn zr zf zl [] w Ψ) (kk : ∀ (r : Option Value) (w' : kW), Ψ r w' → LJ R K J top Qf sh own cc n rt (pc + 3) L (r.toList ++ st) w') : LJ R K J top Qf sh own cc n rt pc L (st) w := l_callS (As := []) hKJ hd hF rfl hR hs hM kk
theorem l_callX0 {z : MethodName} {zc : ByteArray} {zn zf zl ix : Nat} {zr : Option FieldType} {Ψ : Option Value → kW → Prop} (hKJ : K ≤ R.cells ∧ J ≤ R.slots) (hd : decode cc pc = .ok (.invokestatic ix, 3)) (hF : k_lkS own ix z zc zn zr 0) (hR : zf + 1 ≤ R.frames ∧ 8 + (zn + 11) + zl ≤ R.locals) (hs : (st.map fun v => v.category).sum ≤ 8) (hM : SpecS sh z zc zn zr zf zl [] w Ψ) (kk : ∀ (r : Option Value) (w' : kW), Ψ r w' → LJ R K J top Qf sh own cc n rt (pc + 3) L (r.toList ++ st) w') : LJ R K J top Qf sh own cc n rt pc L (st) w := l_callX (As := []) hKJ hd hF rfl hR hs hM kk
theorem l_callV1 {z : MethodName} {zc : ByteArray} {zn zf zl ix b ci : Nat} {zr : Option FieldType} {fs : List kF} {q : vw_C} {x0 : Value} {Ψ : Option Value → kW → Prop} (hKJ : K ≤ R.cells ∧ J ≤ R.slots) (hd : decode cc pc = .ok (.invokevirtual ix, 3)) (hF : k_lkV own ix z zc zn zr 1) (hc : sh[b]? = some (.inl (ci, fs))) (hq : vwCl[ci]? = some q) (hz : q.1 = z.cls) (hR : zf + 1 ≤ R.frames ∧ 8 + (zn + 11) + zl ≤ R.locals) (hs : (st.map fun v => v.category).sum ≤ 8) (hM : Spec sh z zc zn zr zf zl (.ref b :: [x0]) w Ψ) (kk : ∀ (r : Option Value) (w' : kW), Ψ r w' → LJ R K J top Qf sh own cc n rt (pc + 3) L (r.toList ++ st) w') : LJ R K J top Qf sh own cc n rt pc L (x0 :: .ref b :: st) w := l_callV (As := [x0]) hKJ hd hF rfl hc hq hz hR hs hM kk
theorem l_callS1 {z : MethodName} {zc : ByteArray} {zn zf zl ix : Nat} {zr : Option FieldType} {x0 : Value} {Ψ : Option Value → kW → Prop} (hKJ : K ≤ R.cells ∧ J ≤ R.slots) (hd : decode cc pc = .ok (.invokestatic ix, 3)) (hF : k_lkS own ix z zc zn zr 1) (hR : zf + 1 ≤ R.frames ∧ 8 + (zn + 11) + zl ≤ R.locals) (hs : (st.map fun v => v.category).sum ≤ 8) (hM : Spec sh z zc zn zr zf zl [x0] w Ψ) (kk : ∀ (r : Option Value) (w' : kW), Ψ r w' → LJ R K J top Qf sh own cc n rt (pc + 3) L (r.toList ++ st) w') : LJ R K J top Qf sh own cc n rt pc L (x0 :: st) w := l_callS (As := [x0]) hKJ hd hF rfl hR hs hM kk
theorem l_callX1 {z : MethodName} {zc : ByteArray} {zn zf zl ix : Nat} {zr : Option FieldType} {x0 : Value} {Ψ : Option Value → kW → Prop} (hKJ : K ≤ R.cells ∧ J ≤ R.slots) (hd : decode cc pc = .ok (.invokestatic ix, 3)) (hF : k_lkS own ix z zc zn zr 1) (hR : zf + 1 ≤ R.frames ∧ 8 + (zn + 11) + zl ≤ R.locals) (hs : (st.map fun v => v.category).sum ≤ 8) (hM : SpecS sh z zc zn zr zf zl [x0] w Ψ) (kk : ∀ (r : Option Value) (w' : kW), Ψ r w' → LJ R K J top Qf sh own cc n rt (pc + 3) L (r.toList ++ st) w') : LJ R K J top Qf sh own cc n rt pc L (x0 :: st) w := l_callX (As := [x0]) hKJ hd hF rfl hR hs hM kk
theorem l_callV2 {z : MethodName} {zc : ByteArray} {zn zf zl ix b ci : Nat} {zr : Option FieldType} {fs : List kF} {q : vw_C} {x0 x1 : Value} {Ψ : Option Value → kW → Prop} (hKJ : K ≤ R.cells ∧ J ≤ R.slots) (hd : decode cc pc = .ok (.invokevirtual ix, 3)) (hF : k_lkV own ix z zc zn zr 2) (hc : sh[b]? = some (.inl (ci, fs))) (hq : vwCl[ci]? = some q) (hz : q.1 = z.cls) (hR : zf + 1 ≤ R.frames ∧ 8 + (zn + 11) + zl ≤ R.locals) (hs : (st.map fun v => v.category).sum ≤ 8) (hM : Spec sh z zc zn zr zf zl (.ref b :: [x0, x1]) w Ψ) (kk : ∀ (r : Option Value) (w' : kW), Ψ r w' → LJ R K J top Qf sh own cc n rt (pc + 3) L (r.toList ++ st) w') : LJ R K J top Qf sh own cc n rt pc L (x1 :: x0 :: .ref b :: st) w := l_callV (As := [x0, x1]) hKJ hd hF rfl hc hq hz hR hs hM kk
theorem l_callS2 {z : MethodName} {zc : ByteArray} {zn zf zl ix : Nat} {zr : Option FieldType} {x0 x1 : Value} {Ψ : Option Value → kW → Prop} (hKJ : K ≤ R.cells ∧ J ≤ R.slots) (hd : decode cc pc = .ok (.invokestatic ix, 3)) (hF : k_lkS own ix z zc zn zr 2) (hR : zf + 1 ≤ R.frames ∧ 8 + (zn + 11) + zl ≤ R.locals) (hs : (st.map fun v => v.category).sum ≤ 8) (hM : Spec sh z zc zn zr zf zl [x0, x1] w Ψ) (kk : ∀ (r : Option Value) (w' : kW), Ψ r w' → LJ R K J top Qf sh own cc n rt (pc + 3) L (r.toList ++ st) w') : LJ R K J top Qf sh own cc n rt pc L (x1 :: x0 :: st) w := l_callS (As := [x0, x1]) hKJ hd hF rfl hR hs hM kk
theorem l_callX2 {z : MethodName} {zc : ByteArray} {zn zf zl ix : Nat} {zr : Option FieldType} {x0 x1 : Value} {Ψ : Option Value → kW → Prop} (hKJ : K ≤ R.cells ∧ J ≤ R.slots) (hd : decode cc pc = .ok (.invokestatic ix, 3)) (hF : k_lkS own ix z zc zn zr 2) (hR : zf + 1 ≤ R.frames ∧ 8 + (zn + 11) + zl ≤ R.locals) (hs : (st.map fun v => v.category).sum ≤ 8) (hM : SpecS sh z zc zn zr zf zl [x0, x1] w Ψ) (kk : ∀ (r : Option Value) (w' : kW), Ψ r w' → LJ R K J top Qf sh own cc n rt (pc + 3) L (r.toList ++ st) w') : LJ R K J top Qf sh own cc n rt pc L (x1 :: x0 :: st) w := l_callX (As := [x0, x1]) hKJ hd hF rfl hR hs hM kk
theorem l_callV3 {z : MethodName} {zc : ByteArray} {zn zf zl ix b ci : Nat} {zr : Option FieldType} {fs : List kF} {q : vw_C} {x0 x1 x2 : Value} {Ψ : Option Value → kW → Prop} (hKJ : K ≤ R.cells ∧ J ≤ R.slots) (hd : decode cc pc = .ok (.invokevirtual ix, 3)) (hF : k_lkV own ix z zc zn zr 3) (hc : sh[b]? = some (.inl (ci, fs))) (hq : vwCl[ci]? = some q) (hz : q.1 = z.cls) (hR : zf + 1 ≤ R.frames ∧ 8 + (zn + 11) + zl ≤ R.locals) (hs : (st.map fun v => v.category).sum ≤ 8) (hM : Spec sh z zc zn zr zf zl (.ref b :: [x0, x1, x2]) w Ψ) (kk : ∀ (r : Option Value) (w' : kW), Ψ r w' → LJ R K J top Qf sh own cc n rt (pc + 3) L (r.toList ++ st) w') : LJ R K J top Qf sh own cc n rt pc L (x2 :: x1 :: x0 :: .ref b :: st) w := l_callV (As := [x0, x1, x2]) hKJ hd hF rfl hc hq hz hR hs hM kk
theorem l_callS3 {z : MethodName} {zc : ByteArray} {zn zf zl ix : Nat} {zr : Option FieldType} {x0 x1 x2 : Value} {Ψ : Option Value → kW → Prop} (hKJ : K ≤ R.cells ∧ J ≤ R.slots) (hd : decode cc pc = .ok (.invokestatic ix, 3)) (hF : k_lkS own ix z zc zn zr 3) (hR : zf + 1 ≤ R.frames ∧ 8 + (zn + 11) + zl ≤ R.locals) (hs : (st.map fun v => v.category).sum ≤ 8) (hM : Spec sh z zc zn zr zf zl [x0, x1, x2] w Ψ) (kk : ∀ (r : Option Value) (w' : kW), Ψ r w' → LJ R K J top Qf sh own cc n rt (pc + 3) L (r.toList ++ st) w') : LJ R K J top Qf sh own cc n rt pc L (x2 :: x1 :: x0 :: st) w := l_callS (As := [x0, x1, x2]) hKJ hd hF rfl hR hs hM kk
theorem l_callX3 {z : MethodName} {zc : ByteArray} {zn zf zl ix : Nat} {zr : Option FieldType} {x0 x1 x2 : Value} {Ψ : Option Value → kW → Prop} (hKJ : K ≤ R.cells ∧ J ≤ R.slots) (hd : decode cc pc = .ok (.invokestatic ix, 3)) (hF : k_lkS own ix z zc zn zr 3) (hR : zf + 1 ≤ R.frames ∧ 8 + (zn + 11) + zl ≤ R.locals) (hs : (st.map fun v => v.category).sum ≤ 8) (hM : SpecS sh z zc zn zr zf zl [x0, x1, x2] w Ψ) (kk : ∀ (r : Option Value) (w' : kW), Ψ r w' → LJ R K J top Qf sh own cc n rt (pc + 3) L (r.toList ++ st) w') : LJ R K J top Qf sh own cc n rt pc L (x2 :: x1 :: x0 :: st) w := l_callX (As := [x0, x1, x2]) hKJ hd hF rfl hR hs hM kk
theorem l_callV4 {z : MethodName} {zc : ByteArray} {zn zf zl ix b ci : Nat} {zr : Option FieldType} {fs : List kF} {q : vw_C} {x0 x1 x2 x3 : Value} {Ψ : Option Value → kW → Prop} (hKJ : K ≤ R.cells ∧ J ≤ R.slots) (hd : decode cc pc = .ok (.invokevirtual ix, 3)) (hF : k_lkV own ix z zc zn zr 4) (hc : sh[b]? = some (.inl (ci, fs))) (hq : vwCl[ci]? = some q) (hz : q.1 = z.cls) (hR : zf + 1 ≤ R.frames ∧ 8 + (zn + 11) + zl ≤ R.locals) (hs : (st.map fun v => v.category).sum ≤ 8) (hM : Spec sh z zc zn zr zf zl (.ref b :: [x0, x1, x2, x3]) w Ψ) (kk : ∀ (r : Option Value) (w' : kW), Ψ r w' → LJ R K J top Qf sh own cc n rt (pc + 3) L (r.toList ++ st) w') : LJ R K J top Qf sh own cc n rt pc L (x3 :: x2 :: x1 :: x0 :: .ref b :: st) w := l_callV (As := [x0, x1, x2, x3]) hKJ hd hF rfl hc hq hz hR hs hM kk
theorem l_callS4 {z : MethodName} {zc : ByteArray} {zn zf zl ix : Nat} {zr : Option FieldType} {x0 x1 x2 x3 : Value} {Ψ : Option Value → kW → Prop} (hKJ : K ≤ R.cells ∧ J ≤ R.slots) (hd : decode cc pc = .ok (.invokestatic ix, 3)) (hF : k_lkS own ix z zc zn zr 4) (hR : zf + 1 ≤ R.frames ∧ 8 + (zn + 11) + zl ≤ R.locals) (hs : (st.map fun v => v.category).sum ≤ 8) (hM : Spec sh z zc zn zr zf zl [x0, x1, x2, x3] w Ψ) (kk : ∀ (r : Option Value) (w' : kW), Ψ r w' → LJ R K J top Qf sh own cc n rt (pc + 3) L (r.toList ++ st) w') : LJ R K J top Qf sh own cc n rt pc L (x3 :: x2 :: x1 :: x0 :: st) w := l_callS (As := [x0, x1, x2, x3]) hKJ hd hF rfl hR hs hM kk
theorem l_callX4 {z : MethodName} {zc : ByteArray} {zn zf zl ix : Nat} {zr : Option FieldType} {x0 x1 x2 x3 : Value} {Ψ : Option Value → kW → Prop} (hKJ : K ≤ R.cells ∧ J ≤ R.slots) (hd : decode cc pc = .ok (.invokestatic ix, 3)) (hF : k_lkS own ix z zc zn zr 4) (hR : zf + 1 ≤ R.frames ∧ 8 + (zn + 11) + zl ≤ R.locals) (hs : (st.map fun v => v.category).sum ≤ 8) (hM : SpecS sh z zc zn zr zf zl [x0, x1, x2, x3] w Ψ) (kk : ∀ (r : Option Value) (w' : kW), Ψ r w' → LJ R K J top Qf sh own cc n rt (pc + 3) L (r.toList ++ st) w') : LJ R K J top Qf sh own cc n rt pc L (x3 :: x2 :: x1 :: x0 :: st) w := l_callX (As := [x0, x1, x2, x3]) hKJ hd hF rfl hR hs hM kk
theorem l_callS5 {z : MethodName} {zc : ByteArray} {zn zf zl ix : Nat} {zr : Option FieldType} {x0 x1 x2 x3 x4 : Value} {Ψ : Option Value → kW → Prop} (hKJ : K ≤ R.cells ∧ J ≤ R.slots) (hd : decode cc pc = .ok (.invokestatic ix, 3)) (hF : k_lkS own ix z zc zn zr 5) (hR : zf + 1 ≤ R.frames ∧ 8 + (zn + 11) + zl ≤ R.locals) (hs : (st.map fun v => v.category).sum ≤ 8) (hM : Spec sh z zc zn zr zf zl [x0, x1, x2, x3, x4] w Ψ) (kk : ∀ (r : Option Value) (w' : kW), Ψ r w' → LJ R K J top Qf sh own cc n rt (pc + 3) L (r.toList ++ st) w') : LJ R K J top Qf sh own cc n rt pc L (x4 :: x3 :: x2 :: x1 :: x0 :: st) w := l_callS (As := [x0, x1, x2, x3, x4]) hKJ hd hF rfl hR hs hM kk
theorem l_callX5 {z : MethodName} {zc : ByteArray} {zn zf zl ix : Nat} {zr : Option FieldType} {x0 x1 x2 x3 x4 : Value} {Ψ : Option Value → kW → Prop} (hKJ : K ≤ R.cells ∧ J ≤ R.slots) (hd : decode cc pc = .ok (.invokestatic ix, 3)) (hF : k_lkS own ix z zc zn zr 5) (hR : zf + 1 ≤ R.frames ∧ 8 + (zn + 11) + zl ≤ R.locals) (hs : (st.map fun v => v.category).sum ≤ 8) (hM : SpecS sh z zc zn zr zf zl [x0, x1, x2, x3, x4] w Ψ) (kk : ∀ (r : Option Value) (w' : kW), Ψ r w' → LJ R K J top Qf sh own cc n rt (pc + 3) L (r.toList ++ st) w') : LJ R K J top Qf sh own cc n rt pc L (x4 :: x3 :: x2 :: x1 :: x0 :: st) w := l_callX (As := [x0, x1, x2, x3, x4]) hKJ hd hF rfl hR hs hM kk
theorem l_callS6 {z : MethodName} {zc : ByteArray} {zn zf zl ix : Nat} {zr : Option FieldType} {x0 x1 x2 x3 x4 x5 : Value} {Ψ : Option Value → kW → Prop} (hKJ : K ≤ R.cells ∧ J ≤ R.slots) (hd : decode cc pc = .ok (.invokestatic ix, 3)) (hF : k_lkS own ix z zc zn zr 6) (hR : zf + 1 ≤ R.frames ∧ 8 + (zn + 11) + zl ≤ R.locals) (hs : (st.map fun v => v.category).sum ≤ 8) (hM : Spec sh z zc zn zr zf zl [x0, x1, x2, x3, x4, x5] w Ψ) (kk : ∀ (r : Option Value) (w' : kW), Ψ r w' → LJ R K J top Qf sh own cc n rt (pc + 3) L (r.toList ++ st) w') : LJ R K J top Qf sh own cc n rt pc L (x5 :: x4 :: x3 :: x2 :: x1 :: x0 :: st) w := l_callS (As := [x0, x1, x2, x3, x4, x5]) hKJ hd hF rfl hR hs hM kk
theorem l_callX6 {z : MethodName} {zc : ByteArray} {zn zf zl ix : Nat} {zr : Option FieldType} {x0 x1 x2 x3 x4 x5 : Value} {Ψ : Option Value → kW → Prop} (hKJ : K ≤ R.cells ∧ J ≤ R.slots) (hd : decode cc pc = .ok (.invokestatic ix, 3)) (hF : k_lkS own ix z zc zn zr 6) (hR : zf + 1 ≤ R.frames ∧ 8 + (zn + 11) + zl ≤ R.locals) (hs : (st.map fun v => v.category).sum ≤ 8) (hM : SpecS sh z zc zn zr zf zl [x0, x1, x2, x3, x4, x5] w Ψ) (kk : ∀ (r : Option Value) (w' : kW), Ψ r w' → LJ R K J top Qf sh own cc n rt (pc + 3) L (r.toList ++ st) w') : LJ R K J top Qf sh own cc n rt pc L (x5 :: x4 :: x3 :: x2 :: x1 :: x0 :: st) w := l_callX (As := [x0, x1, x2, x3, x4, x5]) hKJ hd hF rfl hR hs hM kk
theorem l_callS7 {z : MethodName} {zc : ByteArray} {zn zf zl ix : Nat} {zr : Option FieldType} {x0 x1 x2 x3 x4 x5 x6 : Value} {Ψ : Option Value → kW → Prop} (hKJ : K ≤ R.cells ∧ J ≤ R.slots) (hd : decode cc pc = .ok (.invokestatic ix, 3)) (hF : k_lkS own ix z zc zn zr 7) (hR : zf + 1 ≤ R.frames ∧ 8 + (zn + 11) + zl ≤ R.locals) (hs : (st.map fun v => v.category).sum ≤ 8) (hM : Spec sh z zc zn zr zf zl [x0, x1, x2, x3, x4, x5, x6] w Ψ) (kk : ∀ (r : Option Value) (w' : kW), Ψ r w' → LJ R K J top Qf sh own cc n rt (pc + 3) L (r.toList ++ st) w') : LJ R K J top Qf sh own cc n rt pc L (x6 :: x5 :: x4 :: x3 :: x2 :: x1 :: x0 :: st) w := l_callS (As := [x0, x1, x2, x3, x4, x5, x6]) hKJ hd hF rfl hR hs hM kk
theorem l_callX7 {z : MethodName} {zc : ByteArray} {zn zf zl ix : Nat} {zr : Option FieldType} {x0 x1 x2 x3 x4 x5 x6 : Value} {Ψ : Option Value → kW → Prop} (hKJ : K ≤ R.cells ∧ J ≤ R.slots) (hd : decode cc pc = .ok (.invokestatic ix, 3)) (hF : k_lkS own ix z zc zn zr 7) (hR : zf + 1 ≤ R.frames ∧ 8 + (zn + 11) + zl ≤ R.locals) (hs : (st.map fun v => v.category).sum ≤ 8) (hM : SpecS sh z zc zn zr zf zl [x0, x1, x2, x3, x4, x5, x6] w Ψ) (kk : ∀ (r : Option Value) (w' : kW), Ψ r w' → LJ R K J top Qf sh own cc n rt (pc + 3) L (r.toList ++ st) w') : LJ R K J top Qf sh own cc n rt pc L (x6 :: x5 :: x4 :: x3 :: x2 :: x1 :: x0 :: st) w := l_callX (As := [x0, x1, x2, x3, x4, x5, x6]) hKJ hd hF rfl hR hs hM kk
theorem l_callS8 {z : MethodName} {zc : ByteArray} {zn zf zl ix : Nat} {zr : Option FieldType} {x0 x1 x2 x3 x4 x5 x6 x7 : Value} {Ψ : Option Value → kW → Prop} (hKJ : K ≤ R.cells ∧ J ≤ R.slots) (hd : decode cc pc = .ok (.invokestatic ix, 3)) (hF : k_lkS own ix z zc zn zr 8) (hR : zf + 1 ≤ R.frames ∧ 8 + (zn + 11) + zl ≤ R.locals) (hs : (st.map fun v => v.category).sum ≤ 8) (hM : Spec sh z zc zn zr zf zl [x0, x1, x2, x3, x4, x5, x6, x7] w Ψ) (kk : ∀ (r : Option Value) (w' : kW), Ψ r w' → LJ R K J top Qf sh own cc n rt (pc + 3) L (r.toList ++ st) w') : LJ R K J top Qf sh own cc n rt pc L (x7 :: x6 :: x5 :: x4 :: x3 :: x2 :: x1 :: x0 :: st) w := l_callS (As := [x0, x1, x2, x3, x4, x5, x6, x7]) hKJ hd hF rfl hR hs hM kk
theorem l_callX8 {z : MethodName} {zc : ByteArray} {zn zf zl ix : Nat} {zr : Option FieldType} {x0 x1 x2 x3 x4 x5 x6 x7 : Value} {Ψ : Option Value → kW → Prop} (hKJ : K ≤ R.cells ∧ J ≤ R.slots) (hd : decode cc pc = .ok (.invokestatic ix, 3)) (hF : k_lkS own ix z zc zn zr 8) (hR : zf + 1 ≤ R.frames ∧ 8 + (zn + 11) + zl ≤ R.locals) (hs : (st.map fun v => v.category).sum ≤ 8) (hM : SpecS sh z zc zn zr zf zl [x0, x1, x2, x3, x4, x5, x6, x7] w Ψ) (kk : ∀ (r : Option Value) (w' : kW), Ψ r w' → LJ R K J top Qf sh own cc n rt (pc + 3) L (r.toList ++ st) w') : LJ R K J top Qf sh own cc n rt pc L (x7 :: x6 :: x5 :: x4 :: x3 :: x2 :: x1 :: x0 :: st) w := l_callX (As := [x0, x1, x2, x3, x4, x5, x6, x7]) hKJ hd hF rfl hR hs hM kk
end LC
end
section
theorem pn_L : plainName RL = true := by decide +kernel
theorem nI_div {a b : Nat} (ha : a < 2 ^ 31) (hb : b < 2 ^ 31) : nI a / nI b = nI (a / b) := by
  apply Int32.toInt_inj.mp
  rw [Int32.toInt_div_of_ne_right _ _ (fun h => ?_), nI_toInt ha, nI_toInt hb, nI_toInt (Nat.lt_of_le_of_lt (Nat.div_le_self a b) ha)]
  · rfl
  · have h1 := nI_toInt hb
    rw [h] at h1
    have h2 : (-1 : Int32).toInt = -1 := by decide
    omega
theorem nI_rem {a b : Nat} (ha : a < 2 ^ 31) (hb : b < 2 ^ 31) : nI a - nI a / nI b * nI b = nI (a % b) := by
  rw [nI_div ha hb, nI_mul, nI_sub (Nat.div_mul_le_self a b)]
  congr 1
  rw [Nat.mod_def, Nat.mul_comm]
theorem some_pos (v : Int32) : ¬ (v &&& 2147483647) < 0 := by
  have h := BitVec.msb_eq_toInt (x := (v &&& 2147483647).toBitVec)
  rw [Int32.toBitVec_and, BitVec.msb_and] at h
  have h2 : (2147483647 : Int32).toBitVec.msb = false := by decide
  rw [h2, Bool.and_false] at h
  intro h3
  rw [Int32.lt_iff_toInt_lt] at h3
  have h4 := of_decide_eq_false h.symm
  rw [← Int32.toBitVec_and] at h4
  exact h4 h3
theorem some_val (v : Int32) {N : Nat} (h1 : 1 ≤ N) (h2 : N ≤ 1000) : ∃ j, j < N ∧ (v &&& 2147483647) - (v &&& 2147483647) / nI N * nI N = nI j := by
  obtain ⟨a, ha, e⟩ := nI_of (some_pos v)
  rw [e, nI_rem ha (by omega)]
  exact ⟨a % N, Nat.mod_lt _ h1, rfl⟩

set_option maxRecDepth 100000 in
set_option maxHeartbeats 1000000 in
theorem s_L_some {sh : List kE} {w : kW} {v : Int32} {N : Nat} (h1 : 1 ≤ N) (h2 : N ≤ 1000) : Spec sh yL_some cL_some 2 (some .int) 0 0 [.int v, .int (nI N)] w (fun r w' => w = w' ∧ ∃ j, j < N ∧ r = some (.int (nI j))) := by
  obtain ⟨j, hj, ej⟩ := some_val v h1 h2
  refine k_enter pn_L (Nat.le_of_ble_eq_true rfl) ?_
  refine b_iload_n dL_some_0 rfl ?_
  refine b_ldc dL_some_1 lc_L_8 ?_
  refine b_iand dL_some_3 ?_
  refine b_iload_n dL_some_4 rfl ?_
  refine b_irem dL_some_5 (nI_ne0 h1 (by omega)) ?_
  refine b_iret dL_some_6 rfl ⟨rfl, j, hj, ?_⟩
  rw [ej]

set_option maxRecDepth 100000 in
set_option maxHeartbeats 1000000 in
theorem s_L_cell {sh : List kE} {w : kW} {j : Nat} (hj : j ≤ 1000) : SpecS sh yL_cell cL_cell 2 (some .int) 0 0 [.ref 1000, .int (nI j)] w (fun r w' => w = w' ∧ ∃ x : Int32, r = some (.int x)) := by
  refine l_enter pn_L (Nat.le_of_ble_eq_true rfl) ?_
  refine l_iload_n dL_cell_0 rfl ?_
  refine l_aload_n dL_cell_1 rfl ?_
  have h18 : ∀ x : Int32, LJ ({ frames := 0, cells := 0, slots := 0, locals := 0 } : Room) 0 0 false (lMQ sh (fun r w' => w = w' ∧ ∃ x : Int32, r = some (.int x))) sh RL cL_cell 2 (some .int) 18 [(0, .ref 1000), (1, .int (nI j))] [.int x] w := fun x => l_iret dL_cell_18 rfl ⟨rfl, x, rfl⟩
  have h9 : ∀ x : Int32, LJ ({ frames := 0, cells := 0, slots := 0, locals := 0 } : Room) 0 0 false (lMQ sh (fun r w' => w = w' ∧ ∃ x : Int32, r = some (.int x))) sh RL cL_cell 2 (some .int) 9 [(0, .ref 1000), (1, .int (nI j))] [.int x] w := fun x => l_goto (tgt := 18) dL_cell_9 (by decide) (h18 x)
  have h12 : LJ ({ frames := 0, cells := 0, slots := 0, locals := 0 } : Room) 0 0 false (lMQ sh (fun r w' => w = w' ∧ ∃ x : Int32, r = some (.int x))) sh RL cL_cell 2 (some .int) 12 [(0, .ref 1000), (1, .int (nI j))] [] w := by
    refine l_ldc dL_cell_12 lc_L_7 ?_
    refine l_iload_n dL_cell_14 rfl ?_
    refine l_iconst (v := 1) dL_cell_15 (by decide) ?_
    refine l_iadd dL_cell_16 ?_
    refine l_imul dL_cell_17 ?_
    exact h18 _
  intro p l e s m args below meth co D ca ad H locs ls cx hX hP hD hS hl
  obtain ⟨N, xs, hN, hx⟩ := hX.1
  refine va_slen cx.1 cx.2.1 hx hX.2.1 hX.notA hS dL_cell_2 ?_
  refine lv_icmp_ge (tgt := 12) cx.1 cx.2.1 dL_cell_3 (by decide) (fun h => h12 p l e s m args below meth co D ca ad H locs ls cx hX hP hD hS hl) (fun h => ?_)
  have hlt : j < N := Nat.not_le.mp (fun z => h (nI_le z (by omega)))
  refine lv_aload_n cx.1 cx.2.1 dL_cell_6 rfl (k_lget (v := .ref 1000) hl rfl) ?_
  refine lv_iload_n cx.1 cx.2.1 dL_cell_7 rfl (k_lget (v := .int (nI j)) hl rfl) ?_
  refine va_sld cx.1 cx.2.1 hx hX.2.1 hX.notA hS (vp_nI ⟨hlt, by omega⟩) dL_cell_8 ?_
  exact h9 _ p l e s m args below meth co D ca ad H locs ls cx hX hP hD hS hl

def lT (k h : Int32) : Int32 :=
  if k ≤ 0 then 10 - h - 0
  else if 1 ≤ 10 - h - 2 then (if k = 2 then (if 10 - h - 2 ≤ 1 then 10 - h - 2 else 10 - h - 2 - 1) else 10 - h - 2)
  else (if k = 2 then 1 else 1)
theorem lT_eq : ∀ k, k < 3 → ∀ h, h < 10 → 1 ≤ h → lT (nI k) (nI h) = mTc (nI k) (nI h) := by decide +kernel
theorem lT_2 : ∀ k, k < 3 → nI k ≤ 0 → ¬ nI k = 2 := by decide +kernel

set_option maxRecDepth 100000 in
set_option maxHeartbeats 1000000 in
theorem s_L_touchy {w : kW} {p h kd : Nat} (hp : p < 6) (h1 : 1 ≤ h) (h9 : h ≤ 9) (hk : kd ≤ 2) (eh : w.1 39 (9 + p) = nI h) (ek : w.1 39 (3 + p) = nI kd) : Spec shL yL_touchy cL_touchy 3 (some .int) 0 0 [.ref 39, .int (nI p)] w (fun r w' => r = some (.int (mTc (nI kd) (nI h))) ∧ w = w') := by
  refine k_enter pn_L (Nat.le_of_ble_eq_true rfl) ?_
  refine b_bipush (v := 10) dL_touchy_0 (by decide) ?_
  refine b_aload_n dL_touchy_2 rfl ?_
  refine b_bipush (v := 9) dL_touchy_3 (by decide) ?_
  refine b_iload_n dL_touchy_5 rfl ?_
  refine b_iadd dL_touchy_6 ?_
  refine b_topi (y := nI (9 + p)) (nI_add 9 p) ?_
  refine b_ialdN dL_touchy_7 rfl ⟨by omega, by decide⟩ ?_
  refine b_topi (y := nI h) eh ?_
  refine b_isub dL_touchy_8 ?_
  refine b_aload_n dL_touchy_9 rfl ?_
  refine b_iconst (v := 3) dL_touchy_10 (by decide) ?_
  refine b_iload_n dL_touchy_11 rfl ?_
  refine b_iadd dL_touchy_12 ?_
  refine b_topi (y := nI (3 + p)) (nI_add 3 p) ?_
  refine b_ialdN dL_touchy_13 rfl ⟨by omega, by decide⟩ ?_
  refine b_topi (y := nI kd) ek ?_
  refine b_if_le (tgt := 21) dL_touchy_14 (by decide) (fun h14 => ?_) (fun h14 => ?_)
  · refine b_iconst (v := 0) dL_touchy_21 (by decide) ?_
    refine b_isub dL_touchy_22 ?_
    refine b_istore_n dL_touchy_23 (by decide) ?_
    refine b_aload_n dL_touchy_24 rfl ?_
    refine b_iconst (v := 3) dL_touchy_25 (by decide) ?_
    refine b_iload_n dL_touchy_26 rfl ?_
    refine b_iadd dL_touchy_27 ?_
    refine b_topi (y := nI (3 + p)) (nI_add 3 p) ?_
    refine b_ialdN dL_touchy_28 rfl ⟨by omega, by decide⟩ ?_
    refine b_topi (y := nI kd) ek ?_
    refine b_if_le (tgt := 39) dL_touchy_29 (by decide) (fun h29 => ?_) (fun h29 => ?_)
    · refine b_aload_n dL_touchy_39 rfl ?_
      refine b_iconst (v := 3) dL_touchy_40 (by decide) ?_
      refine b_iload_n dL_touchy_41 rfl ?_
      refine b_iadd dL_touchy_42 ?_
      refine b_topi (y := nI (3 + p)) (nI_add 3 p) ?_
      refine b_ialdN dL_touchy_43 rfl ⟨by omega, by decide⟩ ?_
      refine b_topi (y := nI kd) ek ?_
      refine b_iconst (v := 2) dL_touchy_44 (by decide) ?_
      refine b_icmp_ne (tgt := 59) dL_touchy_45 (by decide) (fun h45 => ?_) (fun h45 => ?_)
      · refine b_iload_n dL_touchy_59 rfl ?_
        refine b_iret dL_touchy_60 rfl ⟨?_, ?_⟩
        · rw [← lT_eq kd (by omega) h (by omega) h1]; simp only [lT, if_pos h14, if_pos h29, if_neg h45]
        · rfl
      · exact absurd h45 (lT_2 kd (by omega) h14)
    · exact absurd h14 h29
  · refine b_iconst (v := 2) dL_touchy_17 (by decide) ?_
    refine b_goto (tgt := 22) dL_touchy_18 (by decide) ?_
    refine b_isub dL_touchy_22 ?_
    refine b_istore_n dL_touchy_23 (by decide) ?_
    refine b_aload_n dL_touchy_24 rfl ?_
    refine b_iconst (v := 3) dL_touchy_25 (by decide) ?_
    refine b_iload_n dL_touchy_26 rfl ?_
    refine b_iadd dL_touchy_27 ?_
    refine b_topi (y := nI (3 + p)) (nI_add 3 p) ?_
    refine b_ialdN dL_touchy_28 rfl ⟨by omega, by decide⟩ ?_
    refine b_topi (y := nI kd) ek ?_
    refine b_if_le (tgt := 39) dL_touchy_29 (by decide) (fun h29 => ?_) (fun h29 => ?_)
    · exact absurd h29 h14
    · refine b_iload_n dL_touchy_32 rfl ?_
      refine b_iconst (v := 1) dL_touchy_33 (by decide) ?_
      refine b_icmp_ge (tgt := 39) dL_touchy_34 (by decide) (fun h34 => ?_) (fun h34 => ?_)
      · refine b_aload_n dL_touchy_39 rfl ?_
        refine b_iconst (v := 3) dL_touchy_40 (by decide) ?_
        refine b_iload_n dL_touchy_41 rfl ?_
        refine b_iadd dL_touchy_42 ?_
        refine b_topi (y := nI (3 + p)) (nI_add 3 p) ?_
        refine b_ialdN dL_touchy_43 rfl ⟨by omega, by decide⟩ ?_
        refine b_topi (y := nI kd) ek ?_
        refine b_iconst (v := 2) dL_touchy_44 (by decide) ?_
        refine b_icmp_ne (tgt := 59) dL_touchy_45 (by decide) (fun h45 => ?_) (fun h45 => ?_)
        · refine b_iload_n dL_touchy_59 rfl ?_
          refine b_iret dL_touchy_60 rfl ⟨?_, ?_⟩
          · rw [← lT_eq kd (by omega) h (by omega) h1]; simp only [lT, if_neg h14, if_neg h29, if_pos h34, if_neg h45]
          · rfl
        · refine b_iload_n dL_touchy_48 rfl ?_
          refine b_iconst (v := 1) dL_touchy_49 (by decide) ?_
          refine b_icmp_le (tgt := 59) dL_touchy_50 (by decide) (fun h50 => ?_) (fun h50 => ?_)
          · refine b_iload_n dL_touchy_59 rfl ?_
            refine b_iret dL_touchy_60 rfl ⟨?_, ?_⟩
            · rw [← lT_eq kd (by omega) h (by omega) h1]; simp only [lT, if_neg h14, if_neg h29, if_pos h34, if_pos h45, if_pos h50]
            · rfl
          · refine b_iload_n dL_touchy_53 rfl ?_
            refine b_iconst (v := 1) dL_touchy_54 (by decide) ?_
            refine b_isub dL_touchy_55 ?_
            refine b_goto (tgt := 60) dL_touchy_56 (by decide) ?_
            refine b_iret dL_touchy_60 rfl ⟨?_, ?_⟩
            · rw [← lT_eq kd (by omega) h (by omega) h1]; simp only [lT, if_neg h14, if_neg h29, if_pos h34, if_pos h45, if_neg h50]
            · rfl
      · refine b_iconst (v := 1) dL_touchy_37 (by decide) ?_
        refine b_istore_n dL_touchy_38 (by decide) ?_
        refine b_aload_n dL_touchy_39 rfl ?_
        refine b_iconst (v := 3) dL_touchy_40 (by decide) ?_
        refine b_iload_n dL_touchy_41 rfl ?_
        refine b_iadd dL_touchy_42 ?_
        refine b_topi (y := nI (3 + p)) (nI_add 3 p) ?_
        refine b_ialdN dL_touchy_43 rfl ⟨by omega, by decide⟩ ?_
        refine b_topi (y := nI kd) ek ?_
        refine b_iconst (v := 2) dL_touchy_44 (by decide) ?_
        refine b_icmp_ne (tgt := 59) dL_touchy_45 (by decide) (fun h45 => ?_) (fun h45 => ?_)
        · refine b_iload_n dL_touchy_59 rfl ?_
          refine b_iret dL_touchy_60 rfl ⟨?_, ?_⟩
          · rw [← lT_eq kd (by omega) h (by omega) h1]; simp only [lT, if_neg h14, if_neg h29, if_neg h34, if_neg h45]
          · rfl
        · refine b_iload_n dL_touchy_48 rfl ?_
          refine b_iconst (v := 1) dL_touchy_49 (by decide) ?_
          refine b_icmp_le (tgt := 59) dL_touchy_50 (by decide) (fun h50 => ?_) (fun h50 => absurd h50 (by decide))
          refine b_iload_n dL_touchy_59 rfl ?_
          refine b_iret dL_touchy_60 rfl ⟨?_, ?_⟩
          · rw [← lT_eq kd (by omega) h (by omega) h1]; simp only [lT, if_neg h14, if_neg h29, if_neg h34, if_pos h45]
          · rfl

/-- the persons of the law's row beside a world of the reference's form -/
def gPn (n : Nat) (W u : kW) : Prop := Pn n u ∧ (∀ p, p < n → W.1 39 (3 + p) = u.1 4 p ∧ W.1 39 (9 + p) = u.1 5 p) ∧ (∀ k, k < 2 * n → W.1 39 (15 + k) = u.1 6 k) ∧ ∀ p, p < n → (bt (W.1 39 2) p = false ↔ u.1 7 p = 0)
theorem gPn.frd {n k : Nat} {W u : kW} (h : gPn n W u) (hk : k < 2 * n) : W.1 39 (15 + k) = nI (fr u k) ∧ fr u k < n := ⟨(h.2.2.1 k hk).trans (h.1.frd hk).2, (h.1.frd hk).1⟩
def lx (u : kW) (p k : Nat) : Nat := if k < 2 then fr u (2 * p + k) else fr u (2 * fr u (2 * p + (k - 2) / 2) + k % 2)
abbrev lMay (W : kW) (x : Nat) (p other busy dawn : Int32) : Prop := ¬ nI x = p ∧ ¬ nI x = other ∧ bt busy x = false ∧ bt (W.1 39 2) x = false ∧ W.1 41 (8 + x) ≤ dawn
def lSec (W u : kW) (p : Nat) (other busy dawn : Int32) : Option Nat := (mCh u p).find? (fun x => decide (lMay W x (nI p) other busy dawn))
theorem lx_lt {n p k : Nat} {W u : kW} (h : gPn n W u) (hp : p < n) (hk : k < 6) : lx u p k < n := by
  unfold lx
  split
  · exact (h.frd (by omega)).2
  · exact (h.frd (by have := (h.frd (k := 2 * p + (k - 2) / 2) (by omega)).2; omega)).2
theorem mCh_lx (u : kW) (p : Nat) : mCh u p = [lx u p 0, lx u p 1, lx u p 2, lx u p 3, lx u p 4, lx u p 5] := rfl

set_option maxRecDepth 100000 in
set_option maxHeartbeats 1000000 in
theorem s_L_second_it {W u : kW} {n p k : Nat} {other busy dawn : Int32} (hL : gPn n W u) (hp : p < n) (hk : k < 6) (kr : lMay W (lx u p k) (nI p) other busy dawn → lSec W u p other busy dawn = some (lx u p k)) (kk : ¬ lMay W (lx u p k) (nI p) other busy dawn → BS shL RL cL_second 8 (some .int) 0 0 (fun r w' => r = some (.int (oI (lSec W u p other busy dawn))) ∧ W = w') 3 [(0, .ref 39), (1, .int (nI p)), (2, .int other), (3, .int busy), (4, .int dawn), (5, .ref 41), (6, .int (nI (k + 1)))] [] W) : BS shL RL cL_second 8 (some .int) 0 0 (fun r w' => r = some (.int (oI (lSec W u p other busy dawn))) ∧ W = w') 3 [(0, .ref 39), (1, .int (nI p)), (2, .int other), (3, .int busy), (4, .int dawn), (5, .ref 41), (6, .int (nI k))] [] W := by
  have hn6 := hL.1.le
  have hx6 := lx_lt hL hp hk
  refine b_iload dL_second_3 rfl ?_
  refine b_bipush (v := 6) dL_second_5 (by decide) ?_
  refine b_icmp_ge (tgt := 113) dL_second_7 (by decide) (fun h7 => ?_) (fun h7 => ?_)
  · exact absurd h7 (nI_ge (b := 6) (by omega) (by omega))
  · refine b_iload dL_second_10 rfl ?_
    refine b_iconst (v := 2) dL_second_12 (by decide) ?_
    refine b_icmp_ge (tgt := 30) dL_second_13 (by decide) (fun h13 => ?_) (fun h13 => ?_)
    · have hk2 : ¬ k < 2 := fun z => nI_ge (b := 2) z (by omega) h13
      have hf := hL.frd (k := 2 * p + (k - 2) / 2) (by omega)
      refine b_aload_n dL_second_30 rfl ?_
      refine b_bipush (v := 15) dL_second_31 (by decide) ?_
      refine b_iconst (v := 2) dL_second_33 (by decide) ?_
      refine b_aload_n dL_second_34 rfl ?_
      refine b_bipush (v := 15) dL_second_35 (by decide) ?_
      refine b_iconst (v := 2) dL_second_37 (by decide) ?_
      refine b_iload_n dL_second_38 rfl ?_
      refine b_imul dL_second_39 ?_
      refine b_topi (y := nI (2 * p)) (nI_two p) ?_
      refine b_iadd dL_second_40 ?_
      refine b_topi (y := nI (15 + 2 * p)) (nI_add 15 _) ?_
      refine b_iload dL_second_41 rfl ?_
      refine b_iconst (v := 2) dL_second_43 (by decide) ?_
      refine b_isub dL_second_44 ?_
      refine b_topi (y := nI (k - 2)) (nI_sub (b := 2) (by omega)) ?_
      refine b_iconst (v := 2) dL_second_45 (by decide) ?_
      refine b_idiv dL_second_46 (by decide) ?_
      refine b_topi (y := nI ((k - 2) / 2)) (nI_div (b := 2) (by omega) (by omega)) ?_
      refine b_iadd dL_second_47 ?_
      refine b_topi (y := nI (15 + 2 * p + (k - 2) / 2)) (nI_add _ _) ?_
      refine b_ialdN dL_second_48 rfl ⟨by omega, by decide⟩ ?_
      refine b_topi (y := nI (fr u (2 * p + (k - 2) / 2))) (by rw [Nat.add_assoc]; exact hf.1) ?_
      refine b_imul dL_second_49 ?_
      refine b_topi (y := nI (2 * fr u (2 * p + (k - 2) / 2))) (nI_two _) ?_
      refine b_iadd dL_second_50 ?_
      refine b_topi (y := nI (15 + 2 * fr u (2 * p + (k - 2) / 2))) (nI_add 15 _) ?_
      refine b_iload dL_second_51 rfl ?_
      refine b_iconst (v := 2) dL_second_53 (by decide) ?_
      refine b_irem dL_second_54 (by decide) ?_
      refine b_topi (y := nI (k % 2)) (nI_rem (b := 2) (by omega) (by omega)) ?_
      refine b_iadd dL_second_55 ?_
      refine b_topi (y := nI (15 + 2 * fr u (2 * p + (k - 2) / 2) + k % 2)) (nI_add _ _) ?_
      refine b_ialdN dL_second_56 rfl ⟨by omega, by decide⟩ ?_
      refine b_topi (y := nI (lx u p k)) (by rw [lx, if_neg hk2, Nat.add_assoc]; exact (hL.frd (by omega)).1) ?_
      refine b_istore dL_second_57 (by decide) ?_
      refine b_iload dL_second_59 rfl ?_
      refine b_iload_n dL_second_61 rfl ?_
      refine b_icmp_eq (tgt := 107) dL_second_62 (by decide) (fun h62 => ?_) (fun h62 => ?_)
      · refine b_iinc dL_second_107 rfl (nI_inc k) (by decide) ?_
        refine b_goto (tgt := 3) dL_second_110 (by decide) ?_
        refine b_sub [2, 3, 4, 5, 6, 7, 0] rfl ?_
        exact kk (fun z => z.1 h62)
      · refine b_iload dL_second_65 rfl ?_
        refine b_iload_n dL_second_67 rfl ?_
        refine b_icmp_eq (tgt := 107) dL_second_68 (by decide) (fun h68 => ?_) (fun h68 => ?_)
        · refine b_iinc dL_second_107 rfl (nI_inc k) (by decide) ?_
          refine b_goto (tgt := 3) dL_second_110 (by decide) ?_
          refine b_sub [2, 3, 4, 5, 6, 7, 0] rfl ?_
          exact kk (fun z => z.2.1 h68)
        · refine b_iload_n dL_second_71 rfl ?_
          refine b_iload dL_second_72 rfl ?_
          refine b_ishr dL_second_74 ?_
          refine b_iconst (v := 1) dL_second_75 (by decide) ?_
          refine b_iand dL_second_76 ?_
          refine b_if_ne (tgt := 107) dL_second_77 (by decide) (fun h77 => ?_) (fun h77 => ?_)
          · refine b_iinc dL_second_107 rfl (nI_inc k) (by decide) ?_
            refine b_goto (tgt := 3) dL_second_110 (by decide) ?_
            refine b_sub [2, 3, 4, 5, 6, 7, 0] rfl ?_
            exact kk (fun z => h77 ((bit_0 _ (by omega)).mpr z.2.2.1))
          · refine b_aload_n dL_second_80 rfl ?_
            refine b_iconst (v := 2) dL_second_81 (by decide) ?_
            refine b_ialdN dL_second_82 rfl ⟨by decide, by decide⟩ ?_
            refine b_iload dL_second_83 rfl ?_
            refine b_ishr dL_second_85 ?_
            refine b_iconst (v := 1) dL_second_86 (by decide) ?_
            refine b_iand dL_second_87 ?_
            refine b_if_ne (tgt := 107) dL_second_88 (by decide) (fun h88 => ?_) (fun h88 => ?_)
            · refine b_iinc dL_second_107 rfl (nI_inc k) (by decide) ?_
              refine b_goto (tgt := 3) dL_second_110 (by decide) ?_
              refine b_sub [2, 3, 4, 5, 6, 7, 0] rfl ?_
              exact kk (fun z => h88 ((bit_0 _ (by omega)).mpr z.2.2.2.1))
            · refine b_aload dL_second_91 rfl ?_
              refine b_bipush (v := 8) dL_second_93 (by decide) ?_
              refine b_iload dL_second_95 rfl ?_
              refine b_iadd dL_second_97 ?_
              refine b_topi (y := nI (8 + lx u p k)) (nI_add 8 _) ?_
              refine b_ialdN dL_second_98 rfl ⟨by omega, by decide⟩ ?_
              refine b_iload dL_second_99 rfl ?_
              refine b_icmp_gt (tgt := 107) dL_second_101 (by decide) (fun h101 => ?_) (fun h101 => ?_)
              · refine b_iinc dL_second_107 rfl (nI_inc k) (by decide) ?_
                refine b_goto (tgt := 3) dL_second_110 (by decide) ?_
                refine b_sub [2, 3, 4, 5, 6, 7, 0] rfl ?_
                exact kk (fun z => absurd z.2.2.2.2 (Int32.not_le.mpr h101))
              · refine b_iload dL_second_104 rfl ?_
                refine b_iret dL_second_106 rfl ⟨?_, rfl⟩
                have hkr := kr ⟨h62, h68, (bit_0 _ (by omega)).mp h77, (bit_0 _ (by omega)).mp h88, Int32.not_lt.mp h101⟩
                rw [hkr]
                rfl
    · have hk2 : k < 2 := Nat.not_le.mp (fun z => h13 (nI_le (a := 2) z (by omega)))
      refine b_aload_n dL_second_16 rfl ?_
      refine b_bipush (v := 15) dL_second_17 (by decide) ?_
      refine b_iconst (v := 2) dL_second_19 (by decide) ?_
      refine b_iload_n dL_second_20 rfl ?_
      refine b_imul dL_second_21 ?_
      refine b_topi (y := nI (2 * p)) (nI_two p) ?_
      refine b_iadd dL_second_22 ?_
      refine b_topi (y := nI (15 + 2 * p)) (nI_add 15 _) ?_
      refine b_iload dL_second_23 rfl ?_
      refine b_iadd dL_second_25 ?_
      refine b_topi (y := nI (15 + 2 * p + k)) (nI_add _ k) ?_
      refine b_ialdN dL_second_26 rfl ⟨by omega, by decide⟩ ?_
      refine b_topi (y := nI (lx u p k)) (by rw [lx, if_pos hk2, Nat.add_assoc]; exact (hL.frd (by omega)).1) ?_
      refine b_goto (tgt := 57) dL_second_27 (by decide) ?_
      refine b_istore dL_second_57 (by decide) ?_
      refine b_iload dL_second_59 rfl ?_
      refine b_iload_n dL_second_61 rfl ?_
      refine b_icmp_eq (tgt := 107) dL_second_62 (by decide) (fun h62 => ?_) (fun h62 => ?_)
      · refine b_iinc dL_second_107 rfl (nI_inc k) (by decide) ?_
        refine b_goto (tgt := 3) dL_second_110 (by decide) ?_
        refine b_sub [2, 3, 4, 5, 6, 7, 0] rfl ?_
        exact kk (fun z => z.1 h62)
      · refine b_iload dL_second_65 rfl ?_
        refine b_iload_n dL_second_67 rfl ?_
        refine b_icmp_eq (tgt := 107) dL_second_68 (by decide) (fun h68 => ?_) (fun h68 => ?_)
        · refine b_iinc dL_second_107 rfl (nI_inc k) (by decide) ?_
          refine b_goto (tgt := 3) dL_second_110 (by decide) ?_
          refine b_sub [2, 3, 4, 5, 6, 7, 0] rfl ?_
          exact kk (fun z => z.2.1 h68)
        · refine b_iload_n dL_second_71 rfl ?_
          refine b_iload dL_second_72 rfl ?_
          refine b_ishr dL_second_74 ?_
          refine b_iconst (v := 1) dL_second_75 (by decide) ?_
          refine b_iand dL_second_76 ?_
          refine b_if_ne (tgt := 107) dL_second_77 (by decide) (fun h77 => ?_) (fun h77 => ?_)
          · refine b_iinc dL_second_107 rfl (nI_inc k) (by decide) ?_
            refine b_goto (tgt := 3) dL_second_110 (by decide) ?_
            refine b_sub [2, 3, 4, 5, 6, 7, 0] rfl ?_
            exact kk (fun z => h77 ((bit_0 _ (by omega)).mpr z.2.2.1))
          · refine b_aload_n dL_second_80 rfl ?_
            refine b_iconst (v := 2) dL_second_81 (by decide) ?_
            refine b_ialdN dL_second_82 rfl ⟨by decide, by decide⟩ ?_
            refine b_iload dL_second_83 rfl ?_
            refine b_ishr dL_second_85 ?_
            refine b_iconst (v := 1) dL_second_86 (by decide) ?_
            refine b_iand dL_second_87 ?_
            refine b_if_ne (tgt := 107) dL_second_88 (by decide) (fun h88 => ?_) (fun h88 => ?_)
            · refine b_iinc dL_second_107 rfl (nI_inc k) (by decide) ?_
              refine b_goto (tgt := 3) dL_second_110 (by decide) ?_
              refine b_sub [2, 3, 4, 5, 6, 7, 0] rfl ?_
              exact kk (fun z => h88 ((bit_0 _ (by omega)).mpr z.2.2.2.1))
            · refine b_aload dL_second_91 rfl ?_
              refine b_bipush (v := 8) dL_second_93 (by decide) ?_
              refine b_iload dL_second_95 rfl ?_
              refine b_iadd dL_second_97 ?_
              refine b_topi (y := nI (8 + lx u p k)) (nI_add 8 _) ?_
              refine b_ialdN dL_second_98 rfl ⟨by omega, by decide⟩ ?_
              refine b_iload dL_second_99 rfl ?_
              refine b_icmp_gt (tgt := 107) dL_second_101 (by decide) (fun h101 => ?_) (fun h101 => ?_)
              · refine b_iinc dL_second_107 rfl (nI_inc k) (by decide) ?_
                refine b_goto (tgt := 3) dL_second_110 (by decide) ?_
                refine b_sub [2, 3, 4, 5, 6, 7, 0] rfl ?_
                exact kk (fun z => absurd z.2.2.2.2 (Int32.not_le.mpr h101))
              · refine b_iload dL_second_104 rfl ?_
                refine b_iret dL_second_106 rfl ⟨?_, rfl⟩
                have hkr := kr ⟨h62, h68, (bit_0 _ (by omega)).mp h77, (bit_0 _ (by omega)).mp h88, Int32.not_lt.mp h101⟩
                rw [hkr]
                rfl

set_option maxRecDepth 100000 in
set_option maxHeartbeats 1000000 in
theorem s_L_second {W u : kW} {n p : Nat} {other busy dawn : Int32} (hL : gPn n W u) (hp : p < n) : Spec shL yL_second cL_second 8 (some .int) 0 0 [.ref 39, .int (nI p), .int other, .int busy, .int dawn, .ref 41] W (fun r w' => r = some (.int (oI (lSec W u p other busy dawn))) ∧ W = w') := by
  refine k_enter pn_L (Nat.le_of_ble_eq_true rfl) ?_
  refine b_iconst (v := 0) dL_second_0 (by decide) ?_
  refine b_istore dL_second_1 (by decide) ?_
  refine b_sub [1, 2, 3, 4, 5, 6, 0] rfl ?_
  have e : lSec W u p other busy dawn = _ := congrArg (List.find? _) (mCh_lx u p)
  refine s_L_second_it (k := 0) hL hp (by decide) (fun h => e.trans (fr_stop (decide_eq_true h))) (fun h0 => ?_)
  rw [fr_step (decide_eq_false h0)] at e
  refine s_L_second_it (k := 1) hL hp (by decide) (fun h => e.trans (fr_stop (decide_eq_true h))) (fun h1 => ?_)
  rw [fr_step (decide_eq_false h1)] at e
  refine s_L_second_it (k := 2) hL hp (by decide) (fun h => e.trans (fr_stop (decide_eq_true h))) (fun h2 => ?_)
  rw [fr_step (decide_eq_false h2)] at e
  refine s_L_second_it (k := 3) hL hp (by decide) (fun h => e.trans (fr_stop (decide_eq_true h))) (fun h3 => ?_)
  rw [fr_step (decide_eq_false h3)] at e
  refine s_L_second_it (k := 4) hL hp (by decide) (fun h => e.trans (fr_stop (decide_eq_true h))) (fun h4 => ?_)
  rw [fr_step (decide_eq_false h4)] at e
  refine s_L_second_it (k := 5) hL hp (by decide) (fun h => e.trans (fr_stop (decide_eq_true h))) (fun h5 => ?_)
  rw [fr_step (decide_eq_false h5)] at e
  refine b_iload dL_second_3 rfl ?_
  refine b_bipush (v := 6) dL_second_5 (by decide) ?_
  refine b_icmp_ge (tgt := 113) dL_second_7 (by decide) (fun h => ?_) (fun h => absurd (by decide) h)
  refine b_bipush (v := (-9)) dL_second_113 (by decide) ?_
  exact b_iret dL_second_115 rfl ⟨by rw [e]; rfl, rfl⟩
end
