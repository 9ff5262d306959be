section
-- ===== PART A: goes FIRST, ahead of the names: the tables' words, and 'selects' of the private methods out of them =====
/-- a private method of a class that the tables say can be made, by its rows of tables_1 -/
def lw_okq (q : MethodName × Nat) : Prop := (q.1.cls ≠ "java/lang/invoke/MethodHandle" ∧ q.1.cls ≠ "java/lang/invoke/VarHandle") ∧ Cond.instantiable q.1.cls q.2 ∈ tables_1 ∧ Cond.privateMethod q.1 ∈ tables_1 ∧ Cond.instanceMethod q.1 ∈ tables_1
theorem lw_p0 : lw_okq (⟨"DuelSeconds", "sheetOf", "(I)LDuelSeconds$Sheet;"⟩, 7) := ⟨⟨by decide +kernel, by decide +kernel⟩, List.mem_of_getElem? (i := 15) (by decide +kernel), List.mem_of_getElem? (i := 223) (by decide +kernel), List.mem_of_getElem? (i := 224) (by decide +kernel)⟩
theorem lw_p1 : lw_okq (⟨"DuelSeconds", "faulted", "(I)I"⟩, 7) := ⟨⟨by decide +kernel, by decide +kernel⟩, List.mem_of_getElem? (i := 15) (by decide +kernel), List.mem_of_getElem? (i := 238) (by decide +kernel), List.mem_of_getElem? (i := 239) (by decide +kernel)⟩
theorem lw_p2 : lw_okq (⟨"DuelSeconds", "isEmpty", "()Z"⟩, 7) := ⟨⟨by decide +kernel, by decide +kernel⟩, List.mem_of_getElem? (i := 15) (by decide +kernel), List.mem_of_getElem? (i := 317) (by decide +kernel), List.mem_of_getElem? (i := 318) (by decide +kernel)⟩
theorem lw_p3 : lw_okq (⟨"DuelSeconds$Season", "answer", "(LDuelSeconds$Insults;II)V"⟩, 11) := ⟨⟨by decide +kernel, by decide +kernel⟩, List.mem_of_getElem? (i := 112) (by decide +kernel), List.mem_of_getElem? (i := 342) (by decide +kernel), List.mem_of_getElem? (i := 343) (by decide +kernel)⟩
theorem lw_p4 : lw_okq (⟨"DuelSeconds$Season", "shoot", "(III)I"⟩, 11) := ⟨⟨by decide +kernel, by decide +kernel⟩, List.mem_of_getElem? (i := 112) (by decide +kernel), List.mem_of_getElem? (i := 352) (by decide +kernel), List.mem_of_getElem? (i := 353) (by decide +kernel)⟩
theorem lw_p5 : lw_okq (⟨"DuelSeconds", "provokingDegree", "(IIII)I"⟩, 7) := ⟨⟨by decide +kernel, by decide +kernel⟩, List.mem_of_getElem? (i := 15) (by decide +kernel), List.mem_of_getElem? (i := 396) (by decide +kernel), List.mem_of_getElem? (i := 397) (by decide +kernel)⟩
theorem lw_p6 : lw_okq (⟨"DuelSeconds$Log", "pairOf", "(I)I"⟩, 2) := ⟨⟨by decide +kernel, by decide +kernel⟩, List.mem_of_getElem? (i := 118) (by decide +kernel), List.mem_of_getElem? (i := 404) (by decide +kernel), List.mem_of_getElem? (i := 405) (by decide +kernel)⟩
theorem lw_p7 : lw_okq (⟨"DuelSeconds", "freeInTurn", "(LDuelSeconds$Sheet;II)I"⟩, 7) := ⟨⟨by decide +kernel, by decide +kernel⟩, List.mem_of_getElem? (i := 15) (by decide +kernel), List.mem_of_getElem? (i := 448) (by decide +kernel), List.mem_of_getElem? (i := 449) (by decide +kernel)⟩
theorem lw_p8 : lw_okq (⟨"DuelSeconds", "tellOfficer", "(I)I"⟩, 7) := ⟨⟨by decide +kernel, by decide +kernel⟩, List.mem_of_getElem? (i := 15) (by decide +kernel), List.mem_of_getElem? (i := 492) (by decide +kernel), List.mem_of_getElem? (i := 493) (by decide +kernel)⟩
theorem lw_p9 : lw_okq (⟨"DuelSeconds", "leave", "(I)V"⟩, 7) := ⟨⟨by decide +kernel, by decide +kernel⟩, List.mem_of_getElem? (i := 15) (by decide +kernel), List.mem_of_getElem? (i := 496) (by decide +kernel), List.mem_of_getElem? (i := 497) (by decide +kernel)⟩
theorem lw_p10 : lw_okq (⟨"DuelSeconds", "tellHothead", "(I)I"⟩, 7) := ⟨⟨by decide +kernel, by decide +kernel⟩, List.mem_of_getElem? (i := 15) (by decide +kernel), List.mem_of_getElem? (i := 500) (by decide +kernel), List.mem_of_getElem? (i := 501) (by decide +kernel)⟩
theorem lw_p11 : lw_okq (⟨"DuelSeconds", "tellGentleman", "(I)I"⟩, 7) := ⟨⟨by decide +kernel, by decide +kernel⟩, List.mem_of_getElem? (i := 15) (by decide +kernel), List.mem_of_getElem? (i := 504) (by decide +kernel), List.mem_of_getElem? (i := 505) (by decide +kernel)⟩
theorem lw_p12 : lw_okq (⟨"DuelSeconds", "saluteOfficer", "()I"⟩, 7) := ⟨⟨by decide +kernel, by decide +kernel⟩, List.mem_of_getElem? (i := 15) (by decide +kernel), List.mem_of_getElem? (i := 512) (by decide +kernel), List.mem_of_getElem? (i := 513) (by decide +kernel)⟩
theorem lw_p13 : lw_okq (⟨"DuelSeconds", "saluteByLentBody", "(I)I"⟩, 7) := ⟨⟨by decide +kernel, by decide +kernel⟩, List.mem_of_getElem? (i := 15) (by decide +kernel), List.mem_of_getElem? (i := 516) (by decide +kernel), List.mem_of_getElem? (i := 517) (by decide +kernel)⟩
theorem lw_p14 : lw_okq (⟨"DuelSecondsModel", "against", "(IIII)I"⟩, 39) := ⟨⟨by decide +kernel, by decide +kernel⟩, List.mem_of_getElem? (i := 536) (by decide +kernel), List.mem_of_getElem? (i := 673) (by decide +kernel), List.mem_of_getElem? (i := 674) (by decide +kernel)⟩
theorem lw_p15 : lw_okq (⟨"DuelSecondsModel", "fails", "(I)I"⟩, 39) := ⟨⟨by decide +kernel, by decide +kernel⟩, List.mem_of_getElem? (i := 536) (by decide +kernel), List.mem_of_getElem? (i := 677) (by decide +kernel), List.mem_of_getElem? (i := 678) (by decide +kernel)⟩
def lw_privs_1 : List (MethodName × Nat) := [(⟨"DuelSeconds", "sheetOf", "(I)LDuelSeconds$Sheet;"⟩, 7), (⟨"DuelSeconds", "faulted", "(I)I"⟩, 7), (⟨"DuelSeconds", "isEmpty", "()Z"⟩, 7), (⟨"DuelSeconds$Season", "answer", "(LDuelSeconds$Insults;II)V"⟩, 11), (⟨"DuelSeconds$Season", "shoot", "(III)I"⟩, 11), (⟨"DuelSeconds", "provokingDegree", "(IIII)I"⟩, 7), (⟨"DuelSeconds$Log", "pairOf", "(I)I"⟩, 2), (⟨"DuelSeconds", "freeInTurn", "(LDuelSeconds$Sheet;II)I"⟩, 7), (⟨"DuelSeconds", "tellOfficer", "(I)I"⟩, 7), (⟨"DuelSeconds", "leave", "(I)V"⟩, 7), (⟨"DuelSeconds", "tellHothead", "(I)I"⟩, 7), (⟨"DuelSeconds", "tellGentleman", "(I)I"⟩, 7), (⟨"DuelSeconds", "saluteOfficer", "()I"⟩, 7), (⟨"DuelSeconds", "saluteByLentBody", "(I)I"⟩, 7), (⟨"DuelSecondsModel", "against", "(IIII)I"⟩, 39), (⟨"DuelSecondsModel", "fails", "(I)I"⟩, 39)]
theorem lw_r1 : ∀ q ∈ lw_privs_1, lw_okq q := List.forall_mem_cons.mpr ⟨lw_p0, List.forall_mem_cons.mpr ⟨lw_p1, List.forall_mem_cons.mpr ⟨lw_p2, List.forall_mem_cons.mpr ⟨lw_p3, List.forall_mem_cons.mpr ⟨lw_p4, List.forall_mem_cons.mpr ⟨lw_p5, List.forall_mem_cons.mpr ⟨lw_p6, List.forall_mem_cons.mpr ⟨lw_p7, List.forall_mem_cons.mpr ⟨lw_p8, List.forall_mem_cons.mpr ⟨lw_p9, List.forall_mem_cons.mpr ⟨lw_p10, List.forall_mem_cons.mpr ⟨lw_p11, List.forall_mem_cons.mpr ⟨lw_p12, List.forall_mem_cons.mpr ⟨lw_p13, List.forall_mem_cons.mpr ⟨lw_p14, List.forall_mem_cons.mpr ⟨lw_p15, fun _ h => absurd h List.not_mem_nil⟩⟩⟩⟩⟩⟩⟩⟩⟩⟩⟩⟩⟩⟩⟩⟩
theorem lw_p16 : lw_okq (⟨"DuelSecondsModel", "readCoast", "(I)Z"⟩, 39) := ⟨⟨by decide +kernel, by decide +kernel⟩, List.mem_of_getElem? (i := 536) (by decide +kernel), List.mem_of_getElem? (i := 681) (by decide +kernel), List.mem_of_getElem? (i := 682) (by decide +kernel)⟩
theorem lw_p17 : lw_okq (⟨"DuelSecondsModel", "digit", "(III)I"⟩, 39) := ⟨⟨by decide +kernel, by decide +kernel⟩, List.mem_of_getElem? (i := 536) (by decide +kernel), List.mem_of_getElem? (i := 685) (by decide +kernel), List.mem_of_getElem? (i := 686) (by decide +kernel)⟩
theorem lw_p18 : lw_okq (⟨"DuelSecondsModel", "readPerson", "(II)Z"⟩, 39) := ⟨⟨by decide +kernel, by decide +kernel⟩, List.mem_of_getElem? (i := 536) (by decide +kernel), List.mem_of_getElem? (i := 689) (by decide +kernel), List.mem_of_getElem? (i := 690) (by decide +kernel)⟩
theorem lw_p19 : lw_okq (⟨"DuelSecondsModel", "isPerson", "(I)Z"⟩, 39) := ⟨⟨by decide +kernel, by decide +kernel⟩, List.mem_of_getElem? (i := 536) (by decide +kernel), List.mem_of_getElem? (i := 697) (by decide +kernel), List.mem_of_getElem? (i := 698) (by decide +kernel)⟩
theorem lw_p20 : lw_okq (⟨"DuelSecondsModel", "touchy", "(I)I"⟩, 39) := ⟨⟨by decide +kernel, by decide +kernel⟩, List.mem_of_getElem? (i := 536) (by decide +kernel), List.mem_of_getElem? (i := 701) (by decide +kernel), List.mem_of_getElem? (i := 702) (by decide +kernel)⟩
theorem lw_p21 : lw_okq (⟨"DuelSecondsModel", "lay", "(IIIII)V"⟩, 39) := ⟨⟨by decide +kernel, by decide +kernel⟩, List.mem_of_getElem? (i := 536) (by decide +kernel), List.mem_of_getElem? (i := 709) (by decide +kernel), List.mem_of_getElem? (i := 710) (by decide +kernel)⟩
theorem lw_p22 : lw_okq (⟨"DuelSecondsModel", "goAhead", "(I)V"⟩, 39) := ⟨⟨by decide +kernel, by decide +kernel⟩, List.mem_of_getElem? (i := 536) (by decide +kernel), List.mem_of_getElem? (i := 728) (by decide +kernel), List.mem_of_getElem? (i := 729) (by decide +kernel)⟩
theorem lw_p23 : lw_okq (⟨"DuelSecondsModel", "begin", "()V"⟩, 39) := ⟨⟨by decide +kernel, by decide +kernel⟩, List.mem_of_getElem? (i := 536) (by decide +kernel), List.mem_of_getElem? (i := 732) (by decide +kernel), List.mem_of_getElem? (i := 733) (by decide +kernel)⟩
theorem lw_p24 : lw_okq (⟨"DuelSecondsModel", "goDawn", "(I)V"⟩, 39) := ⟨⟨by decide +kernel, by decide +kernel⟩, List.mem_of_getElem? (i := 536) (by decide +kernel), List.mem_of_getElem? (i := 736) (by decide +kernel), List.mem_of_getElem? (i := 737) (by decide +kernel)⟩
theorem lw_p25 : lw_okq (⟨"DuelSecondsModel", "answer", "(IIII)V"⟩, 39) := ⟨⟨by decide +kernel, by decide +kernel⟩, List.mem_of_getElem? (i := 536) (by decide +kernel), List.mem_of_getElem? (i := 740) (by decide +kernel), List.mem_of_getElem? (i := 741) (by decide +kernel)⟩
theorem lw_p26 : lw_okq (⟨"DuelSecondsModel", "secondOf", "(IIII)I"⟩, 39) := ⟨⟨by decide +kernel, by decide +kernel⟩, List.mem_of_getElem? (i := 536) (by decide +kernel), List.mem_of_getElem? (i := 744) (by decide +kernel), List.mem_of_getElem? (i := 745) (by decide +kernel)⟩
theorem lw_p27 : lw_okq (⟨"DuelSecondsModel", "maySecond", "(IIIII)Z"⟩, 39) := ⟨⟨by decide +kernel, by decide +kernel⟩, List.mem_of_getElem? (i := 536) (by decide +kernel), List.mem_of_getElem? (i := 748) (by decide +kernel), List.mem_of_getElem? (i := 749) (by decide +kernel)⟩
theorem lw_p28 : lw_okq (⟨"DuelSecondsModel", "isFree", "(II)Z"⟩, 39) := ⟨⟨by decide +kernel, by decide +kernel⟩, List.mem_of_getElem? (i := 536) (by decide +kernel), List.mem_of_getElem? (i := 752) (by decide +kernel), List.mem_of_getElem? (i := 753) (by decide +kernel)⟩
theorem lw_p29 : lw_okq (⟨"DuelSecondsModel", "meet", "(IIIII)V"⟩, 39) := ⟨⟨by decide +kernel, by decide +kernel⟩, List.mem_of_getElem? (i := 536) (by decide +kernel), List.mem_of_getElem? (i := 756) (by decide +kernel), List.mem_of_getElem? (i := 757) (by decide +kernel)⟩
theorem lw_p30 : lw_okq (⟨"DuelSecondsModel", "hurt", "(III)V"⟩, 39) := ⟨⟨by decide +kernel, by decide +kernel⟩, List.mem_of_getElem? (i := 536) (by decide +kernel), List.mem_of_getElem? (i := 760) (by decide +kernel), List.mem_of_getElem? (i := 761) (by decide +kernel)⟩
theorem lw_p31 : lw_okq (⟨"DuelSecondsModel", "arrestAll", "(IZ)V"⟩, 39) := ⟨⟨by decide +kernel, by decide +kernel⟩, List.mem_of_getElem? (i := 536) (by decide +kernel), List.mem_of_getElem? (i := 787) (by decide +kernel), List.mem_of_getElem? (i := 788) (by decide +kernel)⟩
def lw_privs_2 : List (MethodName × Nat) := [(⟨"DuelSecondsModel", "readCoast", "(I)Z"⟩, 39), (⟨"DuelSecondsModel", "digit", "(III)I"⟩, 39), (⟨"DuelSecondsModel", "readPerson", "(II)Z"⟩, 39), (⟨"DuelSecondsModel", "isPerson", "(I)Z"⟩, 39), (⟨"DuelSecondsModel", "touchy", "(I)I"⟩, 39), (⟨"DuelSecondsModel", "lay", "(IIIII)V"⟩, 39), (⟨"DuelSecondsModel", "goAhead", "(I)V"⟩, 39), (⟨"DuelSecondsModel", "begin", "()V"⟩, 39), (⟨"DuelSecondsModel", "goDawn", "(I)V"⟩, 39), (⟨"DuelSecondsModel", "answer", "(IIII)V"⟩, 39), (⟨"DuelSecondsModel", "secondOf", "(IIII)I"⟩, 39), (⟨"DuelSecondsModel", "maySecond", "(IIIII)Z"⟩, 39), (⟨"DuelSecondsModel", "isFree", "(II)Z"⟩, 39), (⟨"DuelSecondsModel", "meet", "(IIIII)V"⟩, 39), (⟨"DuelSecondsModel", "hurt", "(III)V"⟩, 39), (⟨"DuelSecondsModel", "arrestAll", "(IZ)V"⟩, 39)]
theorem lw_r2 : ∀ q ∈ lw_privs_2, lw_okq q := List.forall_mem_cons.mpr ⟨lw_p16, List.forall_mem_cons.mpr ⟨lw_p17, List.forall_mem_cons.mpr ⟨lw_p18, List.forall_mem_cons.mpr ⟨lw_p19, List.forall_mem_cons.mpr ⟨lw_p20, List.forall_mem_cons.mpr ⟨lw_p21, List.forall_mem_cons.mpr ⟨lw_p22, List.forall_mem_cons.mpr ⟨lw_p23, List.forall_mem_cons.mpr ⟨lw_p24, List.forall_mem_cons.mpr ⟨lw_p25, List.forall_mem_cons.mpr ⟨lw_p26, List.forall_mem_cons.mpr ⟨lw_p27, List.forall_mem_cons.mpr ⟨lw_p28, List.forall_mem_cons.mpr ⟨lw_p29, List.forall_mem_cons.mpr ⟨lw_p30, List.forall_mem_cons.mpr ⟨lw_p31, fun _ h => absurd h List.not_mem_nil⟩⟩⟩⟩⟩⟩⟩⟩⟩⟩⟩⟩⟩⟩⟩⟩
theorem lw_p32 : lw_okq (⟨"DuelSecondsModel", "doesProvoke", "(IIIIII)Z"⟩, 39) := ⟨⟨by decide +kernel, by decide +kernel⟩, List.mem_of_getElem? (i := 536) (by decide +kernel), List.mem_of_getElem? (i := 795) (by decide +kernel), List.mem_of_getElem? (i := 796) (by decide +kernel)⟩
theorem lw_p33 : lw_okq (⟨"DuelSecondsModel", "didMeet", "(III)Z"⟩, 39) := ⟨⟨by decide +kernel, by decide +kernel⟩, List.mem_of_getElem? (i := 536) (by decide +kernel), List.mem_of_getElem? (i := 799) (by decide +kernel), List.mem_of_getElem? (i := 800) (by decide +kernel)⟩
theorem lw_p34 : lw_okq (⟨"DuelSecondsModel", "wasHurt", "(I)Z"⟩, 39) := ⟨⟨by decide +kernel, by decide +kernel⟩, List.mem_of_getElem? (i := 536) (by decide +kernel), List.mem_of_getElem? (i := 808) (by decide +kernel), List.mem_of_getElem? (i := 809) (by decide +kernel)⟩
theorem lw_p35 : lw_okq (⟨"DuelSecondsModel", "areSo", "()Z"⟩, 39) := ⟨⟨by decide +kernel, by decide +kernel⟩, List.mem_of_getElem? (i := 536) (by decide +kernel), List.mem_of_getElem? (i := 827) (by decide +kernel), List.mem_of_getElem? (i := 828) (by decide +kernel)⟩
theorem lw_p36 : lw_okq (⟨"DuelSecondsModel", "wasIn", "(II)Z"⟩, 39) := ⟨⟨by decide +kernel, by decide +kernel⟩, List.mem_of_getElem? (i := 536) (by decide +kernel), List.mem_of_getElem? (i := 831) (by decide +kernel), List.mem_of_getElem? (i := 832) (by decide +kernel)⟩
theorem lw_p37 : lw_okq (⟨"DuelSecondsModel", "lost", "(I)J"⟩, 39) := ⟨⟨by decide +kernel, by decide +kernel⟩, List.mem_of_getElem? (i := 536) (by decide +kernel), List.mem_of_getElem? (i := 859) (by decide +kernel), List.mem_of_getElem? (i := 860) (by decide +kernel)⟩
theorem lw_p38 : lw_okq (⟨"DuelSecondsModel", "begins", "(I)V"⟩, 39) := ⟨⟨by decide +kernel, by decide +kernel⟩, List.mem_of_getElem? (i := 536) (by decide +kernel), List.mem_of_getElem? (i := 871) (by decide +kernel), List.mem_of_getElem? (i := 872) (by decide +kernel)⟩
def lw_privs_3 : List (MethodName × Nat) := [(⟨"DuelSecondsModel", "doesProvoke", "(IIIIII)Z"⟩, 39), (⟨"DuelSecondsModel", "didMeet", "(III)Z"⟩, 39), (⟨"DuelSecondsModel", "wasHurt", "(I)Z"⟩, 39), (⟨"DuelSecondsModel", "areSo", "()Z"⟩, 39), (⟨"DuelSecondsModel", "wasIn", "(II)Z"⟩, 39), (⟨"DuelSecondsModel", "lost", "(I)J"⟩, 39), (⟨"DuelSecondsModel", "begins", "(I)V"⟩, 39)]
theorem lw_r3 : ∀ q ∈ lw_privs_3, lw_okq q := List.forall_mem_cons.mpr ⟨lw_p32, List.forall_mem_cons.mpr ⟨lw_p33, List.forall_mem_cons.mpr ⟨lw_p34, List.forall_mem_cons.mpr ⟨lw_p35, List.forall_mem_cons.mpr ⟨lw_p36, List.forall_mem_cons.mpr ⟨lw_p37, List.forall_mem_cons.mpr ⟨lw_p38, fun _ h => absurd h List.not_mem_nil⟩⟩⟩⟩⟩⟩⟩
def lw_privs : List (MethodName × Nat) := lw_privs_1 ++ (lw_privs_2 ++ (lw_privs_3))
def lw_tbl : List Cond := k2_sels lw_privs ++ tables_1
theorem lw_privs_ok : ∀ q ∈ lw_privs, lw_okq q := by
  show ∀ q ∈ lw_privs_1 ++ (lw_privs_2 ++ (lw_privs_3)), lw_okq q
  exact List.forall_mem_append.mpr ⟨lw_r1, List.forall_mem_append.mpr ⟨lw_r2, lw_r3⟩⟩
end
section
/-! ===== BEGIN printed: names, fields, word lists, decode rows ===== -/
def RX0 : String := "DuelSeconds$Insults"
def TX0 : u_T := fun k => match k with
  | 0 => ("DuelSeconds$Insults", "count", "I", false)
  | 1 => ("DuelSeconds$Insults", "from", "[I", true)
  | 2 => ("DuelSeconds$Insults", "to", "[I", true)
  | 3 => ("DuelSeconds$Insults", "day", "[I", true)
  | _ => ("DuelSeconds$Insults", "degree", "[I", true)
def tyX0 : Nat → FieldType := fun k => match k with
  | 0 => .int
  | 1 => .array .int
  | 2 => .array .int
  | 3 => .array .int
  | _ => .array .int
abbrev wsX00 : List Cond := u_ws RX0 TX0 5
theorem nmX0 : ∀ a, a < 5 → ∀ b, b < 5 → a ≠ b → (TX0 a).2.1 ≠ (TX0 b).2.1 := by decide +kernel
theorem tyX0_ok : ∀ k, k < 5 → parseFieldDescriptor (TX0 k).2.2.1 = some (tyX0 k) := by decide +kernel
abbrev cX0_init : ByteArray := prog_2_method_1_code
def yX0_init : MethodName := ⟨RX0, "<init>", "(I)V"⟩
abbrev cX0_add : ByteArray := prog_2_method_2_code
def yX0_add : MethodName := ⟨RX0, "add", "(IIII)V"⟩
def RX1 : String := "DuelSeconds$Log"
def TX1 : u_T := fun k => match k with
  | 0 => ("DuelSeconds$Log", "count", "I", false)
  | _ => ("DuelSeconds$Log", "facts", "[[I", true)
def tyX1 : Nat → FieldType := fun k => match k with
  | 0 => .int
  | _ => .array (.array .int)
abbrev wsX10 : List Cond := u_ws RX1 TX1 2
theorem nmX1 : ∀ a, a < 2 → ∀ b, b < 2 → a ≠ b → (TX1 a).2.1 ≠ (TX1 b).2.1 := by decide +kernel
theorem tyX1_ok : ∀ k, k < 2 → parseFieldDescriptor (TX1 k).2.2.1 = some (tyX1 k) := by decide +kernel
abbrev cX1_init : ByteArray := prog_3_method_1_code
def yX1_init : MethodName := ⟨RX1, "<init>", "()V"⟩
abbrev cX1_add : ByteArray := prog_3_method_2_code
def yX1_add : MethodName := ⟨RX1, "add", "(IIIIII)V"⟩
abbrev cX1_pairOf : ByteArray := prog_3_method_3_code
def yX1_pairOf : MethodName := ⟨RX1, "pairOf", "(I)I"⟩
abbrev cX1_wasThere : ByteArray := prog_3_method_4_code
def yX1_wasThere : MethodName := ⟨RX1, "wasThere", "(II)Z"⟩
abbrev cX1_pairMetBehind : ByteArray := prog_3_method_5_code
def yX1_pairMetBehind : MethodName := ⟨RX1, "pairMetBehind", "(II)Z"⟩
def RX2 : String := "DuelSeconds$Persons"
def TX2 : u_T := fun k => match k with
  | 0 => ("DuelSeconds$Persons", "count", "I", false)
  | 1 => ("DuelSeconds$Persons", "arrested", "I", false)
  | 2 => ("DuelSeconds$Persons", "kind", "[I", true)
  | 3 => ("DuelSeconds$Persons", "honour", "[I", true)
  | 4 => ("DuelSeconds$Persons", "firstFriend", "[I", true)
  | _ => ("DuelSeconds$Persons", "secondFriend", "[I", true)
def tyX2 : Nat → FieldType := fun k => match k with
  | 0 => .int
  | 1 => .int
  | 2 => .array .int
  | 3 => .array .int
  | 4 => .array .int
  | _ => .array .int
abbrev wsX20 : List Cond := u_ws RX2 TX2 6
theorem nmX2 : ∀ a, a < 6 → ∀ b, b < 6 → a ≠ b → (TX2 a).2.1 ≠ (TX2 b).2.1 := by decide +kernel
theorem tyX2_ok : ∀ k, k < 6 → parseFieldDescriptor (TX2 k).2.2.1 = some (tyX2 k) := by decide +kernel
abbrev cX2_init : ByteArray := prog_4_method_1_code
def yX2_init : MethodName := ⟨RX2, "<init>", "()V"⟩
abbrev cX2_has : ByteArray := prog_4_method_2_code
def yX2_has : MethodName := ⟨RX2, "has", "(I)Z"⟩
abbrev cX2_hasTwo : ByteArray := prog_4_method_3_code
def yX2_hasTwo : MethodName := ⟨RX2, "hasTwo", "(II)Z"⟩
abbrev cX2_touchiness : ByteArray := prog_4_method_4_code
def yX2_touchiness : MethodName := ⟨RX2, "touchiness", "(I)I"⟩
abbrev cX2_secondAmong : ByteArray := prog_4_method_5_code
def yX2_secondAmong : MethodName := ⟨RX2, "secondAmong", "(II)I"⟩
def RX3 : String := "DuelSeconds$Readings"
def TX3 : u_T := fun k => match k with
  | 0 => ("DuelSeconds$Readings", "count", "I", false)
  | 1 => ("DuelSeconds$Readings", "person", "[I", true)
  | 2 => ("DuelSeconds$Readings", "dawn", "[I", true)
  | _ => ("DuelSeconds$Readings", "was", "[Z", true)
def tyX3 : Nat → FieldType := fun k => match k with
  | 0 => .int
  | 1 => .array .int
  | 2 => .array .int
  | _ => .array .boolean
abbrev wsX30 : List Cond := u_ws RX3 TX3 4
theorem nmX3 : ∀ a, a < 4 → ∀ b, b < 4 → a ≠ b → (TX3 a).2.1 ≠ (TX3 b).2.1 := by decide +kernel
theorem tyX3_ok : ∀ k, k < 4 → parseFieldDescriptor (TX3 k).2.2.1 = some (tyX3 k) := by decide +kernel
abbrev cX3_init : ByteArray := prog_5_method_1_code
def yX3_init : MethodName := ⟨RX3, "<init>", "()V"⟩
abbrev cX3_add : ByteArray := prog_5_method_2_code
def yX3_add : MethodName := ⟨RX3, "add", "(IIZ)V"⟩
abbrev cX3_areSo : ByteArray := prog_5_method_3_code
def yX3_areSo : MethodName := ⟨RX3, "areSo", "(LDuelSeconds$Log;)Z"⟩
def RX4 : String := "DuelSeconds$Season"
def TX4 : u_T := fun k => match k with
  | 0 => ("DuelSeconds$Season", "log", "LDuelSeconds$Log;", true)
  | 1 => ("DuelSeconds$Season", "hurt", "I", false)
  | 2 => ("DuelSeconds$Season", "persons", "LDuelSeconds$Persons;", true)
  | 3 => ("DuelSeconds$Season", "told", "LDuelSeconds$Insults;", true)
  | 4 => ("DuelSeconds$Season", "taken", "LDuelSeconds$Insults;", true)
  | 5 => ("DuelSeconds$Season", "passed", "I", false)
  | 6 => ("DuelSeconds$Season", "wellFrom", "[I", true)
  | 7 => ("DuelSeconds$Season", "made", "I", false)
  | 8 => ("DuelSeconds$Season", "days", "J", false)
  | 9 => ("DuelSeconds$Season", "arrested", "I", false)
  | _ => ("DuelSeconds$Season", "free", "I", false)
def tyX4 : Nat → FieldType := fun k => match k with
  | 0 => .object "DuelSeconds$Log"
  | 1 => .int
  | 2 => .object "DuelSeconds$Persons"
  | 3 => .object "DuelSeconds$Insults"
  | 4 => .object "DuelSeconds$Insults"
  | 5 => .int
  | 6 => .array .int
  | 7 => .int
  | 8 => .long
  | 9 => .int
  | _ => .int
abbrev wsX40 : List Cond := u_ws RX4 TX4 11
theorem nmX4 : ∀ a, a < 11 → ∀ b, b < 11 → a ≠ b → (TX4 a).2.1 ≠ (TX4 b).2.1 := by decide +kernel
theorem tyX4_ok : ∀ k, k < 11 → parseFieldDescriptor (TX4 k).2.2.1 = some (tyX4 k) := by decide +kernel
abbrev cX4_init : ByteArray := prog_6_method_1_code
def yX4_init : MethodName := ⟨RX4, "<init>", "(LDuelSeconds$Persons;LDuelSeconds$Insults;)V"⟩
abbrev cX4_live : ByteArray := prog_6_method_2_code
def yX4_live : MethodName := ⟨RX4, "live", "(III)V"⟩
abbrev cX4_begin : ByteArray := prog_6_method_3_code
def yX4_begin : MethodName := ⟨RX4, "begin", "(II)V"⟩
abbrev cX4_pass : ByteArray := prog_6_method_4_code
def yX4_pass : MethodName := ⟨RX4, "pass", "(I)V"⟩
abbrev cX4_freeAhead : ByteArray := prog_6_method_5_code
def yX4_freeAhead : MethodName := ⟨RX4, "freeAhead", "(I)I"⟩
abbrev cX4_answer : ByteArray := prog_6_method_6_code
def yX4_answer : MethodName := ⟨RX4, "answer", "(LDuelSeconds$Insults;II)V"⟩
abbrev cX4_shoot : ByteArray := prog_6_method_7_code
def yX4_shoot : MethodName := ⟨RX4, "shoot", "(III)I"⟩
def RX5 : String := "DuelSeconds$Sheet"
def TX5 : u_T := fun k => match k with
  | 0 => ("DuelSeconds$Sheet", "hasRow", "Z", false)
  | 1 => ("DuelSeconds$Sheet", "lane", "I", false)
  | 2 => ("DuelSeconds$Sheet", "length", "I", false)
  | _ => ("DuelSeconds$Sheet", "cells", "[I", true)
def tyX5 : Nat → FieldType := fun k => match k with
  | 0 => .boolean
  | 1 => .int
  | 2 => .int
  | _ => .array .int
abbrev wsX50 : List Cond := u_ws RX5 TX5 4
theorem nmX5 : ∀ a, a < 4 → ∀ b, b < 4 → a ≠ b → (TX5 a).2.1 ≠ (TX5 b).2.1 := by decide +kernel
theorem tyX5_ok : ∀ k, k < 4 → parseFieldDescriptor (TX5 k).2.2.1 = some (tyX5 k) := by decide +kernel
abbrev cX5_init : ByteArray := prog_7_method_1_code
def yX5_init : MethodName := ⟨RX5, "<init>", "()V"⟩
abbrev cX5_renew : ByteArray := prog_7_method_2_code
def yX5_renew : MethodName := ⟨RX5, "renew", "(II)V"⟩
abbrev cX5_holds : ByteArray := prog_7_method_3_code
def yX5_holds : MethodName := ⟨RX5, "holds", "(II)Z"⟩
abbrev cX5_at : ByteArray := prog_7_method_4_code
def yX5_at : MethodName := ⟨RX5, "at", "(I)I"⟩
abbrev cX5_faultOfTaking : ByteArray := prog_7_method_5_code
def yX5_faultOfTaking : MethodName := ⟨RX5, "faultOfTaking", "(III)I"⟩
def RX6 : String := "DuelSeconds$Text"
def TX6 : u_T := fun k => match k with
  | _ => ("", "", "", false)
def tyX6 : Nat → FieldType := fun k => match k with
  | _ => .int
abbrev wsX60 : List Cond := u_ws RX6 TX6 0
theorem nmX6 : ∀ a, a < 0 → ∀ b, b < 0 → a ≠ b → (TX6 a).2.1 ≠ (TX6 b).2.1 := by decide +kernel
theorem tyX6_ok : ∀ k, k < 0 → parseFieldDescriptor (TX6 k).2.2.1 = some (tyX6 k) := by decide +kernel
abbrev cX6_firstFault : ByteArray := prog_8_method_2_code
def yX6_firstFault : MethodName := ⟨RX6, "firstFault", "(LDuelSeconds$Sheet;II)I"⟩
abbrev cX6_goesOn : ByteArray := prog_8_method_3_code
def yX6_goesOn : MethodName := ⟨RX6, "goesOn", "(LDuelSeconds$Sheet;II)Z"⟩
abbrev cX6_digit : ByteArray := prog_8_method_4_code
def yX6_digit : MethodName := ⟨RX6, "digit", "(I)I"⟩
abbrev cX6_kindOf : ByteArray := prog_8_method_5_code
def yX6_kindOf : MethodName := ⟨RX6, "kindOf", "(I)I"⟩
abbrev cX6_read : ByteArray := prog_8_method_6_code
def yX6_read : MethodName := ⟨RX6, "read", "(LDuelSeconds$Sheet;ILDuelSeconds$Persons;)V"⟩
def RX7 : String := "DuelSeconds"
def TX7 : u_T := fun k => match k with
  | 0 => ("DuelSeconds", "persons", "LDuelSeconds$Persons;", true)
  | 1 => ("DuelSeconds", "told", "LDuelSeconds$Insults;", true)
  | 2 => ("DuelSeconds", "readings", "LDuelSeconds$Readings;", true)
  | 3 => ("DuelSeconds", "season", "LDuelSeconds$Season;", true)
  | 4 => ("DuelSeconds", "sheets", "[LDuelSeconds$Sheet;", true)
  | 5 => ("DuelSeconds", "trace", "I", false)
  | _ => ("DuelSeconds", "fault", "I", false)
def tyX7 : Nat → FieldType := fun k => match k with
  | 0 => .object "DuelSeconds$Persons"
  | 1 => .object "DuelSeconds$Insults"
  | 2 => .object "DuelSeconds$Readings"
  | 3 => .object "DuelSeconds$Season"
  | 4 => .array (.object "DuelSeconds$Sheet")
  | 5 => .int
  | _ => .int
abbrev wsX70 : List Cond := u_ws RX7 TX7 7
theorem nmX7 : ∀ a, a < 7 → ∀ b, b < 7 → a ≠ b → (TX7 a).2.1 ≠ (TX7 b).2.1 := by decide +kernel
theorem tyX7_ok : ∀ k, k < 7 → parseFieldDescriptor (TX7 k).2.2.1 = some (tyX7 k) := by decide +kernel
abbrev cX7_init : ByteArray := prog_1_method_1_code
def yX7_init : MethodName := ⟨RX7, "<init>", "()V"⟩
abbrev cX7_coast : ByteArray := prog_1_method_2_code
def yX7_coast : MethodName := ⟨RX7, "coast", "(IIII)I"⟩
abbrev cX7_ofPerson : ByteArray := prog_1_method_3_code
def yX7_ofPerson : MethodName := ⟨RX7, "ofPerson", "(II)I"⟩
abbrev cX7_insult : ByteArray := prog_1_method_4_code
def yX7_insult : MethodName := ⟨RX7, "insult", "(IIII)I"⟩
abbrev cX7_sorry : ByteArray := prog_1_method_5_code
def yX7_sorry : MethodName := ⟨RX7, "sorry", "(I)I"⟩
abbrev cX7_arrest : ByteArray := prog_1_method_6_code
def yX7_arrest : MethodName := ⟨RX7, "arrest", "(IZ)I"⟩
abbrev cX7_meetings : ByteArray := prog_1_method_7_code
def yX7_meetings : MethodName := ⟨RX7, "meetings", "(I)I"⟩
abbrev cX7_met : ByteArray := prog_1_method_8_code
def yX7_met : MethodName := ⟨RX7, "met", "(II)I"⟩
abbrev cX7_free : ByteArray := prog_1_method_9_code
def yX7_free : MethodName := ⟨RX7, "free", "(II)I"⟩
abbrev cX7_second : ByteArray := prog_1_method_10_code
def yX7_second : MethodName := ⟨RX7, "second", "(III)I"⟩
abbrev cX7_worth : ByteArray := prog_1_method_11_code
def yX7_worth : MethodName := ⟨RX7, "worth", "(I)I"⟩
abbrev cX7_arrests : ByteArray := prog_1_method_12_code
def yX7_arrests : MethodName := ⟨RX7, "arrests", "(I)I"⟩
abbrev cX7_provoked : ByteArray := prog_1_method_13_code
def yX7_provoked : MethodName := ⟨RX7, "provoked", "(III)I"⟩
abbrev cX7_provokingDegree : ByteArray := prog_1_method_14_code
def yX7_provokingDegree : MethodName := ⟨RX7, "provokingDegree", "(IIII)I"⟩
abbrev cX7_odds : ByteArray := prog_1_method_15_code
def yX7_odds : MethodName := ⟨RX7, "odds", "(III)J"⟩
abbrev cX7_reading : ByteArray := prog_1_method_16_code
def yX7_reading : MethodName := ⟨RX7, "reading", "(IIZ)I"⟩
abbrev cX7_back : ByteArray := prog_1_method_17_code
def yX7_back : MethodName := ⟨RX7, "back", "(I)I"⟩
abbrev cX7_never : ByteArray := prog_1_method_18_code
def yX7_never : MethodName := ⟨RX7, "never", "()I"⟩
abbrev cX7_caught : ByteArray := prog_1_method_19_code
def yX7_caught : MethodName := ⟨RX7, "caught", "()I"⟩
abbrev cX7_row : ByteArray := prog_1_method_20_code
def yX7_row : MethodName := ⟨RX7, "row", "(IIII)I"⟩
abbrev cX7_freeInTurn : ByteArray := prog_1_method_21_code
def yX7_freeInTurn : MethodName := ⟨RX7, "freeInTurn", "(LDuelSeconds$Sheet;II)I"⟩
abbrev cX7_sheet : ByteArray := prog_1_method_22_code
def yX7_sheet : MethodName := ⟨RX7, "sheet", "(III)I"⟩
abbrev cX7_lose : ByteArray := prog_1_method_23_code
def yX7_lose : MethodName := ⟨RX7, "lose", "(I)I"⟩
abbrev cX7_put : ByteArray := prog_1_method_24_code
def yX7_put : MethodName := ⟨RX7, "put", "(III)I"⟩
abbrev cX7_cell : ByteArray := prog_1_method_25_code
def yX7_cell : MethodName := ⟨RX7, "cell", "(III)J"⟩
abbrev cX7_copy : ByteArray := prog_1_method_26_code
def yX7_copy : MethodName := ⟨RX7, "copy", "(IIIII)I"⟩
abbrev cX7_tell : ByteArray := prog_1_method_27_code
def yX7_tell : MethodName := ⟨RX7, "tell", "(I)I"⟩
abbrev cX7_salute : ByteArray := prog_1_method_28_code
def yX7_salute : MethodName := ⟨RX7, "salute", "(I)I"⟩
abbrev cX7_as : ByteArray := prog_1_method_29_code
def yX7_as : MethodName := ⟨RX7, "as", "(II)I"⟩
abbrev cX7_trace : ByteArray := prog_1_method_30_code
def yX7_trace : MethodName := ⟨RX7, "trace", "()I"⟩
abbrev cX7_fault : ByteArray := prog_1_method_31_code
def yX7_fault : MethodName := ⟨RX7, "fault", "()I"⟩
abbrev cX7_many : ByteArray := prog_1_method_32_code
def yX7_many : MethodName := ⟨RX7, "many", "(I)I"⟩
abbrev cX7_tellGentleman : ByteArray := prog_1_method_33_code
def yX7_tellGentleman : MethodName := ⟨RX7, "tellGentleman", "(I)I"⟩
abbrev cX7_tellHothead : ByteArray := prog_1_method_34_code
def yX7_tellHothead : MethodName := ⟨RX7, "tellHothead", "(I)I"⟩
abbrev cX7_tellOfficer : ByteArray := prog_1_method_35_code
def yX7_tellOfficer : MethodName := ⟨RX7, "tellOfficer", "(I)I"⟩
abbrev cX7_saluteByLentBody : ByteArray := prog_1_method_36_code
def yX7_saluteByLentBody : MethodName := ⟨RX7, "saluteByLentBody", "(I)I"⟩
abbrev cX7_saluteOfficer : ByteArray := prog_1_method_37_code
def yX7_saluteOfficer : MethodName := ⟨RX7, "saluteOfficer", "()I"⟩
abbrev cX7_leave : ByteArray := prog_1_method_38_code
def yX7_leave : MethodName := ⟨RX7, "leave", "(I)V"⟩
abbrev cX7_isEmpty : ByteArray := prog_1_method_39_code
def yX7_isEmpty : MethodName := ⟨RX7, "isEmpty", "()Z"⟩
abbrev cX7_sheetOf : ByteArray := prog_1_method_40_code
def yX7_sheetOf : MethodName := ⟨RX7, "sheetOf", "(I)LDuelSeconds$Sheet;"⟩
abbrev cX7_faulted : ByteArray := prog_1_method_41_code
def yX7_faulted : MethodName := ⟨RX7, "faulted", "(I)I"⟩
abbrev cX7_isLane : ByteArray := prog_1_method_42_code
def yX7_isLane : MethodName := ⟨RX7, "isLane", "(I)Z"⟩
abbrev cX7_isDay : ByteArray := prog_1_method_43_code
def yX7_isDay : MethodName := ⟨RX7, "isDay", "(I)Z"⟩
abbrev cX7_isDawn : ByteArray := prog_1_method_44_code
def yX7_isDawn : MethodName := ⟨RX7, "isDawn", "(I)Z"⟩
abbrev cX7_bit : ByteArray := prog_1_method_45_code
def yX7_bit : MethodName := ⟨RX7, "bit", "(I)I"⟩
abbrev cX7_in : ByteArray := prog_1_method_46_code
def yX7_in : MethodName := ⟨RX7, "in", "(II)Z"⟩
abbrev cX7_cut : ByteArray := prog_1_method_47_code
def yX7_cut : MethodName := ⟨RX7, "cut", "(II)I"⟩
def RX8 : String := "DuelSecondsModel"
def TX8 : u_T := fun k => match k with
  | 0 => ("DuelSecondsModel", "fault", "I", false)
  | 1 => ("DuelSecondsModel", "trace", "I", false)
  | 2 => ("DuelSecondsModel", "sorts", "[I", true)
  | 3 => ("DuelSecondsModel", "sheetLong", "[I", true)
  | 4 => ("DuelSecondsModel", "cells", "[I", true)
  | 5 => ("DuelSecondsModel", "persons", "I", false)
  | 6 => ("DuelSecondsModel", "kind", "[I", true)
  | 7 => ("DuelSecondsModel", "honour", "[I", true)
  | 8 => ("DuelSecondsModel", "friend", "[I", true)
  | 9 => ("DuelSecondsModel", "isArrested", "[Z", true)
  | 10 => ("DuelSecondsModel", "at", "I", false)
  | 11 => ("DuelSecondsModel", "readMany", "I", false)
  | 12 => ("DuelSecondsModel", "readKind", "[I", true)
  | 13 => ("DuelSecondsModel", "readHonour", "[I", true)
  | 14 => ("DuelSecondsModel", "readFriend", "[I", true)
  | 15 => ("DuelSecondsModel", "insults", "I", false)
  | 16 => ("DuelSecondsModel", "from", "[I", true)
  | 17 => ("DuelSecondsModel", "to", "[I", true)
  | 18 => ("DuelSecondsModel", "dayOf", "[I", true)
  | 19 => ("DuelSecondsModel", "degreeOf", "[I", true)
  | 20 => ("DuelSecondsModel", "unmade", "I", false)
  | 21 => ("DuelSecondsModel", "freeFrom", "[I", true)
  | 22 => ("DuelSecondsModel", "meeting", "I", false)
  | 23 => ("DuelSecondsModel", "taken", "I", false)
  | 24 => ("DuelSecondsModel", "takenFrom", "[I", true)
  | 25 => ("DuelSecondsModel", "takenTo", "[I", true)
  | 26 => ("DuelSecondsModel", "takenDegree", "[I", true)
  | 27 => ("DuelSecondsModel", "takenDay", "[I", true)
  | 28 => ("DuelSecondsModel", "met", "I", false)
  | 29 => ("DuelSecondsModel", "metDawn", "[I", true)
  | 30 => ("DuelSecondsModel", "metOne", "[I", true)
  | 31 => ("DuelSecondsModel", "metOther", "[I", true)
  | 32 => ("DuelSecondsModel", "metInsulted", "[I", true)
  | 33 => ("DuelSecondsModel", "metInsulter", "[I", true)
  | 34 => ("DuelSecondsModel", "metHurt", "[I", true)
  | 35 => ("DuelSecondsModel", "readings", "I", false)
  | 36 => ("DuelSecondsModel", "readPerson", "[I", true)
  | 37 => ("DuelSecondsModel", "readDawn", "[I", true)
  | _ => ("DuelSecondsModel", "readWas", "[Z", true)
def tyX8 : Nat → FieldType := fun k => match k with
  | 0 => .int
  | 1 => .int
  | 2 => .array .int
  | 3 => .array .int
  | 4 => .array .int
  | 5 => .int
  | 6 => .array .int
  | 7 => .array .int
  | 8 => .array .int
  | 9 => .array .boolean
  | 10 => .int
  | 11 => .int
  | 12 => .array .int
  | 13 => .array .int
  | 14 => .array .int
  | 15 => .int
  | 16 => .array .int
  | 17 => .array .int
  | 18 => .array .int
  | 19 => .array .int
  | 20 => .int
  | 21 => .array .int
  | 22 => .int
  | 23 => .int
  | 24 => .array .int
  | 25 => .array .int
  | 26 => .array .int
  | 27 => .array .int
  | 28 => .int
  | 29 => .array .int
  | 30 => .array .int
  | 31 => .array .int
  | 32 => .array .int
  | 33 => .array .int
  | 34 => .array .int
  | 35 => .int
  | 36 => .array .int
  | 37 => .array .int
  | _ => .array .boolean
abbrev wsX80 : List Cond := u_ws RX8 TX8 39
theorem nmX8 : ∀ a, a < 39 → ∀ b, b < 39 → a ≠ b → (TX8 a).2.1 ≠ (TX8 b).2.1 := by decide +kernel
theorem tyX8_ok : ∀ k, k < 39 → parseFieldDescriptor (TX8 k).2.2.1 = some (tyX8 k) := by decide +kernel
abbrev cX8_init : ByteArray := prog_10_method_1_code
def yX8_init : MethodName := ⟨RX8, "<init>", "()V"⟩
abbrev cX8_fails : ByteArray := prog_10_method_3_code
def yX8_fails : MethodName := ⟨RX8, "fails", "(I)I"⟩
abbrev cX8_lost : ByteArray := prog_10_method_4_code
def yX8_lost : MethodName := ⟨RX8, "lost", "(I)J"⟩
abbrev cX8_within : ByteArray := prog_10_method_5_code
def yX8_within : MethodName := ⟨RX8, "within", "(III)Z"⟩
abbrev cX8_isSheet : ByteArray := prog_10_method_6_code
def yX8_isSheet : MethodName := ⟨RX8, "isSheet", "(I)Z"⟩
abbrev cX8_isSort : ByteArray := prog_10_method_7_code
def yX8_isSort : MethodName := ⟨RX8, "isSort", "(I)Z"⟩
abbrev cX8_against : ByteArray := prog_10_method_8_code
def yX8_against : MethodName := ⟨RX8, "against", "(IIII)I"⟩
abbrev cX8_isPerson : ByteArray := prog_10_method_9_code
def yX8_isPerson : MethodName := ⟨RX8, "isPerson", "(I)Z"⟩
abbrev cX8_isDawn : ByteArray := prog_10_method_10_code
def yX8_isDawn : MethodName := ⟨RX8, "isDawn", "(I)Z"⟩
abbrev cX8_digit : ByteArray := prog_10_method_11_code
def yX8_digit : MethodName := ⟨RX8, "digit", "(III)I"⟩
abbrev cX8_coast : ByteArray := prog_10_method_12_code
def yX8_coast : MethodName := ⟨RX8, "coast", "(IIII)I"⟩
abbrev cX8_readCoast : ByteArray := prog_10_method_13_code
def yX8_readCoast : MethodName := ⟨RX8, "readCoast", "(I)Z"⟩
abbrev cX8_readPerson : ByteArray := prog_10_method_14_code
def yX8_readPerson : MethodName := ⟨RX8, "readPerson", "(II)Z"⟩
abbrev cX8_touchy : ByteArray := prog_10_method_15_code
def yX8_touchy : MethodName := ⟨RX8, "touchy", "(I)I"⟩
abbrev cX8_ofPerson : ByteArray := prog_10_method_16_code
def yX8_ofPerson : MethodName := ⟨RX8, "ofPerson", "(II)I"⟩
abbrev cX8_lay : ByteArray := prog_10_method_17_code
def yX8_lay : MethodName := ⟨RX8, "lay", "(IIIII)V"⟩
abbrev cX8_insult : ByteArray := prog_10_method_18_code
def yX8_insult : MethodName := ⟨RX8, "insult", "(IIII)I"⟩
abbrev cX8_sorry : ByteArray := prog_10_method_19_code
def yX8_sorry : MethodName := ⟨RX8, "sorry", "(I)I"⟩
abbrev cX8_arrest : ByteArray := prog_10_method_20_code
def yX8_arrest : MethodName := ⟨RX8, "arrest", "(IZ)I"⟩
abbrev cX8_isFree : ByteArray := prog_10_method_21_code
def yX8_isFree : MethodName := ⟨RX8, "isFree", "(II)Z"⟩
abbrev cX8_maySecond : ByteArray := prog_10_method_22_code
def yX8_maySecond : MethodName := ⟨RX8, "maySecond", "(IIIII)Z"⟩
abbrev cX8_secondOf : ByteArray := prog_10_method_23_code
def yX8_secondOf : MethodName := ⟨RX8, "secondOf", "(IIII)I"⟩
abbrev cX8_meet : ByteArray := prog_10_method_24_code
def yX8_meet : MethodName := ⟨RX8, "meet", "(IIIII)V"⟩
abbrev cX8_hurt : ByteArray := prog_10_method_25_code
def yX8_hurt : MethodName := ⟨RX8, "hurt", "(III)V"⟩
abbrev cX8_answer : ByteArray := prog_10_method_26_code
def yX8_answer : MethodName := ⟨RX8, "answer", "(IIII)V"⟩
abbrev cX8_begin : ByteArray := prog_10_method_27_code
def yX8_begin : MethodName := ⟨RX8, "begin", "()V"⟩
abbrev cX8_goDawn : ByteArray := prog_10_method_28_code
def yX8_goDawn : MethodName := ⟨RX8, "goDawn", "(I)V"⟩
abbrev cX8_goAhead : ByteArray := prog_10_method_29_code
def yX8_goAhead : MethodName := ⟨RX8, "goAhead", "(I)V"⟩
abbrev cX8_meetings : ByteArray := prog_10_method_30_code
def yX8_meetings : MethodName := ⟨RX8, "meetings", "(I)I"⟩
abbrev cX8_met : ByteArray := prog_10_method_31_code
def yX8_met : MethodName := ⟨RX8, "met", "(II)I"⟩
abbrev cX8_free : ByteArray := prog_10_method_32_code
def yX8_free : MethodName := ⟨RX8, "free", "(II)I"⟩
abbrev cX8_second : ByteArray := prog_10_method_33_code
def yX8_second : MethodName := ⟨RX8, "second", "(III)I"⟩
abbrev cX8_worth : ByteArray := prog_10_method_34_code
def yX8_worth : MethodName := ⟨RX8, "worth", "(I)I"⟩
abbrev cX8_size : ByteArray := prog_10_method_35_code
def yX8_size : MethodName := ⟨RX8, "size", "(I)I"⟩
abbrev cX8_arrestAll : ByteArray := prog_10_method_36_code
def yX8_arrestAll : MethodName := ⟨RX8, "arrestAll", "(IZ)V"⟩
abbrev cX8_arrests : ByteArray := prog_10_method_37_code
def yX8_arrests : MethodName := ⟨RX8, "arrests", "(I)I"⟩
abbrev cX8_didMeet : ByteArray := prog_10_method_38_code
def yX8_didMeet : MethodName := ⟨RX8, "didMeet", "(III)Z"⟩
abbrev cX8_doesProvoke : ByteArray := prog_10_method_39_code
def yX8_doesProvoke : MethodName := ⟨RX8, "doesProvoke", "(IIIIII)Z"⟩
abbrev cX8_provoked : ByteArray := prog_10_method_40_code
def yX8_provoked : MethodName := ⟨RX8, "provoked", "(III)I"⟩
abbrev cX8_inLeastTerms : ByteArray := prog_10_method_41_code
def yX8_inLeastTerms : MethodName := ⟨RX8, "inLeastTerms", "(JJI)J"⟩
abbrev cX8_wasHurt : ByteArray := prog_10_method_42_code
def yX8_wasHurt : MethodName := ⟨RX8, "wasHurt", "(I)Z"⟩
abbrev cX8_odds : ByteArray := prog_10_method_43_code
def yX8_odds : MethodName := ⟨RX8, "odds", "(III)J"⟩
abbrev cX8_reading : ByteArray := prog_10_method_44_code
def yX8_reading : MethodName := ⟨RX8, "reading", "(IIZ)I"⟩
abbrev cX8_back : ByteArray := prog_10_method_45_code
def yX8_back : MethodName := ⟨RX8, "back", "(I)I"⟩
abbrev cX8_wasIn : ByteArray := prog_10_method_46_code
def yX8_wasIn : MethodName := ⟨RX8, "wasIn", "(II)Z"⟩
abbrev cX8_areSo : ByteArray := prog_10_method_47_code
def yX8_areSo : MethodName := ⟨RX8, "areSo", "()Z"⟩
abbrev cX8_never : ByteArray := prog_10_method_48_code
def yX8_never : MethodName := ⟨RX8, "never", "()I"⟩
abbrev cX8_caught : ByteArray := prog_10_method_49_code
def yX8_caught : MethodName := ⟨RX8, "caught", "()I"⟩
abbrev cX8_row : ByteArray := prog_10_method_50_code
def yX8_row : MethodName := ⟨RX8, "row", "(IIII)I"⟩
abbrev cX8_sheet : ByteArray := prog_10_method_51_code
def yX8_sheet : MethodName := ⟨RX8, "sheet", "(III)I"⟩
abbrev cX8_lose : ByteArray := prog_10_method_52_code
def yX8_lose : MethodName := ⟨RX8, "lose", "(I)I"⟩
abbrev cX8_put : ByteArray := prog_10_method_53_code
def yX8_put : MethodName := ⟨RX8, "put", "(III)I"⟩
abbrev cX8_cell : ByteArray := prog_10_method_54_code
def yX8_cell : MethodName := ⟨RX8, "cell", "(III)J"⟩
abbrev cX8_copy : ByteArray := prog_10_method_55_code
def yX8_copy : MethodName := ⟨RX8, "copy", "(IIIII)I"⟩
abbrev cX8_begins : ByteArray := prog_10_method_56_code
def yX8_begins : MethodName := ⟨RX8, "begins", "(I)V"⟩
abbrev cX8_tell : ByteArray := prog_10_method_57_code
def yX8_tell : MethodName := ⟨RX8, "tell", "(I)I"⟩
abbrev cX8_salute : ByteArray := prog_10_method_58_code
def yX8_salute : MethodName := ⟨RX8, "salute", "(I)I"⟩
abbrev cX8_as : ByteArray := prog_10_method_59_code
def yX8_as : MethodName := ⟨RX8, "as", "(II)I"⟩
abbrev cX8_trace : ByteArray := prog_10_method_60_code
def yX8_trace : MethodName := ⟨RX8, "trace", "()I"⟩
abbrev cX8_fault : ByteArray := prog_10_method_61_code
def yX8_fault : MethodName := ⟨RX8, "fault", "()I"⟩
abbrev cX8_many : ByteArray := prog_10_method_62_code
def yX8_many : MethodName := ⟨RX8, "many", "(I)I"⟩
def RJ6 : String := "java/lang/Integer"
abbrev cJ6_bitCount_0f7a4 : ByteArray := prog_11_method_49_code
def yJ6_bitCount_0f7a4 : MethodName := ⟨RJ6, "bitCount", "(I)I"⟩
def RJ9 : String := "java/lang/Math"
abbrev cJ9_abs_0f7a4 : ByteArray := prog_12_method_59_code
def yJ9_abs_0f7a4 : MethodName := ⟨RJ9, "abs", "(I)I"⟩
abbrev cJ9_max_7cf53 : ByteArray := prog_12_method_65_code
def yJ9_max_7cf53 : MethodName := ⟨RJ9, "max", "(II)I"⟩
abbrev cJ9_min_7cf53 : ByteArray := prog_12_method_69_code
def yJ9_min_7cf53 : MethodName := ⟨RJ9, "min", "(II)I"⟩
def RJ10 : String := "java/lang/System"
def RJ7 : String := "java/util/Arrays"
abbrev cJ7_fill_53178 : ByteArray := prog_14_method_103_code
def yJ7_fill_53178 : MethodName := ⟨RJ7, "fill", "([II)V"⟩
def RL : String := "DuelSecondsLaw"
abbrev cL_law : ByteArray := code
def yL_law : MethodName := ⟨RL, "law", "([I)Z"⟩
abbrev vwCl : List vw_C := [(RX0, TX0, 5), (RX1, TX1, 2), (RX2, TX2, 6), (RX3, TX3, 4), (RX4, TX4, 11), (RX5, TX5, 4), (RX7, TX7, 7), (RX8, TX8, 39)]
/-- the tables' words that a method may hand on -/
def cw : List Cond := lw_tbl.filter goodWord
theorem cw_in {w : Cond} (h : w ∈ cw) : w ∈ lw_tbl := (List.mem_filter.mp h).1
theorem cw_good {w : Cond} (h : w ∈ cw) : goodWord w = true := (List.mem_filter.mp h).2
theorem cw_0 (i : Nat) {w : Cond} (h : (k2_sels lw_privs)[i]? = some w) (g : goodWord w = true) : w ∈ cw := List.mem_filter.mpr ⟨List.mem_append_left _ (List.mem_of_getElem? h), g⟩
theorem cw_1 (i : Nat) {w : Cond} (h : tables_1_1[i]? = some w) (g : goodWord w = true) : w ∈ cw := List.mem_filter.mpr ⟨List.mem_append_right _ (show w ∈ tables_1 from List.mem_append_left _ (List.mem_of_getElem? h)), g⟩
theorem cw_2 (i : Nat) {w : Cond} (h : tables_1_2[i]? = some w) (g : goodWord w = true) : w ∈ cw := List.mem_filter.mpr ⟨List.mem_append_right _ (show w ∈ tables_1 from List.mem_append_right _ (List.mem_append_left _ (List.mem_of_getElem? h))), g⟩
theorem cw_3 (i : Nat) {w : Cond} (h : tables_1_3[i]? = some w) (g : goodWord w = true) : w ∈ cw := List.mem_filter.mpr ⟨List.mem_append_right _ (show w ∈ tables_1 from List.mem_append_right _ (List.mem_append_right _ (List.mem_append_left _ (List.mem_of_getElem? h)))), g⟩
theorem cw_4 (i : Nat) {w : Cond} (h : tables_1_4[i]? = some w) (g : goodWord w = true) : w ∈ cw := List.mem_filter.mpr ⟨List.mem_append_right _ (show w ∈ tables_1 from List.mem_append_right _ (List.mem_append_right _ (List.mem_append_right _ (List.mem_of_getElem? h)))), g⟩
end
section
/-! ===== the judgement: a method's body over a world of fixed shape ===== -/
/-- what a field holds: none: an int; some none: a long; some (some r): cell r -/
abbrev kF : Type := Option (Option Nat)
/-- a cell's shape: an object (kind, fields), an array of numbers (type, length), an array of references -/
abbrev kE : Type := (Nat × List kF) ⊕ ((Nat × Nat) ⊕ (Nat × Nat × (Nat → Option Nat)))
/-- what the cells hold: ints, longs, by cell and place -/
abbrev kW : Type := (Nat → Nat → Int32) × (Nat → Nat → Int64)
def k_val (ad : Nat → Nat) (w : kW) (c j : Nat) (f : kF) : Value := match f with
  | none => .int (w.1 c j)
  | some none => .long (w.2 c j)
  | some (some r) => .ref (ad r)
def k_ent (ad : Nat → Nat) (ca : Nat → ClassId) (w : kW) (c : Nat) (e : kE) : va_E := match e with
  | .inl q => .inr (q.1, q.2.mapIdx (fun j f => k_val ad w c j f))
  | .inr (.inl q) => .inl (ca q.1, q.2, .inl (w.1 c))
  | .inr (.inr q) => .inl (ca q.1, q.2.1, .inr (.inr (.inr (.inr (fun i => (q.2.2 i).map ad)))))
def k_wd (ad : Nat → Nat) (ca : Nat → ClassId) (sh : List kE) (w : kW) : va_W := sh.mapIdx (fun c e => (ad c, k_ent ad ca w c e))
def k_v (ad : Nat → Nat) (v : Value) : Value := match v with
  | .ref r => .ref (ad r)
  | v => v
def k_L (ad : Nat → Nat) (L : List (Nat × Value)) : List (Nat × Value) := L.map (fun q => (q.1, k_v ad q.2))
def k_tys (ca : Nat → ClassId) : List (ClassId × FieldType) := [(ca 0, .int), (ca 1, .boolean), (ca 2, .object "DuelSeconds$Sheet"), (ca 3, .array .int)]
def k_up {α : Type} (f : Nat → Nat → α) (c k : Nat) (v : α) : Nat → Nat → α := fun c' k' => if c' = c then (if k' = k then v else f c' k') else f c' k'
theorem k_up_same {α : Type} (f : Nat → Nat → α) (c k : Nat) (v : α) : k_up f c k v c k = v := by simp [k_up]
theorem k_up_row {α : Type} (f : Nat → Nat → α) (c k : Nat) (v : α) {c' : Nat} (h : c' ≠ c) : k_up f c k v c' = f c' := by
  funext j
  simp [k_up, h]
theorem k_wd_get {ad : Nat → Nat} {ca : Nat → ClassId} {sh : List kE} {w : kW} {c : Nat} {e : kE} (h : sh[c]? = some e) : (k_wd ad ca sh w)[c]? = some (ad c, k_ent ad ca w c e) := by
  simp [k_wd, List.getElem?_mapIdx, h]
theorem k_ent_row {ad : Nat → Nat} {ca : Nat → ClassId} {w w' : kW} {c : Nat} (e : kE) (h1 : w'.1 c = w.1 c) (h2 : w'.2 c = w.2 c) : k_ent ad ca w' c e = k_ent ad ca w c e := by
  have hv : ∀ j f, k_val ad w' c j f = k_val ad w c j f := by
    intro j f
    match f with
    | none => simp [k_val, h1]
    | some none => simp [k_val, h2]
    | some (some r) => rfl
  match e with
  | .inl q => simp [k_ent, hv]
  | .inr (.inl q) => simp [k_ent, h1]
  | .inr (.inr q) => rfl
theorem k_wd_set {ad : Nat → Nat} {ca : Nat → ClassId} {sh : List kE} {w w' : kW} {c : Nat} {e : kE} (h : sh[c]? = some e) (h1 : ∀ c', c' ≠ c → w'.1 c' = w.1 c') (h2 : ∀ c', c' ≠ c → w'.2 c' = w.2 c') {x : va_E} (hx : x = k_ent ad ca w' c e) : (k_wd ad ca sh w).set c (ad c, x) = k_wd ad ca sh w' := by
  subst hx
  apply List.ext_getElem?
  intro i
  have hl : c < sh.length := (List.getElem?_eq_some_iff.mp h).1
  by_cases hi : c = i
  · subst hi
    rw [List.getElem?_set_self (by simpa [k_wd] using hl), k_wd_get h]
  · rw [List.getElem?_set_ne hi]
    simp only [k_wd, List.getElem?_mapIdx]
    cases hs : sh[i]? with
    | none => rfl
    | some y => simp only [Option.map_some]; rw [k_ent_row y (h1 i (Ne.symm hi)) (h2 i (Ne.symm hi))]
theorem k_wd_addr {ad : Nat → Nat} {ca : Nat → ClassId} {sh : List kE} {w : kW} {k : Nat} {q : Nat × va_E} (h : (k_wd ad ca sh w)[k]? = some q) : k < sh.length ∧ q.1 = ad k := by
  simp only [k_wd, List.getElem?_mapIdx] at h
  cases hs : sh[k]? with
  | none => rw [hs] at h; cases h
  | some y =>
    rw [hs] at h
    cases h
    exact ⟨(List.getElem?_eq_some_iff.mp hs).1, rfl⟩
def k_A (sh : List kE) (ad : Nat → Nat) (sz : Nat) : Nat → Prop := fun q => (∃ c, c < sh.length ∧ q = ad c) ∨ sz ≤ q
theorem k_D_of {A B : Nat → Prop} {ad : Nat → Nat} {ca : Nat → ClassId} {sh : List kE} {w w' : kW} (h : va_D A (k_wd ad ca sh w)) (hB : ∀ c, c < sh.length → B (ad c)) : va_D B (k_wd ad ca sh w') := by
  have key : ∀ (k : Nat) (q : Nat × va_E), (k_wd ad ca sh w')[k]? = some q → ∃ q0, (k_wd ad ca sh w)[k]? = some q0 ∧ q0.1 = q.1 := by
    intro k q hk
    obtain ⟨hl, he⟩ := k_wd_addr hk
    obtain ⟨y, hy⟩ : ∃ y, sh[k]? = some y := ⟨_, List.getElem?_eq_getElem hl⟩
    exact ⟨_, k_wd_get hy, he.symm⟩
  refine ⟨fun i j p q hi hj hpq => ?_, fun k q hk => ?_⟩
  · obtain ⟨p0, a1, a2⟩ := key i p hi
    obtain ⟨q0, b1, b2⟩ := key j q hj
    exact h.1 i j p0 q0 a1 b1 (a2.trans (hpq.trans b2.symm))
  · obtain ⟨hl, he⟩ := k_wd_addr hk
    rw [he]
    exact hB k hl
theorem k_D_self {A : Nat → Prop} {ad : Nat → Nat} {ca : Nat → ClassId} {sh : List kE} {w w' : kW} {sz : Nat} (h : va_D A (k_wd ad ca sh w)) : va_D (k_A sh ad sz) (k_wd ad ca sh w') := k_D_of h (fun c hc => Or.inl ⟨c, hc, rfl⟩)
def k_Pc (sh : List kE) (D : va_G) (ca : Nat → ClassId) (ad : Nat → Nat) (sz : Nat) (As : List Value) (w : kW) : Array Value → State → Prop := va_Pc (As.map (k_v ad)) (fun U => U.heap.size = sz ∧ va_P D vwCl (k_wd ad ca sh w) U.heap ∧ va_K D vwCl (k_tys ca) U ∧ va_D (fun _ => True) (k_wd ad ca sh w))
def k_Qc (sh : List kE) (D : va_G) (ca : Nat → ClassId) (ad : Nat → Nat) (sz : Nat) (Φ : Option Value → kW → Prop) : Array Value → State → Outcome → State → Prop := fun _ st oc t => (∃ (r : Option Value) (w' : kW), oc = .returned (r.map (k_v ad)) ∧ Φ r w' ∧ va_P D vwCl (k_wd ad ca sh w') t.heap ∧ va_K D vwCl (k_tys ca) t) ∧ va_F (k_A sh ad sz) st t
/-- a method's contract at given arguments and world: it returns, and Φ holds of its answer and of the world behind it -/
def Spec (sh : List kE) (y : MethodName) (cc : ByteArray) (n : Nat) (rt : Option FieldType) (fr lo : Nat) (As : List Value) (w : kW) (Φ : Option Value → kW → Prop) : Prop :=
  ∀ (l : Launch) (D : va_G) (ca : Nat → ClassId) (ad : Nat → Nat) (sz : Nat), Met l y (.code y cc n rt :: cw) ({ frames := fr, cells := 0, slots := 0, locals := lo } : Room) (k_Pc sh D ca ad sz As w) (k_Qc sh D ca ad sz Φ) 0 0 (k_A sh ad sz)
def k_cx (p : Program) (s : State) (m : MethodId) (args : Array Value) (meth : Method) (c : Code) (own : String) (cc : ByteArray) (n : Nat) (rt : Option FieldType) (D : va_G) (ca : Nat → ClassId) : Prop :=
  p.tables.exec = Jvm.exec ∧ c.code = cc ∧ c.maxLocals = n ∧ s.vm.findClass own = some m.cls ∧ (∀ w ∈ cw, w.before args s = true) ∧ meth.sig.returnType = rt ∧ meth.locks = false ∧ va_K D vwCl (k_tys ca) s
/-- from pc on, with these locals, this stack and this world, the method returns, and Φ holds -/
def BS (sh : List kE) (own : String) (cc : ByteArray) (n : Nat) (rt : Option FieldType) (fr lo : Nat) (Φ : Option Value → kW → Prop) (pc : Nat) (L : List (Nat × Value)) (st : List Value) (w : kW) : Prop :=
  ∀ (p : Program) (l : Launch) (e : Env) (s : State) (m : MethodId) (args : Array Value) (below : List Frame) (meth : Method) (c : Code) (D : va_G) (ca : Nat → ClassId) (ad : Nat → Nat) (H : Heap) (locs : List Loc) (ls : Array Slot),
    k_cx p s m args meth c own cc n rt D ca → va_P D vwCl (k_wd ad ca sh w) H → va_D (k_A sh ad s.heap.size) (k_wd ad ca sh w) → va_S (k_A sh ad s.heap.size) s.heap H locs → lv_has ls n (k_L ad L) →
    W p l e ({ frames := fr, cells := 0, slots := 0, locals := lo } : Room) s m args below meth c H locs 0 0 (MQ below (k_Qc sh D ca ad s.heap.size Φ) args s 0 0 (k_A sh ad s.heap.size)) (F0 m pc ls (st.map (k_v ad)))
theorem k_v_cat (ad : Nat → Nat) (v : Value) : (k_v ad v).category = v.category := by cases v <;> rfl
theorem k_args (ad : Nat → Nat) : ∀ (vs : List Value) (i : Nat), lv_args i (vs.map (k_v ad)) = k_L ad (lv_args i vs)
  | [], _ => rfl
  | v :: vs, i => by
    show (i, k_v ad v) :: lv_args _ (vs.map (k_v ad)) = (i, k_v ad v) :: k_L ad (lv_args _ vs)
    rw [k_v_cat, k_args ad vs]
theorem k_sl_len (ad : Nat → Nat) : ∀ (vs : List Value), (lg_sl (vs.map (k_v ad))).length = (lg_sl vs).length
  | [] => rfl
  | v :: vs => by
    have ih := k_sl_len ad vs
    simp only [lg_sl, List.map_cons, List.flatMap_cons, List.length_append, k_v_cat] at ih ⊢
    rw [ih]
    split <;> rfl
theorem k_cats (ad : Nat → Nat) (st : List Value) : ((st.map (k_v ad)).map fun v => v.category) = st.map fun v => v.category := by
  rw [List.map_map]
  apply List.map_congr_left
  intro v _
  exact k_v_cat ad v
theorem k_blind {sh : List kE} {D : va_G} {ca : Nat → ClassId} {ad : Nat → Nat} {sz : Nat} {As : List Value} {w : kW} : FrameBlind (k_Pc sh D ca ad sz As w) := by
  intro a U g mk q
  obtain ⟨q0, q1, qP, qK, qD⟩ := q
  exact ⟨q0, q1, qP, va_K.moved (u := U) (U := U.calling g mk a) (Vm.Alike.refl U.vm) qK, qD⟩
theorem k_enter {sh : List kE} {y : MethodName} {cc : ByteArray} {n : Nat} {rt : Option FieldType} {fr lo : Nat} {As : List Value} {w : kW} {Φ : Option Value → kW → Prop} (hy : plainName y.cls = true) (hn : (lg_sl As).length ≤ n) (h : BS sh y.cls cc n rt fr lo Φ 0 (lv_args 0 As) [] w) : Spec sh y cc n rt fr lo As w Φ := by
  intro l D ca ad sz
  refine Met.ofW (cc := cc) (maxL := n) (ret := rt) hy rfl ?_
  intro p e s m args below meth c s₁ B hml hv
  obtain ⟨rfl, hsz, hP, hK, hD0⟩ := hv
  subst hsz
  have hts0 := atoms_spec (ws := .code y cc n rt :: cw) B.pre
  have hts : ∀ w ∈ cw, w.before (As.map (k_v ad)).toArray s = true := fun w hw => hts0 w (List.mem_cons_of_mem _ hw)
  have hl := lv_entry (As.map (k_v ad)) (n := n) (by rw [k_sl_len]; exact hn)
  rw [lg_entry_eq]
  rw [k_args] at hl
  exact h p l e s m _ below meth c D ca ad s.heap [] _ ⟨B.exec, B.bytes, hml, findClass_of_methodNamed B.named, hts, B.returns, B.notSynchronized, hK⟩ hP (k_D_self hD0) va_S.rf hl
section KB
variable {sh : List kE} {own : String} {cc : ByteArray} {n : Nat} {rt : Option FieldType} {fr lo : Nat} {Φ : Option Value → kW → Prop} {pc : Nat} {L : List (Nat × Value)} {st : List Value} {w : kW}
theorem BS.mono {Ψ : Option Value → kW → Prop} (h : ∀ r w', Φ r w' → Ψ r w') (hb : BS sh own cc n rt fr lo Φ pc L st w) : BS sh own cc n rt fr lo Ψ pc L st w := by
  intro p l e s m args below meth co D ca ad H locs ls cx hP hD hS hl T hT X
  obtain ⟨t, a, o, b1, b2, ⟨⟨⟨r, w', c1, c2, c3⟩, c4⟩, b4⟩⟩ := hb p l e s m args below meth co D ca ad H locs ls cx hP hD hS hl T hT X
  exact ⟨t, a, o, b1, b2, ⟨⟨r, w', c1, h r w' c2, c3⟩, c4⟩, b4⟩
/-- the locals: place i holds v now -/
def k_st1 (L : List (Nat × Value)) (i : Nat) (v : Value) : List (Nat × Value) := (i, v) :: L.filter (fun q => !(q.1 == i) && !(q.1 + 1 == i && q.2.category == 2))
def k_st2 (L : List (Nat × Value)) (i : Nat) (v : Value) : List (Nat × Value) := (i, v) :: L.filter (fun q => !(q.1 == i) && (!(q.1 == i + 1) && !(q.1 + 1 == i && q.2.category == 2)))
theorem k_st1_L (ad : Nat → Nat) (i : Nat) (v : Value) : (i, k_v ad v) :: (k_L ad L).filter (fun q => !(q.1 == i) && !(q.1 + 1 == i && q.2.category == 2)) = k_L ad (k_st1 L i v) := by
  simp only [k_L, k_st1, List.map_cons, List.filter_map]
  congr 2
  apply List.filter_congr
  intro q _
  simp [Function.comp, k_v_cat]
theorem k_st2_L (ad : Nat → Nat) (i : Nat) (v : Value) : (i, k_v ad v) :: (k_L ad L).filter (fun q => !(q.1 == i) && (!(q.1 == i + 1) && !(q.1 + 1 == i && q.2.category == 2))) = k_L ad (k_st2 L i v) := by
  simp only [k_L, k_st2, List.map_cons, List.filter_map]
  congr 2
  apply List.filter_congr
  intro q _
  simp [Function.comp, k_v_cat]
theorem k_lget {ad : Nat → Nat} {ls : Array Slot} {i : Nat} {v : Value} (hl : lv_has ls n (k_L ad L)) (h : L.lookup i = some v) : ls[i]? = some (.val (k_v ad v)) := by
  have hm : (i, v) ∈ L := by
    clear hl
    induction L with
    | nil => cases h
    | cons a t ih =>
      obtain ⟨a1, a2⟩ := a
      rw [List.lookup_cons] at h
      by_cases hb : (i == a1) = true
      · rw [hb] at h
        cases h
        rw [beq_iff_eq] at hb
        subst hb
        exact List.mem_cons_self
      · rw [Bool.not_eq_true] at hb
        rw [hb] at h
        exact List.mem_cons_of_mem _ (ih h)
  exact hl.2.2 (i, k_v ad v) (List.mem_map.mpr ⟨(i, v), hm, rfl⟩)
theorem b_iconst {k : Int} {v : Int32} (hd : decode cc pc = .ok (.iconst k, 1)) (hv : Int32.ofInt k = v) (kk : BS sh own cc n rt fr lo Φ (pc + 1) L (.int v :: st) w) : BS sh own cc n rt fr lo Φ pc L st w := by
  intro p l e s m args below meth co D ca ad H locs ls cx hP hD hS hl
  exact lv_iconst cx.1 cx.2.1 hd hv (kk p l e s m args below meth co D ca ad H locs ls cx hP hD hS hl)
theorem b_bipush {k : Int} {v : Int32} (hd : decode cc pc = .ok (.bipush k, 2)) (hv : (Int8.ofInt k).toInt32 = v) (kk : BS sh own cc n rt fr lo Φ (pc + 2) L (.int v :: st) w) : BS sh own cc n rt fr lo Φ pc L st w := by
  intro p l e s m args below meth co D ca ad H locs ls cx hP hD hS hl
  exact lv_bipush cx.1 cx.2.1 hd hv (kk p l e s m args below meth co D ca ad H locs ls cx hP hD hS hl)
theorem b_sipush {k : Int} {v : Int32} (hd : decode cc pc = .ok (.sipush k, 3)) (hv : (Int16.ofInt k).toInt32 = v) (kk : BS sh own cc n rt fr lo Φ (pc + 3) L (.int v :: st) w) : BS sh own cc n rt fr lo Φ pc L st w := by
  intro p l e s m args below meth co D ca ad H locs ls cx hP hD hS hl
  exact lv_sipush cx.1 cx.2.1 hd hv (kk p l e s m args below meth co D ca ad H locs ls cx hP hD hS hl)
theorem b_lconst {k : Fin 2} {v : Int64} (hd : decode cc pc = .ok (.lconst k, 1)) (hv : Int64.ofNat (k : Nat) = v) (kk : BS sh own cc n rt fr lo Φ (pc + 1) L (.long v :: st) w) : BS sh own cc n rt fr lo Φ pc L st w := by
  intro p l e s m args below meth co D ca ad H locs ls cx hP hD hS hl
  exact lv_lconst cx.1 cx.2.1 hd hv (kk p l e s m args below meth co D ca ad H locs ls cx hP hD hS hl)
theorem b_ldc2 {ix : Nat} {v : Int64} (hd : decode cc pc = .ok (.ldc2_w ix, 3)) (hc : Cond.constantLong own ix v ∈ cw) (kk : BS sh own cc n rt fr lo Φ (pc + 3) L (.long v :: st) w) : BS sh own cc n rt fr lo Φ pc L st w := by
  intro p l e s m args below meth co D ca ad H locs ls cx hP hD hS hl
  exact lv_ldc2 cx.1 cx.2.1 cx.2.2.2.1 (cx.2.2.2.2.1 _ hc) hd (kk p l e s m args below meth co D ca ad H locs ls cx hP hD hS hl)
theorem b_ldcw {ix : Nat} {v : Int32} (hd : decode cc pc = .ok (.ldc_w ix, 3)) (hc : Cond.constant own ix v ∈ cw) (kk : BS sh own cc n rt fr lo Φ (pc + 3) L (.int v :: st) w) : BS sh own cc n rt fr lo Φ pc L st w := by
  intro p l e s m args below meth co D ca ad H locs ls cx hP hD hS hl
  exact lv_ldcw cx.1 cx.2.1 cx.2.2.2.1 (cx.2.2.2.2.1 _ hc) hd (kk p l e s m args below meth co D ca ad H locs ls cx hP hD hS hl)
theorem b_null (hd : decode cc pc = .ok (.aconst_null, 1)) (kk : BS sh own cc n rt fr lo Φ (pc + 1) L (.null :: st) w) : BS sh own cc n rt fr lo Φ pc L st w := by
  intro p l e s m args below meth co D ca ad H locs ls cx hP hD hS hl
  exact lv_null cx.1 cx.2.1 hd (kk p l e s m args below meth co D ca ad H locs ls cx hP hD hS hl)
theorem b_iload_n {k : Fin 4} {x : Int32} (hd : decode cc pc = .ok (.iload_n k, 1)) (hv : L.lookup (k : Nat) = some (.int x)) (kk : BS sh own cc n rt fr lo Φ (pc + 1) L (.int x :: st) w) : BS sh own cc n rt fr lo Φ pc L st w := by
  intro p l e s m args below meth co D ca ad H locs ls cx hP hD hS hl
  exact lv_iload_n cx.1 cx.2.1 hd rfl (k_lget hl hv) (kk p l e s m args below meth co D ca ad H locs ls cx hP hD hS hl)
theorem b_iload {k : Nat} {x : Int32} (hd : decode cc pc = .ok (.iload k, 2)) (hv : L.lookup k = some (.int x)) (kk : BS sh own cc n rt fr lo Φ (pc + 2) L (.int x :: st) w) : BS sh own cc n rt fr lo Φ pc L st w := by
  intro p l e s m args below meth co D ca ad H locs ls cx hP hD hS hl
  exact lv_iload cx.1 cx.2.1 hd (k_lget hl hv) (kk p l e s m args below meth co D ca ad H locs ls cx hP hD hS hl)
theorem b_lload_n {k : Fin 4} {x : Int64} (hd : decode cc pc = .ok (.lload_n k, 1)) (hv : L.lookup (k : Nat) = some (.long x)) (kk : BS sh own cc n rt fr lo Φ (pc + 1) L (.long x :: st) w) : BS sh own cc n rt fr lo Φ pc L st w := by
  intro p l e s m args below meth co D ca ad H locs ls cx hP hD hS hl
  exact lv_lload_n cx.1 cx.2.1 hd rfl (k_lget hl hv) (kk p l e s m args below meth co D ca ad H locs ls cx hP hD hS hl)
theorem b_lload {k : Nat} {x : Int64} (hd : decode cc pc = .ok (.lload k, 2)) (hv : L.lookup k = some (.long x)) (kk : BS sh own cc n rt fr lo Φ (pc + 2) L (.long x :: st) w) : BS sh own cc n rt fr lo Φ pc L st w := by
  intro p l e s m args below meth co D ca ad H locs ls cx hP hD hS hl
  exact lv_lload cx.1 cx.2.1 hd (k_lget hl hv) (kk p l e s m args below meth co D ca ad H locs ls cx hP hD hS hl)
theorem b_aload_n {k : Fin 4} {x : Nat} (hd : decode cc pc = .ok (.aload_n k, 1)) (hv : L.lookup (k : Nat) = some (.ref x)) (kk : BS sh own cc n rt fr lo Φ (pc + 1) L (.ref x :: st) w) : BS sh own cc n rt fr lo Φ pc L st w := by
  intro p l e s m args below meth co D ca ad H locs ls cx hP hD hS hl
  exact lv_aload_n cx.1 cx.2.1 hd rfl (k_lget hl hv) (kk p l e s m args below meth co D ca ad H locs ls cx hP hD hS hl)
theorem b_aload {k : Nat} {x : Nat} (hd : decode cc pc = .ok (.aload k, 2)) (hv : L.lookup k = some (.ref x)) (kk : BS sh own cc n rt fr lo Φ (pc + 2) L (.ref x :: st) w) : BS sh own cc n rt fr lo Φ pc L st w := by
  intro p l e s m args below meth co D ca ad H locs ls cx hP hD hS hl
  exact lv_aload cx.1 cx.2.1 hd (k_lget hl hv) (kk p l e s m args below meth co D ca ad H locs ls cx hP hD hS hl)
theorem b_aload_nN {k : Fin 4} (hd : decode cc pc = .ok (.aload_n k, 1)) (hv : L.lookup (k : Nat) = some .null) (kk : BS sh own cc n rt fr lo Φ (pc + 1) L (.null :: st) w) : BS sh own cc n rt fr lo Φ pc L st w := by
  intro p l e s m args below meth co D ca ad H locs ls cx hP hD hS hl
  exact lv_aload_nN cx.1 cx.2.1 hd rfl (k_lget hl hv) (kk p l e s m args below meth co D ca ad H locs ls cx hP hD hS hl)
theorem b_aloadN {k : Nat} (hd : decode cc pc = .ok (.aload k, 2)) (hv : L.lookup k = some .null) (kk : BS sh own cc n rt fr lo Φ (pc + 2) L (.null :: st) w) : BS sh own cc n rt fr lo Φ pc L st w := by
  intro p l e s m args below meth co D ca ad H locs ls cx hP hD hS hl
  exact lv_aloadN cx.1 cx.2.1 hd (k_lget hl hv) (kk p l e s m args below meth co D ca ad H locs ls cx hP hD hS hl)
theorem b_istore_n {k : Fin 4} {x : Int32} (hd : decode cc pc = .ok (.istore_n k, 1)) (hn : (k : Nat) < n) (kk : BS sh own cc n rt fr lo Φ (pc + 1) (k_st1 L k (.int x)) st w) : BS sh own cc n rt fr lo Φ pc L (.int x :: st) w := by
  intro p l e s m args below meth co D ca ad H locs ls cx hP hD hS hl
  exact lv_istore_n cx.1 cx.2.1 hd rfl hl hn (k_st1_L ad k (.int x)) (fun ls9 hl9 => kk p l e s m args below meth co D ca ad H locs ls9 cx hP hD hS hl9)
theorem b_istore {k : Nat} {x : Int32} (hd : decode cc pc = .ok (.istore k, 2)) (hn : k < n) (kk : BS sh own cc n rt fr lo Φ (pc + 2) (k_st1 L k (.int x)) st w) : BS sh own cc n rt fr lo Φ pc L (.int x :: st) w := by
  intro p l e s m args below meth co D ca ad H locs ls cx hP hD hS hl
  exact lv_istore cx.1 cx.2.1 hd hl hn (k_st1_L ad k (.int x)) (fun ls9 hl9 => kk p l e s m args below meth co D ca ad H locs ls9 cx hP hD hS hl9)
theorem b_lstore_n {k : Fin 4} {x : Int64} (hd : decode cc pc = .ok (.lstore_n k, 1)) (hn : (k : Nat) + 1 < n) (kk : BS sh own cc n rt fr lo Φ (pc + 1) (k_st2 L k (.long x)) st w) : BS sh own cc n rt fr lo Φ pc L (.long x :: st) w := by
  intro p l e s m args below meth co D ca ad H locs ls cx hP hD hS hl
  exact lv_lstore_n cx.1 cx.2.1 hd rfl hl hn (k_st2_L ad k (.long x)) (fun ls9 hl9 => kk p l e s m args below meth co D ca ad H locs ls9 cx hP hD hS hl9)
theorem b_lstore {k : Nat} {x : Int64} (hd : decode cc pc = .ok (.lstore k, 2)) (hn : k + 1 < n) (kk : BS sh own cc n rt fr lo Φ (pc + 2) (k_st2 L k (.long x)) st w) : BS sh own cc n rt fr lo Φ pc L (.long x :: st) w := by
  intro p l e s m args below meth co D ca ad H locs ls cx hP hD hS hl
  exact lv_lstore cx.1 cx.2.1 hd hl hn (k_st2_L ad k (.long x)) (fun ls9 hl9 => kk p l e s m args below meth co D ca ad H locs ls9 cx hP hD hS hl9)
theorem b_astore_n {k : Fin 4} {x : Nat} (hd : decode cc pc = .ok (.astore_n k, 1)) (hn : (k : Nat) < n) (kk : BS sh own cc n rt fr lo Φ (pc + 1) (k_st1 L k (.ref x)) st w) : BS sh own cc n rt fr lo Φ pc L (.ref x :: st) w := by
  intro p l e s m args below meth co D ca ad H locs ls cx hP hD hS hl
  exact lv_astore_n cx.1 cx.2.1 hd rfl hl hn (k_st1_L ad k (.ref x)) (fun ls9 hl9 => kk p l e s m args below meth co D ca ad H locs ls9 cx hP hD hS hl9)
theorem b_astore {k : Nat} {x : Nat} (hd : decode cc pc = .ok (.astore k, 2)) (hn : k < n) (kk : BS sh own cc n rt fr lo Φ (pc + 2) (k_st1 L k (.ref x)) st w) : BS sh own cc n rt fr lo Φ pc L (.ref x :: st) w := by
  intro p l e s m args below meth co D ca ad H locs ls cx hP hD hS hl
  exact lv_astore cx.1 cx.2.1 hd hl hn (k_st1_L ad k (.ref x)) (fun ls9 hl9 => kk p l e s m args below meth co D ca ad H locs ls9 cx hP hD hS hl9)
theorem b_astore_nN {k : Fin 4} (hd : decode cc pc = .ok (.astore_n k, 1)) (hn : (k : Nat) < n) (kk : BS sh own cc n rt fr lo Φ (pc + 1) (k_st1 L k .null) st w) : BS sh own cc n rt fr lo Φ pc L (.null :: st) w := by
  intro p l e s m args below meth co D ca ad H locs ls cx hP hD hS hl
  exact lv_astore_nN cx.1 cx.2.1 hd rfl hl hn (k_st1_L ad k .null) (fun ls9 hl9 => kk p l e s m args below meth co D ca ad H locs ls9 cx hP hD hS hl9)
theorem b_astoreN {k : Nat} (hd : decode cc pc = .ok (.astore k, 2)) (hn : k < n) (kk : BS sh own cc n rt fr lo Φ (pc + 2) (k_st1 L k .null) st w) : BS sh own cc n rt fr lo Φ pc L (.null :: st) w := by
  intro p l e s m args below meth co D ca ad H locs ls cx hP hD hS hl
  exact lv_astoreN cx.1 cx.2.1 hd hl hn (k_st1_L ad k .null) (fun ls9 hl9 => kk p l e s m args below meth co D ca ad H locs ls9 cx hP hD hS hl9)
theorem b_iinc {k : Nat} {d : Int} {x v : Int32} (hd : decode cc pc = .ok (.iinc k d, 3)) (hv : L.lookup k = some (.int x)) (he : x + Int32.ofInt d = v) (hn : k < n) (kk : BS sh own cc n rt fr lo Φ (pc + 3) (k_st1 L k (.int v)) st w) : BS sh own cc n rt fr lo Φ pc L st w := by
  intro p l e s m args below meth co D ca ad H locs ls cx hP hD hS hl
  have hm : ls[k]? = some (.val (k_v ad (.int x))) := k_lget hl hv
  obtain ⟨j, hj⟩ : ∃ j, ((k, Value.int x) :: k_L ad L)[j]? = some (k, Value.int x) := ⟨0, rfl⟩
  have hl2 : lv_has ls n ((k, Value.int x) :: k_L ad L) := ⟨hl.1, hl.2.1, fun q hq => by
    rcases List.mem_cons.mp hq with h | h
    · rw [h]; exact hm
    · exact hl.2.2 q h⟩
  refine lv_iinc cx.1 cx.2.1 hd hl2 hj he hn (lv' := k_L ad (k_st1 L k (.int v))) ?_ (fun ls9 hl9 => kk p l e s m args below meth co D ca ad H locs ls9 cx hP hD hS hl9)
  rw [← k_st1_L ad k (.int v), List.filter_cons_of_neg (by simp)]
  rfl
theorem b_iadd {x y : Int32} (hd : decode cc pc = .ok (.iadd, 1)) (kk : BS sh own cc n rt fr lo Φ (pc + 1) L (.int (x + y) :: st) w) : BS sh own cc n rt fr lo Φ pc L (.int y :: .int x :: st) w := by
  intro p l e s m args below meth co D ca ad H locs ls cx hP hD hS hl
  exact lv_iadd cx.1 cx.2.1 hd (kk p l e s m args below meth co D ca ad H locs ls cx hP hD hS hl)
theorem b_isub {x y : Int32} (hd : decode cc pc = .ok (.isub, 1)) (kk : BS sh own cc n rt fr lo Φ (pc + 1) L (.int (x - y) :: st) w) : BS sh own cc n rt fr lo Φ pc L (.int y :: .int x :: st) w := by
  intro p l e s m args below meth co D ca ad H locs ls cx hP hD hS hl
  exact lv_isub cx.1 cx.2.1 hd (kk p l e s m args below meth co D ca ad H locs ls cx hP hD hS hl)
theorem b_imul {x y : Int32} (hd : decode cc pc = .ok (.imul, 1)) (kk : BS sh own cc n rt fr lo Φ (pc + 1) L (.int (x * y) :: st) w) : BS sh own cc n rt fr lo Φ pc L (.int y :: .int x :: st) w := by
  intro p l e s m args below meth co D ca ad H locs ls cx hP hD hS hl
  exact lv_imul cx.1 cx.2.1 hd (kk p l e s m args below meth co D ca ad H locs ls cx hP hD hS hl)
theorem b_iand {x y : Int32} (hd : decode cc pc = .ok (.iand, 1)) (kk : BS sh own cc n rt fr lo Φ (pc + 1) L (.int (x &&& y) :: st) w) : BS sh own cc n rt fr lo Φ pc L (.int y :: .int x :: st) w := by
  intro p l e s m args below meth co D ca ad H locs ls cx hP hD hS hl
  exact lv_iand cx.1 cx.2.1 hd (kk p l e s m args below meth co D ca ad H locs ls cx hP hD hS hl)
theorem b_ior {x y : Int32} (hd : decode cc pc = .ok (.ior, 1)) (kk : BS sh own cc n rt fr lo Φ (pc + 1) L (.int (x ||| y) :: st) w) : BS sh own cc n rt fr lo Φ pc L (.int y :: .int x :: st) w := by
  intro p l e s m args below meth co D ca ad H locs ls cx hP hD hS hl
  exact lv_ior cx.1 cx.2.1 hd (kk p l e s m args below meth co D ca ad H locs ls cx hP hD hS hl)
theorem b_ixor {x y : Int32} (hd : decode cc pc = .ok (.ixor, 1)) (kk : BS sh own cc n rt fr lo Φ (pc + 1) L (.int (x ^^^ y) :: st) w) : BS sh own cc n rt fr lo Φ pc L (.int y :: .int x :: st) w := by
  intro p l e s m args below meth co D ca ad H locs ls cx hP hD hS hl
  exact lv_ixor cx.1 cx.2.1 hd (kk p l e s m args below meth co D ca ad H locs ls cx hP hD hS hl)
theorem b_ishl {x y : Int32} (hd : decode cc pc = .ok (.ishl, 1)) (kk : BS sh own cc n rt fr lo Φ (pc + 1) L (.int (x <<< (y &&& 31)) :: st) w) : BS sh own cc n rt fr lo Φ pc L (.int y :: .int x :: st) w := by
  intro p l e s m args below meth co D ca ad H locs ls cx hP hD hS hl
  exact lv_ishl cx.1 cx.2.1 hd (kk p l e s m args below meth co D ca ad H locs ls cx hP hD hS hl)
theorem b_ishr {x y : Int32} (hd : decode cc pc = .ok (.ishr, 1)) (kk : BS sh own cc n rt fr lo Φ (pc + 1) L (.int (x >>> (y &&& 31)) :: st) w) : BS sh own cc n rt fr lo Φ pc L (.int y :: .int x :: st) w := by
  intro p l e s m args below meth co D ca ad H locs ls cx hP hD hS hl
  exact lv_ishr cx.1 cx.2.1 hd (kk p l e s m args below meth co D ca ad H locs ls cx hP hD hS hl)
theorem b_idiv {x y : Int32} (hd : decode cc pc = .ok (.idiv, 1)) (hne : ¬ y = 0) (kk : BS sh own cc n rt fr lo Φ (pc + 1) L (.int (x / y) :: st) w) : BS sh own cc n rt fr lo Φ pc L (.int y :: .int x :: st) w := by
  intro p l e s m args below meth co D ca ad H locs ls cx hP hD hS hl
  exact lv_idiv cx.1 cx.2.1 hd hne (kk p l e s m args below meth co D ca ad H locs ls cx hP hD hS hl)
theorem b_irem {x y : Int32} (hd : decode cc pc = .ok (.irem, 1)) (hne : ¬ y = 0) (kk : BS sh own cc n rt fr lo Φ (pc + 1) L (.int (x - x / y * y) :: st) w) : BS sh own cc n rt fr lo Φ pc L (.int y :: .int x :: st) w := by
  intro p l e s m args below meth co D ca ad H locs ls cx hP hD hS hl
  exact lv_irem cx.1 cx.2.1 hd hne (kk p l e s m args below meth co D ca ad H locs ls cx hP hD hS hl)
theorem b_ladd {x y : Int64} (hd : decode cc pc = .ok (.ladd, 1)) (kk : BS sh own cc n rt fr lo Φ (pc + 1) L (.long (x + y) :: st) w) : BS sh own cc n rt fr lo Φ pc L (.long y :: .long x :: st) w := by
  intro p l e s m args below meth co D ca ad H locs ls cx hP hD hS hl
  exact lv_ladd cx.1 cx.2.1 hd (kk p l e s m args below meth co D ca ad H locs ls cx hP hD hS hl)
theorem b_land {x y : Int64} (hd : decode cc pc = .ok (.land, 1)) (kk : BS sh own cc n rt fr lo Φ (pc + 1) L (.long (x &&& y) :: st) w) : BS sh own cc n rt fr lo Φ pc L (.long y :: .long x :: st) w := by
  intro p l e s m args below meth co D ca ad H locs ls cx hP hD hS hl
  exact lv_land cx.1 cx.2.1 hd (kk p l e s m args below meth co D ca ad H locs ls cx hP hD hS hl)
theorem b_lor {x y : Int64} (hd : decode cc pc = .ok (.lor, 1)) (kk : BS sh own cc n rt fr lo Φ (pc + 1) L (.long (x ||| y) :: st) w) : BS sh own cc n rt fr lo Φ pc L (.long y :: .long x :: st) w := by
  intro p l e s m args below meth co D ca ad H locs ls cx hP hD hS hl
  exact lv_lor cx.1 cx.2.1 hd (kk p l e s m args below meth co D ca ad H locs ls cx hP hD hS hl)
theorem b_ldiv {x y : Int64} (hd : decode cc pc = .ok (.ldiv, 1)) (hne : ¬ y = 0) (kk : BS sh own cc n rt fr lo Φ (pc + 1) L (.long (x / y) :: st) w) : BS sh own cc n rt fr lo Φ pc L (.long y :: .long x :: st) w := by
  intro p l e s m args below meth co D ca ad H locs ls cx hP hD hS hl
  exact lv_ldiv cx.1 cx.2.1 hd hne (kk p l e s m args below meth co D ca ad H locs ls cx hP hD hS hl)
theorem b_lrem {x y : Int64} (hd : decode cc pc = .ok (.lrem, 1)) (hne : ¬ y = 0) (kk : BS sh own cc n rt fr lo Φ (pc + 1) L (.long (x - x / y * y) :: st) w) : BS sh own cc n rt fr lo Φ pc L (.long y :: .long x :: st) w := by
  intro p l e s m args below meth co D ca ad H locs ls cx hP hD hS hl
  exact lv_lrem cx.1 cx.2.1 hd hne (kk p l e s m args below meth co D ca ad H locs ls cx hP hD hS hl)
theorem b_lcmp {x y : Int64} (hd : decode cc pc = .ok (.lcmp, 1)) (kk : BS sh own cc n rt fr lo Φ (pc + 1) L (.int (lg_cmp x y) :: st) w) : BS sh own cc n rt fr lo Φ pc L (.long y :: .long x :: st) w := by
  intro p l e s m args below meth co D ca ad H locs ls cx hP hD hS hl
  exact W.lcmp cx.1 cx.2.1 hd (kk p l e s m args below meth co D ca ad H locs ls cx hP hD hS hl)
theorem b_lshl {x : Int64} {y : Int32} (hd : decode cc pc = .ok (.lshl, 1)) (kk : BS sh own cc n rt fr lo Φ (pc + 1) L (.long (x <<< (y.toInt64 &&& 63)) :: st) w) : BS sh own cc n rt fr lo Φ pc L (.int y :: .long x :: st) w := by
  intro p l e s m args below meth co D ca ad H locs ls cx hP hD hS hl
  exact lv_lshl cx.1 cx.2.1 hd rfl (kk p l e s m args below meth co D ca ad H locs ls cx hP hD hS hl)
theorem b_lshr {x : Int64} {y : Int32} (hd : decode cc pc = .ok (.lshr, 1)) (kk : BS sh own cc n rt fr lo Φ (pc + 1) L (.long (x >>> (y.toInt64 &&& 63)) :: st) w) : BS sh own cc n rt fr lo Φ pc L (.int y :: .long x :: st) w := by
  intro p l e s m args below meth co D ca ad H locs ls cx hP hD hS hl
  exact lv_lshr cx.1 cx.2.1 hd rfl (kk p l e s m args below meth co D ca ad H locs ls cx hP hD hS hl)
theorem b_iushr {x y : Int32} (hd : decode cc pc = .ok (.iushr, 1)) (kk : BS sh own cc n rt fr lo Φ (pc + 1) L (.int (x.toUInt32 >>> (y.toUInt32 &&& Int32.toUInt32 31)).toInt32 :: st) w) : BS sh own cc n rt fr lo Φ pc L (.int y :: .int x :: st) w := by
  intro p l e s m args below meth co D ca ad H locs ls cx hP hD hS hl
  exact lv_iushr cx.1 cx.2.1 hd rfl (kk p l e s m args below meth co D ca ad H locs ls cx hP hD hS hl)
theorem b_i2l {x : Int32} (hd : decode cc pc = .ok (.i2l, 1)) (kk : BS sh own cc n rt fr lo Φ (pc + 1) L (.long x.toInt64 :: st) w) : BS sh own cc n rt fr lo Φ pc L (.int x :: st) w := by
  intro p l e s m args below meth co D ca ad H locs ls cx hP hD hS hl
  exact lv_i2l cx.1 cx.2.1 hd rfl (kk p l e s m args below meth co D ca ad H locs ls cx hP hD hS hl)
theorem b_i2b {x : Int32} (hd : decode cc pc = .ok (.i2b, 1)) (kk : BS sh own cc n rt fr lo Φ (pc + 1) L (.int x.toInt8.toInt32 :: st) w) : BS sh own cc n rt fr lo Φ pc L (.int x :: st) w := by
  intro p l e s m args below meth co D ca ad H locs ls cx hP hD hS hl
  exact lv_i2b cx.1 cx.2.1 hd rfl (kk p l e s m args below meth co D ca ad H locs ls cx hP hD hS hl)
theorem b_i2s {x : Int32} (hd : decode cc pc = .ok (.i2s, 1)) (kk : BS sh own cc n rt fr lo Φ (pc + 1) L (.int x.toInt16.toInt32 :: st) w) : BS sh own cc n rt fr lo Φ pc L (.int x :: st) w := by
  intro p l e s m args below meth co D ca ad H locs ls cx hP hD hS hl
  exact lv_i2s cx.1 cx.2.1 hd rfl (kk p l e s m args below meth co D ca ad H locs ls cx hP hD hS hl)
theorem b_dup {v : Value} (hd : decode cc pc = .ok (.dup, 1)) (hv : v.category = 1) (kk : BS sh own cc n rt fr lo Φ (pc + 1) L (v :: v :: st) w) : BS sh own cc n rt fr lo Φ pc L (v :: st) w := by
  intro p l e s m args below meth co D ca ad H locs ls cx hP hD hS hl
  exact lv_dup cx.1 cx.2.1 hd (by rw [k_v_cat]; exact hv) (kk p l e s m args below meth co D ca ad H locs ls cx hP hD hS hl)
theorem b_if_eq {x : Int32} {off : Int} {tgt : Nat} (hd : decode cc pc = .ok (.ifCond .eq off, 3)) (ht : (pc : Int) + off = (tgt : Int)) (kt : x = 0 → BS sh own cc n rt fr lo Φ tgt L st w) (kf : ¬ x = 0 → BS sh own cc n rt fr lo Φ (pc + 3) L st w) : BS sh own cc n rt fr lo Φ pc L (.int x :: st) w := by
  intro p l e s m args below meth co D ca ad H locs ls cx hP hD hS hl
  exact lv_if_eq cx.1 cx.2.1 hd ht (fun h9 => kt h9 p l e s m args below meth co D ca ad H locs ls cx hP hD hS hl) (fun h9 => kf h9 p l e s m args below meth co D ca ad H locs ls cx hP hD hS hl)
theorem b_icmp_eq {x y : Int32} {off : Int} {tgt : Nat} (hd : decode cc pc = .ok (.if_icmp .eq off, 3)) (ht : (pc : Int) + off = (tgt : Int)) (kt : x = y → BS sh own cc n rt fr lo Φ tgt L st w) (kf : ¬ x = y → BS sh own cc n rt fr lo Φ (pc + 3) L st w) : BS sh own cc n rt fr lo Φ pc L (.int y :: .int x :: st) w := by
  intro p l e s m args below meth co D ca ad H locs ls cx hP hD hS hl
  exact lv_icmp_eq cx.1 cx.2.1 hd ht (fun h9 => kt h9 p l e s m args below meth co D ca ad H locs ls cx hP hD hS hl) (fun h9 => kf h9 p l e s m args below meth co D ca ad H locs ls cx hP hD hS hl)
theorem b_if_ne {x : Int32} {off : Int} {tgt : Nat} (hd : decode cc pc = .ok (.ifCond .ne off, 3)) (ht : (pc : Int) + off = (tgt : Int)) (kt : ¬ x = 0 → BS sh own cc n rt fr lo Φ tgt L st w) (kf : x = 0 → BS sh own cc n rt fr lo Φ (pc + 3) L st w) : BS sh own cc n rt fr lo Φ pc L (.int x :: st) w := by
  intro p l e s m args below meth co D ca ad H locs ls cx hP hD hS hl
  exact lv_if_ne cx.1 cx.2.1 hd ht (fun h9 => kt h9 p l e s m args below meth co D ca ad H locs ls cx hP hD hS hl) (fun h9 => kf h9 p l e s m args below meth co D ca ad H locs ls cx hP hD hS hl)
theorem b_icmp_ne {x y : Int32} {off : Int} {tgt : Nat} (hd : decode cc pc = .ok (.if_icmp .ne off, 3)) (ht : (pc : Int) + off = (tgt : Int)) (kt : ¬ x = y → BS sh own cc n rt fr lo Φ tgt L st w) (kf : x = y → BS sh own cc n rt fr lo Φ (pc + 3) L st w) : BS sh own cc n rt fr lo Φ pc L (.int y :: .int x :: st) w := by
  intro p l e s m args below meth co D ca ad H locs ls cx hP hD hS hl
  exact lv_icmp_ne cx.1 cx.2.1 hd ht (fun h9 => kt h9 p l e s m args below meth co D ca ad H locs ls cx hP hD hS hl) (fun h9 => kf h9 p l e s m args below meth co D ca ad H locs ls cx hP hD hS hl)
theorem b_if_lt {x : Int32} {off : Int} {tgt : Nat} (hd : decode cc pc = .ok (.ifCond .lt off, 3)) (ht : (pc : Int) + off = (tgt : Int)) (kt : x < 0 → BS sh own cc n rt fr lo Φ tgt L st w) (kf : ¬ x < 0 → BS sh own cc n rt fr lo Φ (pc + 3) L st w) : BS sh own cc n rt fr lo Φ pc L (.int x :: st) w := by
  intro p l e s m args below meth co D ca ad H locs ls cx hP hD hS hl
  exact lv_if_lt cx.1 cx.2.1 hd ht (fun h9 => kt h9 p l e s m args below meth co D ca ad H locs ls cx hP hD hS hl) (fun h9 => kf h9 p l e s m args below meth co D ca ad H locs ls cx hP hD hS hl)
theorem b_icmp_lt {x y : Int32} {off : Int} {tgt : Nat} (hd : decode cc pc = .ok (.if_icmp .lt off, 3)) (ht : (pc : Int) + off = (tgt : Int)) (kt : x < y → BS sh own cc n rt fr lo Φ tgt L st w) (kf : ¬ x < y → BS sh own cc n rt fr lo Φ (pc + 3) L st w) : BS sh own cc n rt fr lo Φ pc L (.int y :: .int x :: st) w := by
  intro p l e s m args below meth co D ca ad H locs ls cx hP hD hS hl
  exact lv_icmp_lt cx.1 cx.2.1 hd ht (fun h9 => kt h9 p l e s m args below meth co D ca ad H locs ls cx hP hD hS hl) (fun h9 => kf h9 p l e s m args below meth co D ca ad H locs ls cx hP hD hS hl)
theorem b_if_ge {x : Int32} {off : Int} {tgt : Nat} (hd : decode cc pc = .ok (.ifCond .ge off, 3)) (ht : (pc : Int) + off = (tgt : Int)) (kt : 0 ≤ x → BS sh own cc n rt fr lo Φ tgt L st w) (kf : ¬ 0 ≤ x → BS sh own cc n rt fr lo Φ (pc + 3) L st w) : BS sh own cc n rt fr lo Φ pc L (.int x :: st) w := by
  intro p l e s m args below meth co D ca ad H locs ls cx hP hD hS hl
  exact lv_if_ge cx.1 cx.2.1 hd ht (fun h9 => kt h9 p l e s m args below meth co D ca ad H locs ls cx hP hD hS hl) (fun h9 => kf h9 p l e s m args below meth co D ca ad H locs ls cx hP hD hS hl)
theorem b_icmp_ge {x y : Int32} {off : Int} {tgt : Nat} (hd : decode cc pc = .ok (.if_icmp .ge off, 3)) (ht : (pc : Int) + off = (tgt : Int)) (kt : y ≤ x → BS sh own cc n rt fr lo Φ tgt L st w) (kf : ¬ y ≤ x → BS sh own cc n rt fr lo Φ (pc + 3) L st w) : BS sh own cc n rt fr lo Φ pc L (.int y :: .int x :: st) w := by
  intro p l e s m args below meth co D ca ad H locs ls cx hP hD hS hl
  exact lv_icmp_ge cx.1 cx.2.1 hd ht (fun h9 => kt h9 p l e s m args below meth co D ca ad H locs ls cx hP hD hS hl) (fun h9 => kf h9 p l e s m args below meth co D ca ad H locs ls cx hP hD hS hl)
theorem b_if_gt {x : Int32} {off : Int} {tgt : Nat} (hd : decode cc pc = .ok (.ifCond .gt off, 3)) (ht : (pc : Int) + off = (tgt : Int)) (kt : 0 < x → BS sh own cc n rt fr lo Φ tgt L st w) (kf : ¬ 0 < x → BS sh own cc n rt fr lo Φ (pc + 3) L st w) : BS sh own cc n rt fr lo Φ pc L (.int x :: st) w := by
  intro p l e s m args below meth co D ca ad H locs ls cx hP hD hS hl
  exact lv_if_gt cx.1 cx.2.1 hd ht (fun h9 => kt h9 p l e s m args below meth co D ca ad H locs ls cx hP hD hS hl) (fun h9 => kf h9 p l e s m args below meth co D ca ad H locs ls cx hP hD hS hl)
theorem b_icmp_gt {x y : Int32} {off : Int} {tgt : Nat} (hd : decode cc pc = .ok (.if_icmp .gt off, 3)) (ht : (pc : Int) + off = (tgt : Int)) (kt : y < x → BS sh own cc n rt fr lo Φ tgt L st w) (kf : ¬ y < x → BS sh own cc n rt fr lo Φ (pc + 3) L st w) : BS sh own cc n rt fr lo Φ pc L (.int y :: .int x :: st) w := by
  intro p l e s m args below meth co D ca ad H locs ls cx hP hD hS hl
  exact lv_icmp_gt cx.1 cx.2.1 hd ht (fun h9 => kt h9 p l e s m args below meth co D ca ad H locs ls cx hP hD hS hl) (fun h9 => kf h9 p l e s m args below meth co D ca ad H locs ls cx hP hD hS hl)
theorem b_if_le {x : Int32} {off : Int} {tgt : Nat} (hd : decode cc pc = .ok (.ifCond .le off, 3)) (ht : (pc : Int) + off = (tgt : Int)) (kt : x ≤ 0 → BS sh own cc n rt fr lo Φ tgt L st w) (kf : ¬ x ≤ 0 → BS sh own cc n rt fr lo Φ (pc + 3) L st w) : BS sh own cc n rt fr lo Φ pc L (.int x :: st) w := by
  intro p l e s m args below meth co D ca ad H locs ls cx hP hD hS hl
  exact lv_if_le cx.1 cx.2.1 hd ht (fun h9 => kt h9 p l e s m args below meth co D ca ad H locs ls cx hP hD hS hl) (fun h9 => kf h9 p l e s m args below meth co D ca ad H locs ls cx hP hD hS hl)
theorem b_icmp_le {x y : Int32} {off : Int} {tgt : Nat} (hd : decode cc pc = .ok (.if_icmp .le off, 3)) (ht : (pc : Int) + off = (tgt : Int)) (kt : x ≤ y → BS sh own cc n rt fr lo Φ tgt L st w) (kf : ¬ x ≤ y → BS sh own cc n rt fr lo Φ (pc + 3) L st w) : BS sh own cc n rt fr lo Φ pc L (.int y :: .int x :: st) w := by
  intro p l e s m args below meth co D ca ad H locs ls cx hP hD hS hl
  exact lv_icmp_le cx.1 cx.2.1 hd ht (fun h9 => kt h9 p l e s m args below meth co D ca ad H locs ls cx hP hD hS hl) (fun h9 => kf h9 p l e s m args below meth co D ca ad H locs ls cx hP hD hS hl)
theorem b_goto {off : Int} {tgt : Nat} (hd : decode cc pc = .ok (.goto off, 3)) (ht : (pc : Int) + off = (tgt : Int)) (kk : BS sh own cc n rt fr lo Φ tgt L st w) : BS sh own cc n rt fr lo Φ pc L st w := by
  intro p l e s m args below meth co D ca ad H locs ls cx hP hD hS hl
  exact lv_goto cx.1 cx.2.1 hd ht (kk p l e s m args below meth co D ca ad H locs ls cx hP hD hS hl)
theorem b_ifnull {x : Nat} {off : Int} (hd : decode cc pc = .ok (.ifnull off, 3)) (kk : BS sh own cc n rt fr lo Φ (pc + 3) L st w) : BS sh own cc n rt fr lo Φ pc L (.ref x :: st) w := by
  intro p l e s m args below meth co D ca ad H locs ls cx hP hD hS hl
  exact lv_ifnull cx.1 cx.2.1 hd (kk p l e s m args below meth co D ca ad H locs ls cx hP hD hS hl)
theorem b_ifnullN {off : Int} {tgt : Nat} (hd : decode cc pc = .ok (.ifnull off, 3)) (ht : (pc : Int) + off = (tgt : Int)) (kk : BS sh own cc n rt fr lo Φ tgt L st w) : BS sh own cc n rt fr lo Φ pc L (.null :: st) w := by
  intro p l e s m args below meth co D ca ad H locs ls cx hP hD hS hl
  exact lv_ifnullN cx.1 cx.2.1 hd ht (kk p l e s m args below meth co D ca ad H locs ls cx hP hD hS hl)
theorem b_ifnonnull {x : Nat} {off : Int} {tgt : Nat} (hd : decode cc pc = .ok (.ifnonnull off, 3)) (ht : (pc : Int) + off = (tgt : Int)) (kk : BS sh own cc n rt fr lo Φ tgt L st w) : BS sh own cc n rt fr lo Φ pc L (.ref x :: st) w := by
  intro p l e s m args below meth co D ca ad H locs ls cx hP hD hS hl
  exact lv_ifnonnull cx.1 cx.2.1 hd ht (kk p l e s m args below meth co D ca ad H locs ls cx hP hD hS hl)
theorem b_ifnonnullN {off : Int} (hd : decode cc pc = .ok (.ifnonnull off, 3)) (kk : BS sh own cc n rt fr lo Φ (pc + 3) L st w) : BS sh own cc n rt fr lo Φ pc L (.null :: st) w := by
  intro p l e s m args below meth co D ca ad H locs ls cx hP hD hS hl
  exact lv_ifnonnullN cx.1 cx.2.1 hd (kk p l e s m args below meth co D ca ad H locs ls cx hP hD hS hl)
theorem b_tsIn {dflt lw hg : Int} {offs : Array Int} {len : Nat} {x : Int32} {off : Int} {tgt : Nat} (hd : decode cc pc = .ok (.tableswitch dflt lw hg offs, len)) (h1 : ¬ x.toInt < lw) (h2 : ¬ hg < x.toInt) (ho : offs[(x.toInt - lw).toNat]? = some off) (ht : (pc : Int) + off = (tgt : Int)) (kk : BS sh own cc n rt fr lo Φ tgt L st w) : BS sh own cc n rt fr lo Φ pc L (.int x :: st) w := by
  intro p l e s m args below meth co D ca ad H locs ls cx hP hD hS hl
  exact lv_tableIn cx.1 cx.2.1 hd h1 h2 ho ht (kk p l e s m args below meth co D ca ad H locs ls cx hP hD hS hl)
theorem b_tsOut {dflt lw hg : Int} {offs : Array Int} {len : Nat} {x : Int32} {tgt : Nat} (hd : decode cc pc = .ok (.tableswitch dflt lw hg offs, len)) (h : x.toInt < lw ∨ hg < x.toInt) (ht : (pc : Int) + dflt = (tgt : Int)) (kk : BS sh own cc n rt fr lo Φ tgt L st w) : BS sh own cc n rt fr lo Φ pc L (.int x :: st) w := by
  intro p l e s m args below meth co D ca ad H locs ls cx hP hD hS hl
  exact lv_tableOut cx.1 cx.2.1 hd h ht (kk p l e s m args below meth co D ca ad H locs ls cx hP hD hS hl)
theorem b_lsw {dflt : Int} {ps : Array (Int × Int)} {len : Nat} {x : Int32} {off : Int} {tgt : Nat} (hd : decode cc pc = .ok (.lookupswitch dflt ps, len)) (hp : (ps.toList.zip (ps.toList.drop 1)).all (fun (a, next) => a.1 < next.1) = true) (ho : Op.lookupswitch.offset ps.toList dflt x.toInt = off) (ht : (pc : Int) + off = (tgt : Int)) (kk : BS sh own cc n rt fr lo Φ tgt L st w) : BS sh own cc n rt fr lo Φ pc L (.int x :: st) w := by
  intro p l e s m args below meth co D ca ad H locs ls cx hP hD hS hl
  exact lv_lookup cx.1 cx.2.1 hd hp ho ht (kk p l e s m args below meth co D ca ad H locs ls cx hP hD hS hl)
/-- field k of kind ci, under the entry ix of own's pool -/
def k_fld (own : String) (ix ci k : Nat) : Prop := ∃ (C : String) (T : u_T) (N : Nat), vwCl[ci]? = some (C, T, N) ∧ (∀ w ∈ u_ws C T N, w ∈ cw) ∧ k < N ∧ Cond.fieldLink own ix (T k).1 (T k).2.1 (T k).2.2.1 ∈ cw
/-- what a store into it wants: its type, not final -/
def k_fst (ci k : Nat) (ty : FieldType) : Prop := ∃ (C : String) (T : u_T) (N : Nat) (t0 : Nat → FieldType), vwCl[ci]? = some (C, T, N) ∧ (∀ a, a < N → parseFieldDescriptor (T a).2.2.1 = some (t0 a)) ∧ (∀ a, a < N → ∀ b, b < N → a ≠ b → (T a).2.1 ≠ (T b).2.1) ∧ t0 k = ty ∧ (T k).2.2.2 = false
theorem k_obj {ad : Nat → Nat} {ca : Nat → ClassId} {c ci : Nat} {fs : List kF} (hc : sh[c]? = some (.inl (ci, fs))) : (k_wd ad ca sh w)[c]? = some (ad c, .inr (ci, fs.mapIdx (fun j f => k_val ad w c j f))) := k_wd_get hc
theorem k_fs {ad : Nat → Nat} {c k : Nat} {fs : List kF} {f : kF} (hf : fs[k]? = some f) : (fs.mapIdx (fun j f => k_val ad w c j f))[k]? = some (k_val ad w c k f) := by
  rw [List.getElem?_mapIdx, hf]; rfl
theorem b_geti {ix c ci k : Nat} {fs : List kF} (hd : decode cc pc = .ok (.getfield ix, 3)) (hF : k_fld own ix ci k) (hc : sh[c]? = some (.inl (ci, fs))) (hf : fs[k]? = some none) (kk : BS sh own cc n rt fr lo Φ (pc + 3) L ((.int (w.1 c k)) :: st) w) : BS sh own cc n rt fr lo Φ pc L (.ref c :: st) w := by
  intro p l e s m args below meth co D ca ad H locs ls cx hP hD hS hl
  obtain ⟨C, T, N, hcl, hin, hk, hlk⟩ := hF
  exact va_get cx.1 cx.2.1 cx.2.2.2.2.1 hin cx.2.2.2.1 cx.2.2.2.2.2.2.2 hP c (k_obj hc) hcl k hk (cx.2.2.2.2.1 _ hlk) (fun x h => h) (k_fs hf) hd (kk p l e s m args below meth co D ca ad H locs ls cx hP hD hS hl)
theorem b_getl {ix c ci k : Nat} {fs : List kF} (hd : decode cc pc = .ok (.getfield ix, 3)) (hF : k_fld own ix ci k) (hc : sh[c]? = some (.inl (ci, fs))) (hf : fs[k]? = some (some none)) (kk : BS sh own cc n rt fr lo Φ (pc + 3) L ((.long (w.2 c k)) :: st) w) : BS sh own cc n rt fr lo Φ pc L (.ref c :: st) w := by
  intro p l e s m args below meth co D ca ad H locs ls cx hP hD hS hl
  obtain ⟨C, T, N, hcl, hin, hk, hlk⟩ := hF
  exact va_get cx.1 cx.2.1 cx.2.2.2.2.1 hin cx.2.2.2.1 cx.2.2.2.2.2.2.2 hP c (k_obj hc) hcl k hk (cx.2.2.2.2.1 _ hlk) (fun x h => h) (k_fs hf) hd (kk p l e s m args below meth co D ca ad H locs ls cx hP hD hS hl)
theorem b_getr {ix c ci k : Nat} {r : Nat} {fs : List kF} (hd : decode cc pc = .ok (.getfield ix, 3)) (hF : k_fld own ix ci k) (hc : sh[c]? = some (.inl (ci, fs))) (hf : fs[k]? = some (some (some r))) (kk : BS sh own cc n rt fr lo Φ (pc + 3) L ((.ref r) :: st) w) : BS sh own cc n rt fr lo Φ pc L (.ref c :: st) w := by
  intro p l e s m args below meth co D ca ad H locs ls cx hP hD hS hl
  obtain ⟨C, T, N, hcl, hin, hk, hlk⟩ := hF
  exact va_get cx.1 cx.2.1 cx.2.2.2.2.1 hin cx.2.2.2.1 cx.2.2.2.2.2.2.2 hP c (k_obj hc) hcl k hk (cx.2.2.2.2.1 _ hlk) (fun x h => h) (k_fs hf) hd (kk p l e s m args below meth co D ca ad H locs ls cx hP hD hS hl)
theorem k_set_i {ad : Nat → Nat} {ca : Nat → ClassId} {c ci k : Nat} {fs : List kF} {v : Int32} (hc : sh[c]? = some (.inl (ci, fs))) (hf : fs[k]? = some none) : (k_wd ad ca sh w).set c (ad c, .inr (ci, (fs.mapIdx (fun j f => k_val ad w c j f)).set k (.int v))) = k_wd ad ca sh (k_up w.1 c k v, w.2) := by
  refine k_wd_set (w := w) (w' := (k_up w.1 c k v, w.2)) hc (fun c' h => k_up_row _ _ _ _ h) (fun _ _ => rfl) ?_
  show Sum.inr (ci, _) = Sum.inr (ci, _)
  congr 2
  apply List.ext_getElem?
  intro i
  have hl := (List.getElem?_eq_some_iff.mp hf).1
  by_cases hi : k = i
  · subst hi
    rw [List.getElem?_set_self (by simpa using hl), List.getElem?_mapIdx, hf]
    simp [k_val, k_up]
  · rw [List.getElem?_set_ne hi, List.getElem?_mapIdx, List.getElem?_mapIdx]
    cases hs : fs[i]? with
    | none => rfl
    | some f =>
      match f with
      | none => simp [k_val, k_up, Ne.symm hi]
      | some none => rfl
      | some (some r) => rfl
theorem k_set_l {ad : Nat → Nat} {ca : Nat → ClassId} {c ci k : Nat} {fs : List kF} {v : Int64} (hc : sh[c]? = some (.inl (ci, fs))) (hf : fs[k]? = some (some none)) : (k_wd ad ca sh w).set c (ad c, .inr (ci, (fs.mapIdx (fun j f => k_val ad w c j f)).set k (.long v))) = k_wd ad ca sh (w.1, k_up w.2 c k v) := by
  refine k_wd_set (w := w) (w' := (w.1, k_up w.2 c k v)) hc (fun _ _ => rfl) (fun c' h => k_up_row _ _ _ _ h) ?_
  show Sum.inr (ci, _) = Sum.inr (ci, _)
  congr 2
  apply List.ext_getElem?
  intro i
  have hl := (List.getElem?_eq_some_iff.mp hf).1
  by_cases hi : k = i
  · subst hi
    rw [List.getElem?_set_self (by simpa using hl), List.getElem?_mapIdx, hf]
    simp [k_val, k_up]
  · rw [List.getElem?_set_ne hi, List.getElem?_mapIdx, List.getElem?_mapIdx]
    cases hs : fs[i]? with
    | none => rfl
    | some f =>
      match f with
      | none => rfl
      | some none => simp [k_val, k_up, Ne.symm hi]
      | some (some r) => rfl
theorem k_arr {ad : Nat → Nat} {ca : Nat → ClassId} {c t N : Nat} (hc : sh[c]? = some (.inr (.inl (t, N)))) : (k_wd ad ca sh w)[c]? = some (ad c, .inl (ca t, N, .inl (w.1 c))) := k_wd_get hc
theorem k_set_a {ad : Nat → Nat} {ca : Nat → ClassId} {c t N i : Nat} {v : Int32} (hc : sh[c]? = some (.inr (.inl (t, N)))) : (k_wd ad ca sh w).set c (ad c, .inl (ca t, N, .inl (upd (w.1 c) i v))) = k_wd ad ca sh (k_up w.1 c i v, w.2) := by
  refine k_wd_set (w := w) (w' := (k_up w.1 c i v, w.2)) hc (fun c' h => k_up_row _ _ _ _ h) (fun _ _ => rfl) ?_
  show Sum.inl (ca t, N, Sum.inl _) = Sum.inl (ca t, N, Sum.inl _)
  refine congrArg (fun f => Sum.inl (ca t, N, Sum.inl f)) ?_
  funext j
  simp [upd, k_up]
theorem b_puti {ix c ci k : Nat} {v : Int32} {fs : List kF} (hd : decode cc pc = .ok (.putfield ix, 3)) (hF : k_fld own ix ci k) (hG : k_fst ci k .int) (hc : sh[c]? = some (.inl (ci, fs))) (hf : fs[k]? = some none) (kk : BS sh own cc n rt fr lo Φ (pc + 3) L st (k_up w.1 c k v, w.2)) : BS sh own cc n rt fr lo Φ pc L (.int v :: .ref c :: st) w := by
  intro p l e s m args below meth co D ca ad H locs ls cx hP hD hS hl
  obtain ⟨C, T, N, hcl, hin, hk, hlk⟩ := hF
  obtain ⟨C', T', N', t0, hcl', hty, hnm, hkt, hfin⟩ := hG
  cases hcl.symm.trans hcl'
  have hl9 : k < (fs.mapIdx (fun j f => k_val ad w c j f)).length := by simpa using (List.getElem?_eq_some_iff.mp hf).1
  refine va_put (ty := .int) cx.1 cx.2.1 cx.2.2.2.2.1 hin t0 hty hnm cx.2.2.2.1 cx.2.2.2.2.2.2.2 hP hD hS c (k_obj hc) hcl k hk (cx.2.2.2.2.1 _ hlk) (fun x h => h) hfin (by rw [hty k hk, hkt]) rfl rfl hl9 hd (fun H1 locs1 hP1 hD1 hS1 => ?_)
  have e9 := k_set_i (w := w) (ad := ad) (ca := ca) (v := v) hc hf
  exact kk p l e s m args below meth co D ca ad H1 locs1 ls cx (e9 ▸ hP1) (k_D_self hD) hS1 hl
theorem b_putz {ix c ci k : Nat} {v : Int32} {fs : List kF} (hd : decode cc pc = .ok (.putfield ix, 3)) (hF : k_fld own ix ci k) (hG : k_fst ci k .boolean) (hc : sh[c]? = some (.inl (ci, fs))) (hf : fs[k]? = some none) (hv : v = 0 ∨ v = 1) (kk : BS sh own cc n rt fr lo Φ (pc + 3) L st (k_up w.1 c k v, w.2)) : BS sh own cc n rt fr lo Φ pc L (.int v :: .ref c :: st) w := by
  intro p l e s m args below meth co D ca ad H locs ls cx hP hD hS hl
  obtain ⟨C, T, N, hcl, hin, hk, hlk⟩ := hF
  obtain ⟨C', T', N', t0, hcl', hty, hnm, hkt, hfin⟩ := hG
  cases hcl.symm.trans hcl'
  have hl9 : k < (fs.mapIdx (fun j f => k_val ad w c j f)).length := by simpa using (List.getElem?_eq_some_iff.mp hf).1
  refine va_put (ty := .boolean) cx.1 cx.2.1 cx.2.2.2.2.1 hin t0 hty hnm cx.2.2.2.1 cx.2.2.2.2.2.2.2 hP hD hS c (k_obj hc) hcl k hk (cx.2.2.2.2.1 _ hlk) (fun x h => h) hfin (by rw [hty k hk, hkt]) (by rcases hv with rfl | rfl <;> rfl) (by rcases hv with rfl | rfl <;> rfl) hl9 hd (fun H1 locs1 hP1 hD1 hS1 => ?_)
  have e9 := k_set_i (w := w) (ad := ad) (ca := ca) (v := v) hc hf
  exact kk p l e s m args below meth co D ca ad H1 locs1 ls cx (e9 ▸ hP1) (k_D_self hD) hS1 hl
theorem b_putl {ix c ci k : Nat} {v : Int64} {fs : List kF} (hd : decode cc pc = .ok (.putfield ix, 3)) (hF : k_fld own ix ci k) (hG : k_fst ci k .long) (hc : sh[c]? = some (.inl (ci, fs))) (hf : fs[k]? = some (some none)) (kk : BS sh own cc n rt fr lo Φ (pc + 3) L st (w.1, k_up w.2 c k v)) : BS sh own cc n rt fr lo Φ pc L (.long v :: .ref c :: st) w := by
  intro p l e s m args below meth co D ca ad H locs ls cx hP hD hS hl
  obtain ⟨C, T, N, hcl, hin, hk, hlk⟩ := hF
  obtain ⟨C', T', N', t0, hcl', hty, hnm, hkt, hfin⟩ := hG
  cases hcl.symm.trans hcl'
  have hl9 : k < (fs.mapIdx (fun j f => k_val ad w c j f)).length := by simpa using (List.getElem?_eq_some_iff.mp hf).1
  refine va_put (ty := .long) cx.1 cx.2.1 cx.2.2.2.2.1 hin t0 hty hnm cx.2.2.2.1 cx.2.2.2.2.2.2.2 hP hD hS c (k_obj hc) hcl k hk (cx.2.2.2.2.1 _ hlk) (fun x h => h) hfin (by rw [hty k hk, hkt]) rfl rfl hl9 hd (fun H1 locs1 hP1 hD1 hS1 => ?_)
  have e9 := k_set_l (w := w) (ad := ad) (ca := ca) (v := v) hc hf
  exact kk p l e s m args below meth co D ca ad H1 locs1 ls cx (e9 ▸ hP1) (k_D_self hD) hS1 hl
theorem b_iald {c N : Nat} {i : Int32} (hd : decode cc pc = .ok (.iaload, 1)) (hc : sh[c]? = some (.inr (.inl (0, N)))) (hi : vp_in i N) (kk : BS sh own cc n rt fr lo Φ (pc + 1) L (.int (w.1 c i.toNatClampNeg) :: st) w) : BS sh own cc n rt fr lo Φ pc L (.int i :: .ref c :: st) w := by
  intro p l e s m args below meth co D ca ad H locs ls cx hP hD hS hl
  exact va_iald cx.1 cx.2.1 cx.2.2.2.2.2.2.2 hP c 0 (k_arr hc) rfl hi hd (kk p l e s m args below meth co D ca ad H locs ls cx hP hD hS hl)
theorem b_zald {c N : Nat} {i : Int32} (hd : decode cc pc = .ok (.baload, 1)) (hc : sh[c]? = some (.inr (.inl (1, N)))) (hi : vp_in i N) (kk : BS sh own cc n rt fr lo Φ (pc + 1) L (.int (w.1 c i.toNatClampNeg) :: st) w) : BS sh own cc n rt fr lo Φ pc L (.int i :: .ref c :: st) w := by
  intro p l e s m args below meth co D ca ad H locs ls cx hP hD hS hl
  exact va_zald cx.1 cx.2.1 cx.2.2.2.2.2.2.2 hP c 1 (k_arr hc) rfl hi hd (kk p l e s m args below meth co D ca ad H locs ls cx hP hD hS hl)
theorem b_iast {c N : Nat} {i x : Int32} (hd : decode cc pc = .ok (.iastore, 1)) (hc : sh[c]? = some (.inr (.inl (0, N)))) (hi : vp_in i N) (kk : BS sh own cc n rt fr lo Φ (pc + 1) L st (k_up w.1 c i.toNatClampNeg x, w.2)) : BS sh own cc n rt fr lo Φ pc L (.int x :: .int i :: .ref c :: st) w := by
  intro p l e s m args below meth co D ca ad H locs ls cx hP hD hS hl
  refine va_iast cx.1 cx.2.1 cx.2.2.2.2.2.2.2 hP hD hS c 0 (k_arr hc) rfl hi hd (fun H1 locs1 hP1 hD1 hS1 => ?_)
  have e9 := k_set_a (w := w) (ad := ad) (ca := ca) (i := i.toNatClampNeg) (v := x) hc
  exact kk p l e s m args below meth co D ca ad H1 locs1 ls cx (e9 ▸ hP1) (k_D_self hD) hS1 hl
theorem b_zast {c N : Nat} {i x : Int32} (hd : decode cc pc = .ok (.bastore, 1)) (hc : sh[c]? = some (.inr (.inl (1, N)))) (hi : vp_in i N) (hx : vp_nar .boolean x = x) (kk : BS sh own cc n rt fr lo Φ (pc + 1) L st (k_up w.1 c i.toNatClampNeg x, w.2)) : BS sh own cc n rt fr lo Φ pc L (.int x :: .int i :: .ref c :: st) w := by
  intro p l e s m args below meth co D ca ad H locs ls cx hP hD hS hl
  refine va_zast cx.1 cx.2.1 cx.2.2.2.2.2.2.2 hP hD hS c 1 (k_arr hc) rfl hi hd (fun H1 locs1 hP1 hD1 hS1 => ?_)
  rw [hx] at hP1
  have e9 := k_set_a (w := w) (ad := ad) (ca := ca) (i := i.toNatClampNeg) (v := x) hc
  exact kk p l e s m args below meth co D ca ad H1 locs1 ls cx (e9 ▸ hP1) (k_D_self hD) hS1 hl
theorem b_alen {c t N : Nat} {v : Int32} (hd : decode cc pc = .ok (.arraylength, 1)) (hc : sh[c]? = some (.inr (.inl (t, N)))) (ht : t < 4) (hv : Int32.ofNat N = v) (kk : BS sh own cc n rt fr lo Φ (pc + 1) L (.int v :: st) w) : BS sh own cc n rt fr lo Φ pc L (.ref c :: st) w := by
  intro p l e s m args below meth co D ca ad H locs ls cx hP hD hS hl
  obtain ⟨ty, hty⟩ : ∃ ty, (k_tys ca)[t]? = some (ca t, ty) := by
    rcases (show t = 0 ∨ t = 1 ∨ t = 2 ∨ t = 3 by omega) with rfl | rfl | rfl | rfl <;> exact ⟨_, rfl⟩
  exact va_alen cx.1 cx.2.1 cx.2.2.2.2.2.2.2 hP c t (k_arr hc) hty hv hd (kk p l e s m args below meth co D ca ad H locs ls cx hP hD hS hl)
theorem b_aald {c t N r : Nat} {i : Int32} {f : Nat → Option Nat} (hd : decode cc pc = .ok (.aaload, 1)) (hc : sh[c]? = some (.inr (.inr (t, N, f)))) (ht : t = 2 ∨ t = 3) (hi : vp_in i N) (hf : f i.toNatClampNeg = some r) (kk : BS sh own cc n rt fr lo Φ (pc + 1) L (.ref r :: st) w) : BS sh own cc n rt fr lo Φ pc L (.int i :: .ref c :: st) w := by
  intro p l e s m args below meth co D ca ad H locs ls cx hP hD hS hl
  have hlt : i.toNatClampNeg < N := Nat.not_le.mp fun q => hi (Or.inr q)
  have hg : (k_wd ad ca sh w)[c]? = some (ad c, .inl (ca t, N, .inr (.inr (.inr (.inr (fun i => (f i).map ad)))))) := k_wd_get hc
  obtain ⟨ty, hty, hr⟩ : ∃ ty : FieldType, (k_tys ca)[t]? = some (ca t, ty) ∧ ty.isReference = true := by
    rcases ht with rfl | rfl <;> exact ⟨_, rfl, rfl⟩
  refine W.aald (v := .ref (ad r)) (ty := ty) cx.1 cx.2.1 (hP c _ hg) ((cx.2.2.2.2.2.2.2.2 t _ hty).1 N (fun j => va_rf ((f j).map ad))) hr (fun q => by cases q) (by show ¬ (i < 0 ∨ (arrV _ _ _).slots.size ≤ _); rw [arrV_size]; exact hi) ?_ rfl rfl hd (kk p l e s m args below meth co D ca ad H locs ls cx hP hD hS hl)
  show (arrV _ _ _).slots[_]? = _
  rw [arrV_read _ _ hlt]
  show some (va_rf ((f i.toNatClampNeg).map ad)) = _
  rw [hf]
  rfl
theorem b_iret {v : Int32} (hd : decode cc pc = .ok (.ireturn, 1)) (hr : rt = some .int) (h : Φ (some (.int v)) w) : BS sh own cc n rt fr lo Φ pc L [(.int v)] w := by
  intro p l e s m args below meth co D ca ad H locs ls cx hP hD hS hl
  exact W.iret cx.1 cx.2.1 (cx.2.2.2.2.2.1.trans hr) (fun t ht hW => ⟨⟨some (.int v), w, rfl, h, by rw [ht]; exact hP, va_K.moved hW.alike cx.2.2.2.2.2.2.2⟩, hS.F ht⟩) hS.2.2 hd cx.2.2.2.2.2.2.1
theorem b_zret {v : Int32} (hv : v = 0 ∨ v = 1) (hd : decode cc pc = .ok (.ireturn, 1)) (hr : rt = some .boolean) (h : Φ (some (.int v)) w) : BS sh own cc n rt fr lo Φ pc L [(.int v)] w := by
  intro p l e s m args below meth co D ca ad H locs ls cx hP hD hS hl
  exact W.zret cx.1 cx.2.1 (cx.2.2.2.2.2.1.trans hr) (by rcases hv with rfl | rfl <;> rfl) (fun t ht hW => ⟨⟨some (.int v), w, rfl, h, by rw [ht]; exact hP, va_K.moved hW.alike cx.2.2.2.2.2.2.2⟩, hS.F ht⟩) hS.2.2 hd cx.2.2.2.2.2.2.1
theorem b_lret {v : Int64} (hd : decode cc pc = .ok (.lreturn, 1)) (hr : rt = some .long) (h : Φ (some (.long v)) w) : BS sh own cc n rt fr lo Φ pc L [(.long v)] w := by
  intro p l e s m args below meth co D ca ad H locs ls cx hP hD hS hl
  exact W.lret cx.1 cx.2.1 (cx.2.2.2.2.2.1.trans hr) (fun t ht hW => ⟨⟨some (.long v), w, rfl, h, by rw [ht]; exact hP, va_K.moved hW.alike cx.2.2.2.2.2.2.2⟩, hS.F ht⟩) hS.2.2 hd cx.2.2.2.2.2.2.1
theorem b_vret (hd : decode cc pc = .ok (.return_, 1)) (hr : rt = none) (h : Φ none w) : BS sh own cc n rt fr lo Φ pc L [] w := by
  intro p l e s m args below meth co D ca ad H locs ls cx hP hD hS hl
  exact W.vret cx.1 cx.2.1 (cx.2.2.2.2.2.1.trans hr) (fun t ht hW => ⟨⟨none, w, rfl, h, by rw [ht]; exact hP, va_K.moved hW.alike cx.2.2.2.2.2.2.2⟩, hS.F ht⟩) hS.2.2 hd cx.2.2.2.2.2.2.1
theorem b_aret {v : Value} {C : String} (hd : decode cc pc = .ok (.areturn, 1)) (hr : rt = some (.object C)) (hv : v = .null ∨ ∃ a, v = .ref a) (h : Φ (some v) w) : BS sh own cc n rt fr lo Φ pc L [v] w := by
  intro p l e s m args below meth co D ca ad H locs ls cx hP hD hS hl
  exact W.aret cx.1 cx.2.1 (cx.2.2.2.2.2.1.trans hr) (Or.inl ⟨_, rfl⟩) (by rcases hv with rfl | ⟨a, rfl⟩; exact Or.inl rfl; exact Or.inr ⟨_, rfl⟩) (fun t ht hW => ⟨⟨some v, w, rfl, h, by rw [ht]; exact hP, va_K.moved hW.alike cx.2.2.2.2.2.2.2⟩, hS.F ht⟩) hS.2.2 hd cx.2.2.2.2.2.2.1

theorem k_goodIn {z : MethodName} {zc : ByteArray} {zn : Nat} {zr : Option FieldType} (h : Cond.code z zc zn zr ∈ cw) : GoodIn cw (.code z zc zn zr :: cw) := by
  intro v hv
  rcases List.mem_cons.mp hv with e | e
  · subst e
    exact ⟨h, good_of_word (cw_good h)⟩
  · exact ⟨e, good_of_word (cw_good e)⟩
/-- a call's words: entry ix of own's pool is z, z's code, its parameters -/
def k_lkC (own : String) (ix : Nat) (z : MethodName) (zc : ByteArray) (zn : Nat) (zr : Option FieldType) (a : Nat) : Prop := Cond.methodLink own ix z ∈ cw ∧ Cond.initialized z.cls ∈ cw ∧ Cond.code z zc zn zr ∈ cw ∧ z.cls ≠ "java/lang/invoke/MethodHandle" ∧ z.cls ≠ "java/lang/invoke/VarHandle" ∧ (parseMethodDescriptor z.desc).map (fun d => d.parameters.length) = some a
def k_lkV (own : String) (ix : Nat) (z : MethodName) (zc : ByteArray) (zn : Nat) (zr : Option FieldType) (a : Nat) : Prop := k_lkC own ix z zc zn zr a ∧ Cond.instanceMethod z ∈ cw ∧ Cond.selects z.cls z z ∈ cw
def k_lkS (own : String) (ix : Nat) (z : MethodName) (zc : ByteArray) (zn : Nat) (zr : Option FieldType) (a : Nat) : Prop := k_lkC own ix z zc zn zr a ∧ Cond.static z ∈ cw
theorem k_goes {p : Program} {l : Launch} {e : Env} {R : Room} {s : State} {m : MethodId} {args : Array Value} {below : List Frame} {meth : Method} {c : Code} {H H0 : Heap} {locs : List Loc} {Q : State → Prop} {ls : Array Slot} {st0 rest : List Value} {D : va_G} {ca : Nat → ClassId} {ad : Nat → Nat} {Ψ : Option Value → kW → Prop} {a : Array Value}
    (hr : va_Run p l e R s m args below meth c H locs 0 0 0 0 (F0 m pc ls st0) (rest.map (k_v ad)) (k_Qc sh D ca ad H.size Ψ a) (k_A sh ad H.size)) (hS : va_S (k_A sh ad H0.size) H0 H locs)
    (kk : ∀ (r : Option Value) (w' : kW) (H1 : Heap) (locs1 : List Loc), Ψ r w' → va_P D vwCl (k_wd ad ca sh w') H1 → va_S (k_A sh ad H0.size) H0 H1 locs1 → W p l e R s m args below meth c H1 locs1 0 0 Q (F0 m (pc + 3) ls ((r.toList ++ rest).map (k_v ad)))) : W p l e R s m args below meth c H locs 0 0 Q (F0 m pc ls st0) := by
  intro T hT X
  obtain ⟨v, st₀, t, T', L, h0, X', hL, e1, e2, ⟨⟨r, w', hv, hp, hb, hK⟩, hz, hk⟩, st⟩ := hr T hT X
  cases hv
  rw [h0] at hz hk
  have hA : ∀ q, k_A sh ad H.size q → k_A sh ad H0.size q := fun q h => h.elim Or.inl (fun h => Or.inr (Nat.le_trans hS.1 h))
  obtain ⟨t2, a1, b1⟩ := kk r w' T'.heap (locs ++ L) hp (by rw [e1]; exact hb)
    ⟨Nat.le_trans hS.1 (by rw [e1]; exact hz), fun q h1 h2 => by rw [e1, hk q (Nat.lt_of_lt_of_le h1 hS.1) (fun z => h2 (hA q z))]; exact hS.2.1 q h1 h2, fun q hq => by
      rcases List.mem_append.mp hq with h | h
      · exact hS.2.2 q h
      · exact hA _ (hL q h)⟩ T' rfl X'
  refine ⟨t2, st t2 ?_, b1⟩
  have e9 : (r.map (k_v ad)).toList ++ rest.map (k_v ad) = (r.toList ++ rest).map (k_v ad) := by cases r <;> rfl
  rw [e9]
  exact a1
theorem b_callV {z : MethodName} {zc : ByteArray} {zn zf zl ix a b ci : Nat} {zr : Option FieldType} {fs : List kF} {q : vw_C} {As : List Value} {Ψ : Option Value → kW → Prop} (hd : decode cc pc = .ok (.invokevirtual ix, 3)) (hF : k_lkV own ix z zc zn zr a) (hn : As.length = a) (hc : sh[b]? = some (.inl (ci, fs))) (hq : vwCl[ci]? = some q) (hz : q.1 = z.cls) (hR : zf + 1 ≤ fr ∧ 8 + (zn + 11) + zl ≤ lo) (hs : (st.map fun v => v.category).sum ≤ 8) (hM : Spec sh z zc zn zr zf zl (.ref b :: As) w Ψ) (kk : ∀ (r : Option Value) (w' : kW), Ψ r w' → BS sh own cc n rt fr lo Φ (pc + 3) L (r.toList ++ st) w') : BS sh own cc n rt fr lo Φ pc L (As.reverse ++ .ref b :: st) w := by
  intro p l e s m args below meth co D ca ad H locs ls cx hP hD hS hl
  obtain ⟨⟨h1, h2, h3, h4, h5, h6⟩, h7, h8⟩ := hF
  have hts := cx.2.2.2.2.1
  have hK := cx.2.2.2.2.2.2.2
  refine k_goes (va_runV (As := As.map (k_v ad)) (rest := st.map (k_v ad)) (b := ad b) ⟨cx.1, cx.2.1, cx.2.2.1, cx.2.2.2.1, hts⟩ (hM l D ca ad H.size) ⟨callB_of a hts (k_goodIn h3) rfl rfl rfl (hts _ h2) (hts _ h1) ⟨h4, h5, h6⟩ hR, hts _ h7, hts _ h8⟩ ⟨k_blind, ?_, fun U hU hW => ⟨rfl, by rw [hU], by rw [hU]; exact hP, va_K.moved hW.alike hK, k_D_of hD (fun _ _ => trivial)⟩⟩ rfl (by rw [List.length_map]; exact hn) hl.1 (by simp [k_v]) (lv_room (by rw [k_cats]; exact hs)) hd ⟨Nat.le_refl _, Nat.le_refl _⟩) hS (fun r w' H1 locs1 hp hP1 hS1 => kk r w' hp p l e s m args below meth co D ca ad H1 locs1 ls cx hP1 (k_D_self hD) hS1 hl)
  have h9 := va_recv hK hP hq (k_obj hc)
  rw [hz] at h9
  exact h9
theorem b_callS {z : MethodName} {zc : ByteArray} {zn zf zl ix a : Nat} {zr : Option FieldType} {As : List Value} {Ψ : Option Value → kW → Prop} (hd : decode cc pc = .ok (.invokestatic ix, 3)) (hF : k_lkS own ix z zc zn zr a) (hn : As.length = a) (hR : zf + 1 ≤ fr ∧ 8 + (zn + 11) + zl ≤ lo) (hs : (st.map fun v => v.category).sum ≤ 8) (hM : Spec sh z zc zn zr zf zl As w Ψ) (kk : ∀ (r : Option Value) (w' : kW), Ψ r w' → BS sh own cc n rt fr lo Φ (pc + 3) L (r.toList ++ st) w') : BS sh own cc n rt fr lo Φ pc L (As.reverse ++ st) w := by
  intro p l e s m args below meth co D ca ad H locs ls cx hP hD hS hl
  obtain ⟨⟨h1, h2, h3, h4, h5, h6⟩, h7⟩ := hF
  have hts := cx.2.2.2.2.1
  have hK := cx.2.2.2.2.2.2.2
  exact k_goes (va_runS (As := As.map (k_v ad)) (rest := st.map (k_v ad)) ⟨cx.1, cx.2.1, cx.2.2.1, cx.2.2.2.1, hts⟩ (hM l D ca ad H.size) ⟨callB_of a hts (k_goodIn h3) rfl rfl rfl (hts _ h2) (hts _ h1) ⟨h4, h5, h6⟩ hR, hts _ h7⟩ ⟨k_blind, fun U hU hW => ⟨rfl, by rw [hU], by rw [hU]; exact hP, va_K.moved hW.alike hK, k_D_of hD (fun _ _ => trivial)⟩⟩ rfl (by rw [List.length_map]; exact hn) hl.1 (by simp) (lv_room (by rw [k_cats]; exact hs)) hd ⟨Nat.le_refl _, Nat.le_refl _⟩) hS (fun r w' H1 locs1 hp hP1 hS1 => kk r w' hp p l e s m args below meth co D ca ad H1 locs1 ls cx hP1 (k_D_self hD) hS1 hl)
theorem b_callV0 {z : MethodName} {zc : ByteArray} {zn zf zl ix b ci : Nat} {zr : Option FieldType} {fs : List kF} {q : vw_C} {Ψ : Option Value → kW → Prop} (hd : decode cc pc = .ok (.invokevirtual ix, 3)) (hF : k_lkV own ix z zc zn zr 0) (hc : sh[b]? = some (.inl (ci, fs))) (hq : vwCl[ci]? = some q) (hz : q.1 = z.cls) (hR : zf + 1 ≤ fr ∧ 8 + (zn + 11) + zl ≤ lo) (hs : (st.map fun v => v.category).sum ≤ 8) (hM : Spec sh z zc zn zr zf zl (.ref b :: []) w Ψ) (kk : ∀ (r : Option Value) (w' : kW), Ψ r w' → BS sh own cc n rt fr lo Φ (pc + 3) L (r.toList ++ st) w') : BS sh own cc n rt fr lo Φ pc L (.ref b :: st) w := b_callV (As := []) hd hF rfl hc hq hz hR hs hM kk
theorem b_callS0 {z : MethodName} {zc : ByteArray} {zn zf zl ix : Nat} {zr : Option FieldType} {Ψ : Option Value → kW → Prop} (hd : decode cc pc = .ok (.invokestatic ix, 3)) (hF : k_lkS own ix z zc zn zr 0) (hR : zf + 1 ≤ fr ∧ 8 + (zn + 11) + zl ≤ lo) (hs : (st.map fun v => v.category).sum ≤ 8) (hM : Spec sh z zc zn zr zf zl [] w Ψ) (kk : ∀ (r : Option Value) (w' : kW), Ψ r w' → BS sh own cc n rt fr lo Φ (pc + 3) L (r.toList ++ st) w') : BS sh own cc n rt fr lo Φ pc L (st) w := b_callS (As := []) hd hF rfl hR hs hM kk
theorem b_callV1 {z : MethodName} {zc : ByteArray} {zn zf zl ix b ci : Nat} {zr : Option FieldType} {fs : List kF} {q : vw_C} {x0 : Value} {Ψ : Option Value → kW → Prop} (hd : decode cc pc = .ok (.invokevirtual ix, 3)) (hF : k_lkV own ix z zc zn zr 1) (hc : sh[b]? = some (.inl (ci, fs))) (hq : vwCl[ci]? = some q) (hz : q.1 = z.cls) (hR : zf + 1 ≤ fr ∧ 8 + (zn + 11) + zl ≤ lo) (hs : (st.map fun v => v.category).sum ≤ 8) (hM : Spec sh z zc zn zr zf zl (.ref b :: [x0]) w Ψ) (kk : ∀ (r : Option Value) (w' : kW), Ψ r w' → BS sh own cc n rt fr lo Φ (pc + 3) L (r.toList ++ st) w') : BS sh own cc n rt fr lo Φ pc L (x0 :: .ref b :: st) w := b_callV (As := [x0]) hd hF rfl hc hq hz hR hs hM kk
theorem b_callS1 {z : MethodName} {zc : ByteArray} {zn zf zl ix : Nat} {zr : Option FieldType} {x0 : Value} {Ψ : Option Value → kW → Prop} (hd : decode cc pc = .ok (.invokestatic ix, 3)) (hF : k_lkS own ix z zc zn zr 1) (hR : zf + 1 ≤ fr ∧ 8 + (zn + 11) + zl ≤ lo) (hs : (st.map fun v => v.category).sum ≤ 8) (hM : Spec sh z zc zn zr zf zl [x0] w Ψ) (kk : ∀ (r : Option Value) (w' : kW), Ψ r w' → BS sh own cc n rt fr lo Φ (pc + 3) L (r.toList ++ st) w') : BS sh own cc n rt fr lo Φ pc L (x0 :: st) w := b_callS (As := [x0]) hd hF rfl hR hs hM kk
theorem b_callV2 {z : MethodName} {zc : ByteArray} {zn zf zl ix b ci : Nat} {zr : Option FieldType} {fs : List kF} {q : vw_C} {x0 x1 : Value} {Ψ : Option Value → kW → Prop} (hd : decode cc pc = .ok (.invokevirtual ix, 3)) (hF : k_lkV own ix z zc zn zr 2) (hc : sh[b]? = some (.inl (ci, fs))) (hq : vwCl[ci]? = some q) (hz : q.1 = z.cls) (hR : zf + 1 ≤ fr ∧ 8 + (zn + 11) + zl ≤ lo) (hs : (st.map fun v => v.category).sum ≤ 8) (hM : Spec sh z zc zn zr zf zl (.ref b :: [x0, x1]) w Ψ) (kk : ∀ (r : Option Value) (w' : kW), Ψ r w' → BS sh own cc n rt fr lo Φ (pc + 3) L (r.toList ++ st) w') : BS sh own cc n rt fr lo Φ pc L (x1 :: x0 :: .ref b :: st) w := b_callV (As := [x0, x1]) hd hF rfl hc hq hz hR hs hM kk
theorem b_callS2 {z : MethodName} {zc : ByteArray} {zn zf zl ix : Nat} {zr : Option FieldType} {x0 x1 : Value} {Ψ : Option Value → kW → Prop} (hd : decode cc pc = .ok (.invokestatic ix, 3)) (hF : k_lkS own ix z zc zn zr 2) (hR : zf + 1 ≤ fr ∧ 8 + (zn + 11) + zl ≤ lo) (hs : (st.map fun v => v.category).sum ≤ 8) (hM : Spec sh z zc zn zr zf zl [x0, x1] w Ψ) (kk : ∀ (r : Option Value) (w' : kW), Ψ r w' → BS sh own cc n rt fr lo Φ (pc + 3) L (r.toList ++ st) w') : BS sh own cc n rt fr lo Φ pc L (x1 :: x0 :: st) w := b_callS (As := [x0, x1]) hd hF rfl hR hs hM kk
theorem b_callV3 {z : MethodName} {zc : ByteArray} {zn zf zl ix b ci : Nat} {zr : Option FieldType} {fs : List kF} {q : vw_C} {x0 x1 x2 : Value} {Ψ : Option Value → kW → Prop} (hd : decode cc pc = .ok (.invokevirtual ix, 3)) (hF : k_lkV own ix z zc zn zr 3) (hc : sh[b]? = some (.inl (ci, fs))) (hq : vwCl[ci]? = some q) (hz : q.1 = z.cls) (hR : zf + 1 ≤ fr ∧ 8 + (zn + 11) + zl ≤ lo) (hs : (st.map fun v => v.category).sum ≤ 8) (hM : Spec sh z zc zn zr zf zl (.ref b :: [x0, x1, x2]) w Ψ) (kk : ∀ (r : Option Value) (w' : kW), Ψ r w' → BS sh own cc n rt fr lo Φ (pc + 3) L (r.toList ++ st) w') : BS sh own cc n rt fr lo Φ pc L (x2 :: x1 :: x0 :: .ref b :: st) w := b_callV (As := [x0, x1, x2]) hd hF rfl hc hq hz hR hs hM kk
theorem b_callS3 {z : MethodName} {zc : ByteArray} {zn zf zl ix : Nat} {zr : Option FieldType} {x0 x1 x2 : Value} {Ψ : Option Value → kW → Prop} (hd : decode cc pc = .ok (.invokestatic ix, 3)) (hF : k_lkS own ix z zc zn zr 3) (hR : zf + 1 ≤ fr ∧ 8 + (zn + 11) + zl ≤ lo) (hs : (st.map fun v => v.category).sum ≤ 8) (hM : Spec sh z zc zn zr zf zl [x0, x1, x2] w Ψ) (kk : ∀ (r : Option Value) (w' : kW), Ψ r w' → BS sh own cc n rt fr lo Φ (pc + 3) L (r.toList ++ st) w') : BS sh own cc n rt fr lo Φ pc L (x2 :: x1 :: x0 :: st) w := b_callS (As := [x0, x1, x2]) hd hF rfl hR hs hM kk
theorem b_callV4 {z : MethodName} {zc : ByteArray} {zn zf zl ix b ci : Nat} {zr : Option FieldType} {fs : List kF} {q : vw_C} {x0 x1 x2 x3 : Value} {Ψ : Option Value → kW → Prop} (hd : decode cc pc = .ok (.invokevirtual ix, 3)) (hF : k_lkV own ix z zc zn zr 4) (hc : sh[b]? = some (.inl (ci, fs))) (hq : vwCl[ci]? = some q) (hz : q.1 = z.cls) (hR : zf + 1 ≤ fr ∧ 8 + (zn + 11) + zl ≤ lo) (hs : (st.map fun v => v.category).sum ≤ 8) (hM : Spec sh z zc zn zr zf zl (.ref b :: [x0, x1, x2, x3]) w Ψ) (kk : ∀ (r : Option Value) (w' : kW), Ψ r w' → BS sh own cc n rt fr lo Φ (pc + 3) L (r.toList ++ st) w') : BS sh own cc n rt fr lo Φ pc L (x3 :: x2 :: x1 :: x0 :: .ref b :: st) w := b_callV (As := [x0, x1, x2, x3]) hd hF rfl hc hq hz hR hs hM kk
theorem b_callS4 {z : MethodName} {zc : ByteArray} {zn zf zl ix : Nat} {zr : Option FieldType} {x0 x1 x2 x3 : Value} {Ψ : Option Value → kW → Prop} (hd : decode cc pc = .ok (.invokestatic ix, 3)) (hF : k_lkS own ix z zc zn zr 4) (hR : zf + 1 ≤ fr ∧ 8 + (zn + 11) + zl ≤ lo) (hs : (st.map fun v => v.category).sum ≤ 8) (hM : Spec sh z zc zn zr zf zl [x0, x1, x2, x3] w Ψ) (kk : ∀ (r : Option Value) (w' : kW), Ψ r w' → BS sh own cc n rt fr lo Φ (pc + 3) L (r.toList ++ st) w') : BS sh own cc n rt fr lo Φ pc L (x3 :: x2 :: x1 :: x0 :: st) w := b_callS (As := [x0, x1, x2, x3]) hd hF rfl hR hs hM kk
theorem b_callV5 {z : MethodName} {zc : ByteArray} {zn zf zl ix b ci : Nat} {zr : Option FieldType} {fs : List kF} {q : vw_C} {x0 x1 x2 x3 x4 : Value} {Ψ : Option Value → kW → Prop} (hd : decode cc pc = .ok (.invokevirtual ix, 3)) (hF : k_lkV own ix z zc zn zr 5) (hc : sh[b]? = some (.inl (ci, fs))) (hq : vwCl[ci]? = some q) (hz : q.1 = z.cls) (hR : zf + 1 ≤ fr ∧ 8 + (zn + 11) + zl ≤ lo) (hs : (st.map fun v => v.category).sum ≤ 8) (hM : Spec sh z zc zn zr zf zl (.ref b :: [x0, x1, x2, x3, x4]) w Ψ) (kk : ∀ (r : Option Value) (w' : kW), Ψ r w' → BS sh own cc n rt fr lo Φ (pc + 3) L (r.toList ++ st) w') : BS sh own cc n rt fr lo Φ pc L (x4 :: x3 :: x2 :: x1 :: x0 :: .ref b :: st) w := b_callV (As := [x0, x1, x2, x3, x4]) hd hF rfl hc hq hz hR hs hM kk
theorem b_callS5 {z : MethodName} {zc : ByteArray} {zn zf zl ix : Nat} {zr : Option FieldType} {x0 x1 x2 x3 x4 : Value} {Ψ : Option Value → kW → Prop} (hd : decode cc pc = .ok (.invokestatic ix, 3)) (hF : k_lkS own ix z zc zn zr 5) (hR : zf + 1 ≤ fr ∧ 8 + (zn + 11) + zl ≤ lo) (hs : (st.map fun v => v.category).sum ≤ 8) (hM : Spec sh z zc zn zr zf zl [x0, x1, x2, x3, x4] w Ψ) (kk : ∀ (r : Option Value) (w' : kW), Ψ r w' → BS sh own cc n rt fr lo Φ (pc + 3) L (r.toList ++ st) w') : BS sh own cc n rt fr lo Φ pc L (x4 :: x3 :: x2 :: x1 :: x0 :: st) w := b_callS (As := [x0, x1, x2, x3, x4]) hd hF rfl hR hs hM kk
theorem b_callV6 {z : MethodName} {zc : ByteArray} {zn zf zl ix b ci : Nat} {zr : Option FieldType} {fs : List kF} {q : vw_C} {x0 x1 x2 x3 x4 x5 : Value} {Ψ : Option Value → kW → Prop} (hd : decode cc pc = .ok (.invokevirtual ix, 3)) (hF : k_lkV own ix z zc zn zr 6) (hc : sh[b]? = some (.inl (ci, fs))) (hq : vwCl[ci]? = some q) (hz : q.1 = z.cls) (hR : zf + 1 ≤ fr ∧ 8 + (zn + 11) + zl ≤ lo) (hs : (st.map fun v => v.category).sum ≤ 8) (hM : Spec sh z zc zn zr zf zl (.ref b :: [x0, x1, x2, x3, x4, x5]) w Ψ) (kk : ∀ (r : Option Value) (w' : kW), Ψ r w' → BS sh own cc n rt fr lo Φ (pc + 3) L (r.toList ++ st) w') : BS sh own cc n rt fr lo Φ pc L (x5 :: x4 :: x3 :: x2 :: x1 :: x0 :: .ref b :: st) w := b_callV (As := [x0, x1, x2, x3, x4, x5]) hd hF rfl hc hq hz hR hs hM kk
theorem b_callS6 {z : MethodName} {zc : ByteArray} {zn zf zl ix : Nat} {zr : Option FieldType} {x0 x1 x2 x3 x4 x5 : Value} {Ψ : Option Value → kW → Prop} (hd : decode cc pc = .ok (.invokestatic ix, 3)) (hF : k_lkS own ix z zc zn zr 6) (hR : zf + 1 ≤ fr ∧ 8 + (zn + 11) + zl ≤ lo) (hs : (st.map fun v => v.category).sum ≤ 8) (hM : Spec sh z zc zn zr zf zl [x0, x1, x2, x3, x4, x5] w Ψ) (kk : ∀ (r : Option Value) (w' : kW), Ψ r w' → BS sh own cc n rt fr lo Φ (pc + 3) L (r.toList ++ st) w') : BS sh own cc n rt fr lo Φ pc L (x5 :: x4 :: x3 :: x2 :: x1 :: x0 :: st) w := b_callS (As := [x0, x1, x2, x3, x4, x5]) hd hF rfl hR hs hM kk
theorem b_callS7 {z : MethodName} {zc : ByteArray} {zn zf zl ix : Nat} {zr : Option FieldType} {x0 x1 x2 x3 x4 x5 x6 : Value} {Ψ : Option Value → kW → Prop} (hd : decode cc pc = .ok (.invokestatic ix, 3)) (hF : k_lkS own ix z zc zn zr 7) (hR : zf + 1 ≤ fr ∧ 8 + (zn + 11) + zl ≤ lo) (hs : (st.map fun v => v.category).sum ≤ 8) (hM : Spec sh z zc zn zr zf zl [x0, x1, x2, x3, x4, x5, x6] w Ψ) (kk : ∀ (r : Option Value) (w' : kW), Ψ r w' → BS sh own cc n rt fr lo Φ (pc + 3) L (r.toList ++ st) w') : BS sh own cc n rt fr lo Φ pc L (x6 :: x5 :: x4 :: x3 :: x2 :: x1 :: x0 :: st) w := b_callS (As := [x0, x1, x2, x3, x4, x5, x6]) hd hF rfl hR hs hM kk
def k_lkM_max (own : String) (ix : Nat) : Prop := Cond.methodLink own ix Lib.Math.max.name ∈ cw ∧ Cond.static Lib.Math.max.name ∈ cw ∧ Cond.initialized "java/lang/Math" ∈ cw ∧ Cond.code Lib.Math.max.name Lib.Math.max.code 2 (some .int) ∈ cw
theorem b_max {ix : Nat} {x y : Int32} (hd : decode cc pc = .ok (.invokestatic ix, 3)) (hF : k_lkM_max own ix) (hR : 1 ≤ fr) (hs : (st.map fun v => v.category).sum + 13 ≤ lo) (kk : BS sh own cc n rt fr lo Φ (pc + 3) L (.int (if x < y then y else x) :: st) w) : BS sh own cc n rt fr lo Φ pc L (.int y :: .int x :: st) w := by
  intro p l e s m args below meth co D ca ad H locs ls cx hP hD hS hl
  obtain ⟨h1, h2, h3, h4⟩ := hF
  have hts := cx.2.2.2.2.1
  exact va_mmax cx.1 cx.2.1 (by rw [cx.2.2.1]; exact hl.1.symm) cx.2.2.2.1 (hts _ h1) (hts _ h2) (hts _ h3) (hts _ h4) hR (by rw [k_cats]; exact hs) (Nat.le_refl _) (Nat.le_refl _) hd (kk p l e s m args below meth co D ca ad H locs ls cx hP hD hS hl)
def k_lkM_min (own : String) (ix : Nat) : Prop := Cond.methodLink own ix Lib.Math.min.name ∈ cw ∧ Cond.static Lib.Math.min.name ∈ cw ∧ Cond.initialized "java/lang/Math" ∈ cw ∧ Cond.code Lib.Math.min.name Lib.Math.min.code 2 (some .int) ∈ cw
theorem b_min {ix : Nat} {x y : Int32} (hd : decode cc pc = .ok (.invokestatic ix, 3)) (hF : k_lkM_min own ix) (hR : 1 ≤ fr) (hs : (st.map fun v => v.category).sum + 13 ≤ lo) (kk : BS sh own cc n rt fr lo Φ (pc + 3) L (.int (if y < x then y else x) :: st) w) : BS sh own cc n rt fr lo Φ pc L (.int y :: .int x :: st) w := by
  intro p l e s m args below meth co D ca ad H locs ls cx hP hD hS hl
  obtain ⟨h1, h2, h3, h4⟩ := hF
  have hts := cx.2.2.2.2.1
  exact va_mmin cx.1 cx.2.1 (by rw [cx.2.2.1]; exact hl.1.symm) cx.2.2.2.1 (hts _ h1) (hts _ h2) (hts _ h3) (hts _ h4) hR (by rw [k_cats]; exact hs) (Nat.le_refl _) (Nat.le_refl _) hd (kk p l e s m args below meth co D ca ad H locs ls cx hP hD hS hl)
def k_lkM_abs (own : String) (ix : Nat) : Prop := Cond.methodLink own ix Lib.Math.abs.name ∈ cw ∧ Cond.static Lib.Math.abs.name ∈ cw ∧ Cond.initialized "java/lang/Math" ∈ cw ∧ Cond.code Lib.Math.abs.name Lib.Math.abs.code 1 (some .int) ∈ cw
theorem b_abs {ix : Nat} {x : Int32} (hd : decode cc pc = .ok (.invokestatic ix, 3)) (hF : k_lkM_abs own ix) (hR : 1 ≤ fr) (hs : (st.map fun v => v.category).sum + 13 ≤ lo) (kk : BS sh own cc n rt fr lo Φ (pc + 3) L (.int (if 0 ≤ x then x else 0 - x) :: st) w) : BS sh own cc n rt fr lo Φ pc L (.int x :: st) w := by
  intro p l e s m args below meth co D ca ad H locs ls cx hP hD hS hl
  obtain ⟨h1, h2, h3, h4⟩ := hF
  have hts := cx.2.2.2.2.1
  exact va_mabs cx.1 cx.2.1 (by rw [cx.2.2.1]; exact hl.1.symm) cx.2.2.2.1 (hts _ h1) (hts _ h2) (hts _ h3) (hts _ h4) hR (by rw [k_cats]; exact hs) (Nat.le_refl _) (Nat.le_refl _) hd (kk p l e s m args below meth co D ca ad H locs ls cx hP hD hS hl)
def k_lkCp (own : String) (ix : Nat) : Prop := Cond.methodLink own ix arraycopyName ∈ cw ∧ Cond.native arraycopyName ∈ cw ∧ Cond.static arraycopyName ∈ cw ∧ Cond.initialized "java/lang/System" ∈ cw
def k_cpy (f : Nat → Nat → Int32) (c0 c1 sp dp n : Nat) : Nat → Nat → Int32 := fun c k => if c = c1 then (if dp ≤ k ∧ k < dp + n then f c0 (sp + (k - dp)) else f c k) else f c k
theorem k_set_c {ad : Nat → Nat} {ca : Nat → ClassId} {c0 c t N sp dp z : Nat} (hc : sh[c]? = some (.inr (.inl (t, N)))) : (k_wd ad ca sh w).set c (ad c, .inl (ca t, N, .inl (va_cpy (w.1 c0) (w.1 c) sp dp z))) = k_wd ad ca sh (k_cpy w.1 c0 c sp dp z, w.2) := by
  refine k_wd_set (w := w) (w' := (k_cpy w.1 c0 c sp dp z, w.2)) hc (fun c' h => by funext j; simp [k_cpy, h]) (fun _ _ => rfl) ?_
  show Sum.inl (ca t, N, Sum.inl _) = Sum.inl (ca t, N, Sum.inl _)
  refine congrArg (fun f => Sum.inl (ca t, N, Sum.inl f)) ?_
  funext j
  simp [va_cpy, k_cpy]
theorem b_copyi {ix c0 c1 N0 N1 : Nat} {sp dp z : Int32} (hd : decode cc pc = .ok (.invokestatic ix, 3)) (hF : k_lkCp own ix) (hc0 : sh[c0]? = some (.inr (.inl (0, N0)))) (hc1 : sh[c1]? = some (.inr (.inl (0, N1)))) (h1 : ¬ sp < 0) (h2 : ¬ dp < 0) (h3 : ¬ z < 0) (h4 : sp.toNatClampNeg + z.toNatClampNeg ≤ N0) (h5 : dp.toNatClampNeg + z.toNatClampNeg ≤ N1) (hR : 1 ≤ fr) (hs : (st.map fun v => v.category).sum + (nativeFrameWords "java/lang/System" "arraycopy" 5 + 11) ≤ lo) (kk : BS sh own cc n rt fr lo Φ (pc + 3) L st (k_cpy w.1 c0 c1 sp.toNatClampNeg dp.toNatClampNeg z.toNatClampNeg, w.2)) : BS sh own cc n rt fr lo Φ pc L (.int z :: .int dp :: .ref c1 :: .int sp :: .ref c0 :: st) w := by
  intro p l e s m args below meth co D ca ad H locs ls cx hP hD hS hl
  obtain ⟨g1, g2, g3, g4⟩ := hF
  have hts := cx.2.2.2.2.1
  refine va_copyi cx.1 cx.2.1 (by rw [cx.2.2.1]; exact hl.1.symm) cx.2.2.2.1 (hts _ g1) (hts _ g2) (hts _ g3) (hts _ g4) cx.2.2.2.2.2.2.2 hP hD hS c0 c1 0 0 (k_arr hc0) (k_arr hc1) rfl rfl rfl h1 h2 h3 h4 h5 (fun _ _ => rfl) hR (by rw [k_cats]; exact hs) hd (fun H1 locs1 hP1 hD1 hS1 => ?_)
  have e9 := k_set_c (w := w) (ad := ad) (ca := ca) (c0 := c0) (sp := sp.toNatClampNeg) (dp := dp.toNatClampNeg) (z := z.toNatClampNeg) hc1
  exact kk p l e s m args below meth co D ca ad H1 locs1 ls cx (e9 ▸ hP1) (k_D_self hD) hS1 hl
end KB
end
