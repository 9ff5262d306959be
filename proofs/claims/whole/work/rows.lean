section
-- ===== PART A: goes FIRST, ahead of the names: the tables' words, and 'selects' of the private methods out of them =====
/-- a private method of a class that the tables say can be made, by its rows of tables_1 -/
def lw_okq (q : MethodName × Nat) : Prop := (q.1.cls ≠ "java/lang/invoke/MethodHandle" ∧ q.1.cls ≠ "java/lang/invoke/VarHandle") ∧ Cond.instantiable q.1.cls q.2 ∈ tables_1 ∧ Cond.privateMethod q.1 ∈ tables_1 ∧ Cond.instanceMethod q.1 ∈ tables_1
theorem lw_p0 : lw_okq (⟨"DuelSeconds", "sheetOf", "(I)LDuelSeconds$Sheet;"⟩, 7) := ⟨⟨by decide +kernel, by decide +kernel⟩, List.mem_of_getElem? (i := 15) (by decide +kernel), List.mem_of_getElem? (i := 223) (by decide +kernel), List.mem_of_getElem? (i := 224) (by decide +kernel)⟩
theorem lw_p1 : lw_okq (⟨"DuelSeconds", "faulted", "(I)I"⟩, 7) := ⟨⟨by decide +kernel, by decide +kernel⟩, List.mem_of_getElem? (i := 15) (by decide +kernel), List.mem_of_getElem? (i := 238) (by decide +kernel), List.mem_of_getElem? (i := 239) (by decide +kernel)⟩
theorem lw_p2 : lw_okq (⟨"DuelSeconds", "isEmpty", "()Z"⟩, 7) := ⟨⟨by decide +kernel, by decide +kernel⟩, List.mem_of_getElem? (i := 15) (by decide +kernel), List.mem_of_getElem? (i := 317) (by decide +kernel), List.mem_of_getElem? (i := 318) (by decide +kernel)⟩
theorem lw_p3 : lw_okq (⟨"DuelSeconds$Season", "answer", "(LDuelSeconds$Insults;II)V"⟩, 11) := ⟨⟨by decide +kernel, by decide +kernel⟩, List.mem_of_getElem? (i := 112) (by decide +kernel), List.mem_of_getElem? (i := 342) (by decide +kernel), List.mem_of_getElem? (i := 343) (by decide +kernel)⟩
theorem lw_p4 : lw_okq (⟨"DuelSeconds$Season", "shoot", "(III)I"⟩, 11) := ⟨⟨by decide +kernel, by decide +kernel⟩, List.mem_of_getElem? (i := 112) (by decide +kernel), List.mem_of_getElem? (i := 352) (by decide +kernel), List.mem_of_getElem? (i := 353) (by decide +kernel)⟩
theorem lw_p5 : lw_okq (⟨"DuelSeconds", "provokingDegree", "(IIII)I"⟩, 7) := ⟨⟨by decide +kernel, by decide +kernel⟩, List.mem_of_getElem? (i := 15) (by decide +kernel), List.mem_of_getElem? (i := 396) (by decide +kernel), List.mem_of_getElem? (i := 397) (by decide +kernel)⟩
theorem lw_p6 : lw_okq (⟨"DuelSeconds$Log", "pairOf", "(I)I"⟩, 2) := ⟨⟨by decide +kernel, by decide +kernel⟩, List.mem_of_getElem? (i := 118) (by decide +kernel), List.mem_of_getElem? (i := 404) (by decide +kernel), List.mem_of_getElem? (i := 405) (by decide +kernel)⟩
theorem lw_p7 : lw_okq (⟨"DuelSeconds", "freeInTurn", "(LDuelSeconds$Sheet;II)I"⟩, 7) := ⟨⟨by decide +kernel, by decide +kernel⟩, List.mem_of_getElem? (i := 15) (by decide +kernel), List.mem_of_getElem? (i := 448) (by decide +kernel), List.mem_of_getElem? (i := 449) (by decide +kernel)⟩
theorem lw_p8 : lw_okq (⟨"DuelSeconds", "tellOfficer", "(I)I"⟩, 7) := ⟨⟨by decide +kernel, by decide +kernel⟩, List.mem_of_getElem? (i := 15) (by decide +kernel), List.mem_of_getElem? (i := 492) (by decide +kernel), List.mem_of_getElem? (i := 493) (by decide +kernel)⟩
theorem lw_p9 : lw_okq (⟨"DuelSeconds", "leave", "(I)V"⟩, 7) := ⟨⟨by decide +kernel, by decide +kernel⟩, List.mem_of_getElem? (i := 15) (by decide +kernel), List.mem_of_getElem? (i := 496) (by decide +kernel), List.mem_of_getElem? (i := 497) (by decide +kernel)⟩
theorem lw_p10 : lw_okq (⟨"DuelSeconds", "tellHothead", "(I)I"⟩, 7) := ⟨⟨by decide +kernel, by decide +kernel⟩, List.mem_of_getElem? (i := 15) (by decide +kernel), List.mem_of_getElem? (i := 500) (by decide +kernel), List.mem_of_getElem? (i := 501) (by decide +kernel)⟩
theorem lw_p11 : lw_okq (⟨"DuelSeconds", "tellGentleman", "(I)I"⟩, 7) := ⟨⟨by decide +kernel, by decide +kernel⟩, List.mem_of_getElem? (i := 15) (by decide +kernel), List.mem_of_getElem? (i := 504) (by decide +kernel), List.mem_of_getElem? (i := 505) (by decide +kernel)⟩
theorem lw_p12 : lw_okq (⟨"DuelSeconds", "saluteOfficer", "()I"⟩, 7) := ⟨⟨by decide +kernel, by decide +kernel⟩, List.mem_of_getElem? (i := 15) (by decide +kernel), List.mem_of_getElem? (i := 512) (by decide +kernel), List.mem_of_getElem? (i := 513) (by decide +kernel)⟩
theorem lw_p13 : lw_okq (⟨"DuelSeconds", "saluteByLentBody", "(I)I"⟩, 7) := ⟨⟨by decide +kernel, by decide +kernel⟩, List.mem_of_getElem? (i := 15) (by decide +kernel), List.mem_of_getElem? (i := 516) (by decide +kernel), List.mem_of_getElem? (i := 517) (by decide +kernel)⟩
theorem lw_p14 : lw_okq (⟨"DuelSecondsModel", "against", "(IIII)I"⟩, 39) := ⟨⟨by decide +kernel, by decide +kernel⟩, List.mem_of_getElem? (i := 536) (by decide +kernel), List.mem_of_getElem? (i := 673) (by decide +kernel), List.mem_of_getElem? (i := 674) (by decide +kernel)⟩
theorem lw_p15 : lw_okq (⟨"DuelSecondsModel", "fails", "(I)I"⟩, 39) := ⟨⟨by decide +kernel, by decide +kernel⟩, List.mem_of_getElem? (i := 536) (by decide +kernel), List.mem_of_getElem? (i := 677) (by decide +kernel), List.mem_of_getElem? (i := 678) (by decide +kernel)⟩
def lw_privs_1 : List (MethodName × Nat) := [(⟨"DuelSeconds", "sheetOf", "(I)LDuelSeconds$Sheet;"⟩, 7), (⟨"DuelSeconds", "faulted", "(I)I"⟩, 7), (⟨"DuelSeconds", "isEmpty", "()Z"⟩, 7), (⟨"DuelSeconds$Season", "answer", "(LDuelSeconds$Insults;II)V"⟩, 11), (⟨"DuelSeconds$Season", "shoot", "(III)I"⟩, 11), (⟨"DuelSeconds", "provokingDegree", "(IIII)I"⟩, 7), (⟨"DuelSeconds$Log", "pairOf", "(I)I"⟩, 2), (⟨"DuelSeconds", "freeInTurn", "(LDuelSeconds$Sheet;II)I"⟩, 7), (⟨"DuelSeconds", "tellOfficer", "(I)I"⟩, 7), (⟨"DuelSeconds", "leave", "(I)V"⟩, 7), (⟨"DuelSeconds", "tellHothead", "(I)I"⟩, 7), (⟨"DuelSeconds", "tellGentleman", "(I)I"⟩, 7), (⟨"DuelSeconds", "saluteOfficer", "()I"⟩, 7), (⟨"DuelSeconds", "saluteByLentBody", "(I)I"⟩, 7), (⟨"DuelSecondsModel", "against", "(IIII)I"⟩, 39), (⟨"DuelSecondsModel", "fails", "(I)I"⟩, 39)]
theorem lw_r1 : ∀ q ∈ lw_privs_1, lw_okq q := List.forall_mem_cons.mpr ⟨lw_p0, List.forall_mem_cons.mpr ⟨lw_p1, List.forall_mem_cons.mpr ⟨lw_p2, List.forall_mem_cons.mpr ⟨lw_p3, List.forall_mem_cons.mpr ⟨lw_p4, List.forall_mem_cons.mpr ⟨lw_p5, List.forall_mem_cons.mpr ⟨lw_p6, List.forall_mem_cons.mpr ⟨lw_p7, List.forall_mem_cons.mpr ⟨lw_p8, List.forall_mem_cons.mpr ⟨lw_p9, List.forall_mem_cons.mpr ⟨lw_p10, List.forall_mem_cons.mpr ⟨lw_p11, List.forall_mem_cons.mpr ⟨lw_p12, List.forall_mem_cons.mpr ⟨lw_p13, List.forall_mem_cons.mpr ⟨lw_p14, List.forall_mem_cons.mpr ⟨lw_p15, fun _ h => absurd h List.not_mem_nil⟩⟩⟩⟩⟩⟩⟩⟩⟩⟩⟩⟩⟩⟩⟩⟩
theorem lw_p16 : lw_okq (⟨"DuelSecondsModel", "readCoast", "(I)Z"⟩, 39) := ⟨⟨by decide +kernel, by decide +kernel⟩, List.mem_of_getElem? (i := 536) (by decide +kernel), List.mem_of_getElem? (i := 681) (by decide +kernel), List.mem_of_getElem? (i := 682) (by decide +kernel)⟩
theorem lw_p17 : lw_okq (⟨"DuelSecondsModel", "digit", "(III)I"⟩, 39) := ⟨⟨by decide +kernel, by decide +kernel⟩, List.mem_of_getElem? (i := 536) (by decide +kernel), List.mem_of_getElem? (i := 685) (by decide +kernel), List.mem_of_getElem? (i := 686) (by decide +kernel)⟩
theorem lw_p18 : lw_okq (⟨"DuelSecondsModel", "readPerson", "(II)Z"⟩, 39) := ⟨⟨by decide +kernel, by decide +kernel⟩, List.mem_of_getElem? (i := 536) (by decide +kernel), List.mem_of_getElem? (i := 689) (by decide +kernel), List.mem_of_getElem? (i := 690) (by decide +kernel)⟩
theorem lw_p19 : lw_okq (⟨"DuelSecondsModel", "isPerson", "(I)Z"⟩, 39) := ⟨⟨by decide +kernel, by decide +kernel⟩, List.mem_of_getElem? (i := 536) (by decide +kernel), List.mem_of_getElem? (i := 697) (by decide +kernel), List.mem_of_getElem? (i := 698) (by decide +kernel)⟩
theorem lw_p20 : lw_okq (⟨"DuelSecondsModel", "touchy", "(I)I"⟩, 39) := ⟨⟨by decide +kernel, by decide +kernel⟩, List.mem_of_getElem? (i := 536) (by decide +kernel), List.mem_of_getElem? (i := 701) (by decide +kernel), List.mem_of_getElem? (i := 702) (by decide +kernel)⟩
theorem lw_p21 : lw_okq (⟨"DuelSecondsModel", "lay", "(IIIII)V"⟩, 39) := ⟨⟨by decide +kernel, by decide +kernel⟩, List.mem_of_getElem? (i := 536) (by decide +kernel), List.mem_of_getElem? (i := 709) (by decide +kernel), List.mem_of_getElem? (i := 710) (by decide +kernel)⟩
theorem lw_p22 : lw_okq (⟨"DuelSecondsModel", "goAhead", "(I)V"⟩, 39) := ⟨⟨by decide +kernel, by decide +kernel⟩, List.mem_of_getElem? (i := 536) (by decide +kernel), List.mem_of_getElem? (i := 728) (by decide +kernel), List.mem_of_getElem? (i := 729) (by decide +kernel)⟩
theorem lw_p23 : lw_okq (⟨"DuelSecondsModel", "begin", "()V"⟩, 39) := ⟨⟨by decide +kernel, by decide +kernel⟩, List.mem_of_getElem? (i := 536) (by decide +kernel), List.mem_of_getElem? (i := 732) (by decide +kernel), List.mem_of_getElem? (i := 733) (by decide +kernel)⟩
theorem lw_p24 : lw_okq (⟨"DuelSecondsModel", "goDawn", "(I)V"⟩, 39) := ⟨⟨by decide +kernel, by decide +kernel⟩, List.mem_of_getElem? (i := 536) (by decide +kernel), List.mem_of_getElem? (i := 736) (by decide +kernel), List.mem_of_getElem? (i := 737) (by decide +kernel)⟩
theorem lw_p25 : lw_okq (⟨"DuelSecondsModel", "answer", "(IIII)V"⟩, 39) := ⟨⟨by decide +kernel, by decide +kernel⟩, List.mem_of_getElem? (i := 536) (by decide +kernel), List.mem_of_getElem? (i := 740) (by decide +kernel), List.mem_of_getElem? (i := 741) (by decide +kernel)⟩
theorem lw_p26 : lw_okq (⟨"DuelSecondsModel", "secondOf", "(IIII)I"⟩, 39) := ⟨⟨by decide +kernel, by decide +kernel⟩, List.mem_of_getElem? (i := 536) (by decide +kernel), List.mem_of_getElem? (i := 744) (by decide +kernel), List.mem_of_getElem? (i := 745) (by decide +kernel)⟩
theorem lw_p27 : lw_okq (⟨"DuelSecondsModel", "maySecond", "(IIIII)Z"⟩, 39) := ⟨⟨by decide +kernel, by decide +kernel⟩, List.mem_of_getElem? (i := 536) (by decide +kernel), List.mem_of_getElem? (i := 748) (by decide +kernel), List.mem_of_getElem? (i := 749) (by decide +kernel)⟩
theorem lw_p28 : lw_okq (⟨"DuelSecondsModel", "isFree", "(II)Z"⟩, 39) := ⟨⟨by decide +kernel, by decide +kernel⟩, List.mem_of_getElem? (i := 536) (by decide +kernel), List.mem_of_getElem? (i := 752) (by decide +kernel), List.mem_of_getElem? (i := 753) (by decide +kernel)⟩
theorem lw_p29 : lw_okq (⟨"DuelSecondsModel", "meet", "(IIIII)V"⟩, 39) := ⟨⟨by decide +kernel, by decide +kernel⟩, List.mem_of_getElem? (i := 536) (by decide +kernel), List.mem_of_getElem? (i := 756) (by decide +kernel), List.mem_of_getElem? (i := 757) (by decide +kernel)⟩
theorem lw_p30 : lw_okq (⟨"DuelSecondsModel", "hurt", "(III)V"⟩, 39) := ⟨⟨by decide +kernel, by decide +kernel⟩, List.mem_of_getElem? (i := 536) (by decide +kernel), List.mem_of_getElem? (i := 760) (by decide +kernel), List.mem_of_getElem? (i := 761) (by decide +kernel)⟩
theorem lw_p31 : lw_okq (⟨"DuelSecondsModel", "arrestAll", "(IZ)V"⟩, 39) := ⟨⟨by decide +kernel, by decide +kernel⟩, List.mem_of_getElem? (i := 536) (by decide +kernel), List.mem_of_getElem? (i := 787) (by decide +kernel), List.mem_of_getElem? (i := 788) (by decide +kernel)⟩
def lw_privs_2 : List (MethodName × Nat) := [(⟨"DuelSecondsModel", "readCoast", "(I)Z"⟩, 39), (⟨"DuelSecondsModel", "digit", "(III)I"⟩, 39), (⟨"DuelSecondsModel", "readPerson", "(II)Z"⟩, 39), (⟨"DuelSecondsModel", "isPerson", "(I)Z"⟩, 39), (⟨"DuelSecondsModel", "touchy", "(I)I"⟩, 39), (⟨"DuelSecondsModel", "lay", "(IIIII)V"⟩, 39), (⟨"DuelSecondsModel", "goAhead", "(I)V"⟩, 39), (⟨"DuelSecondsModel", "begin", "()V"⟩, 39), (⟨"DuelSecondsModel", "goDawn", "(I)V"⟩, 39), (⟨"DuelSecondsModel", "answer", "(IIII)V"⟩, 39), (⟨"DuelSecondsModel", "secondOf", "(IIII)I"⟩, 39), (⟨"DuelSecondsModel", "maySecond", "(IIIII)Z"⟩, 39), (⟨"DuelSecondsModel", "isFree", "(II)Z"⟩, 39), (⟨"DuelSecondsModel", "meet", "(IIIII)V"⟩, 39), (⟨"DuelSecondsModel", "hurt", "(III)V"⟩, 39), (⟨"DuelSecondsModel", "arrestAll", "(IZ)V"⟩, 39)]
theorem lw_r2 : ∀ q ∈ lw_privs_2, lw_okq q := List.forall_mem_cons.mpr ⟨lw_p16, List.forall_mem_cons.mpr ⟨lw_p17, List.forall_mem_cons.mpr ⟨lw_p18, List.forall_mem_cons.mpr ⟨lw_p19, List.forall_mem_cons.mpr ⟨lw_p20, List.forall_mem_cons.mpr ⟨lw_p21, List.forall_mem_cons.mpr ⟨lw_p22, List.forall_mem_cons.mpr ⟨lw_p23, List.forall_mem_cons.mpr ⟨lw_p24, List.forall_mem_cons.mpr ⟨lw_p25, List.forall_mem_cons.mpr ⟨lw_p26, List.forall_mem_cons.mpr ⟨lw_p27, List.forall_mem_cons.mpr ⟨lw_p28, List.forall_mem_cons.mpr ⟨lw_p29, List.forall_mem_cons.mpr ⟨lw_p30, List.forall_mem_cons.mpr ⟨lw_p31, fun _ h => absurd h List.not_mem_nil⟩⟩⟩⟩⟩⟩⟩⟩⟩⟩⟩⟩⟩⟩⟩⟩
theorem lw_p32 : lw_okq (⟨"DuelSecondsModel", "doesProvoke", "(IIIIII)Z"⟩, 39) := ⟨⟨by decide +kernel, by decide +kernel⟩, List.mem_of_getElem? (i := 536) (by decide +kernel), List.mem_of_getElem? (i := 795) (by decide +kernel), List.mem_of_getElem? (i := 796) (by decide +kernel)⟩
theorem lw_p33 : lw_okq (⟨"DuelSecondsModel", "didMeet", "(III)Z"⟩, 39) := ⟨⟨by decide +kernel, by decide +kernel⟩, List.mem_of_getElem? (i := 536) (by decide +kernel), List.mem_of_getElem? (i := 799) (by decide +kernel), List.mem_of_getElem? (i := 800) (by decide +kernel)⟩
theorem lw_p34 : lw_okq (⟨"DuelSecondsModel", "wasHurt", "(I)Z"⟩, 39) := ⟨⟨by decide +kernel, by decide +kernel⟩, List.mem_of_getElem? (i := 536) (by decide +kernel), List.mem_of_getElem? (i := 808) (by decide +kernel), List.mem_of_getElem? (i := 809) (by decide +kernel)⟩
theorem lw_p35 : lw_okq (⟨"DuelSecondsModel", "areSo", "()Z"⟩, 39) := ⟨⟨by decide +kernel, by decide +kernel⟩, List.mem_of_getElem? (i := 536) (by decide +kernel), List.mem_of_getElem? (i := 827) (by decide +kernel), List.mem_of_getElem? (i := 828) (by decide +kernel)⟩
theorem lw_p36 : lw_okq (⟨"DuelSecondsModel", "wasIn", "(II)Z"⟩, 39) := ⟨⟨by decide +kernel, by decide +kernel⟩, List.mem_of_getElem? (i := 536) (by decide +kernel), List.mem_of_getElem? (i := 831) (by decide +kernel), List.mem_of_getElem? (i := 832) (by decide +kernel)⟩
theorem lw_p37 : lw_okq (⟨"DuelSecondsModel", "lost", "(I)J"⟩, 39) := ⟨⟨by decide +kernel, by decide +kernel⟩, List.mem_of_getElem? (i := 536) (by decide +kernel), List.mem_of_getElem? (i := 859) (by decide +kernel), List.mem_of_getElem? (i := 860) (by decide +kernel)⟩
theorem lw_p38 : lw_okq (⟨"DuelSecondsModel", "begins", "(I)V"⟩, 39) := ⟨⟨by decide +kernel, by decide +kernel⟩, List.mem_of_getElem? (i := 536) (by decide +kernel), List.mem_of_getElem? (i := 871) (by decide +kernel), List.mem_of_getElem? (i := 872) (by decide +kernel)⟩
def lw_privs_3 : List (MethodName × Nat) := [(⟨"DuelSecondsModel", "doesProvoke", "(IIIIII)Z"⟩, 39), (⟨"DuelSecondsModel", "didMeet", "(III)Z"⟩, 39), (⟨"DuelSecondsModel", "wasHurt", "(I)Z"⟩, 39), (⟨"DuelSecondsModel", "areSo", "()Z"⟩, 39), (⟨"DuelSecondsModel", "wasIn", "(II)Z"⟩, 39), (⟨"DuelSecondsModel", "lost", "(I)J"⟩, 39), (⟨"DuelSecondsModel", "begins", "(I)V"⟩, 39)]
theorem lw_r3 : ∀ q ∈ lw_privs_3, lw_okq q := List.forall_mem_cons.mpr ⟨lw_p32, List.forall_mem_cons.mpr ⟨lw_p33, List.forall_mem_cons.mpr ⟨lw_p34, List.forall_mem_cons.mpr ⟨lw_p35, List.forall_mem_cons.mpr ⟨lw_p36, List.forall_mem_cons.mpr ⟨lw_p37, List.forall_mem_cons.mpr ⟨lw_p38, fun _ h => absurd h List.not_mem_nil⟩⟩⟩⟩⟩⟩⟩
def lw_privs : List (MethodName × Nat) := lw_privs_1 ++ (lw_privs_2 ++ (lw_privs_3))
def lw_tbl : List Cond := k2_sels lw_privs ++ tables_1
theorem lw_privs_ok : ∀ q ∈ lw_privs, lw_okq q := by
  show ∀ q ∈ lw_privs_1 ++ (lw_privs_2 ++ (lw_privs_3)), lw_okq q
  exact List.forall_mem_append.mpr ⟨lw_r1, List.forall_mem_append.mpr ⟨lw_r2, lw_r3⟩⟩
end
section
/-! ===== BEGIN printed: names, fields, word lists, decode rows ===== -/
def RX0 : String := "DuelSeconds$Insults"
def TX0 : u_T := fun k => match k with
  | 0 => ("DuelSeconds$Insults", "count", "I", false)
  | 1 => ("DuelSeconds$Insults", "from", "[I", true)
  | 2 => ("DuelSeconds$Insults", "to", "[I", true)
  | 3 => ("DuelSeconds$Insults", "day", "[I", true)
  | _ => ("DuelSeconds$Insults", "degree", "[I", true)
def tyX0 : Nat → FieldType := fun k => match k with
  | 0 => .int
  | 1 => .array .int
  | 2 => .array .int
  | 3 => .array .int
  | _ => .array .int
abbrev wsX00 : List Cond := u_ws RX0 TX0 5
theorem nmX0 : ∀ a, a < 5 → ∀ b, b < 5 → a ≠ b → (TX0 a).2.1 ≠ (TX0 b).2.1 := by decide +kernel
theorem tyX0_ok : ∀ k, k < 5 → parseFieldDescriptor (TX0 k).2.2.1 = some (tyX0 k) := by decide +kernel
abbrev cX0_init : ByteArray := prog_2_method_1_code
def yX0_init : MethodName := ⟨RX0, "<init>", "(I)V"⟩
abbrev cX0_add : ByteArray := prog_2_method_2_code
def yX0_add : MethodName := ⟨RX0, "add", "(IIII)V"⟩
def RX1 : String := "DuelSeconds$Log"
def TX1 : u_T := fun k => match k with
  | 0 => ("DuelSeconds$Log", "count", "I", false)
  | _ => ("DuelSeconds$Log", "facts", "[[I", true)
def tyX1 : Nat → FieldType := fun k => match k with
  | 0 => .int
  | _ => .array (.array .int)
abbrev wsX10 : List Cond := u_ws RX1 TX1 2
theorem nmX1 : ∀ a, a < 2 → ∀ b, b < 2 → a ≠ b → (TX1 a).2.1 ≠ (TX1 b).2.1 := by decide +kernel
theorem tyX1_ok : ∀ k, k < 2 → parseFieldDescriptor (TX1 k).2.2.1 = some (tyX1 k) := by decide +kernel
abbrev cX1_init : ByteArray := prog_3_method_1_code
def yX1_init : MethodName := ⟨RX1, "<init>", "()V"⟩
abbrev cX1_add : ByteArray := prog_3_method_2_code
def yX1_add : MethodName := ⟨RX1, "add", "(IIIIII)V"⟩
abbrev cX1_pairOf : ByteArray := prog_3_method_3_code
def yX1_pairOf : MethodName := ⟨RX1, "pairOf", "(I)I"⟩
abbrev cX1_wasThere : ByteArray := prog_3_method_4_code
def yX1_wasThere : MethodName := ⟨RX1, "wasThere", "(II)Z"⟩
abbrev cX1_pairMetBehind : ByteArray := prog_3_method_5_code
def yX1_pairMetBehind : MethodName := ⟨RX1, "pairMetBehind", "(II)Z"⟩
def RX2 : String := "DuelSeconds$Persons"
def TX2 : u_T := fun k => match k with
  | 0 => ("DuelSeconds$Persons", "count", "I", false)
  | 1 => ("DuelSeconds$Persons", "arrested", "I", false)
  | 2 => ("DuelSeconds$Persons", "kind", "[I", true)
  | 3 => ("DuelSeconds$Persons", "honour", "[I", true)
  | 4 => ("DuelSeconds$Persons", "firstFriend", "[I", true)
  | _ => ("DuelSeconds$Persons", "secondFriend", "[I", true)
def tyX2 : Nat → FieldType := fun k => match k with
  | 0 => .int
  | 1 => .int
  | 2 => .array .int
  | 3 => .array .int
  | 4 => .array .int
  | _ => .array .int
abbrev wsX20 : List Cond := u_ws RX2 TX2 6
theorem nmX2 : ∀ a, a < 6 → ∀ b, b < 6 → a ≠ b → (TX2 a).2.1 ≠ (TX2 b).2.1 := by decide +kernel
theorem tyX2_ok : ∀ k, k < 6 → parseFieldDescriptor (TX2 k).2.2.1 = some (tyX2 k) := by decide +kernel
abbrev cX2_init : ByteArray := prog_4_method_1_code
def yX2_init : MethodName := ⟨RX2, "<init>", "()V"⟩
abbrev cX2_has : ByteArray := prog_4_method_2_code
def yX2_has : MethodName := ⟨RX2, "has", "(I)Z"⟩
abbrev cX2_hasTwo : ByteArray := prog_4_method_3_code
def yX2_hasTwo : MethodName := ⟨RX2, "hasTwo", "(II)Z"⟩
abbrev cX2_touchiness : ByteArray := prog_4_method_4_code
def yX2_touchiness : MethodName := ⟨RX2, "touchiness", "(I)I"⟩
abbrev cX2_secondAmong : ByteArray := prog_4_method_5_code
def yX2_secondAmong : MethodName := ⟨RX2, "secondAmong", "(II)I"⟩
def RX3 : String := "DuelSeconds$Readings"
def TX3 : u_T := fun k => match k with
  | 0 => ("DuelSeconds$Readings", "count", "I", false)
  | 1 => ("DuelSeconds$Readings", "person", "[I", true)
  | 2 => ("DuelSeconds$Readings", "dawn", "[I", true)
  | _ => ("DuelSeconds$Readings", "was", "[Z", true)
def tyX3 : Nat → FieldType := fun k => match k with
  | 0 => .int
  | 1 => .array .int
  | 2 => .array .int
  | _ => .array .boolean
abbrev wsX30 : List Cond := u_ws RX3 TX3 4
theorem nmX3 : ∀ a, a < 4 → ∀ b, b < 4 → a ≠ b → (TX3 a).2.1 ≠ (TX3 b).2.1 := by decide +kernel
theorem tyX3_ok : ∀ k, k < 4 → parseFieldDescriptor (TX3 k).2.2.1 = some (tyX3 k) := by decide +kernel
abbrev cX3_init : ByteArray := prog_5_method_1_code
def yX3_init : MethodName := ⟨RX3, "<init>", "()V"⟩
abbrev cX3_add : ByteArray := prog_5_method_2_code
def yX3_add : MethodName := ⟨RX3, "add", "(IIZ)V"⟩
abbrev cX3_areSo : ByteArray := prog_5_method_3_code
def yX3_areSo : MethodName := ⟨RX3, "areSo", "(LDuelSeconds$Log;)Z"⟩
def RX4 : String := "DuelSeconds$Season"
def TX4 : u_T := fun k => match k with
  | 0 => ("DuelSeconds$Season", "log", "LDuelSeconds$Log;", true)
  | 1 => ("DuelSeconds$Season", "hurt", "I", false)
  | 2 => ("DuelSeconds$Season", "persons", "LDuelSeconds$Persons;", true)
  | 3 => ("DuelSeconds$Season", "told", "LDuelSeconds$Insults;", true)
  | 4 => ("DuelSeconds$Season", "taken", "LDuelSeconds$Insults;", true)
  | 5 => ("DuelSeconds$Season", "passed", "I", false)
  | 6 => ("DuelSeconds$Season", "wellFrom", "[I", true)
  | 7 => ("DuelSeconds$Season", "made", "I", false)
  | 8 => ("DuelSeconds$Season", "days", "J", false)
  | 9 => ("DuelSeconds$Season", "arrested", "I", false)
  | _ => ("DuelSeconds$Season", "free", "I", false)
def tyX4 : Nat → FieldType := fun k => match k with
  | 0 => .object "DuelSeconds$Log"
  | 1 => .int
  | 2 => .object "DuelSeconds$Persons"
  | 3 => .object "DuelSeconds$Insults"
  | 4 => .object "DuelSeconds$Insults"
  | 5 => .int
  | 6 => .array .int
  | 7 => .int
  | 8 => .long
  | 9 => .int
  | _ => .int
abbrev wsX40 : List Cond := u_ws RX4 TX4 11
theorem nmX4 : ∀ a, a < 11 → ∀ b, b < 11 → a ≠ b → (TX4 a).2.1 ≠ (TX4 b).2.1 := by decide +kernel
theorem tyX4_ok : ∀ k, k < 11 → parseFieldDescriptor (TX4 k).2.2.1 = some (tyX4 k) := by decide +kernel
abbrev cX4_init : ByteArray := prog_6_method_1_code
def yX4_init : MethodName := ⟨RX4, "<init>", "(LDuelSeconds$Persons;LDuelSeconds$Insults;)V"⟩
abbrev cX4_live : ByteArray := prog_6_method_2_code
def yX4_live : MethodName := ⟨RX4, "live", "(III)V"⟩
abbrev cX4_begin : ByteArray := prog_6_method_3_code
def yX4_begin : MethodName := ⟨RX4, "begin", "(II)V"⟩
abbrev cX4_pass : ByteArray := prog_6_method_4_code
def yX4_pass : MethodName := ⟨RX4, "pass", "(I)V"⟩
abbrev cX4_freeAhead : ByteArray := prog_6_method_5_code
def yX4_freeAhead : MethodName := ⟨RX4, "freeAhead", "(I)I"⟩
abbrev cX4_answer : ByteArray := prog_6_method_6_code
def yX4_answer : MethodName := ⟨RX4, "answer", "(LDuelSeconds$Insults;II)V"⟩
abbrev cX4_shoot : ByteArray := prog_6_method_7_code
def yX4_shoot : MethodName := ⟨RX4, "shoot", "(III)I"⟩
def RX5 : String := "DuelSeconds$Sheet"
def TX5 : u_T := fun k => match k with
  | 0 => ("DuelSeconds$Sheet", "hasRow", "Z", false)
  | 1 => ("DuelSeconds$Sheet", "lane", "I", false)
  | 2 => ("DuelSeconds$Sheet", "length", "I", false)
  | _ => ("DuelSeconds$Sheet", "cells", "[I", true)
def tyX5 : Nat → FieldType := fun k => match k with
  | 0 => .boolean
  | 1 => .int
  | 2 => .int
  | _ => .array .int
abbrev wsX50 : List Cond := u_ws RX5 TX5 4
theorem nmX5 : ∀ a, a < 4 → ∀ b, b < 4 → a ≠ b → (TX5 a).2.1 ≠ (TX5 b).2.1 := by decide +kernel
theorem tyX5_ok : ∀ k, k < 4 → parseFieldDescriptor (TX5 k).2.2.1 = some (tyX5 k) := by decide +kernel
abbrev cX5_init : ByteArray := prog_7_method_1_code
def yX5_init : MethodName := ⟨RX5, "<init>", "()V"⟩
abbrev cX5_renew : ByteArray := prog_7_method_2_code
def yX5_renew : MethodName := ⟨RX5, "renew", "(II)V"⟩
abbrev cX5_holds : ByteArray := prog_7_method_3_code
def yX5_holds : MethodName := ⟨RX5, "holds", "(II)Z"⟩
abbrev cX5_at : ByteArray := prog_7_method_4_code
def yX5_at : MethodName := ⟨RX5, "at", "(I)I"⟩
abbrev cX5_faultOfTaking : ByteArray := prog_7_method_5_code
def yX5_faultOfTaking : MethodName := ⟨RX5, "faultOfTaking", "(III)I"⟩
def RX6 : String := "DuelSeconds$Text"
def TX6 : u_T := fun k => match k with
  | _ => ("", "", "", false)
def tyX6 : Nat → FieldType := fun k => match k with
  | _ => .int
abbrev wsX60 : List Cond := u_ws RX6 TX6 0
theorem nmX6 : ∀ a, a < 0 → ∀ b, b < 0 → a ≠ b → (TX6 a).2.1 ≠ (TX6 b).2.1 := by decide +kernel
theorem tyX6_ok : ∀ k, k < 0 → parseFieldDescriptor (TX6 k).2.2.1 = some (tyX6 k) := by decide +kernel
abbrev cX6_firstFault : ByteArray := prog_8_method_2_code
def yX6_firstFault : MethodName := ⟨RX6, "firstFault", "(LDuelSeconds$Sheet;II)I"⟩
abbrev cX6_goesOn : ByteArray := prog_8_method_3_code
def yX6_goesOn : MethodName := ⟨RX6, "goesOn", "(LDuelSeconds$Sheet;II)Z"⟩
abbrev cX6_digit : ByteArray := prog_8_method_4_code
def yX6_digit : MethodName := ⟨RX6, "digit", "(I)I"⟩
abbrev cX6_kindOf : ByteArray := prog_8_method_5_code
def yX6_kindOf : MethodName := ⟨RX6, "kindOf", "(I)I"⟩
abbrev cX6_read : ByteArray := prog_8_method_6_code
def yX6_read : MethodName := ⟨RX6, "read", "(LDuelSeconds$Sheet;ILDuelSeconds$Persons;)V"⟩
def RX7 : String := "DuelSeconds"
def TX7 : u_T := fun k => match k with
  | 0 => ("DuelSeconds", "persons", "LDuelSeconds$Persons;", true)
  | 1 => ("DuelSeconds", "told", "LDuelSeconds$Insults;", true)
  | 2 => ("DuelSeconds", "readings", "LDuelSeconds$Readings;", true)
  | 3 => ("DuelSeconds", "season", "LDuelSeconds$Season;", true)
  | 4 => ("DuelSeconds", "sheets", "[LDuelSeconds$Sheet;", true)
  | 5 => ("DuelSeconds", "trace", "I", false)
  | _ => ("DuelSeconds", "fault", "I", false)
def tyX7 : Nat → FieldType := fun k => match k with
  | 0 => .object "DuelSeconds$Persons"
  | 1 => .object "DuelSeconds$Insults"
  | 2 => .object "DuelSeconds$Readings"
  | 3 => .object "DuelSeconds$Season"
  | 4 => .array (.object "DuelSeconds$Sheet")
  | 5 => .int
  | _ => .int
abbrev wsX70 : List Cond := u_ws RX7 TX7 7
theorem nmX7 : ∀ a, a < 7 → ∀ b, b < 7 → a ≠ b → (TX7 a).2.1 ≠ (TX7 b).2.1 := by decide +kernel
theorem tyX7_ok : ∀ k, k < 7 → parseFieldDescriptor (TX7 k).2.2.1 = some (tyX7 k) := by decide +kernel
abbrev cX7_init : ByteArray := prog_1_method_1_code
def yX7_init : MethodName := ⟨RX7, "<init>", "()V"⟩
abbrev cX7_coast : ByteArray := prog_1_method_2_code
def yX7_coast : MethodName := ⟨RX7, "coast", "(IIII)I"⟩
abbrev cX7_ofPerson : ByteArray := prog_1_method_3_code
def yX7_ofPerson : MethodName := ⟨RX7, "ofPerson", "(II)I"⟩
abbrev cX7_insult : ByteArray := prog_1_method_4_code
def yX7_insult : MethodName := ⟨RX7, "insult", "(IIII)I"⟩
abbrev cX7_sorry : ByteArray := prog_1_method_5_code
def yX7_sorry : MethodName := ⟨RX7, "sorry", "(I)I"⟩
abbrev cX7_arrest : ByteArray := prog_1_method_6_code
def yX7_arrest : MethodName := ⟨RX7, "arrest", "(IZ)I"⟩
abbrev cX7_meetings : ByteArray := prog_1_method_7_code
def yX7_meetings : MethodName := ⟨RX7, "meetings", "(I)I"⟩
abbrev cX7_met : ByteArray := prog_1_method_8_code
def yX7_met : MethodName := ⟨RX7, "met", "(II)I"⟩
abbrev cX7_free : ByteArray := prog_1_method_9_code
def yX7_free : MethodName := ⟨RX7, "free", "(II)I"⟩
abbrev cX7_second : ByteArray := prog_1_method_10_code
def yX7_second : MethodName := ⟨RX7, "second", "(III)I"⟩
abbrev cX7_worth : ByteArray := prog_1_method_11_code
def yX7_worth : MethodName := ⟨RX7, "worth", "(I)I"⟩
abbrev cX7_arrests : ByteArray := prog_1_method_12_code
def yX7_arrests : MethodName := ⟨RX7, "arrests", "(I)I"⟩
abbrev cX7_provoked : ByteArray := prog_1_method_13_code
def yX7_provoked : MethodName := ⟨RX7, "provoked", "(III)I"⟩
abbrev cX7_provokingDegree : ByteArray := prog_1_method_14_code
def yX7_provokingDegree : MethodName := ⟨RX7, "provokingDegree", "(IIII)I"⟩
abbrev cX7_odds : ByteArray := prog_1_method_15_code
def yX7_odds : MethodName := ⟨RX7, "odds", "(III)J"⟩
abbrev cX7_reading : ByteArray := prog_1_method_16_code
def yX7_reading : MethodName := ⟨RX7, "reading", "(IIZ)I"⟩
abbrev cX7_back : ByteArray := prog_1_method_17_code
def yX7_back : MethodName := ⟨RX7, "back", "(I)I"⟩
abbrev cX7_never : ByteArray := prog_1_method_18_code
def yX7_never : MethodName := ⟨RX7, "never", "()I"⟩
abbrev cX7_caught : ByteArray := prog_1_method_19_code
def yX7_caught : MethodName := ⟨RX7, "caught", "()I"⟩
abbrev cX7_row : ByteArray := prog_1_method_20_code
def yX7_row : MethodName := ⟨RX7, "row", "(IIII)I"⟩
abbrev cX7_freeInTurn : ByteArray := prog_1_method_21_code
def yX7_freeInTurn : MethodName := ⟨RX7, "freeInTurn", "(LDuelSeconds$Sheet;II)I"⟩
abbrev cX7_sheet : ByteArray := prog_1_method_22_code
def yX7_sheet : MethodName := ⟨RX7, "sheet", "(III)I"⟩
abbrev cX7_lose : ByteArray := prog_1_method_23_code
def yX7_lose : MethodName := ⟨RX7, "lose", "(I)I"⟩
abbrev cX7_put : ByteArray := prog_1_method_24_code
def yX7_put : MethodName := ⟨RX7, "put", "(III)I"⟩
abbrev cX7_cell : ByteArray := prog_1_method_25_code
def yX7_cell : MethodName := ⟨RX7, "cell", "(III)J"⟩
abbrev cX7_copy : ByteArray := prog_1_method_26_code
def yX7_copy : MethodName := ⟨RX7, "copy", "(IIIII)I"⟩
abbrev cX7_tell : ByteArray := prog_1_method_27_code
def yX7_tell : MethodName := ⟨RX7, "tell", "(I)I"⟩
abbrev cX7_salute : ByteArray := prog_1_method_28_code
def yX7_salute : MethodName := ⟨RX7, "salute", "(I)I"⟩
abbrev cX7_as : ByteArray := prog_1_method_29_code
def yX7_as : MethodName := ⟨RX7, "as", "(II)I"⟩
abbrev cX7_trace : ByteArray := prog_1_method_30_code
def yX7_trace : MethodName := ⟨RX7, "trace", "()I"⟩
abbrev cX7_fault : ByteArray := prog_1_method_31_code
def yX7_fault : MethodName := ⟨RX7, "fault", "()I"⟩
abbrev cX7_many : ByteArray := prog_1_method_32_code
def yX7_many : MethodName := ⟨RX7, "many", "(I)I"⟩
abbrev cX7_tellGentleman : ByteArray := prog_1_method_33_code
def yX7_tellGentleman : MethodName := ⟨RX7, "tellGentleman", "(I)I"⟩
abbrev cX7_tellHothead : ByteArray := prog_1_method_34_code
def yX7_tellHothead : MethodName := ⟨RX7, "tellHothead", "(I)I"⟩
abbrev cX7_tellOfficer : ByteArray := prog_1_method_35_code
def yX7_tellOfficer : MethodName := ⟨RX7, "tellOfficer", "(I)I"⟩
abbrev cX7_saluteByLentBody : ByteArray := prog_1_method_36_code
def yX7_saluteByLentBody : MethodName := ⟨RX7, "saluteByLentBody", "(I)I"⟩
abbrev cX7_saluteOfficer : ByteArray := prog_1_method_37_code
def yX7_saluteOfficer : MethodName := ⟨RX7, "saluteOfficer", "()I"⟩
abbrev cX7_leave : ByteArray := prog_1_method_38_code
def yX7_leave : MethodName := ⟨RX7, "leave", "(I)V"⟩
abbrev cX7_isEmpty : ByteArray := prog_1_method_39_code
def yX7_isEmpty : MethodName := ⟨RX7, "isEmpty", "()Z"⟩
abbrev cX7_sheetOf : ByteArray := prog_1_method_40_code
def yX7_sheetOf : MethodName := ⟨RX7, "sheetOf", "(I)LDuelSeconds$Sheet;"⟩
abbrev cX7_faulted : ByteArray := prog_1_method_41_code
def yX7_faulted : MethodName := ⟨RX7, "faulted", "(I)I"⟩
abbrev cX7_isLane : ByteArray := prog_1_method_42_code
def yX7_isLane : MethodName := ⟨RX7, "isLane", "(I)Z"⟩
abbrev cX7_isDay : ByteArray := prog_1_method_43_code
def yX7_isDay : MethodName := ⟨RX7, "isDay", "(I)Z"⟩
abbrev cX7_isDawn : ByteArray := prog_1_method_44_code
def yX7_isDawn : MethodName := ⟨RX7, "isDawn", "(I)Z"⟩
abbrev cX7_bit : ByteArray := prog_1_method_45_code
def yX7_bit : MethodName := ⟨RX7, "bit", "(I)I"⟩
abbrev cX7_in : ByteArray := prog_1_method_46_code
def yX7_in : MethodName := ⟨RX7, "in", "(II)Z"⟩
abbrev cX7_cut : ByteArray := prog_1_method_47_code
def yX7_cut : MethodName := ⟨RX7, "cut", "(II)I"⟩
def RX8 : String := "DuelSecondsModel"
def TX8 : u_T := fun k => match k with
  | 0 => ("DuelSecondsModel", "fault", "I", false)
  | 1 => ("DuelSecondsModel", "trace", "I", false)
  | 2 => ("DuelSecondsModel", "sorts", "[I", true)
  | 3 => ("DuelSecondsModel", "sheetLong", "[I", true)
  | 4 => ("DuelSecondsModel", "cells", "[I", true)
  | 5 => ("DuelSecondsModel", "persons", "I", false)
  | 6 => ("DuelSecondsModel", "kind", "[I", true)
  | 7 => ("DuelSecondsModel", "honour", "[I", true)
  | 8 => ("DuelSecondsModel", "friend", "[I", true)
  | 9 => ("DuelSecondsModel", "isArrested", "[Z", true)
  | 10 => ("DuelSecondsModel", "at", "I", false)
  | 11 => ("DuelSecondsModel", "readMany", "I", false)
  | 12 => ("DuelSecondsModel", "readKind", "[I", true)
  | 13 => ("DuelSecondsModel", "readHonour", "[I", true)
  | 14 => ("DuelSecondsModel", "readFriend", "[I", true)
  | 15 => ("DuelSecondsModel", "insults", "I", false)
  | 16 => ("DuelSecondsModel", "from", "[I", true)
  | 17 => ("DuelSecondsModel", "to", "[I", true)
  | 18 => ("DuelSecondsModel", "dayOf", "[I", true)
  | 19 => ("DuelSecondsModel", "degreeOf", "[I", true)
  | 20 => ("DuelSecondsModel", "unmade", "I", false)
  | 21 => ("DuelSecondsModel", "freeFrom", "[I", true)
  | 22 => ("DuelSecondsModel", "meeting", "I", false)
  | 23 => ("DuelSecondsModel", "taken", "I", false)
  | 24 => ("DuelSecondsModel", "takenFrom", "[I", true)
  | 25 => ("DuelSecondsModel", "takenTo", "[I", true)
  | 26 => ("DuelSecondsModel", "takenDegree", "[I", true)
  | 27 => ("DuelSecondsModel", "takenDay", "[I", true)
  | 28 => ("DuelSecondsModel", "met", "I", false)
  | 29 => ("DuelSecondsModel", "metDawn", "[I", true)
  | 30 => ("DuelSecondsModel", "metOne", "[I", true)
  | 31 => ("DuelSecondsModel", "metOther", "[I", true)
  | 32 => ("DuelSecondsModel", "metInsulted", "[I", true)
  | 33 => ("DuelSecondsModel", "metInsulter", "[I", true)
  | 34 => ("DuelSecondsModel", "metHurt", "[I", true)
  | 35 => ("DuelSecondsModel", "readings", "I", false)
  | 36 => ("DuelSecondsModel", "readPerson", "[I", true)
  | 37 => ("DuelSecondsModel", "readDawn", "[I", true)
  | _ => ("DuelSecondsModel", "readWas", "[Z", true)
def tyX8 : Nat → FieldType := fun k => match k with
  | 0 => .int
  | 1 => .int
  | 2 => .array .int
  | 3 => .array .int
  | 4 => .array .int
  | 5 => .int
  | 6 => .array .int
  | 7 => .array .int
  | 8 => .array .int
  | 9 => .array .boolean
  | 10 => .int
  | 11 => .int
  | 12 => .array .int
  | 13 => .array .int
  | 14 => .array .int
  | 15 => .int
  | 16 => .array .int
  | 17 => .array .int
  | 18 => .array .int
  | 19 => .array .int
  | 20 => .int
  | 21 => .array .int
  | 22 => .int
  | 23 => .int
  | 24 => .array .int
  | 25 => .array .int
  | 26 => .array .int
  | 27 => .array .int
  | 28 => .int
  | 29 => .array .int
  | 30 => .array .int
  | 31 => .array .int
  | 32 => .array .int
  | 33 => .array .int
  | 34 => .array .int
  | 35 => .int
  | 36 => .array .int
  | 37 => .array .int
  | _ => .array .boolean
abbrev wsX80 : List Cond := u_ws RX8 TX8 39
theorem nmX8 : ∀ a, a < 39 → ∀ b, b < 39 → a ≠ b → (TX8 a).2.1 ≠ (TX8 b).2.1 := by decide +kernel
theorem tyX8_ok : ∀ k, k < 39 → parseFieldDescriptor (TX8 k).2.2.1 = some (tyX8 k) := by decide +kernel
abbrev cX8_init : ByteArray := prog_10_method_1_code
def yX8_init : MethodName := ⟨RX8, "<init>", "()V"⟩
abbrev cX8_fails : ByteArray := prog_10_method_3_code
def yX8_fails : MethodName := ⟨RX8, "fails", "(I)I"⟩
abbrev cX8_lost : ByteArray := prog_10_method_4_code
def yX8_lost : MethodName := ⟨RX8, "lost", "(I)J"⟩
abbrev cX8_within : ByteArray := prog_10_method_5_code
def yX8_within : MethodName := ⟨RX8, "within", "(III)Z"⟩
abbrev cX8_isSheet : ByteArray := prog_10_method_6_code
def yX8_isSheet : MethodName := ⟨RX8, "isSheet", "(I)Z"⟩
abbrev cX8_isSort : ByteArray := prog_10_method_7_code
def yX8_isSort : MethodName := ⟨RX8, "isSort", "(I)Z"⟩
abbrev cX8_against : ByteArray := prog_10_method_8_code
def yX8_against : MethodName := ⟨RX8, "against", "(IIII)I"⟩
abbrev cX8_isPerson : ByteArray := prog_10_method_9_code
def yX8_isPerson : MethodName := ⟨RX8, "isPerson", "(I)Z"⟩
abbrev cX8_isDawn : ByteArray := prog_10_method_10_code
def yX8_isDawn : MethodName := ⟨RX8, "isDawn", "(I)Z"⟩
abbrev cX8_digit : ByteArray := prog_10_method_11_code
def yX8_digit : MethodName := ⟨RX8, "digit", "(III)I"⟩
abbrev cX8_coast : ByteArray := prog_10_method_12_code
def yX8_coast : MethodName := ⟨RX8, "coast", "(IIII)I"⟩
abbrev cX8_readCoast : ByteArray := prog_10_method_13_code
def yX8_readCoast : MethodName := ⟨RX8, "readCoast", "(I)Z"⟩
abbrev cX8_readPerson : ByteArray := prog_10_method_14_code
def yX8_readPerson : MethodName := ⟨RX8, "readPerson", "(II)Z"⟩
abbrev cX8_touchy : ByteArray := prog_10_method_15_code
def yX8_touchy : MethodName := ⟨RX8, "touchy", "(I)I"⟩
abbrev cX8_ofPerson : ByteArray := prog_10_method_16_code
def yX8_ofPerson : MethodName := ⟨RX8, "ofPerson", "(II)I"⟩
abbrev cX8_lay : ByteArray := prog_10_method_17_code
def yX8_lay : MethodName := ⟨RX8, "lay", "(IIIII)V"⟩
abbrev cX8_insult : ByteArray := prog_10_method_18_code
def yX8_insult : MethodName := ⟨RX8, "insult", "(IIII)I"⟩
abbrev cX8_sorry : ByteArray := prog_10_method_19_code
def yX8_sorry : MethodName := ⟨RX8, "sorry", "(I)I"⟩
abbrev cX8_arrest : ByteArray := prog_10_method_20_code
def yX8_arrest : MethodName := ⟨RX8, "arrest", "(IZ)I"⟩
abbrev cX8_isFree : ByteArray := prog_10_method_21_code
def yX8_isFree : MethodName := ⟨RX8, "isFree", "(II)Z"⟩
abbrev cX8_maySecond : ByteArray := prog_10_method_22_code
def yX8_maySecond : MethodName := ⟨RX8, "maySecond", "(IIIII)Z"⟩
abbrev cX8_secondOf : ByteArray := prog_10_method_23_code
def yX8_secondOf : MethodName := ⟨RX8, "secondOf", "(IIII)I"⟩
abbrev cX8_meet : ByteArray := prog_10_method_24_code
def yX8_meet : MethodName := ⟨RX8, "meet", "(IIIII)V"⟩
abbrev cX8_hurt : ByteArray := prog_10_method_25_code
def yX8_hurt : MethodName := ⟨RX8, "hurt", "(III)V"⟩
abbrev cX8_answer : ByteArray := prog_10_method_26_code
def yX8_answer : MethodName := ⟨RX8, "answer", "(IIII)V"⟩
abbrev cX8_begin : ByteArray := prog_10_method_27_code
def yX8_begin : MethodName := ⟨RX8, "begin", "()V"⟩
abbrev cX8_goDawn : ByteArray := prog_10_method_28_code
def yX8_goDawn : MethodName := ⟨RX8, "goDawn", "(I)V"⟩
abbrev cX8_goAhead : ByteArray := prog_10_method_29_code
def yX8_goAhead : MethodName := ⟨RX8, "goAhead", "(I)V"⟩
abbrev cX8_meetings : ByteArray := prog_10_method_30_code
def yX8_meetings : MethodName := ⟨RX8, "meetings", "(I)I"⟩
abbrev cX8_met : ByteArray := prog_10_method_31_code
def yX8_met : MethodName := ⟨RX8, "met", "(II)I"⟩
abbrev cX8_free : ByteArray := prog_10_method_32_code
def yX8_free : MethodName := ⟨RX8, "free", "(II)I"⟩
abbrev cX8_second : ByteArray := prog_10_method_33_code
def yX8_second : MethodName := ⟨RX8, "second", "(III)I"⟩
abbrev cX8_worth : ByteArray := prog_10_method_34_code
def yX8_worth : MethodName := ⟨RX8, "worth", "(I)I"⟩
abbrev cX8_size : ByteArray := prog_10_method_35_code
def yX8_size : MethodName := ⟨RX8, "size", "(I)I"⟩
abbrev cX8_arrestAll : ByteArray := prog_10_method_36_code
def yX8_arrestAll : MethodName := ⟨RX8, "arrestAll", "(IZ)V"⟩
abbrev cX8_arrests : ByteArray := prog_10_method_37_code
def yX8_arrests : MethodName := ⟨RX8, "arrests", "(I)I"⟩
abbrev cX8_didMeet : ByteArray := prog_10_method_38_code
def yX8_didMeet : MethodName := ⟨RX8, "didMeet", "(III)Z"⟩
abbrev cX8_doesProvoke : ByteArray := prog_10_method_39_code
def yX8_doesProvoke : MethodName := ⟨RX8, "doesProvoke", "(IIIIII)Z"⟩
abbrev cX8_provoked : ByteArray := prog_10_method_40_code
def yX8_provoked : MethodName := ⟨RX8, "provoked", "(III)I"⟩
abbrev cX8_inLeastTerms : ByteArray := prog_10_method_41_code
def yX8_inLeastTerms : MethodName := ⟨RX8, "inLeastTerms", "(JJI)J"⟩
abbrev cX8_wasHurt : ByteArray := prog_10_method_42_code
def yX8_wasHurt : MethodName := ⟨RX8, "wasHurt", "(I)Z"⟩
abbrev cX8_odds : ByteArray := prog_10_method_43_code
def yX8_odds : MethodName := ⟨RX8, "odds", "(III)J"⟩
abbrev cX8_reading : ByteArray := prog_10_method_44_code
def yX8_reading : MethodName := ⟨RX8, "reading", "(IIZ)I"⟩
abbrev cX8_back : ByteArray := prog_10_method_45_code
def yX8_back : MethodName := ⟨RX8, "back", "(I)I"⟩
abbrev cX8_wasIn : ByteArray := prog_10_method_46_code
def yX8_wasIn : MethodName := ⟨RX8, "wasIn", "(II)Z"⟩
abbrev cX8_areSo : ByteArray := prog_10_method_47_code
def yX8_areSo : MethodName := ⟨RX8, "areSo", "()Z"⟩
abbrev cX8_never : ByteArray := prog_10_method_48_code
def yX8_never : MethodName := ⟨RX8, "never", "()I"⟩
abbrev cX8_caught : ByteArray := prog_10_method_49_code
def yX8_caught : MethodName := ⟨RX8, "caught", "()I"⟩
abbrev cX8_row : ByteArray := prog_10_method_50_code
def yX8_row : MethodName := ⟨RX8, "row", "(IIII)I"⟩
abbrev cX8_sheet : ByteArray := prog_10_method_51_code
def yX8_sheet : MethodName := ⟨RX8, "sheet", "(III)I"⟩
abbrev cX8_lose : ByteArray := prog_10_method_52_code
def yX8_lose : MethodName := ⟨RX8, "lose", "(I)I"⟩
abbrev cX8_put : ByteArray := prog_10_method_53_code
def yX8_put : MethodName := ⟨RX8, "put", "(III)I"⟩
abbrev cX8_cell : ByteArray := prog_10_method_54_code
def yX8_cell : MethodName := ⟨RX8, "cell", "(III)J"⟩
abbrev cX8_copy : ByteArray := prog_10_method_55_code
def yX8_copy : MethodName := ⟨RX8, "copy", "(IIIII)I"⟩
abbrev cX8_begins : ByteArray := prog_10_method_56_code
def yX8_begins : MethodName := ⟨RX8, "begins", "(I)V"⟩
abbrev cX8_tell : ByteArray := prog_10_method_57_code
def yX8_tell : MethodName := ⟨RX8, "tell", "(I)I"⟩
abbrev cX8_salute : ByteArray := prog_10_method_58_code
def yX8_salute : MethodName := ⟨RX8, "salute", "(I)I"⟩
abbrev cX8_as : ByteArray := prog_10_method_59_code
def yX8_as : MethodName := ⟨RX8, "as", "(II)I"⟩
abbrev cX8_trace : ByteArray := prog_10_method_60_code
def yX8_trace : MethodName := ⟨RX8, "trace", "()I"⟩
abbrev cX8_fault : ByteArray := prog_10_method_61_code
def yX8_fault : MethodName := ⟨RX8, "fault", "()I"⟩
abbrev cX8_many : ByteArray := prog_10_method_62_code
def yX8_many : MethodName := ⟨RX8, "many", "(I)I"⟩
def RJ6 : String := "java/lang/Integer"
abbrev cJ6_bitCount_0f7a4 : ByteArray := prog_11_method_49_code
def yJ6_bitCount_0f7a4 : MethodName := ⟨RJ6, "bitCount", "(I)I"⟩
def RJ9 : String := "java/lang/Math"
abbrev cJ9_abs_0f7a4 : ByteArray := prog_12_method_59_code
def yJ9_abs_0f7a4 : MethodName := ⟨RJ9, "abs", "(I)I"⟩
abbrev cJ9_max_7cf53 : ByteArray := prog_12_method_65_code
def yJ9_max_7cf53 : MethodName := ⟨RJ9, "max", "(II)I"⟩
abbrev cJ9_min_7cf53 : ByteArray := prog_12_method_69_code
def yJ9_min_7cf53 : MethodName := ⟨RJ9, "min", "(II)I"⟩
def RJ10 : String := "java/lang/System"
def RJ7 : String := "java/util/Arrays"
abbrev cJ7_fill_53178 : ByteArray := prog_14_method_103_code
def yJ7_fill_53178 : MethodName := ⟨RJ7, "fill", "([II)V"⟩
def RL : String := "DuelSecondsLaw"
abbrev cL_law : ByteArray := code
def yL_law : MethodName := ⟨RL, "law", "([I)Z"⟩
abbrev vwCl : List vw_C := [(RX0, TX0, 5), (RX1, TX1, 2), (RX2, TX2, 6), (RX3, TX3, 4), (RX4, TX4, 11), (RX5, TX5, 4), (RX7, TX7, 7), (RX8, TX8, 39)]
/-- the tables' words that a method may hand on -/
def cw : List Cond := lw_tbl.filter goodWord
theorem cw_in {w : Cond} (h : w ∈ cw) : w ∈ lw_tbl := (List.mem_filter.mp h).1
theorem cw_good {w : Cond} (h : w ∈ cw) : goodWord w = true := (List.mem_filter.mp h).2
theorem cw_0 (i : Nat) {w : Cond} (h : (k2_sels lw_privs)[i]? = some w) (g : goodWord w = true) : w ∈ cw := List.mem_filter.mpr ⟨List.mem_append_left _ (List.mem_of_getElem? h), g⟩
theorem cw_1 (i : Nat) {w : Cond} (h : tables_1_1[i]? = some w) (g : goodWord w = true) : w ∈ cw := List.mem_filter.mpr ⟨List.mem_append_right _ (show w ∈ tables_1 from List.mem_append_left _ (List.mem_of_getElem? h)), g⟩
theorem cw_2 (i : Nat) {w : Cond} (h : tables_1_2[i]? = some w) (g : goodWord w = true) : w ∈ cw := List.mem_filter.mpr ⟨List.mem_append_right _ (show w ∈ tables_1 from List.mem_append_right _ (List.mem_append_left _ (List.mem_of_getElem? h))), g⟩
theorem cw_3 (i : Nat) {w : Cond} (h : tables_1_3[i]? = some w) (g : goodWord w = true) : w ∈ cw := List.mem_filter.mpr ⟨List.mem_append_right _ (show w ∈ tables_1 from List.mem_append_right _ (List.mem_append_right _ (List.mem_append_left _ (List.mem_of_getElem? h)))), g⟩
theorem cw_4 (i : Nat) {w : Cond} (h : tables_1_4[i]? = some w) (g : goodWord w = true) : w ∈ cw := List.mem_filter.mpr ⟨List.mem_append_right _ (show w ∈ tables_1 from List.mem_append_right _ (List.mem_append_right _ (List.mem_append_right _ (List.mem_of_getElem? h)))), g⟩
end
section
theorem dX0_init_0 : decode cX0_init 0 = .ok (.aload_n 0, 1) := by decide +kernel
theorem dX0_init_1 : decode cX0_init 1 = .ok (.invokespecial 1, 3) := by decide +kernel
theorem dX0_init_4 : decode cX0_init 4 = .ok (.aload_n 0, 1) := by decide +kernel
theorem dX0_init_5 : decode cX0_init 5 = .ok (.iload_n 1, 1) := by decide +kernel
theorem dX0_init_6 : decode cX0_init 6 = .ok (.newarray .int, 2) := by decide +kernel
theorem dX0_init_8 : decode cX0_init 8 = .ok (.putfield 7, 3) := by decide +kernel
theorem dX0_init_11 : decode cX0_init 11 = .ok (.aload_n 0, 1) := by decide +kernel
theorem dX0_init_12 : decode cX0_init 12 = .ok (.iload_n 1, 1) := by decide +kernel
theorem dX0_init_13 : decode cX0_init 13 = .ok (.newarray .int, 2) := by decide +kernel
theorem dX0_init_15 : decode cX0_init 15 = .ok (.putfield 13, 3) := by decide +kernel
theorem dX0_init_18 : decode cX0_init 18 = .ok (.aload_n 0, 1) := by decide +kernel
theorem dX0_init_19 : decode cX0_init 19 = .ok (.iload_n 1, 1) := by decide +kernel
theorem dX0_init_20 : decode cX0_init 20 = .ok (.newarray .int, 2) := by decide +kernel
theorem dX0_init_22 : decode cX0_init 22 = .ok (.putfield 16, 3) := by decide +kernel
theorem dX0_init_25 : decode cX0_init 25 = .ok (.aload_n 0, 1) := by decide +kernel
theorem dX0_init_26 : decode cX0_init 26 = .ok (.iload_n 1, 1) := by decide +kernel
theorem dX0_init_27 : decode cX0_init 27 = .ok (.newarray .int, 2) := by decide +kernel
theorem dX0_init_29 : decode cX0_init 29 = .ok (.putfield 19, 3) := by decide +kernel
theorem dX0_init_32 : decode cX0_init 32 = .ok (.return_, 1) := by decide +kernel
theorem dX0_add_0 : decode cX0_add 0 = .ok (.aload_n 0, 1) := by decide +kernel
theorem dX0_add_1 : decode cX0_add 1 = .ok (.getfield 22, 3) := by decide +kernel
theorem dX0_add_4 : decode cX0_add 4 = .ok (.aload_n 0, 1) := by decide +kernel
theorem dX0_add_5 : decode cX0_add 5 = .ok (.getfield 7, 3) := by decide +kernel
theorem dX0_add_8 : decode cX0_add 8 = .ok (.arraylength, 1) := by decide +kernel
theorem dX0_add_9 : decode cX0_add 9 = .ok (.if_icmp .ge 54, 3) := by decide +kernel
theorem dX0_add_12 : decode cX0_add 12 = .ok (.aload_n 0, 1) := by decide +kernel
theorem dX0_add_13 : decode cX0_add 13 = .ok (.getfield 7, 3) := by decide +kernel
theorem dX0_add_16 : decode cX0_add 16 = .ok (.aload_n 0, 1) := by decide +kernel
theorem dX0_add_17 : decode cX0_add 17 = .ok (.getfield 22, 3) := by decide +kernel
theorem dX0_add_20 : decode cX0_add 20 = .ok (.iload_n 1, 1) := by decide +kernel
theorem dX0_add_21 : decode cX0_add 21 = .ok (.iastore, 1) := by decide +kernel
theorem dX0_add_22 : decode cX0_add 22 = .ok (.aload_n 0, 1) := by decide +kernel
theorem dX0_add_23 : decode cX0_add 23 = .ok (.getfield 13, 3) := by decide +kernel
theorem dX0_add_26 : decode cX0_add 26 = .ok (.aload_n 0, 1) := by decide +kernel
theorem dX0_add_27 : decode cX0_add 27 = .ok (.getfield 22, 3) := by decide +kernel
theorem dX0_add_30 : decode cX0_add 30 = .ok (.iload_n 2, 1) := by decide +kernel
theorem dX0_add_31 : decode cX0_add 31 = .ok (.iastore, 1) := by decide +kernel
theorem dX0_add_32 : decode cX0_add 32 = .ok (.aload_n 0, 1) := by decide +kernel
theorem dX0_add_33 : decode cX0_add 33 = .ok (.getfield 16, 3) := by decide +kernel
theorem dX0_add_36 : decode cX0_add 36 = .ok (.aload_n 0, 1) := by decide +kernel
theorem dX0_add_37 : decode cX0_add 37 = .ok (.getfield 22, 3) := by decide +kernel
theorem dX0_add_40 : decode cX0_add 40 = .ok (.iload_n 3, 1) := by decide +kernel
theorem dX0_add_41 : decode cX0_add 41 = .ok (.iastore, 1) := by decide +kernel
theorem dX0_add_42 : decode cX0_add 42 = .ok (.aload_n 0, 1) := by decide +kernel
theorem dX0_add_43 : decode cX0_add 43 = .ok (.getfield 19, 3) := by decide +kernel
theorem dX0_add_46 : decode cX0_add 46 = .ok (.aload_n 0, 1) := by decide +kernel
theorem dX0_add_47 : decode cX0_add 47 = .ok (.getfield 22, 3) := by decide +kernel
theorem dX0_add_50 : decode cX0_add 50 = .ok (.iload 4, 2) := by decide +kernel
theorem dX0_add_52 : decode cX0_add 52 = .ok (.iastore, 1) := by decide +kernel
theorem dX0_add_53 : decode cX0_add 53 = .ok (.aload_n 0, 1) := by decide +kernel
theorem dX0_add_54 : decode cX0_add 54 = .ok (.dup, 1) := by decide +kernel
theorem dX0_add_55 : decode cX0_add 55 = .ok (.getfield 22, 3) := by decide +kernel
theorem dX0_add_58 : decode cX0_add 58 = .ok (.iconst 1, 1) := by decide +kernel
theorem dX0_add_59 : decode cX0_add 59 = .ok (.iadd, 1) := by decide +kernel
theorem dX0_add_60 : decode cX0_add 60 = .ok (.putfield 22, 3) := by decide +kernel
theorem dX0_add_63 : decode cX0_add 63 = .ok (.return_, 1) := by decide +kernel
theorem dX1_init_0 : decode cX1_init 0 = .ok (.aload_n 0, 1) := by decide +kernel
theorem dX1_init_1 : decode cX1_init 1 = .ok (.invokespecial 3, 3) := by decide +kernel
theorem dX1_init_4 : decode cX1_init 4 = .ok (.aload_n 0, 1) := by decide +kernel
theorem dX1_init_5 : decode cX1_init 5 = .ok (.bipush 6, 2) := by decide +kernel
theorem dX1_init_7 : decode cX1_init 7 = .ok (.sipush 180, 3) := by decide +kernel
theorem dX1_init_10 : decode cX1_init 10 = .ok (.multianewarray 9 2, 4) := by decide +kernel
theorem dX1_init_14 : decode cX1_init 14 = .ok (.putfield 11, 3) := by decide +kernel
theorem dX1_init_17 : decode cX1_init 17 = .ok (.return_, 1) := by decide +kernel
theorem dX1_add_0 : decode cX1_add 0 = .ok (.aload_n 0, 1) := by decide +kernel
theorem dX1_add_1 : decode cX1_add 1 = .ok (.getfield 16, 3) := by decide +kernel
theorem dX1_add_4 : decode cX1_add 4 = .ok (.sipush 180, 3) := by decide +kernel
theorem dX1_add_7 : decode cX1_add 7 = .ok (.if_icmp .ge 88, 3) := by decide +kernel
theorem dX1_add_10 : decode cX1_add 10 = .ok (.aload_n 0, 1) := by decide +kernel
theorem dX1_add_11 : decode cX1_add 11 = .ok (.getfield 11, 3) := by decide +kernel
theorem dX1_add_14 : decode cX1_add 14 = .ok (.iconst 0, 1) := by decide +kernel
theorem dX1_add_15 : decode cX1_add 15 = .ok (.aaload, 1) := by decide +kernel
theorem dX1_add_16 : decode cX1_add 16 = .ok (.aload_n 0, 1) := by decide +kernel
theorem dX1_add_17 : decode cX1_add 17 = .ok (.getfield 16, 3) := by decide +kernel
theorem dX1_add_20 : decode cX1_add 20 = .ok (.iload_n 1, 1) := by decide +kernel
theorem dX1_add_21 : decode cX1_add 21 = .ok (.iastore, 1) := by decide +kernel
theorem dX1_add_22 : decode cX1_add 22 = .ok (.aload_n 0, 1) := by decide +kernel
theorem dX1_add_23 : decode cX1_add 23 = .ok (.getfield 11, 3) := by decide +kernel
theorem dX1_add_26 : decode cX1_add 26 = .ok (.iconst 1, 1) := by decide +kernel
theorem dX1_add_27 : decode cX1_add 27 = .ok (.aaload, 1) := by decide +kernel
theorem dX1_add_28 : decode cX1_add 28 = .ok (.aload_n 0, 1) := by decide +kernel
theorem dX1_add_29 : decode cX1_add 29 = .ok (.getfield 16, 3) := by decide +kernel
theorem dX1_add_32 : decode cX1_add 32 = .ok (.iload_n 2, 1) := by decide +kernel
theorem dX1_add_33 : decode cX1_add 33 = .ok (.iastore, 1) := by decide +kernel
theorem dX1_add_34 : decode cX1_add 34 = .ok (.aload_n 0, 1) := by decide +kernel
theorem dX1_add_35 : decode cX1_add 35 = .ok (.getfield 11, 3) := by decide +kernel
theorem dX1_add_38 : decode cX1_add 38 = .ok (.iconst 2, 1) := by decide +kernel
theorem dX1_add_39 : decode cX1_add 39 = .ok (.aaload, 1) := by decide +kernel
theorem dX1_add_40 : decode cX1_add 40 = .ok (.aload_n 0, 1) := by decide +kernel
theorem dX1_add_41 : decode cX1_add 41 = .ok (.getfield 16, 3) := by decide +kernel
theorem dX1_add_44 : decode cX1_add 44 = .ok (.iload_n 3, 1) := by decide +kernel
theorem dX1_add_45 : decode cX1_add 45 = .ok (.iastore, 1) := by decide +kernel
theorem dX1_add_46 : decode cX1_add 46 = .ok (.aload_n 0, 1) := by decide +kernel
theorem dX1_add_47 : decode cX1_add 47 = .ok (.getfield 11, 3) := by decide +kernel
theorem dX1_add_50 : decode cX1_add 50 = .ok (.iconst 3, 1) := by decide +kernel
theorem dX1_add_51 : decode cX1_add 51 = .ok (.aaload, 1) := by decide +kernel
theorem dX1_add_52 : decode cX1_add 52 = .ok (.aload_n 0, 1) := by decide +kernel
theorem dX1_add_53 : decode cX1_add 53 = .ok (.getfield 16, 3) := by decide +kernel
theorem dX1_add_56 : decode cX1_add 56 = .ok (.iload 4, 2) := by decide +kernel
theorem dX1_add_58 : decode cX1_add 58 = .ok (.iastore, 1) := by decide +kernel
theorem dX1_add_59 : decode cX1_add 59 = .ok (.aload_n 0, 1) := by decide +kernel
theorem dX1_add_60 : decode cX1_add 60 = .ok (.getfield 11, 3) := by decide +kernel
theorem dX1_add_63 : decode cX1_add 63 = .ok (.iconst 4, 1) := by decide +kernel
theorem dX1_add_64 : decode cX1_add 64 = .ok (.aaload, 1) := by decide +kernel
theorem dX1_add_65 : decode cX1_add 65 = .ok (.aload_n 0, 1) := by decide +kernel
theorem dX1_add_66 : decode cX1_add 66 = .ok (.getfield 16, 3) := by decide +kernel
theorem dX1_add_69 : decode cX1_add 69 = .ok (.iload 5, 2) := by decide +kernel
theorem dX1_add_71 : decode cX1_add 71 = .ok (.iastore, 1) := by decide +kernel
theorem dX1_add_72 : decode cX1_add 72 = .ok (.aload_n 0, 1) := by decide +kernel
theorem dX1_add_73 : decode cX1_add 73 = .ok (.getfield 11, 3) := by decide +kernel
theorem dX1_add_76 : decode cX1_add 76 = .ok (.iconst 5, 1) := by decide +kernel
theorem dX1_add_77 : decode cX1_add 77 = .ok (.aaload, 1) := by decide +kernel
theorem dX1_add_78 : decode cX1_add 78 = .ok (.aload_n 0, 1) := by decide +kernel
theorem dX1_add_79 : decode cX1_add 79 = .ok (.getfield 16, 3) := by decide +kernel
theorem dX1_add_82 : decode cX1_add 82 = .ok (.iload 6, 2) := by decide +kernel
theorem dX1_add_84 : decode cX1_add 84 = .ok (.iastore, 1) := by decide +kernel
theorem dX1_add_85 : decode cX1_add 85 = .ok (.aload_n 0, 1) := by decide +kernel
theorem dX1_add_86 : decode cX1_add 86 = .ok (.dup, 1) := by decide +kernel
theorem dX1_add_87 : decode cX1_add 87 = .ok (.getfield 16, 3) := by decide +kernel
theorem dX1_add_90 : decode cX1_add 90 = .ok (.iconst 1, 1) := by decide +kernel
theorem dX1_add_91 : decode cX1_add 91 = .ok (.iadd, 1) := by decide +kernel
theorem dX1_add_92 : decode cX1_add 92 = .ok (.putfield 16, 3) := by decide +kernel
theorem dX1_add_95 : decode cX1_add 95 = .ok (.return_, 1) := by decide +kernel
theorem dX1_pairOf_0 : decode cX1_pairOf 0 = .ok (.aload_n 0, 1) := by decide +kernel
theorem dX1_pairOf_1 : decode cX1_pairOf 1 = .ok (.getfield 11, 3) := by decide +kernel
theorem dX1_pairOf_4 : decode cX1_pairOf 4 = .ok (.iconst 1, 1) := by decide +kernel
theorem dX1_pairOf_5 : decode cX1_pairOf 5 = .ok (.aaload, 1) := by decide +kernel
theorem dX1_pairOf_6 : decode cX1_pairOf 6 = .ok (.iload_n 1, 1) := by decide +kernel
theorem dX1_pairOf_7 : decode cX1_pairOf 7 = .ok (.iaload, 1) := by decide +kernel
theorem dX1_pairOf_8 : decode cX1_pairOf 8 = .ok (.invokestatic 20, 3) := by decide +kernel
theorem dX1_pairOf_11 : decode cX1_pairOf 11 = .ok (.aload_n 0, 1) := by decide +kernel
theorem dX1_pairOf_12 : decode cX1_pairOf 12 = .ok (.getfield 11, 3) := by decide +kernel
theorem dX1_pairOf_15 : decode cX1_pairOf 15 = .ok (.iconst 2, 1) := by decide +kernel
theorem dX1_pairOf_16 : decode cX1_pairOf 16 = .ok (.aaload, 1) := by decide +kernel
theorem dX1_pairOf_17 : decode cX1_pairOf 17 = .ok (.iload_n 1, 1) := by decide +kernel
theorem dX1_pairOf_18 : decode cX1_pairOf 18 = .ok (.iaload, 1) := by decide +kernel
theorem dX1_pairOf_19 : decode cX1_pairOf 19 = .ok (.invokestatic 20, 3) := by decide +kernel
theorem dX1_pairOf_22 : decode cX1_pairOf 22 = .ok (.ior, 1) := by decide +kernel
theorem dX1_pairOf_23 : decode cX1_pairOf 23 = .ok (.ireturn, 1) := by decide +kernel
theorem dX1_wasThere_0 : decode cX1_wasThere 0 = .ok (.iconst 0, 1) := by decide +kernel
theorem dX1_wasThere_1 : decode cX1_wasThere 1 = .ok (.istore_n 3, 1) := by decide +kernel
theorem dX1_wasThere_2 : decode cX1_wasThere 2 = .ok (.iload_n 3, 1) := by decide +kernel
theorem dX1_wasThere_3 : decode cX1_wasThere 3 = .ok (.aload_n 0, 1) := by decide +kernel
theorem dX1_wasThere_4 : decode cX1_wasThere 4 = .ok (.getfield 16, 3) := by decide +kernel
theorem dX1_wasThere_7 : decode cX1_wasThere 7 = .ok (.if_icmp .ge 35, 3) := by decide +kernel
theorem dX1_wasThere_10 : decode cX1_wasThere 10 = .ok (.aload_n 0, 1) := by decide +kernel
theorem dX1_wasThere_11 : decode cX1_wasThere 11 = .ok (.getfield 11, 3) := by decide +kernel
theorem dX1_wasThere_14 : decode cX1_wasThere 14 = .ok (.iconst 0, 1) := by decide +kernel
theorem dX1_wasThere_15 : decode cX1_wasThere 15 = .ok (.aaload, 1) := by decide +kernel
theorem dX1_wasThere_16 : decode cX1_wasThere 16 = .ok (.iload_n 3, 1) := by decide +kernel
theorem dX1_wasThere_17 : decode cX1_wasThere 17 = .ok (.iaload, 1) := by decide +kernel
theorem dX1_wasThere_18 : decode cX1_wasThere 18 = .ok (.iload_n 2, 1) := by decide +kernel
theorem dX1_wasThere_19 : decode cX1_wasThere 19 = .ok (.if_icmp .ne 17, 3) := by decide +kernel
theorem dX1_wasThere_22 : decode cX1_wasThere 22 = .ok (.aload_n 0, 1) := by decide +kernel
theorem dX1_wasThere_23 : decode cX1_wasThere 23 = .ok (.iload_n 3, 1) := by decide +kernel
theorem dX1_wasThere_24 : decode cX1_wasThere 24 = .ok (.invokevirtual 24, 3) := by decide +kernel
theorem dX1_wasThere_27 : decode cX1_wasThere 27 = .ok (.iload_n 1, 1) := by decide +kernel
theorem dX1_wasThere_28 : decode cX1_wasThere 28 = .ok (.invokestatic 27, 3) := by decide +kernel
theorem dX1_wasThere_31 : decode cX1_wasThere 31 = .ok (.ifCond .eq 5, 3) := by decide +kernel
theorem dX1_wasThere_34 : decode cX1_wasThere 34 = .ok (.iconst 1, 1) := by decide +kernel
theorem dX1_wasThere_35 : decode cX1_wasThere 35 = .ok (.ireturn, 1) := by decide +kernel
theorem dX1_wasThere_36 : decode cX1_wasThere 36 = .ok (.iinc 3 1, 3) := by decide +kernel
theorem dX1_wasThere_39 : decode cX1_wasThere 39 = .ok (.goto (-37), 3) := by decide +kernel
theorem dX1_wasThere_42 : decode cX1_wasThere 42 = .ok (.iconst 0, 1) := by decide +kernel
theorem dX1_wasThere_43 : decode cX1_wasThere 43 = .ok (.ireturn, 1) := by decide +kernel
theorem dX1_pairMetBehind_0 : decode cX1_pairMetBehind 0 = .ok (.iconst 0, 1) := by decide +kernel
theorem dX1_pairMetBehind_1 : decode cX1_pairMetBehind 1 = .ok (.istore_n 3, 1) := by decide +kernel
theorem dX1_pairMetBehind_2 : decode cX1_pairMetBehind 2 = .ok (.iload_n 3, 1) := by decide +kernel
theorem dX1_pairMetBehind_3 : decode cX1_pairMetBehind 3 = .ok (.aload_n 0, 1) := by decide +kernel
theorem dX1_pairMetBehind_4 : decode cX1_pairMetBehind 4 = .ok (.getfield 16, 3) := by decide +kernel
theorem dX1_pairMetBehind_7 : decode cX1_pairMetBehind 7 = .ok (.if_icmp .ge 32, 3) := by decide +kernel
theorem dX1_pairMetBehind_10 : decode cX1_pairMetBehind 10 = .ok (.aload_n 0, 1) := by decide +kernel
theorem dX1_pairMetBehind_11 : decode cX1_pairMetBehind 11 = .ok (.getfield 11, 3) := by decide +kernel
theorem dX1_pairMetBehind_14 : decode cX1_pairMetBehind 14 = .ok (.iconst 0, 1) := by decide +kernel
theorem dX1_pairMetBehind_15 : decode cX1_pairMetBehind 15 = .ok (.aaload, 1) := by decide +kernel
theorem dX1_pairMetBehind_16 : decode cX1_pairMetBehind 16 = .ok (.iload_n 3, 1) := by decide +kernel
theorem dX1_pairMetBehind_17 : decode cX1_pairMetBehind 17 = .ok (.iaload, 1) := by decide +kernel
theorem dX1_pairMetBehind_18 : decode cX1_pairMetBehind 18 = .ok (.iload_n 2, 1) := by decide +kernel
theorem dX1_pairMetBehind_19 : decode cX1_pairMetBehind 19 = .ok (.if_icmp .le 14, 3) := by decide +kernel
theorem dX1_pairMetBehind_22 : decode cX1_pairMetBehind 22 = .ok (.aload_n 0, 1) := by decide +kernel
theorem dX1_pairMetBehind_23 : decode cX1_pairMetBehind 23 = .ok (.iload_n 3, 1) := by decide +kernel
theorem dX1_pairMetBehind_24 : decode cX1_pairMetBehind 24 = .ok (.invokevirtual 24, 3) := by decide +kernel
theorem dX1_pairMetBehind_27 : decode cX1_pairMetBehind 27 = .ok (.iload_n 1, 1) := by decide +kernel
theorem dX1_pairMetBehind_28 : decode cX1_pairMetBehind 28 = .ok (.if_icmp .ne 5, 3) := by decide +kernel
theorem dX1_pairMetBehind_31 : decode cX1_pairMetBehind 31 = .ok (.iconst 1, 1) := by decide +kernel
theorem dX1_pairMetBehind_32 : decode cX1_pairMetBehind 32 = .ok (.ireturn, 1) := by decide +kernel
theorem dX1_pairMetBehind_33 : decode cX1_pairMetBehind 33 = .ok (.iinc 3 1, 3) := by decide +kernel
theorem dX1_pairMetBehind_36 : decode cX1_pairMetBehind 36 = .ok (.goto (-34), 3) := by decide +kernel
theorem dX1_pairMetBehind_39 : decode cX1_pairMetBehind 39 = .ok (.iconst 0, 1) := by decide +kernel
theorem dX1_pairMetBehind_40 : decode cX1_pairMetBehind 40 = .ok (.ireturn, 1) := by decide +kernel
theorem dX2_init_0 : decode cX2_init 0 = .ok (.aload_n 0, 1) := by decide +kernel
theorem dX2_init_1 : decode cX2_init 1 = .ok (.invokespecial 3, 3) := by decide +kernel
theorem dX2_init_4 : decode cX2_init 4 = .ok (.aload_n 0, 1) := by decide +kernel
theorem dX2_init_5 : decode cX2_init 5 = .ok (.bipush 6, 2) := by decide +kernel
theorem dX2_init_7 : decode cX2_init 7 = .ok (.newarray .int, 2) := by decide +kernel
theorem dX2_init_9 : decode cX2_init 9 = .ok (.putfield 9, 3) := by decide +kernel
theorem dX2_init_12 : decode cX2_init 12 = .ok (.aload_n 0, 1) := by decide +kernel
theorem dX2_init_13 : decode cX2_init 13 = .ok (.bipush 6, 2) := by decide +kernel
theorem dX2_init_15 : decode cX2_init 15 = .ok (.newarray .int, 2) := by decide +kernel
theorem dX2_init_17 : decode cX2_init 17 = .ok (.putfield 15, 3) := by decide +kernel
theorem dX2_init_20 : decode cX2_init 20 = .ok (.aload_n 0, 1) := by decide +kernel
theorem dX2_init_21 : decode cX2_init 21 = .ok (.bipush 6, 2) := by decide +kernel
theorem dX2_init_23 : decode cX2_init 23 = .ok (.newarray .int, 2) := by decide +kernel
theorem dX2_init_25 : decode cX2_init 25 = .ok (.putfield 18, 3) := by decide +kernel
theorem dX2_init_28 : decode cX2_init 28 = .ok (.aload_n 0, 1) := by decide +kernel
theorem dX2_init_29 : decode cX2_init 29 = .ok (.bipush 6, 2) := by decide +kernel
theorem dX2_init_31 : decode cX2_init 31 = .ok (.newarray .int, 2) := by decide +kernel
theorem dX2_init_33 : decode cX2_init 33 = .ok (.putfield 21, 3) := by decide +kernel
theorem dX2_init_36 : decode cX2_init 36 = .ok (.return_, 1) := by decide +kernel
theorem dX2_has_0 : decode cX2_has 0 = .ok (.iload_n 1, 1) := by decide +kernel
theorem dX2_has_1 : decode cX2_has 1 = .ok (.ifCond .lt 15, 3) := by decide +kernel
theorem dX2_has_4 : decode cX2_has 4 = .ok (.iload_n 1, 1) := by decide +kernel
theorem dX2_has_5 : decode cX2_has 5 = .ok (.aload_n 0, 1) := by decide +kernel
theorem dX2_has_6 : decode cX2_has 6 = .ok (.getfield 24, 3) := by decide +kernel
theorem dX2_has_9 : decode cX2_has 9 = .ok (.if_icmp .ge 7, 3) := by decide +kernel
theorem dX2_has_12 : decode cX2_has 12 = .ok (.iconst 1, 1) := by decide +kernel
theorem dX2_has_13 : decode cX2_has 13 = .ok (.goto 4, 3) := by decide +kernel
theorem dX2_has_16 : decode cX2_has 16 = .ok (.iconst 0, 1) := by decide +kernel
theorem dX2_has_17 : decode cX2_has 17 = .ok (.ireturn, 1) := by decide +kernel
theorem dX2_hasTwo_0 : decode cX2_hasTwo 0 = .ok (.aload_n 0, 1) := by decide +kernel
theorem dX2_hasTwo_1 : decode cX2_hasTwo 1 = .ok (.iload_n 1, 1) := by decide +kernel
theorem dX2_hasTwo_2 : decode cX2_hasTwo 2 = .ok (.invokevirtual 28, 3) := by decide +kernel
theorem dX2_hasTwo_5 : decode cX2_hasTwo 5 = .ok (.ifCond .eq 20, 3) := by decide +kernel
theorem dX2_hasTwo_8 : decode cX2_hasTwo 8 = .ok (.aload_n 0, 1) := by decide +kernel
theorem dX2_hasTwo_9 : decode cX2_hasTwo 9 = .ok (.iload_n 2, 1) := by decide +kernel
theorem dX2_hasTwo_10 : decode cX2_hasTwo 10 = .ok (.invokevirtual 28, 3) := by decide +kernel
theorem dX2_hasTwo_13 : decode cX2_hasTwo 13 = .ok (.ifCond .eq 12, 3) := by decide +kernel
theorem dX2_hasTwo_16 : decode cX2_hasTwo 16 = .ok (.iload_n 1, 1) := by decide +kernel
theorem dX2_hasTwo_17 : decode cX2_hasTwo 17 = .ok (.iload_n 2, 1) := by decide +kernel
theorem dX2_hasTwo_18 : decode cX2_hasTwo 18 = .ok (.if_icmp .eq 7, 3) := by decide +kernel
theorem dX2_hasTwo_21 : decode cX2_hasTwo 21 = .ok (.iconst 1, 1) := by decide +kernel
theorem dX2_hasTwo_22 : decode cX2_hasTwo 22 = .ok (.goto 4, 3) := by decide +kernel
theorem dX2_hasTwo_25 : decode cX2_hasTwo 25 = .ok (.iconst 0, 1) := by decide +kernel
theorem dX2_hasTwo_26 : decode cX2_hasTwo 26 = .ok (.ireturn, 1) := by decide +kernel
theorem dX2_touchiness_0 : decode cX2_touchiness 0 = .ok (.bipush 10, 2) := by decide +kernel
theorem dX2_touchiness_2 : decode cX2_touchiness 2 = .ok (.aload_n 0, 1) := by decide +kernel
theorem dX2_touchiness_3 : decode cX2_touchiness 3 = .ok (.getfield 15, 3) := by decide +kernel
theorem dX2_touchiness_6 : decode cX2_touchiness 6 = .ok (.iload_n 1, 1) := by decide +kernel
theorem dX2_touchiness_7 : decode cX2_touchiness 7 = .ok (.iaload, 1) := by decide +kernel
theorem dX2_touchiness_8 : decode cX2_touchiness 8 = .ok (.isub, 1) := by decide +kernel
theorem dX2_touchiness_9 : decode cX2_touchiness 9 = .ok (.istore_n 2, 1) := by decide +kernel
theorem dX2_touchiness_10 : decode cX2_touchiness 10 = .ok (.iconst 1, 1) := by decide +kernel
theorem dX2_touchiness_11 : decode cX2_touchiness 11 = .ok (.iload_n 2, 1) := by decide +kernel
theorem dX2_touchiness_12 : decode cX2_touchiness 12 = .ok (.iconst 2, 1) := by decide +kernel
theorem dX2_touchiness_13 : decode cX2_touchiness 13 = .ok (.isub, 1) := by decide +kernel
theorem dX2_touchiness_14 : decode cX2_touchiness 14 = .ok (.invokestatic 32, 3) := by decide +kernel
theorem dX2_touchiness_17 : decode cX2_touchiness 17 = .ok (.istore_n 3, 1) := by decide +kernel
theorem dX2_touchiness_18 : decode cX2_touchiness 18 = .ok (.aload_n 0, 1) := by decide +kernel
theorem dX2_touchiness_19 : decode cX2_touchiness 19 = .ok (.getfield 9, 3) := by decide +kernel
theorem dX2_touchiness_22 : decode cX2_touchiness 22 = .ok (.iload_n 1, 1) := by decide +kernel
theorem dX2_touchiness_23 : decode cX2_touchiness 23 = .ok (.iaload, 1) := by decide +kernel
theorem dX2_touchiness_24 : decode cX2_touchiness 24 = .ok (.lookupswitch 38 #[(1, 36), (2, 28)], 28) := by decide +kernel
theorem dX2_touchiness_52 : decode cX2_touchiness 52 = .ok (.iconst 1, 1) := by decide +kernel
theorem dX2_touchiness_53 : decode cX2_touchiness 53 = .ok (.iload_n 3, 1) := by decide +kernel
theorem dX2_touchiness_54 : decode cX2_touchiness 54 = .ok (.iconst 1, 1) := by decide +kernel
theorem dX2_touchiness_55 : decode cX2_touchiness 55 = .ok (.isub, 1) := by decide +kernel
theorem dX2_touchiness_56 : decode cX2_touchiness 56 = .ok (.invokestatic 32, 3) := by decide +kernel
theorem dX2_touchiness_59 : decode cX2_touchiness 59 = .ok (.ireturn, 1) := by decide +kernel
theorem dX2_touchiness_60 : decode cX2_touchiness 60 = .ok (.iload_n 3, 1) := by decide +kernel
theorem dX2_touchiness_61 : decode cX2_touchiness 61 = .ok (.ireturn, 1) := by decide +kernel
theorem dX2_touchiness_62 : decode cX2_touchiness 62 = .ok (.iload_n 2, 1) := by decide +kernel
theorem dX2_touchiness_63 : decode cX2_touchiness 63 = .ok (.ireturn, 1) := by decide +kernel
theorem dX2_secondAmong_0 : decode cX2_secondAmong 0 = .ok (.aload_n 0, 1) := by decide +kernel
theorem dX2_secondAmong_1 : decode cX2_secondAmong 1 = .ok (.getfield 18, 3) := by decide +kernel
theorem dX2_secondAmong_4 : decode cX2_secondAmong 4 = .ok (.iload_n 1, 1) := by decide +kernel
theorem dX2_secondAmong_5 : decode cX2_secondAmong 5 = .ok (.iaload, 1) := by decide +kernel
theorem dX2_secondAmong_6 : decode cX2_secondAmong 6 = .ok (.istore_n 3, 1) := by decide +kernel
theorem dX2_secondAmong_7 : decode cX2_secondAmong 7 = .ok (.aload_n 0, 1) := by decide +kernel
theorem dX2_secondAmong_8 : decode cX2_secondAmong 8 = .ok (.getfield 21, 3) := by decide +kernel
theorem dX2_secondAmong_11 : decode cX2_secondAmong 11 = .ok (.iload_n 1, 1) := by decide +kernel
theorem dX2_secondAmong_12 : decode cX2_secondAmong 12 = .ok (.iaload, 1) := by decide +kernel
theorem dX2_secondAmong_13 : decode cX2_secondAmong 13 = .ok (.istore 4, 2) := by decide +kernel
theorem dX2_secondAmong_15 : decode cX2_secondAmong 15 = .ok (.iload_n 2, 1) := by decide +kernel
theorem dX2_secondAmong_16 : decode cX2_secondAmong 16 = .ok (.iload_n 3, 1) := by decide +kernel
theorem dX2_secondAmong_17 : decode cX2_secondAmong 17 = .ok (.invokestatic 38, 3) := by decide +kernel
theorem dX2_secondAmong_20 : decode cX2_secondAmong 20 = .ok (.ifCond .eq 5, 3) := by decide +kernel
theorem dX2_secondAmong_23 : decode cX2_secondAmong 23 = .ok (.iload_n 3, 1) := by decide +kernel
theorem dX2_secondAmong_24 : decode cX2_secondAmong 24 = .ok (.ireturn, 1) := by decide +kernel
theorem dX2_secondAmong_25 : decode cX2_secondAmong 25 = .ok (.iload_n 2, 1) := by decide +kernel
theorem dX2_secondAmong_26 : decode cX2_secondAmong 26 = .ok (.iload 4, 2) := by decide +kernel
theorem dX2_secondAmong_28 : decode cX2_secondAmong 28 = .ok (.invokestatic 38, 3) := by decide +kernel
theorem dX2_secondAmong_31 : decode cX2_secondAmong 31 = .ok (.ifCond .eq 6, 3) := by decide +kernel
theorem dX2_secondAmong_34 : decode cX2_secondAmong 34 = .ok (.iload 4, 2) := by decide +kernel
theorem dX2_secondAmong_36 : decode cX2_secondAmong 36 = .ok (.ireturn, 1) := by decide +kernel
theorem dX2_secondAmong_37 : decode cX2_secondAmong 37 = .ok (.iload_n 2, 1) := by decide +kernel
theorem dX2_secondAmong_38 : decode cX2_secondAmong 38 = .ok (.aload_n 0, 1) := by decide +kernel
theorem dX2_secondAmong_39 : decode cX2_secondAmong 39 = .ok (.getfield 18, 3) := by decide +kernel
theorem dX2_secondAmong_42 : decode cX2_secondAmong 42 = .ok (.iload_n 3, 1) := by decide +kernel
theorem dX2_secondAmong_43 : decode cX2_secondAmong 43 = .ok (.iaload, 1) := by decide +kernel
theorem dX2_secondAmong_44 : decode cX2_secondAmong 44 = .ok (.invokestatic 38, 3) := by decide +kernel
theorem dX2_secondAmong_47 : decode cX2_secondAmong 47 = .ok (.ifCond .eq 10, 3) := by decide +kernel
theorem dX2_secondAmong_50 : decode cX2_secondAmong 50 = .ok (.aload_n 0, 1) := by decide +kernel
theorem dX2_secondAmong_51 : decode cX2_secondAmong 51 = .ok (.getfield 18, 3) := by decide +kernel
theorem dX2_secondAmong_54 : decode cX2_secondAmong 54 = .ok (.iload_n 3, 1) := by decide +kernel
theorem dX2_secondAmong_55 : decode cX2_secondAmong 55 = .ok (.iaload, 1) := by decide +kernel
theorem dX2_secondAmong_56 : decode cX2_secondAmong 56 = .ok (.ireturn, 1) := by decide +kernel
theorem dX2_secondAmong_57 : decode cX2_secondAmong 57 = .ok (.iload_n 2, 1) := by decide +kernel
theorem dX2_secondAmong_58 : decode cX2_secondAmong 58 = .ok (.aload_n 0, 1) := by decide +kernel
theorem dX2_secondAmong_59 : decode cX2_secondAmong 59 = .ok (.getfield 21, 3) := by decide +kernel
theorem dX2_secondAmong_62 : decode cX2_secondAmong 62 = .ok (.iload_n 3, 1) := by decide +kernel
theorem dX2_secondAmong_63 : decode cX2_secondAmong 63 = .ok (.iaload, 1) := by decide +kernel
theorem dX2_secondAmong_64 : decode cX2_secondAmong 64 = .ok (.invokestatic 38, 3) := by decide +kernel
theorem dX2_secondAmong_67 : decode cX2_secondAmong 67 = .ok (.ifCond .eq 10, 3) := by decide +kernel
theorem dX2_secondAmong_70 : decode cX2_secondAmong 70 = .ok (.aload_n 0, 1) := by decide +kernel
theorem dX2_secondAmong_71 : decode cX2_secondAmong 71 = .ok (.getfield 21, 3) := by decide +kernel
theorem dX2_secondAmong_74 : decode cX2_secondAmong 74 = .ok (.iload_n 3, 1) := by decide +kernel
theorem dX2_secondAmong_75 : decode cX2_secondAmong 75 = .ok (.iaload, 1) := by decide +kernel
theorem dX2_secondAmong_76 : decode cX2_secondAmong 76 = .ok (.ireturn, 1) := by decide +kernel
theorem dX2_secondAmong_77 : decode cX2_secondAmong 77 = .ok (.iload_n 2, 1) := by decide +kernel
theorem dX2_secondAmong_78 : decode cX2_secondAmong 78 = .ok (.aload_n 0, 1) := by decide +kernel
theorem dX2_secondAmong_79 : decode cX2_secondAmong 79 = .ok (.getfield 18, 3) := by decide +kernel
theorem dX2_secondAmong_82 : decode cX2_secondAmong 82 = .ok (.iload 4, 2) := by decide +kernel
theorem dX2_secondAmong_84 : decode cX2_secondAmong 84 = .ok (.iaload, 1) := by decide +kernel
theorem dX2_secondAmong_85 : decode cX2_secondAmong 85 = .ok (.invokestatic 38, 3) := by decide +kernel
theorem dX2_secondAmong_88 : decode cX2_secondAmong 88 = .ok (.ifCond .eq 11, 3) := by decide +kernel
theorem dX2_secondAmong_91 : decode cX2_secondAmong 91 = .ok (.aload_n 0, 1) := by decide +kernel
theorem dX2_secondAmong_92 : decode cX2_secondAmong 92 = .ok (.getfield 18, 3) := by decide +kernel
theorem dX2_secondAmong_95 : decode cX2_secondAmong 95 = .ok (.iload 4, 2) := by decide +kernel
theorem dX2_secondAmong_97 : decode cX2_secondAmong 97 = .ok (.iaload, 1) := by decide +kernel
theorem dX2_secondAmong_98 : decode cX2_secondAmong 98 = .ok (.ireturn, 1) := by decide +kernel
theorem dX2_secondAmong_99 : decode cX2_secondAmong 99 = .ok (.iload_n 2, 1) := by decide +kernel
theorem dX2_secondAmong_100 : decode cX2_secondAmong 100 = .ok (.aload_n 0, 1) := by decide +kernel
theorem dX2_secondAmong_101 : decode cX2_secondAmong 101 = .ok (.getfield 21, 3) := by decide +kernel
theorem dX2_secondAmong_104 : decode cX2_secondAmong 104 = .ok (.iload 4, 2) := by decide +kernel
theorem dX2_secondAmong_106 : decode cX2_secondAmong 106 = .ok (.iaload, 1) := by decide +kernel
theorem dX2_secondAmong_107 : decode cX2_secondAmong 107 = .ok (.invokestatic 38, 3) := by decide +kernel
theorem dX2_secondAmong_110 : decode cX2_secondAmong 110 = .ok (.ifCond .eq 13, 3) := by decide +kernel
theorem dX2_secondAmong_113 : decode cX2_secondAmong 113 = .ok (.aload_n 0, 1) := by decide +kernel
theorem dX2_secondAmong_114 : decode cX2_secondAmong 114 = .ok (.getfield 21, 3) := by decide +kernel
theorem dX2_secondAmong_117 : decode cX2_secondAmong 117 = .ok (.iload 4, 2) := by decide +kernel
theorem dX2_secondAmong_119 : decode cX2_secondAmong 119 = .ok (.iaload, 1) := by decide +kernel
theorem dX2_secondAmong_120 : decode cX2_secondAmong 120 = .ok (.goto 5, 3) := by decide +kernel
theorem dX2_secondAmong_123 : decode cX2_secondAmong 123 = .ok (.bipush (-9), 2) := by decide +kernel
theorem dX2_secondAmong_125 : decode cX2_secondAmong 125 = .ok (.ireturn, 1) := by decide +kernel
theorem dX3_init_0 : decode cX3_init 0 = .ok (.aload_n 0, 1) := by decide +kernel
theorem dX3_init_1 : decode cX3_init 1 = .ok (.invokespecial 3, 3) := by decide +kernel
theorem dX3_init_4 : decode cX3_init 4 = .ok (.aload_n 0, 1) := by decide +kernel
theorem dX3_init_5 : decode cX3_init 5 = .ok (.bipush 8, 2) := by decide +kernel
theorem dX3_init_7 : decode cX3_init 7 = .ok (.newarray .int, 2) := by decide +kernel
theorem dX3_init_9 : decode cX3_init 9 = .ok (.putfield 9, 3) := by decide +kernel
theorem dX3_init_12 : decode cX3_init 12 = .ok (.aload_n 0, 1) := by decide +kernel
theorem dX3_init_13 : decode cX3_init 13 = .ok (.bipush 8, 2) := by decide +kernel
theorem dX3_init_15 : decode cX3_init 15 = .ok (.newarray .int, 2) := by decide +kernel
theorem dX3_init_17 : decode cX3_init 17 = .ok (.putfield 15, 3) := by decide +kernel
theorem dX3_init_20 : decode cX3_init 20 = .ok (.aload_n 0, 1) := by decide +kernel
theorem dX3_init_21 : decode cX3_init 21 = .ok (.bipush 8, 2) := by decide +kernel
theorem dX3_init_23 : decode cX3_init 23 = .ok (.newarray .boolean, 2) := by decide +kernel
theorem dX3_init_25 : decode cX3_init 25 = .ok (.putfield 18, 3) := by decide +kernel
theorem dX3_init_28 : decode cX3_init 28 = .ok (.return_, 1) := by decide +kernel
theorem dX3_add_0 : decode cX3_add 0 = .ok (.aload_n 0, 1) := by decide +kernel
theorem dX3_add_1 : decode cX3_add 1 = .ok (.getfield 22, 3) := by decide +kernel
theorem dX3_add_4 : decode cX3_add 4 = .ok (.bipush 8, 2) := by decide +kernel
theorem dX3_add_6 : decode cX3_add 6 = .ok (.if_icmp .ge 43, 3) := by decide +kernel
theorem dX3_add_9 : decode cX3_add 9 = .ok (.aload_n 0, 1) := by decide +kernel
theorem dX3_add_10 : decode cX3_add 10 = .ok (.getfield 9, 3) := by decide +kernel
theorem dX3_add_13 : decode cX3_add 13 = .ok (.aload_n 0, 1) := by decide +kernel
theorem dX3_add_14 : decode cX3_add 14 = .ok (.getfield 22, 3) := by decide +kernel
theorem dX3_add_17 : decode cX3_add 17 = .ok (.iload_n 1, 1) := by decide +kernel
theorem dX3_add_18 : decode cX3_add 18 = .ok (.iastore, 1) := by decide +kernel
theorem dX3_add_19 : decode cX3_add 19 = .ok (.aload_n 0, 1) := by decide +kernel
theorem dX3_add_20 : decode cX3_add 20 = .ok (.getfield 15, 3) := by decide +kernel
theorem dX3_add_23 : decode cX3_add 23 = .ok (.aload_n 0, 1) := by decide +kernel
theorem dX3_add_24 : decode cX3_add 24 = .ok (.getfield 22, 3) := by decide +kernel
theorem dX3_add_27 : decode cX3_add 27 = .ok (.iload_n 2, 1) := by decide +kernel
theorem dX3_add_28 : decode cX3_add 28 = .ok (.iastore, 1) := by decide +kernel
theorem dX3_add_29 : decode cX3_add 29 = .ok (.aload_n 0, 1) := by decide +kernel
theorem dX3_add_30 : decode cX3_add 30 = .ok (.getfield 18, 3) := by decide +kernel
theorem dX3_add_33 : decode cX3_add 33 = .ok (.aload_n 0, 1) := by decide +kernel
theorem dX3_add_34 : decode cX3_add 34 = .ok (.getfield 22, 3) := by decide +kernel
theorem dX3_add_37 : decode cX3_add 37 = .ok (.iload_n 3, 1) := by decide +kernel
theorem dX3_add_38 : decode cX3_add 38 = .ok (.bastore, 1) := by decide +kernel
theorem dX3_add_39 : decode cX3_add 39 = .ok (.aload_n 0, 1) := by decide +kernel
theorem dX3_add_40 : decode cX3_add 40 = .ok (.dup, 1) := by decide +kernel
theorem dX3_add_41 : decode cX3_add 41 = .ok (.getfield 22, 3) := by decide +kernel
theorem dX3_add_44 : decode cX3_add 44 = .ok (.iconst 1, 1) := by decide +kernel
theorem dX3_add_45 : decode cX3_add 45 = .ok (.iadd, 1) := by decide +kernel
theorem dX3_add_46 : decode cX3_add 46 = .ok (.putfield 22, 3) := by decide +kernel
theorem dX3_add_49 : decode cX3_add 49 = .ok (.return_, 1) := by decide +kernel
theorem dX3_areSo_0 : decode cX3_areSo 0 = .ok (.iconst 0, 1) := by decide +kernel
theorem dX3_areSo_1 : decode cX3_areSo 1 = .ok (.istore_n 2, 1) := by decide +kernel
theorem dX3_areSo_2 : decode cX3_areSo 2 = .ok (.iload_n 2, 1) := by decide +kernel
theorem dX3_areSo_3 : decode cX3_areSo 3 = .ok (.aload_n 0, 1) := by decide +kernel
theorem dX3_areSo_4 : decode cX3_areSo 4 = .ok (.getfield 22, 3) := by decide +kernel
theorem dX3_areSo_7 : decode cX3_areSo 7 = .ok (.if_icmp .ge 36, 3) := by decide +kernel
theorem dX3_areSo_10 : decode cX3_areSo 10 = .ok (.aload_n 1, 1) := by decide +kernel
theorem dX3_areSo_11 : decode cX3_areSo 11 = .ok (.aload_n 0, 1) := by decide +kernel
theorem dX3_areSo_12 : decode cX3_areSo 12 = .ok (.getfield 9, 3) := by decide +kernel
theorem dX3_areSo_15 : decode cX3_areSo 15 = .ok (.iload_n 2, 1) := by decide +kernel
theorem dX3_areSo_16 : decode cX3_areSo 16 = .ok (.iaload, 1) := by decide +kernel
theorem dX3_areSo_17 : decode cX3_areSo 17 = .ok (.aload_n 0, 1) := by decide +kernel
theorem dX3_areSo_18 : decode cX3_areSo 18 = .ok (.getfield 15, 3) := by decide +kernel
theorem dX3_areSo_21 : decode cX3_areSo 21 = .ok (.iload_n 2, 1) := by decide +kernel
theorem dX3_areSo_22 : decode cX3_areSo 22 = .ok (.iaload, 1) := by decide +kernel
theorem dX3_areSo_23 : decode cX3_areSo 23 = .ok (.invokevirtual 26, 3) := by decide +kernel
theorem dX3_areSo_26 : decode cX3_areSo 26 = .ok (.aload_n 0, 1) := by decide +kernel
theorem dX3_areSo_27 : decode cX3_areSo 27 = .ok (.getfield 18, 3) := by decide +kernel
theorem dX3_areSo_30 : decode cX3_areSo 30 = .ok (.iload_n 2, 1) := by decide +kernel
theorem dX3_areSo_31 : decode cX3_areSo 31 = .ok (.baload, 1) := by decide +kernel
theorem dX3_areSo_32 : decode cX3_areSo 32 = .ok (.if_icmp .eq 5, 3) := by decide +kernel
theorem dX3_areSo_35 : decode cX3_areSo 35 = .ok (.iconst 0, 1) := by decide +kernel
theorem dX3_areSo_36 : decode cX3_areSo 36 = .ok (.ireturn, 1) := by decide +kernel
theorem dX3_areSo_37 : decode cX3_areSo 37 = .ok (.iinc 2 1, 3) := by decide +kernel
theorem dX3_areSo_40 : decode cX3_areSo 40 = .ok (.goto (-38), 3) := by decide +kernel
theorem dX3_areSo_43 : decode cX3_areSo 43 = .ok (.iconst 1, 1) := by decide +kernel
theorem dX3_areSo_44 : decode cX3_areSo 44 = .ok (.ireturn, 1) := by decide +kernel
theorem dX4_init_0 : decode cX4_init 0 = .ok (.aload_n 0, 1) := by decide +kernel
theorem dX4_init_1 : decode cX4_init 1 = .ok (.invokespecial 3, 3) := by decide +kernel
theorem dX4_init_4 : decode cX4_init 4 = .ok (.aload_n 0, 1) := by decide +kernel
theorem dX4_init_5 : decode cX4_init 5 = .ok (.new 9, 3) := by decide +kernel
theorem dX4_init_8 : decode cX4_init 8 = .ok (.dup, 1) := by decide +kernel
theorem dX4_init_9 : decode cX4_init 9 = .ok (.invokespecial 11, 3) := by decide +kernel
theorem dX4_init_12 : decode cX4_init 12 = .ok (.putfield 12, 3) := by decide +kernel
theorem dX4_init_15 : decode cX4_init 15 = .ok (.aload_n 0, 1) := by decide +kernel
theorem dX4_init_16 : decode cX4_init 16 = .ok (.new 18, 3) := by decide +kernel
theorem dX4_init_19 : decode cX4_init 19 = .ok (.dup, 1) := by decide +kernel
theorem dX4_init_20 : decode cX4_init 20 = .ok (.sipush 180, 3) := by decide +kernel
theorem dX4_init_23 : decode cX4_init 23 = .ok (.invokespecial 20, 3) := by decide +kernel
theorem dX4_init_26 : decode cX4_init 26 = .ok (.putfield 23, 3) := by decide +kernel
theorem dX4_init_29 : decode cX4_init 29 = .ok (.aload_n 0, 1) := by decide +kernel
theorem dX4_init_30 : decode cX4_init 30 = .ok (.bipush 6, 2) := by decide +kernel
theorem dX4_init_32 : decode cX4_init 32 = .ok (.newarray .int, 2) := by decide +kernel
theorem dX4_init_34 : decode cX4_init 34 = .ok (.putfield 27, 3) := by decide +kernel
theorem dX4_init_37 : decode cX4_init 37 = .ok (.aload_n 0, 1) := by decide +kernel
theorem dX4_init_38 : decode cX4_init 38 = .ok (.aload_n 1, 1) := by decide +kernel
theorem dX4_init_39 : decode cX4_init 39 = .ok (.putfield 31, 3) := by decide +kernel
theorem dX4_init_42 : decode cX4_init 42 = .ok (.aload_n 0, 1) := by decide +kernel
theorem dX4_init_43 : decode cX4_init 43 = .ok (.aload_n 2, 1) := by decide +kernel
theorem dX4_init_44 : decode cX4_init 44 = .ok (.putfield 35, 3) := by decide +kernel
theorem dX4_init_47 : decode cX4_init 47 = .ok (.return_, 1) := by decide +kernel
theorem dX4_live_0 : decode cX4_live 0 = .ok (.aload_n 0, 1) := by decide +kernel
theorem dX4_live_1 : decode cX4_live 1 = .ok (.iload_n 1, 1) := by decide +kernel
theorem dX4_live_2 : decode cX4_live 2 = .ok (.iload_n 2, 1) := by decide +kernel
theorem dX4_live_3 : decode cX4_live 3 = .ok (.invokevirtual 38, 3) := by decide +kernel
theorem dX4_live_6 : decode cX4_live 6 = .ok (.iconst 0, 1) := by decide +kernel
theorem dX4_live_7 : decode cX4_live 7 = .ok (.istore 4, 2) := by decide +kernel
theorem dX4_live_9 : decode cX4_live 9 = .ok (.iload 4, 2) := by decide +kernel
theorem dX4_live_11 : decode cX4_live 11 = .ok (.iload_n 3, 1) := by decide +kernel
theorem dX4_live_12 : decode cX4_live 12 = .ok (.if_icmp .gt 15, 3) := by decide +kernel
theorem dX4_live_15 : decode cX4_live 15 = .ok (.aload_n 0, 1) := by decide +kernel
theorem dX4_live_16 : decode cX4_live 16 = .ok (.iload 4, 2) := by decide +kernel
theorem dX4_live_18 : decode cX4_live 18 = .ok (.invokevirtual 42, 3) := by decide +kernel
theorem dX4_live_21 : decode cX4_live 21 = .ok (.iinc 4 1, 3) := by decide +kernel
theorem dX4_live_24 : decode cX4_live 24 = .ok (.goto (-15), 3) := by decide +kernel
theorem dX4_live_27 : decode cX4_live 27 = .ok (.return_, 1) := by decide +kernel
theorem dX4_begin_0 : decode cX4_begin 0 = .ok (.aload_n 0, 1) := by decide +kernel
theorem dX4_begin_1 : decode cX4_begin 1 = .ok (.iload_n 1, 1) := by decide +kernel
theorem dX4_begin_2 : decode cX4_begin 2 = .ok (.putfield 45, 3) := by decide +kernel
theorem dX4_begin_5 : decode cX4_begin 5 = .ok (.aload_n 0, 1) := by decide +kernel
theorem dX4_begin_6 : decode cX4_begin 6 = .ok (.iload_n 2, 1) := by decide +kernel
theorem dX4_begin_7 : decode cX4_begin 7 = .ok (.putfield 49, 3) := by decide +kernel
theorem dX4_begin_10 : decode cX4_begin 10 = .ok (.aload_n 0, 1) := by decide +kernel
theorem dX4_begin_11 : decode cX4_begin 11 = .ok (.lconst 0, 1) := by decide +kernel
theorem dX4_begin_12 : decode cX4_begin 12 = .ok (.putfield 52, 3) := by decide +kernel
theorem dX4_begin_15 : decode cX4_begin 15 = .ok (.iconst 0, 1) := by decide +kernel
theorem dX4_begin_16 : decode cX4_begin 16 = .ok (.istore_n 3, 1) := by decide +kernel
theorem dX4_begin_17 : decode cX4_begin 17 = .ok (.iload_n 3, 1) := by decide +kernel
theorem dX4_begin_18 : decode cX4_begin 18 = .ok (.aload_n 0, 1) := by decide +kernel
theorem dX4_begin_19 : decode cX4_begin 19 = .ok (.getfield 35, 3) := by decide +kernel
theorem dX4_begin_22 : decode cX4_begin 22 = .ok (.getfield 56, 3) := by decide +kernel
theorem dX4_begin_25 : decode cX4_begin 25 = .ok (.if_icmp .ge 40, 3) := by decide +kernel
theorem dX4_begin_28 : decode cX4_begin 28 = .ok (.aload_n 0, 1) := by decide +kernel
theorem dX4_begin_29 : decode cX4_begin 29 = .ok (.getfield 45, 3) := by decide +kernel
theorem dX4_begin_32 : decode cX4_begin 32 = .ok (.iload_n 3, 1) := by decide +kernel
theorem dX4_begin_33 : decode cX4_begin 33 = .ok (.invokestatic 59, 3) := by decide +kernel
theorem dX4_begin_36 : decode cX4_begin 36 = .ok (.ifCond .eq 23, 3) := by decide +kernel
theorem dX4_begin_39 : decode cX4_begin 39 = .ok (.aload_n 0, 1) := by decide +kernel
theorem dX4_begin_40 : decode cX4_begin 40 = .ok (.dup, 1) := by decide +kernel
theorem dX4_begin_41 : decode cX4_begin 41 = .ok (.getfield 52, 3) := by decide +kernel
theorem dX4_begin_44 : decode cX4_begin 44 = .ok (.lconst 1, 1) := by decide +kernel
theorem dX4_begin_45 : decode cX4_begin 45 = .ok (.aload_n 0, 1) := by decide +kernel
theorem dX4_begin_46 : decode cX4_begin 46 = .ok (.getfield 35, 3) := by decide +kernel
theorem dX4_begin_49 : decode cX4_begin 49 = .ok (.getfield 63, 3) := by decide +kernel
theorem dX4_begin_52 : decode cX4_begin 52 = .ok (.iload_n 3, 1) := by decide +kernel
theorem dX4_begin_53 : decode cX4_begin 53 = .ok (.iaload, 1) := by decide +kernel
theorem dX4_begin_54 : decode cX4_begin 54 = .ok (.lshl, 1) := by decide +kernel
theorem dX4_begin_55 : decode cX4_begin 55 = .ok (.lor, 1) := by decide +kernel
theorem dX4_begin_56 : decode cX4_begin 56 = .ok (.putfield 52, 3) := by decide +kernel
theorem dX4_begin_59 : decode cX4_begin 59 = .ok (.iinc 3 1, 3) := by decide +kernel
theorem dX4_begin_62 : decode cX4_begin 62 = .ok (.goto (-45), 3) := by decide +kernel
theorem dX4_begin_65 : decode cX4_begin 65 = .ok (.aload_n 0, 1) := by decide +kernel
theorem dX4_begin_66 : decode cX4_begin 66 = .ok (.getfield 12, 3) := by decide +kernel
theorem dX4_begin_69 : decode cX4_begin 69 = .ok (.iconst 0, 1) := by decide +kernel
theorem dX4_begin_70 : decode cX4_begin 70 = .ok (.putfield 66, 3) := by decide +kernel
theorem dX4_begin_73 : decode cX4_begin 73 = .ok (.aload_n 0, 1) := by decide +kernel
theorem dX4_begin_74 : decode cX4_begin 74 = .ok (.getfield 23, 3) := by decide +kernel
theorem dX4_begin_77 : decode cX4_begin 77 = .ok (.iconst 0, 1) := by decide +kernel
theorem dX4_begin_78 : decode cX4_begin 78 = .ok (.putfield 56, 3) := by decide +kernel
theorem dX4_begin_81 : decode cX4_begin 81 = .ok (.aload_n 0, 1) := by decide +kernel
theorem dX4_begin_82 : decode cX4_begin 82 = .ok (.iconst 0, 1) := by decide +kernel
theorem dX4_begin_83 : decode cX4_begin 83 = .ok (.putfield 67, 3) := by decide +kernel
theorem dX4_begin_86 : decode cX4_begin 86 = .ok (.aload_n 0, 1) := by decide +kernel
theorem dX4_begin_87 : decode cX4_begin 87 = .ok (.iconst 0, 1) := by decide +kernel
theorem dX4_begin_88 : decode cX4_begin 88 = .ok (.putfield 70, 3) := by decide +kernel
theorem dX4_begin_91 : decode cX4_begin 91 = .ok (.aload_n 0, 1) := by decide +kernel
theorem dX4_begin_92 : decode cX4_begin 92 = .ok (.getfield 27, 3) := by decide +kernel
theorem dX4_begin_95 : decode cX4_begin 95 = .ok (.iconst 0, 1) := by decide +kernel
theorem dX4_begin_96 : decode cX4_begin 96 = .ok (.invokestatic 73, 3) := by decide +kernel
theorem dX4_begin_99 : decode cX4_begin 99 = .ok (.return_, 1) := by decide +kernel
theorem dX4_pass_0 : decode cX4_pass 0 = .ok (.iload_n 1, 1) := by decide +kernel
theorem dX4_pass_1 : decode cX4_pass 1 = .ok (.ifCond .le 22, 3) := by decide +kernel
theorem dX4_pass_4 : decode cX4_pass 4 = .ok (.aload_n 0, 1) := by decide +kernel
theorem dX4_pass_5 : decode cX4_pass 5 = .ok (.getfield 52, 3) := by decide +kernel
theorem dX4_pass_8 : decode cX4_pass 8 = .ok (.iload_n 1, 1) := by decide +kernel
theorem dX4_pass_9 : decode cX4_pass 9 = .ok (.iconst 1, 1) := by decide +kernel
theorem dX4_pass_10 : decode cX4_pass 10 = .ok (.isub, 1) := by decide +kernel
theorem dX4_pass_11 : decode cX4_pass 11 = .ok (.lshr, 1) := by decide +kernel
theorem dX4_pass_12 : decode cX4_pass 12 = .ok (.lconst 1, 1) := by decide +kernel
theorem dX4_pass_13 : decode cX4_pass 13 = .ok (.land, 1) := by decide +kernel
theorem dX4_pass_14 : decode cX4_pass 14 = .ok (.lconst 1, 1) := by decide +kernel
theorem dX4_pass_15 : decode cX4_pass 15 = .ok (.lcmp, 1) := by decide +kernel
theorem dX4_pass_16 : decode cX4_pass 16 = .ok (.ifCond .ne 7, 3) := by decide +kernel
theorem dX4_pass_19 : decode cX4_pass 19 = .ok (.iconst 1, 1) := by decide +kernel
theorem dX4_pass_20 : decode cX4_pass 20 = .ok (.goto 4, 3) := by decide +kernel
theorem dX4_pass_23 : decode cX4_pass 23 = .ok (.iconst 0, 1) := by decide +kernel
theorem dX4_pass_24 : decode cX4_pass 24 = .ok (.istore_n 2, 1) := by decide +kernel
theorem dX4_pass_25 : decode cX4_pass 25 = .ok (.iload_n 2, 1) := by decide +kernel
theorem dX4_pass_26 : decode cX4_pass 26 = .ok (.ifCond .ne 18, 3) := by decide +kernel
theorem dX4_pass_29 : decode cX4_pass 29 = .ok (.aload_n 0, 1) := by decide +kernel
theorem dX4_pass_30 : decode cX4_pass 30 = .ok (.getfield 67, 3) := by decide +kernel
theorem dX4_pass_33 : decode cX4_pass 33 = .ok (.aload_n 0, 1) := by decide +kernel
theorem dX4_pass_34 : decode cX4_pass 34 = .ok (.getfield 23, 3) := by decide +kernel
theorem dX4_pass_37 : decode cX4_pass 37 = .ok (.getfield 56, 3) := by decide +kernel
theorem dX4_pass_40 : decode cX4_pass 40 = .ok (.if_icmp .ne 4, 3) := by decide +kernel
theorem dX4_pass_43 : decode cX4_pass 43 = .ok (.return_, 1) := by decide +kernel
theorem dX4_pass_44 : decode cX4_pass 44 = .ok (.aload_n 0, 1) := by decide +kernel
theorem dX4_pass_45 : decode cX4_pass 45 = .ok (.getfield 23, 3) := by decide +kernel
theorem dX4_pass_48 : decode cX4_pass 48 = .ok (.getfield 56, 3) := by decide +kernel
theorem dX4_pass_51 : decode cX4_pass 51 = .ok (.istore_n 3, 1) := by decide +kernel
theorem dX4_pass_52 : decode cX4_pass 52 = .ok (.aload_n 0, 1) := by decide +kernel
theorem dX4_pass_53 : decode cX4_pass 53 = .ok (.aload_n 0, 1) := by decide +kernel
theorem dX4_pass_54 : decode cX4_pass 54 = .ok (.iload_n 1, 1) := by decide +kernel
theorem dX4_pass_55 : decode cX4_pass 55 = .ok (.invokevirtual 79, 3) := by decide +kernel
theorem dX4_pass_58 : decode cX4_pass 58 = .ok (.putfield 83, 3) := by decide +kernel
theorem dX4_pass_61 : decode cX4_pass 61 = .ok (.iconst 0, 1) := by decide +kernel
theorem dX4_pass_62 : decode cX4_pass 62 = .ok (.istore 4, 2) := by decide +kernel
theorem dX4_pass_64 : decode cX4_pass 64 = .ok (.iload 4, 2) := by decide +kernel
theorem dX4_pass_66 : decode cX4_pass 66 = .ok (.aload_n 0, 1) := by decide +kernel
theorem dX4_pass_67 : decode cX4_pass 67 = .ok (.getfield 35, 3) := by decide +kernel
theorem dX4_pass_70 : decode cX4_pass 70 = .ok (.getfield 56, 3) := by decide +kernel
theorem dX4_pass_73 : decode cX4_pass 73 = .ok (.if_icmp .ge 48, 3) := by decide +kernel
theorem dX4_pass_76 : decode cX4_pass 76 = .ok (.aload_n 0, 1) := by decide +kernel
theorem dX4_pass_77 : decode cX4_pass 77 = .ok (.getfield 45, 3) := by decide +kernel
theorem dX4_pass_80 : decode cX4_pass 80 = .ok (.iload 4, 2) := by decide +kernel
theorem dX4_pass_82 : decode cX4_pass 82 = .ok (.invokestatic 59, 3) := by decide +kernel
theorem dX4_pass_85 : decode cX4_pass 85 = .ok (.ifCond .eq 30, 3) := by decide +kernel
theorem dX4_pass_88 : decode cX4_pass 88 = .ok (.aload_n 0, 1) := by decide +kernel
theorem dX4_pass_89 : decode cX4_pass 89 = .ok (.getfield 35, 3) := by decide +kernel
theorem dX4_pass_92 : decode cX4_pass 92 = .ok (.getfield 63, 3) := by decide +kernel
theorem dX4_pass_95 : decode cX4_pass 95 = .ok (.iload 4, 2) := by decide +kernel
theorem dX4_pass_97 : decode cX4_pass 97 = .ok (.iaload, 1) := by decide +kernel
theorem dX4_pass_98 : decode cX4_pass 98 = .ok (.iload_n 1, 1) := by decide +kernel
theorem dX4_pass_99 : decode cX4_pass 99 = .ok (.iconst 1, 1) := by decide +kernel
theorem dX4_pass_100 : decode cX4_pass 100 = .ok (.isub, 1) := by decide +kernel
theorem dX4_pass_101 : decode cX4_pass 101 = .ok (.if_icmp .ne 14, 3) := by decide +kernel
theorem dX4_pass_104 : decode cX4_pass 104 = .ok (.aload_n 0, 1) := by decide +kernel
theorem dX4_pass_105 : decode cX4_pass 105 = .ok (.aload_n 0, 1) := by decide +kernel
theorem dX4_pass_106 : decode cX4_pass 106 = .ok (.getfield 35, 3) := by decide +kernel
theorem dX4_pass_109 : decode cX4_pass 109 = .ok (.iload 4, 2) := by decide +kernel
theorem dX4_pass_111 : decode cX4_pass 111 = .ok (.iload_n 1, 1) := by decide +kernel
theorem dX4_pass_112 : decode cX4_pass 112 = .ok (.invokevirtual 86, 3) := by decide +kernel
theorem dX4_pass_115 : decode cX4_pass 115 = .ok (.iinc 4 1, 3) := by decide +kernel
theorem dX4_pass_118 : decode cX4_pass 118 = .ok (.goto (-54), 3) := by decide +kernel
theorem dX4_pass_121 : decode cX4_pass 121 = .ok (.aload_n 0, 1) := by decide +kernel
theorem dX4_pass_122 : decode cX4_pass 122 = .ok (.getfield 67, 3) := by decide +kernel
theorem dX4_pass_125 : decode cX4_pass 125 = .ok (.istore 4, 2) := by decide +kernel
theorem dX4_pass_127 : decode cX4_pass 127 = .ok (.iload 4, 2) := by decide +kernel
theorem dX4_pass_129 : decode cX4_pass 129 = .ok (.iload_n 3, 1) := by decide +kernel
theorem dX4_pass_130 : decode cX4_pass 130 = .ok (.if_icmp .ge 20, 3) := by decide +kernel
theorem dX4_pass_133 : decode cX4_pass 133 = .ok (.aload_n 0, 1) := by decide +kernel
theorem dX4_pass_134 : decode cX4_pass 134 = .ok (.aload_n 0, 1) := by decide +kernel
theorem dX4_pass_135 : decode cX4_pass 135 = .ok (.getfield 23, 3) := by decide +kernel
theorem dX4_pass_138 : decode cX4_pass 138 = .ok (.iload 4, 2) := by decide +kernel
theorem dX4_pass_140 : decode cX4_pass 140 = .ok (.iload_n 1, 1) := by decide +kernel
theorem dX4_pass_141 : decode cX4_pass 141 = .ok (.invokevirtual 86, 3) := by decide +kernel
theorem dX4_pass_144 : decode cX4_pass 144 = .ok (.iinc 4 1, 3) := by decide +kernel
theorem dX4_pass_147 : decode cX4_pass 147 = .ok (.goto (-20), 3) := by decide +kernel
theorem dX4_pass_150 : decode cX4_pass 150 = .ok (.aload_n 0, 1) := by decide +kernel
theorem dX4_pass_151 : decode cX4_pass 151 = .ok (.iload_n 3, 1) := by decide +kernel
theorem dX4_pass_152 : decode cX4_pass 152 = .ok (.putfield 67, 3) := by decide +kernel
theorem dX4_pass_155 : decode cX4_pass 155 = .ok (.return_, 1) := by decide +kernel
theorem dX4_freeAhead_0 : decode cX4_freeAhead 0 = .ok (.iconst 0, 1) := by decide +kernel
theorem dX4_freeAhead_1 : decode cX4_freeAhead 1 = .ok (.istore_n 2, 1) := by decide +kernel
theorem dX4_freeAhead_2 : decode cX4_freeAhead 2 = .ok (.iconst 0, 1) := by decide +kernel
theorem dX4_freeAhead_3 : decode cX4_freeAhead 3 = .ok (.istore_n 3, 1) := by decide +kernel
theorem dX4_freeAhead_4 : decode cX4_freeAhead 4 = .ok (.iload_n 3, 1) := by decide +kernel
theorem dX4_freeAhead_5 : decode cX4_freeAhead 5 = .ok (.aload_n 0, 1) := by decide +kernel
theorem dX4_freeAhead_6 : decode cX4_freeAhead 6 = .ok (.getfield 31, 3) := by decide +kernel
theorem dX4_freeAhead_9 : decode cX4_freeAhead 9 = .ok (.getfield 90, 3) := by decide +kernel
theorem dX4_freeAhead_12 : decode cX4_freeAhead 12 = .ok (.if_icmp .ge 37, 3) := by decide +kernel
theorem dX4_freeAhead_15 : decode cX4_freeAhead 15 = .ok (.aload_n 0, 1) := by decide +kernel
theorem dX4_freeAhead_16 : decode cX4_freeAhead 16 = .ok (.getfield 49, 3) := by decide +kernel
theorem dX4_freeAhead_19 : decode cX4_freeAhead 19 = .ok (.iload_n 3, 1) := by decide +kernel
theorem dX4_freeAhead_20 : decode cX4_freeAhead 20 = .ok (.invokestatic 59, 3) := by decide +kernel
theorem dX4_freeAhead_23 : decode cX4_freeAhead 23 = .ok (.ifCond .ne 20, 3) := by decide +kernel
theorem dX4_freeAhead_26 : decode cX4_freeAhead 26 = .ok (.aload_n 0, 1) := by decide +kernel
theorem dX4_freeAhead_27 : decode cX4_freeAhead 27 = .ok (.getfield 27, 3) := by decide +kernel
theorem dX4_freeAhead_30 : decode cX4_freeAhead 30 = .ok (.iload_n 3, 1) := by decide +kernel
theorem dX4_freeAhead_31 : decode cX4_freeAhead 31 = .ok (.iaload, 1) := by decide +kernel
theorem dX4_freeAhead_32 : decode cX4_freeAhead 32 = .ok (.iload_n 1, 1) := by decide +kernel
theorem dX4_freeAhead_33 : decode cX4_freeAhead 33 = .ok (.if_icmp .gt 10, 3) := by decide +kernel
theorem dX4_freeAhead_36 : decode cX4_freeAhead 36 = .ok (.iload_n 2, 1) := by decide +kernel
theorem dX4_freeAhead_37 : decode cX4_freeAhead 37 = .ok (.iload_n 3, 1) := by decide +kernel
theorem dX4_freeAhead_38 : decode cX4_freeAhead 38 = .ok (.invokestatic 93, 3) := by decide +kernel
theorem dX4_freeAhead_41 : decode cX4_freeAhead 41 = .ok (.ior, 1) := by decide +kernel
theorem dX4_freeAhead_42 : decode cX4_freeAhead 42 = .ok (.istore_n 2, 1) := by decide +kernel
theorem dX4_freeAhead_43 : decode cX4_freeAhead 43 = .ok (.iinc 3 1, 3) := by decide +kernel
theorem dX4_freeAhead_46 : decode cX4_freeAhead 46 = .ok (.goto (-42), 3) := by decide +kernel
theorem dX4_freeAhead_49 : decode cX4_freeAhead 49 = .ok (.iload_n 2, 1) := by decide +kernel
theorem dX4_freeAhead_50 : decode cX4_freeAhead 50 = .ok (.ireturn, 1) := by decide +kernel
theorem dX4_answer_0 : decode cX4_answer 0 = .ok (.aload_n 1, 1) := by decide +kernel
theorem dX4_answer_1 : decode cX4_answer 1 = .ok (.getfield 96, 3) := by decide +kernel
theorem dX4_answer_4 : decode cX4_answer 4 = .ok (.iload_n 2, 1) := by decide +kernel
theorem dX4_answer_5 : decode cX4_answer 5 = .ok (.iaload, 1) := by decide +kernel
theorem dX4_answer_6 : decode cX4_answer 6 = .ok (.istore 4, 2) := by decide +kernel
theorem dX4_answer_8 : decode cX4_answer 8 = .ok (.aload_n 1, 1) := by decide +kernel
theorem dX4_answer_9 : decode cX4_answer 9 = .ok (.getfield 99, 3) := by decide +kernel
theorem dX4_answer_12 : decode cX4_answer 12 = .ok (.iload_n 2, 1) := by decide +kernel
theorem dX4_answer_13 : decode cX4_answer 13 = .ok (.iaload, 1) := by decide +kernel
theorem dX4_answer_14 : decode cX4_answer 14 = .ok (.istore 5, 2) := by decide +kernel
theorem dX4_answer_16 : decode cX4_answer 16 = .ok (.aload_n 1, 1) := by decide +kernel
theorem dX4_answer_17 : decode cX4_answer 17 = .ok (.getfield 102, 3) := by decide +kernel
theorem dX4_answer_20 : decode cX4_answer 20 = .ok (.iload_n 2, 1) := by decide +kernel
theorem dX4_answer_21 : decode cX4_answer 21 = .ok (.iaload, 1) := by decide +kernel
theorem dX4_answer_22 : decode cX4_answer 22 = .ok (.aload_n 0, 1) := by decide +kernel
theorem dX4_answer_23 : decode cX4_answer 23 = .ok (.getfield 31, 3) := by decide +kernel
theorem dX4_answer_26 : decode cX4_answer 26 = .ok (.iload 5, 2) := by decide +kernel
theorem dX4_answer_28 : decode cX4_answer 28 = .ok (.invokevirtual 105, 3) := by decide +kernel
theorem dX4_answer_31 : decode cX4_answer 31 = .ok (.if_icmp .ge 4, 3) := by decide +kernel
theorem dX4_answer_34 : decode cX4_answer 34 = .ok (.return_, 1) := by decide +kernel
theorem dX4_answer_35 : decode cX4_answer 35 = .ok (.aload_n 0, 1) := by decide +kernel
theorem dX4_answer_36 : decode cX4_answer 36 = .ok (.getfield 83, 3) := by decide +kernel
theorem dX4_answer_39 : decode cX4_answer 39 = .ok (.iload 4, 2) := by decide +kernel
theorem dX4_answer_41 : decode cX4_answer 41 = .ok (.invokestatic 93, 3) := by decide +kernel
theorem dX4_answer_44 : decode cX4_answer 44 = .ok (.iload 5, 2) := by decide +kernel
theorem dX4_answer_46 : decode cX4_answer 46 = .ok (.invokestatic 93, 3) := by decide +kernel
theorem dX4_answer_49 : decode cX4_answer 49 = .ok (.ior, 1) := by decide +kernel
theorem dX4_answer_50 : decode cX4_answer 50 = .ok (.iconst (-1), 1) := by decide +kernel
theorem dX4_answer_51 : decode cX4_answer 51 = .ok (.ixor, 1) := by decide +kernel
theorem dX4_answer_52 : decode cX4_answer 52 = .ok (.iand, 1) := by decide +kernel
theorem dX4_answer_53 : decode cX4_answer 53 = .ok (.istore 6, 2) := by decide +kernel
theorem dX4_answer_55 : decode cX4_answer 55 = .ok (.aload_n 0, 1) := by decide +kernel
theorem dX4_answer_56 : decode cX4_answer 56 = .ok (.getfield 31, 3) := by decide +kernel
theorem dX4_answer_59 : decode cX4_answer 59 = .ok (.iload 5, 2) := by decide +kernel
theorem dX4_answer_61 : decode cX4_answer 61 = .ok (.iload 6, 2) := by decide +kernel
theorem dX4_answer_63 : decode cX4_answer 63 = .ok (.invokevirtual 108, 3) := by decide +kernel
theorem dX4_answer_66 : decode cX4_answer 66 = .ok (.istore 7, 2) := by decide +kernel
theorem dX4_answer_68 : decode cX4_answer 68 = .ok (.iload 7, 2) := by decide +kernel
theorem dX4_answer_70 : decode cX4_answer 70 = .ok (.bipush (-9), 2) := by decide +kernel
theorem dX4_answer_72 : decode cX4_answer 72 = .ok (.if_icmp .ne 4, 3) := by decide +kernel
theorem dX4_answer_75 : decode cX4_answer 75 = .ok (.return_, 1) := by decide +kernel
theorem dX4_answer_76 : decode cX4_answer 76 = .ok (.aload_n 0, 1) := by decide +kernel
theorem dX4_answer_77 : decode cX4_answer 77 = .ok (.getfield 31, 3) := by decide +kernel
theorem dX4_answer_80 : decode cX4_answer 80 = .ok (.iload 4, 2) := by decide +kernel
theorem dX4_answer_82 : decode cX4_answer 82 = .ok (.iload 6, 2) := by decide +kernel
theorem dX4_answer_84 : decode cX4_answer 84 = .ok (.iload 7, 2) := by decide +kernel
theorem dX4_answer_86 : decode cX4_answer 86 = .ok (.invokestatic 93, 3) := by decide +kernel
theorem dX4_answer_89 : decode cX4_answer 89 = .ok (.iconst (-1), 1) := by decide +kernel
theorem dX4_answer_90 : decode cX4_answer 90 = .ok (.ixor, 1) := by decide +kernel
theorem dX4_answer_91 : decode cX4_answer 91 = .ok (.iand, 1) := by decide +kernel
theorem dX4_answer_92 : decode cX4_answer 92 = .ok (.invokevirtual 108, 3) := by decide +kernel
theorem dX4_answer_95 : decode cX4_answer 95 = .ok (.istore 8, 2) := by decide +kernel
theorem dX4_answer_97 : decode cX4_answer 97 = .ok (.iload 8, 2) := by decide +kernel
theorem dX4_answer_99 : decode cX4_answer 99 = .ok (.bipush (-9), 2) := by decide +kernel
theorem dX4_answer_101 : decode cX4_answer 101 = .ok (.if_icmp .ne 4, 3) := by decide +kernel
theorem dX4_answer_104 : decode cX4_answer 104 = .ok (.return_, 1) := by decide +kernel
theorem dX4_answer_105 : decode cX4_answer 105 = .ok (.aload_n 0, 1) := by decide +kernel
theorem dX4_answer_106 : decode cX4_answer 106 = .ok (.dup, 1) := by decide +kernel
theorem dX4_answer_107 : decode cX4_answer 107 = .ok (.getfield 83, 3) := by decide +kernel
theorem dX4_answer_110 : decode cX4_answer 110 = .ok (.iload 7, 2) := by decide +kernel
theorem dX4_answer_112 : decode cX4_answer 112 = .ok (.invokestatic 93, 3) := by decide +kernel
theorem dX4_answer_115 : decode cX4_answer 115 = .ok (.iload 8, 2) := by decide +kernel
theorem dX4_answer_117 : decode cX4_answer 117 = .ok (.invokestatic 93, 3) := by decide +kernel
theorem dX4_answer_120 : decode cX4_answer 120 = .ok (.ior, 1) := by decide +kernel
theorem dX4_answer_121 : decode cX4_answer 121 = .ok (.iconst (-1), 1) := by decide +kernel
theorem dX4_answer_122 : decode cX4_answer 122 = .ok (.ixor, 1) := by decide +kernel
theorem dX4_answer_123 : decode cX4_answer 123 = .ok (.iand, 1) := by decide +kernel
theorem dX4_answer_124 : decode cX4_answer 124 = .ok (.putfield 83, 3) := by decide +kernel
theorem dX4_answer_127 : decode cX4_answer 127 = .ok (.aload_n 0, 1) := by decide +kernel
theorem dX4_answer_128 : decode cX4_answer 128 = .ok (.iload 7, 2) := by decide +kernel
theorem dX4_answer_130 : decode cX4_answer 130 = .ok (.iload 8, 2) := by decide +kernel
theorem dX4_answer_132 : decode cX4_answer 132 = .ok (.iload_n 3, 1) := by decide +kernel
theorem dX4_answer_133 : decode cX4_answer 133 = .ok (.invokevirtual 112, 3) := by decide +kernel
theorem dX4_answer_136 : decode cX4_answer 136 = .ok (.istore 9, 2) := by decide +kernel
theorem dX4_answer_138 : decode cX4_answer 138 = .ok (.aload_n 0, 1) := by decide +kernel
theorem dX4_answer_139 : decode cX4_answer 139 = .ok (.getfield 12, 3) := by decide +kernel
theorem dX4_answer_142 : decode cX4_answer 142 = .ok (.iload_n 3, 1) := by decide +kernel
theorem dX4_answer_143 : decode cX4_answer 143 = .ok (.iload 7, 2) := by decide +kernel
theorem dX4_answer_145 : decode cX4_answer 145 = .ok (.iload 8, 2) := by decide +kernel
theorem dX4_answer_147 : decode cX4_answer 147 = .ok (.iload 5, 2) := by decide +kernel
theorem dX4_answer_149 : decode cX4_answer 149 = .ok (.iload 4, 2) := by decide +kernel
theorem dX4_answer_151 : decode cX4_answer 151 = .ok (.iload 9, 2) := by decide +kernel
theorem dX4_answer_153 : decode cX4_answer 153 = .ok (.invokevirtual 116, 3) := by decide +kernel
theorem dX4_answer_156 : decode cX4_answer 156 = .ok (.return_, 1) := by decide +kernel
theorem dX4_shoot_0 : decode cX4_shoot 0 = .ok (.aload_n 0, 1) := by decide +kernel
theorem dX4_shoot_1 : decode cX4_shoot 1 = .ok (.getfield 31, 3) := by decide +kernel
theorem dX4_shoot_4 : decode cX4_shoot 4 = .ok (.getfield 120, 3) := by decide +kernel
theorem dX4_shoot_7 : decode cX4_shoot 7 = .ok (.iload_n 1, 1) := by decide +kernel
theorem dX4_shoot_8 : decode cX4_shoot 8 = .ok (.iaload, 1) := by decide +kernel
theorem dX4_shoot_9 : decode cX4_shoot 9 = .ok (.aload_n 0, 1) := by decide +kernel
theorem dX4_shoot_10 : decode cX4_shoot 10 = .ok (.getfield 31, 3) := by decide +kernel
theorem dX4_shoot_13 : decode cX4_shoot 13 = .ok (.getfield 120, 3) := by decide +kernel
theorem dX4_shoot_16 : decode cX4_shoot 16 = .ok (.iload_n 2, 1) := by decide +kernel
theorem dX4_shoot_17 : decode cX4_shoot 17 = .ok (.iaload, 1) := by decide +kernel
theorem dX4_shoot_18 : decode cX4_shoot 18 = .ok (.isub, 1) := by decide +kernel
theorem dX4_shoot_19 : decode cX4_shoot 19 = .ok (.istore 4, 2) := by decide +kernel
theorem dX4_shoot_21 : decode cX4_shoot 21 = .ok (.iload 4, 2) := by decide +kernel
theorem dX4_shoot_23 : decode cX4_shoot 23 = .ok (.ifCond .ne 6, 3) := by decide +kernel
theorem dX4_shoot_26 : decode cX4_shoot 26 = .ok (.bipush (-9), 2) := by decide +kernel
theorem dX4_shoot_28 : decode cX4_shoot 28 = .ok (.ireturn, 1) := by decide +kernel
theorem dX4_shoot_29 : decode cX4_shoot 29 = .ok (.iload 4, 2) := by decide +kernel
theorem dX4_shoot_31 : decode cX4_shoot 31 = .ok (.ifCond .ge 7, 3) := by decide +kernel
theorem dX4_shoot_34 : decode cX4_shoot 34 = .ok (.iload_n 1, 1) := by decide +kernel
theorem dX4_shoot_35 : decode cX4_shoot 35 = .ok (.goto 4, 3) := by decide +kernel
theorem dX4_shoot_38 : decode cX4_shoot 38 = .ok (.iload_n 2, 1) := by decide +kernel
theorem dX4_shoot_39 : decode cX4_shoot 39 = .ok (.istore 5, 2) := by decide +kernel
theorem dX4_shoot_41 : decode cX4_shoot 41 = .ok (.iload 4, 2) := by decide +kernel
theorem dX4_shoot_43 : decode cX4_shoot 43 = .ok (.ifCond .ge 7, 3) := by decide +kernel
theorem dX4_shoot_46 : decode cX4_shoot 46 = .ok (.iload_n 2, 1) := by decide +kernel
theorem dX4_shoot_47 : decode cX4_shoot 47 = .ok (.goto 4, 3) := by decide +kernel
theorem dX4_shoot_50 : decode cX4_shoot 50 = .ok (.iload_n 1, 1) := by decide +kernel
theorem dX4_shoot_51 : decode cX4_shoot 51 = .ok (.istore 6, 2) := by decide +kernel
theorem dX4_shoot_53 : decode cX4_shoot 53 = .ok (.iload 4, 2) := by decide +kernel
theorem dX4_shoot_55 : decode cX4_shoot 55 = .ok (.invokestatic 123, 3) := by decide +kernel
theorem dX4_shoot_58 : decode cX4_shoot 58 = .ok (.istore 7, 2) := by decide +kernel
theorem dX4_shoot_60 : decode cX4_shoot 60 = .ok (.aload_n 0, 1) := by decide +kernel
theorem dX4_shoot_61 : decode cX4_shoot 61 = .ok (.dup, 1) := by decide +kernel
theorem dX4_shoot_62 : decode cX4_shoot 62 = .ok (.getfield 70, 3) := by decide +kernel
theorem dX4_shoot_65 : decode cX4_shoot 65 = .ok (.iload 5, 2) := by decide +kernel
theorem dX4_shoot_67 : decode cX4_shoot 67 = .ok (.invokestatic 93, 3) := by decide +kernel
theorem dX4_shoot_70 : decode cX4_shoot 70 = .ok (.ior, 1) := by decide +kernel
theorem dX4_shoot_71 : decode cX4_shoot 71 = .ok (.putfield 70, 3) := by decide +kernel
theorem dX4_shoot_74 : decode cX4_shoot 74 = .ok (.aload_n 0, 1) := by decide +kernel
theorem dX4_shoot_75 : decode cX4_shoot 75 = .ok (.getfield 27, 3) := by decide +kernel
theorem dX4_shoot_78 : decode cX4_shoot 78 = .ok (.iload 5, 2) := by decide +kernel
theorem dX4_shoot_80 : decode cX4_shoot 80 = .ok (.iload_n 3, 1) := by decide +kernel
theorem dX4_shoot_81 : decode cX4_shoot 81 = .ok (.iload 7, 2) := by decide +kernel
theorem dX4_shoot_83 : decode cX4_shoot 83 = .ok (.iadd, 1) := by decide +kernel
theorem dX4_shoot_84 : decode cX4_shoot 84 = .ok (.iconst 2, 1) := by decide +kernel
theorem dX4_shoot_85 : decode cX4_shoot 85 = .ok (.iadd, 1) := by decide +kernel
theorem dX4_shoot_86 : decode cX4_shoot 86 = .ok (.iastore, 1) := by decide +kernel
theorem dX4_shoot_87 : decode cX4_shoot 87 = .ok (.aload_n 0, 1) := by decide +kernel
theorem dX4_shoot_88 : decode cX4_shoot 88 = .ok (.getfield 31, 3) := by decide +kernel
theorem dX4_shoot_91 : decode cX4_shoot 91 = .ok (.getfield 128, 3) := by decide +kernel
theorem dX4_shoot_94 : decode cX4_shoot 94 = .ok (.iload 5, 2) := by decide +kernel
theorem dX4_shoot_96 : decode cX4_shoot 96 = .ok (.iaload, 1) := by decide +kernel
theorem dX4_shoot_97 : decode cX4_shoot 97 = .ok (.istore 8, 2) := by decide +kernel
theorem dX4_shoot_99 : decode cX4_shoot 99 = .ok (.iload 8, 2) := by decide +kernel
theorem dX4_shoot_101 : decode cX4_shoot 101 = .ok (.iload 6, 2) := by decide +kernel
theorem dX4_shoot_103 : decode cX4_shoot 103 = .ok (.if_icmp .eq 17, 3) := by decide +kernel
theorem dX4_shoot_106 : decode cX4_shoot 106 = .ok (.aload_n 0, 1) := by decide +kernel
theorem dX4_shoot_107 : decode cX4_shoot 107 = .ok (.getfield 23, 3) := by decide +kernel
theorem dX4_shoot_110 : decode cX4_shoot 110 = .ok (.iload 6, 2) := by decide +kernel
theorem dX4_shoot_112 : decode cX4_shoot 112 = .ok (.iload 8, 2) := by decide +kernel
theorem dX4_shoot_114 : decode cX4_shoot 114 = .ok (.iload_n 3, 1) := by decide +kernel
theorem dX4_shoot_115 : decode cX4_shoot 115 = .ok (.iload 7, 2) := by decide +kernel
theorem dX4_shoot_117 : decode cX4_shoot 117 = .ok (.invokevirtual 131, 3) := by decide +kernel
theorem dX4_shoot_120 : decode cX4_shoot 120 = .ok (.iload 5, 2) := by decide +kernel
theorem dX4_shoot_122 : decode cX4_shoot 122 = .ok (.ireturn, 1) := by decide +kernel
theorem dX5_init_0 : decode cX5_init 0 = .ok (.aload_n 0, 1) := by decide +kernel
theorem dX5_init_1 : decode cX5_init 1 = .ok (.invokespecial 3, 3) := by decide +kernel
theorem dX5_init_4 : decode cX5_init 4 = .ok (.aload_n 0, 1) := by decide +kernel
theorem dX5_init_5 : decode cX5_init 5 = .ok (.bipush 50, 2) := by decide +kernel
theorem dX5_init_7 : decode cX5_init 7 = .ok (.newarray .int, 2) := by decide +kernel
theorem dX5_init_9 : decode cX5_init 9 = .ok (.putfield 9, 3) := by decide +kernel
theorem dX5_init_12 : decode cX5_init 12 = .ok (.return_, 1) := by decide +kernel
theorem dX5_renew_0 : decode cX5_renew 0 = .ok (.aload_n 0, 1) := by decide +kernel
theorem dX5_renew_1 : decode cX5_renew 1 = .ok (.iconst 1, 1) := by decide +kernel
theorem dX5_renew_2 : decode cX5_renew 2 = .ok (.putfield 15, 3) := by decide +kernel
theorem dX5_renew_5 : decode cX5_renew 5 = .ok (.aload_n 0, 1) := by decide +kernel
theorem dX5_renew_6 : decode cX5_renew 6 = .ok (.iload_n 1, 1) := by decide +kernel
theorem dX5_renew_7 : decode cX5_renew 7 = .ok (.putfield 19, 3) := by decide +kernel
theorem dX5_renew_10 : decode cX5_renew 10 = .ok (.aload_n 0, 1) := by decide +kernel
theorem dX5_renew_11 : decode cX5_renew 11 = .ok (.iconst 0, 1) := by decide +kernel
theorem dX5_renew_12 : decode cX5_renew 12 = .ok (.bipush 50, 2) := by decide +kernel
theorem dX5_renew_14 : decode cX5_renew 14 = .ok (.iload_n 2, 1) := by decide +kernel
theorem dX5_renew_15 : decode cX5_renew 15 = .ok (.invokestatic 23, 3) := by decide +kernel
theorem dX5_renew_18 : decode cX5_renew 18 = .ok (.invokestatic 29, 3) := by decide +kernel
theorem dX5_renew_21 : decode cX5_renew 21 = .ok (.putfield 32, 3) := by decide +kernel
theorem dX5_renew_24 : decode cX5_renew 24 = .ok (.aload_n 0, 1) := by decide +kernel
theorem dX5_renew_25 : decode cX5_renew 25 = .ok (.getfield 9, 3) := by decide +kernel
theorem dX5_renew_28 : decode cX5_renew 28 = .ok (.iconst 0, 1) := by decide +kernel
theorem dX5_renew_29 : decode cX5_renew 29 = .ok (.invokestatic 35, 3) := by decide +kernel
theorem dX5_renew_32 : decode cX5_renew 32 = .ok (.return_, 1) := by decide +kernel
theorem dX5_holds_0 : decode cX5_holds 0 = .ok (.iload_n 1, 1) := by decide +kernel
theorem dX5_holds_1 : decode cX5_holds 1 = .ok (.ifCond .lt 29, 3) := by decide +kernel
theorem dX5_holds_4 : decode cX5_holds 4 = .ok (.iload_n 1, 1) := by decide +kernel
theorem dX5_holds_5 : decode cX5_holds 5 = .ok (.aload_n 0, 1) := by decide +kernel
theorem dX5_holds_6 : decode cX5_holds 6 = .ok (.getfield 32, 3) := by decide +kernel
theorem dX5_holds_9 : decode cX5_holds 9 = .ok (.if_icmp .gt 21, 3) := by decide +kernel
theorem dX5_holds_12 : decode cX5_holds 12 = .ok (.iload_n 2, 1) := by decide +kernel
theorem dX5_holds_13 : decode cX5_holds 13 = .ok (.ifCond .lt 17, 3) := by decide +kernel
theorem dX5_holds_16 : decode cX5_holds 16 = .ok (.iload_n 2, 1) := by decide +kernel
theorem dX5_holds_17 : decode cX5_holds 17 = .ok (.aload_n 0, 1) := by decide +kernel
theorem dX5_holds_18 : decode cX5_holds 18 = .ok (.getfield 32, 3) := by decide +kernel
theorem dX5_holds_21 : decode cX5_holds 21 = .ok (.iload_n 1, 1) := by decide +kernel
theorem dX5_holds_22 : decode cX5_holds 22 = .ok (.isub, 1) := by decide +kernel
theorem dX5_holds_23 : decode cX5_holds 23 = .ok (.if_icmp .gt 7, 3) := by decide +kernel
theorem dX5_holds_26 : decode cX5_holds 26 = .ok (.iconst 1, 1) := by decide +kernel
theorem dX5_holds_27 : decode cX5_holds 27 = .ok (.goto 4, 3) := by decide +kernel
theorem dX5_holds_30 : decode cX5_holds 30 = .ok (.iconst 0, 1) := by decide +kernel
theorem dX5_holds_31 : decode cX5_holds 31 = .ok (.ireturn, 1) := by decide +kernel
theorem dX5_at_0 : decode cX5_at 0 = .ok (.iload_n 1, 1) := by decide +kernel
theorem dX5_at_1 : decode cX5_at 1 = .ok (.ifCond .lt 20, 3) := by decide +kernel
theorem dX5_at_4 : decode cX5_at 4 = .ok (.iload_n 1, 1) := by decide +kernel
theorem dX5_at_5 : decode cX5_at 5 = .ok (.aload_n 0, 1) := by decide +kernel
theorem dX5_at_6 : decode cX5_at 6 = .ok (.getfield 32, 3) := by decide +kernel
theorem dX5_at_9 : decode cX5_at 9 = .ok (.if_icmp .ge 12, 3) := by decide +kernel
theorem dX5_at_12 : decode cX5_at 12 = .ok (.aload_n 0, 1) := by decide +kernel
theorem dX5_at_13 : decode cX5_at 13 = .ok (.getfield 9, 3) := by decide +kernel
theorem dX5_at_16 : decode cX5_at 16 = .ok (.iload_n 1, 1) := by decide +kernel
theorem dX5_at_17 : decode cX5_at 17 = .ok (.iaload, 1) := by decide +kernel
theorem dX5_at_18 : decode cX5_at 18 = .ok (.goto 4, 3) := by decide +kernel
theorem dX5_at_21 : decode cX5_at 21 = .ok (.iconst 0, 1) := by decide +kernel
theorem dX5_at_22 : decode cX5_at 22 = .ok (.ireturn, 1) := by decide +kernel
theorem dX5_faultOfTaking_0 : decode cX5_faultOfTaking 0 = .ok (.aload_n 0, 1) := by decide +kernel
theorem dX5_faultOfTaking_1 : decode cX5_faultOfTaking 1 = .ok (.getfield 15, 3) := by decide +kernel
theorem dX5_faultOfTaking_4 : decode cX5_faultOfTaking 4 = .ok (.ifCond .ne 5, 3) := by decide +kernel
theorem dX5_faultOfTaking_7 : decode cX5_faultOfTaking 7 = .ok (.iconst 1, 1) := by decide +kernel
theorem dX5_faultOfTaking_8 : decode cX5_faultOfTaking 8 = .ok (.ireturn, 1) := by decide +kernel
theorem dX5_faultOfTaking_9 : decode cX5_faultOfTaking 9 = .ok (.aload_n 0, 1) := by decide +kernel
theorem dX5_faultOfTaking_10 : decode cX5_faultOfTaking 10 = .ok (.getfield 19, 3) := by decide +kernel
theorem dX5_faultOfTaking_13 : decode cX5_faultOfTaking 13 = .ok (.iload_n 1, 1) := by decide +kernel
theorem dX5_faultOfTaking_14 : decode cX5_faultOfTaking 14 = .ok (.if_icmp .eq 5, 3) := by decide +kernel
theorem dX5_faultOfTaking_17 : decode cX5_faultOfTaking 17 = .ok (.iconst 2, 1) := by decide +kernel
theorem dX5_faultOfTaking_18 : decode cX5_faultOfTaking 18 = .ok (.ireturn, 1) := by decide +kernel
theorem dX5_faultOfTaking_19 : decode cX5_faultOfTaking 19 = .ok (.iload_n 3, 1) := by decide +kernel
theorem dX5_faultOfTaking_20 : decode cX5_faultOfTaking 20 = .ok (.ifCond .ge 5, 3) := by decide +kernel
theorem dX5_faultOfTaking_23 : decode cX5_faultOfTaking 23 = .ok (.iconst 4, 1) := by decide +kernel
theorem dX5_faultOfTaking_24 : decode cX5_faultOfTaking 24 = .ok (.ireturn, 1) := by decide +kernel
theorem dX5_faultOfTaking_25 : decode cX5_faultOfTaking 25 = .ok (.aload_n 0, 1) := by decide +kernel
theorem dX5_faultOfTaking_26 : decode cX5_faultOfTaking 26 = .ok (.iload_n 2, 1) := by decide +kernel
theorem dX5_faultOfTaking_27 : decode cX5_faultOfTaking 27 = .ok (.iload_n 3, 1) := by decide +kernel
theorem dX5_faultOfTaking_28 : decode cX5_faultOfTaking 28 = .ok (.invokevirtual 41, 3) := by decide +kernel
theorem dX5_faultOfTaking_31 : decode cX5_faultOfTaking 31 = .ok (.ifCond .eq 7, 3) := by decide +kernel
theorem dX5_faultOfTaking_34 : decode cX5_faultOfTaking 34 = .ok (.iconst 0, 1) := by decide +kernel
theorem dX5_faultOfTaking_35 : decode cX5_faultOfTaking 35 = .ok (.goto 4, 3) := by decide +kernel
theorem dX5_faultOfTaking_38 : decode cX5_faultOfTaking 38 = .ok (.iconst 3, 1) := by decide +kernel
theorem dX5_faultOfTaking_39 : decode cX5_faultOfTaking 39 = .ok (.ireturn, 1) := by decide +kernel
theorem dX6_firstFault_0 : decode cX6_firstFault 0 = .ok (.iconst 0, 1) := by decide +kernel
theorem dX6_firstFault_1 : decode cX6_firstFault 1 = .ok (.istore_n 3, 1) := by decide +kernel
theorem dX6_firstFault_2 : decode cX6_firstFault 2 = .ok (.iload_n 3, 1) := by decide +kernel
theorem dX6_firstFault_3 : decode cX6_firstFault 3 = .ok (.iload_n 2, 1) := by decide +kernel
theorem dX6_firstFault_4 : decode cX6_firstFault 4 = .ok (.if_icmp .ge 20, 3) := by decide +kernel
theorem dX6_firstFault_7 : decode cX6_firstFault 7 = .ok (.aload_n 0, 1) := by decide +kernel
theorem dX6_firstFault_8 : decode cX6_firstFault 8 = .ok (.iload_n 1, 1) := by decide +kernel
theorem dX6_firstFault_9 : decode cX6_firstFault 9 = .ok (.iload_n 3, 1) := by decide +kernel
theorem dX6_firstFault_10 : decode cX6_firstFault 10 = .ok (.invokestatic 9, 3) := by decide +kernel
theorem dX6_firstFault_13 : decode cX6_firstFault 13 = .ok (.ifCond .ne 5, 3) := by decide +kernel
theorem dX6_firstFault_16 : decode cX6_firstFault 16 = .ok (.iload_n 3, 1) := by decide +kernel
theorem dX6_firstFault_17 : decode cX6_firstFault 17 = .ok (.ireturn, 1) := by decide +kernel
theorem dX6_firstFault_18 : decode cX6_firstFault 18 = .ok (.iinc 3 1, 3) := by decide +kernel
theorem dX6_firstFault_21 : decode cX6_firstFault 21 = .ok (.goto (-19), 3) := by decide +kernel
theorem dX6_firstFault_24 : decode cX6_firstFault 24 = .ok (.iload_n 2, 1) := by decide +kernel
theorem dX6_firstFault_25 : decode cX6_firstFault 25 = .ok (.iconst 2, 1) := by decide +kernel
theorem dX6_firstFault_26 : decode cX6_firstFault 26 = .ok (.if_icmp .lt 25, 3) := by decide +kernel
theorem dX6_firstFault_29 : decode cX6_firstFault 29 = .ok (.iload_n 2, 1) := by decide +kernel
theorem dX6_firstFault_30 : decode cX6_firstFault 30 = .ok (.iconst 2, 1) := by decide +kernel
theorem dX6_firstFault_31 : decode cX6_firstFault 31 = .ok (.iconst 5, 1) := by decide +kernel
theorem dX6_firstFault_32 : decode cX6_firstFault 32 = .ok (.aload_n 0, 1) := by decide +kernel
theorem dX6_firstFault_33 : decode cX6_firstFault 33 = .ok (.iload_n 1, 1) := by decide +kernel
theorem dX6_firstFault_34 : decode cX6_firstFault 34 = .ok (.iconst 1, 1) := by decide +kernel
theorem dX6_firstFault_35 : decode cX6_firstFault 35 = .ok (.iadd, 1) := by decide +kernel
theorem dX6_firstFault_36 : decode cX6_firstFault 36 = .ok (.invokevirtual 15, 3) := by decide +kernel
theorem dX6_firstFault_39 : decode cX6_firstFault 39 = .ok (.invokestatic 21, 3) := by decide +kernel
theorem dX6_firstFault_42 : decode cX6_firstFault 42 = .ok (.imul, 1) := by decide +kernel
theorem dX6_firstFault_43 : decode cX6_firstFault 43 = .ok (.iadd, 1) := by decide +kernel
theorem dX6_firstFault_44 : decode cX6_firstFault 44 = .ok (.if_icmp .ne 7, 3) := by decide +kernel
theorem dX6_firstFault_47 : decode cX6_firstFault 47 = .ok (.iconst 1, 1) := by decide +kernel
theorem dX6_firstFault_48 : decode cX6_firstFault 48 = .ok (.goto 4, 3) := by decide +kernel
theorem dX6_firstFault_51 : decode cX6_firstFault 51 = .ok (.iconst 0, 1) := by decide +kernel
theorem dX6_firstFault_52 : decode cX6_firstFault 52 = .ok (.istore_n 3, 1) := by decide +kernel
theorem dX6_firstFault_53 : decode cX6_firstFault 53 = .ok (.iload_n 3, 1) := by decide +kernel
theorem dX6_firstFault_54 : decode cX6_firstFault 54 = .ok (.ifCond .eq 8, 3) := by decide +kernel
theorem dX6_firstFault_57 : decode cX6_firstFault 57 = .ok (.bipush (-9), 2) := by decide +kernel
theorem dX6_firstFault_59 : decode cX6_firstFault 59 = .ok (.goto 4, 3) := by decide +kernel
theorem dX6_firstFault_62 : decode cX6_firstFault 62 = .ok (.iload_n 2, 1) := by decide +kernel
theorem dX6_firstFault_63 : decode cX6_firstFault 63 = .ok (.ireturn, 1) := by decide +kernel
theorem dX6_goesOn_0 : decode cX6_goesOn 0 = .ok (.aload_n 0, 1) := by decide +kernel
theorem dX6_goesOn_1 : decode cX6_goesOn 1 = .ok (.iload_n 1, 1) := by decide +kernel
theorem dX6_goesOn_2 : decode cX6_goesOn 2 = .ok (.iload_n 2, 1) := by decide +kernel
theorem dX6_goesOn_3 : decode cX6_goesOn 3 = .ok (.iadd, 1) := by decide +kernel
theorem dX6_goesOn_4 : decode cX6_goesOn 4 = .ok (.invokevirtual 15, 3) := by decide +kernel
theorem dX6_goesOn_7 : decode cX6_goesOn 7 = .ok (.istore_n 3, 1) := by decide +kernel
theorem dX6_goesOn_8 : decode cX6_goesOn 8 = .ok (.iload_n 2, 1) := by decide +kernel
theorem dX6_goesOn_9 : decode cX6_goesOn 9 = .ok (.ifCond .ne 15, 3) := by decide +kernel
theorem dX6_goesOn_12 : decode cX6_goesOn 12 = .ok (.iload_n 3, 1) := by decide +kernel
theorem dX6_goesOn_13 : decode cX6_goesOn 13 = .ok (.bipush 100, 2) := by decide +kernel
theorem dX6_goesOn_15 : decode cX6_goesOn 15 = .ok (.if_icmp .ne 7, 3) := by decide +kernel
theorem dX6_goesOn_18 : decode cX6_goesOn 18 = .ok (.iconst 1, 1) := by decide +kernel
theorem dX6_goesOn_19 : decode cX6_goesOn 19 = .ok (.goto 4, 3) := by decide +kernel
theorem dX6_goesOn_22 : decode cX6_goesOn 22 = .ok (.iconst 0, 1) := by decide +kernel
theorem dX6_goesOn_23 : decode cX6_goesOn 23 = .ok (.ireturn, 1) := by decide +kernel
theorem dX6_goesOn_24 : decode cX6_goesOn 24 = .ok (.iload_n 2, 1) := by decide +kernel
theorem dX6_goesOn_25 : decode cX6_goesOn 25 = .ok (.iconst 1, 1) := by decide +kernel
theorem dX6_goesOn_26 : decode cX6_goesOn 26 = .ok (.if_icmp .ne 21, 3) := by decide +kernel
theorem dX6_goesOn_29 : decode cX6_goesOn 29 = .ok (.iload_n 3, 1) := by decide +kernel
theorem dX6_goesOn_30 : decode cX6_goesOn 30 = .ok (.bipush 50, 2) := by decide +kernel
theorem dX6_goesOn_32 : decode cX6_goesOn 32 = .ok (.if_icmp .lt 13, 3) := by decide +kernel
theorem dX6_goesOn_35 : decode cX6_goesOn 35 = .ok (.iload_n 3, 1) := by decide +kernel
theorem dX6_goesOn_36 : decode cX6_goesOn 36 = .ok (.bipush 54, 2) := by decide +kernel
theorem dX6_goesOn_38 : decode cX6_goesOn 38 = .ok (.if_icmp .gt 7, 3) := by decide +kernel
theorem dX6_goesOn_41 : decode cX6_goesOn 41 = .ok (.iconst 1, 1) := by decide +kernel
theorem dX6_goesOn_42 : decode cX6_goesOn 42 = .ok (.goto 4, 3) := by decide +kernel
theorem dX6_goesOn_45 : decode cX6_goesOn 45 = .ok (.iconst 0, 1) := by decide +kernel
theorem dX6_goesOn_46 : decode cX6_goesOn 46 = .ok (.ireturn, 1) := by decide +kernel
theorem dX6_goesOn_47 : decode cX6_goesOn 47 = .ok (.aload_n 0, 1) := by decide +kernel
theorem dX6_goesOn_48 : decode cX6_goesOn 48 = .ok (.iload_n 1, 1) := by decide +kernel
theorem dX6_goesOn_49 : decode cX6_goesOn 49 = .ok (.iconst 1, 1) := by decide +kernel
theorem dX6_goesOn_50 : decode cX6_goesOn 50 = .ok (.iadd, 1) := by decide +kernel
theorem dX6_goesOn_51 : decode cX6_goesOn 51 = .ok (.invokevirtual 15, 3) := by decide +kernel
theorem dX6_goesOn_54 : decode cX6_goesOn 54 = .ok (.invokestatic 21, 3) := by decide +kernel
theorem dX6_goesOn_57 : decode cX6_goesOn 57 = .ok (.istore 4, 2) := by decide +kernel
theorem dX6_goesOn_59 : decode cX6_goesOn 59 = .ok (.iload_n 2, 1) := by decide +kernel
theorem dX6_goesOn_60 : decode cX6_goesOn 60 = .ok (.iconst 2, 1) := by decide +kernel
theorem dX6_goesOn_61 : decode cX6_goesOn 61 = .ok (.isub, 1) := by decide +kernel
theorem dX6_goesOn_62 : decode cX6_goesOn 62 = .ok (.iconst 5, 1) := by decide +kernel
theorem dX6_goesOn_63 : decode cX6_goesOn 63 = .ok (.idiv, 1) := by decide +kernel
theorem dX6_goesOn_64 : decode cX6_goesOn 64 = .ok (.istore 5, 2) := by decide +kernel
theorem dX6_goesOn_66 : decode cX6_goesOn 66 = .ok (.iload 5, 2) := by decide +kernel
theorem dX6_goesOn_68 : decode cX6_goesOn 68 = .ok (.iload 4, 2) := by decide +kernel
theorem dX6_goesOn_70 : decode cX6_goesOn 70 = .ok (.if_icmp .lt 5, 3) := by decide +kernel
theorem dX6_goesOn_73 : decode cX6_goesOn 73 = .ok (.iconst 0, 1) := by decide +kernel
theorem dX6_goesOn_74 : decode cX6_goesOn 74 = .ok (.ireturn, 1) := by decide +kernel
theorem dX6_goesOn_75 : decode cX6_goesOn 75 = .ok (.iload_n 2, 1) := by decide +kernel
theorem dX6_goesOn_76 : decode cX6_goesOn 76 = .ok (.iconst 2, 1) := by decide +kernel
theorem dX6_goesOn_77 : decode cX6_goesOn 77 = .ok (.isub, 1) := by decide +kernel
theorem dX6_goesOn_78 : decode cX6_goesOn 78 = .ok (.iconst 5, 1) := by decide +kernel
theorem dX6_goesOn_79 : decode cX6_goesOn 79 = .ok (.irem, 1) := by decide +kernel
theorem dX6_goesOn_80 : decode cX6_goesOn 80 = .ok (.tableswitch 73 0 2 #[28, 40, 55], 28) := by decide +kernel
theorem dX6_goesOn_108 : decode cX6_goesOn 108 = .ok (.iload_n 3, 1) := by decide +kernel
theorem dX6_goesOn_109 : decode cX6_goesOn 109 = .ok (.bipush 59, 2) := by decide +kernel
theorem dX6_goesOn_111 : decode cX6_goesOn 111 = .ok (.if_icmp .ne 7, 3) := by decide +kernel
theorem dX6_goesOn_114 : decode cX6_goesOn 114 = .ok (.iconst 1, 1) := by decide +kernel
theorem dX6_goesOn_115 : decode cX6_goesOn 115 = .ok (.goto 4, 3) := by decide +kernel
theorem dX6_goesOn_118 : decode cX6_goesOn 118 = .ok (.iconst 0, 1) := by decide +kernel
theorem dX6_goesOn_119 : decode cX6_goesOn 119 = .ok (.ireturn, 1) := by decide +kernel
theorem dX6_goesOn_120 : decode cX6_goesOn 120 = .ok (.iload_n 3, 1) := by decide +kernel
theorem dX6_goesOn_121 : decode cX6_goesOn 121 = .ok (.invokestatic 24, 3) := by decide +kernel
theorem dX6_goesOn_124 : decode cX6_goesOn 124 = .ok (.bipush (-9), 2) := by decide +kernel
theorem dX6_goesOn_126 : decode cX6_goesOn 126 = .ok (.if_icmp .eq 7, 3) := by decide +kernel
theorem dX6_goesOn_129 : decode cX6_goesOn 129 = .ok (.iconst 1, 1) := by decide +kernel
theorem dX6_goesOn_130 : decode cX6_goesOn 130 = .ok (.goto 4, 3) := by decide +kernel
theorem dX6_goesOn_133 : decode cX6_goesOn 133 = .ok (.iconst 0, 1) := by decide +kernel
theorem dX6_goesOn_134 : decode cX6_goesOn 134 = .ok (.ireturn, 1) := by decide +kernel
theorem dX6_goesOn_135 : decode cX6_goesOn 135 = .ok (.iload_n 3, 1) := by decide +kernel
theorem dX6_goesOn_136 : decode cX6_goesOn 136 = .ok (.bipush 49, 2) := by decide +kernel
theorem dX6_goesOn_138 : decode cX6_goesOn 138 = .ok (.if_icmp .lt 13, 3) := by decide +kernel
theorem dX6_goesOn_141 : decode cX6_goesOn 141 = .ok (.iload_n 3, 1) := by decide +kernel
theorem dX6_goesOn_142 : decode cX6_goesOn 142 = .ok (.bipush 57, 2) := by decide +kernel
theorem dX6_goesOn_144 : decode cX6_goesOn 144 = .ok (.if_icmp .gt 7, 3) := by decide +kernel
theorem dX6_goesOn_147 : decode cX6_goesOn 147 = .ok (.iconst 1, 1) := by decide +kernel
theorem dX6_goesOn_148 : decode cX6_goesOn 148 = .ok (.goto 4, 3) := by decide +kernel
theorem dX6_goesOn_151 : decode cX6_goesOn 151 = .ok (.iconst 0, 1) := by decide +kernel
theorem dX6_goesOn_152 : decode cX6_goesOn 152 = .ok (.ireturn, 1) := by decide +kernel
theorem dX6_goesOn_153 : decode cX6_goesOn 153 = .ok (.iload_n 3, 1) := by decide +kernel
theorem dX6_goesOn_154 : decode cX6_goesOn 154 = .ok (.bipush 48, 2) := by decide +kernel
theorem dX6_goesOn_156 : decode cX6_goesOn 156 = .ok (.if_icmp .lt 25, 3) := by decide +kernel
theorem dX6_goesOn_159 : decode cX6_goesOn 159 = .ok (.iload_n 3, 1) := by decide +kernel
theorem dX6_goesOn_160 : decode cX6_goesOn 160 = .ok (.invokestatic 21, 3) := by decide +kernel
theorem dX6_goesOn_163 : decode cX6_goesOn 163 = .ok (.iload 4, 2) := by decide +kernel
theorem dX6_goesOn_165 : decode cX6_goesOn 165 = .ok (.if_icmp .ge 16, 3) := by decide +kernel
theorem dX6_goesOn_168 : decode cX6_goesOn 168 = .ok (.iload_n 3, 1) := by decide +kernel
theorem dX6_goesOn_169 : decode cX6_goesOn 169 = .ok (.invokestatic 21, 3) := by decide +kernel
theorem dX6_goesOn_172 : decode cX6_goesOn 172 = .ok (.iload 5, 2) := by decide +kernel
theorem dX6_goesOn_174 : decode cX6_goesOn 174 = .ok (.if_icmp .eq 7, 3) := by decide +kernel
theorem dX6_goesOn_177 : decode cX6_goesOn 177 = .ok (.iconst 1, 1) := by decide +kernel
theorem dX6_goesOn_178 : decode cX6_goesOn 178 = .ok (.goto 4, 3) := by decide +kernel
theorem dX6_goesOn_181 : decode cX6_goesOn 181 = .ok (.iconst 0, 1) := by decide +kernel
theorem dX6_goesOn_182 : decode cX6_goesOn 182 = .ok (.ireturn, 1) := by decide +kernel
theorem dX6_digit_0 : decode cX6_digit 0 = .ok (.iload_n 0, 1) := by decide +kernel
theorem dX6_digit_1 : decode cX6_digit 1 = .ok (.bipush 48, 2) := by decide +kernel
theorem dX6_digit_3 : decode cX6_digit 3 = .ok (.isub, 1) := by decide +kernel
theorem dX6_digit_4 : decode cX6_digit 4 = .ok (.ireturn, 1) := by decide +kernel
theorem dX6_kindOf_0 : decode cX6_kindOf 0 = .ok (.iload_n 0, 1) := by decide +kernel
theorem dX6_kindOf_1 : decode cX6_kindOf 1 = .ok (.lookupswitch 41 #[(103, 35), (104, 37), (111, 39)], 35) := by decide +kernel
theorem dX6_kindOf_36 : decode cX6_kindOf 36 = .ok (.iconst 0, 1) := by decide +kernel
theorem dX6_kindOf_37 : decode cX6_kindOf 37 = .ok (.ireturn, 1) := by decide +kernel
theorem dX6_kindOf_38 : decode cX6_kindOf 38 = .ok (.iconst 1, 1) := by decide +kernel
theorem dX6_kindOf_39 : decode cX6_kindOf 39 = .ok (.ireturn, 1) := by decide +kernel
theorem dX6_kindOf_40 : decode cX6_kindOf 40 = .ok (.iconst 2, 1) := by decide +kernel
theorem dX6_kindOf_41 : decode cX6_kindOf 41 = .ok (.ireturn, 1) := by decide +kernel
theorem dX6_kindOf_42 : decode cX6_kindOf 42 = .ok (.bipush (-9), 2) := by decide +kernel
theorem dX6_kindOf_44 : decode cX6_kindOf 44 = .ok (.ireturn, 1) := by decide +kernel
theorem dX6_read_0 : decode cX6_read 0 = .ok (.aload_n 2, 1) := by decide +kernel
theorem dX6_read_1 : decode cX6_read 1 = .ok (.iconst 0, 1) := by decide +kernel
theorem dX6_read_2 : decode cX6_read 2 = .ok (.bipush 6, 2) := by decide +kernel
theorem dX6_read_4 : decode cX6_read 4 = .ok (.aload_n 0, 1) := by decide +kernel
theorem dX6_read_5 : decode cX6_read 5 = .ok (.iload_n 1, 1) := by decide +kernel
theorem dX6_read_6 : decode cX6_read 6 = .ok (.iconst 1, 1) := by decide +kernel
theorem dX6_read_7 : decode cX6_read 7 = .ok (.iadd, 1) := by decide +kernel
theorem dX6_read_8 : decode cX6_read 8 = .ok (.invokevirtual 15, 3) := by decide +kernel
theorem dX6_read_11 : decode cX6_read 11 = .ok (.invokestatic 21, 3) := by decide +kernel
theorem dX6_read_14 : decode cX6_read 14 = .ok (.invokestatic 27, 3) := by decide +kernel
theorem dX6_read_17 : decode cX6_read 17 = .ok (.invokestatic 33, 3) := by decide +kernel
theorem dX6_read_20 : decode cX6_read 20 = .ok (.putfield 36, 3) := by decide +kernel
theorem dX6_read_23 : decode cX6_read 23 = .ok (.aload_n 2, 1) := by decide +kernel
theorem dX6_read_24 : decode cX6_read 24 = .ok (.iconst 0, 1) := by decide +kernel
theorem dX6_read_25 : decode cX6_read 25 = .ok (.putfield 42, 3) := by decide +kernel
theorem dX6_read_28 : decode cX6_read 28 = .ok (.iconst 0, 1) := by decide +kernel
theorem dX6_read_29 : decode cX6_read 29 = .ok (.istore_n 3, 1) := by decide +kernel
theorem dX6_read_30 : decode cX6_read 30 = .ok (.iload_n 3, 1) := by decide +kernel
theorem dX6_read_31 : decode cX6_read 31 = .ok (.aload_n 2, 1) := by decide +kernel
theorem dX6_read_32 : decode cX6_read 32 = .ok (.getfield 36, 3) := by decide +kernel
theorem dX6_read_35 : decode cX6_read 35 = .ok (.if_icmp .ge 86, 3) := by decide +kernel
theorem dX6_read_38 : decode cX6_read 38 = .ok (.iload_n 1, 1) := by decide +kernel
theorem dX6_read_39 : decode cX6_read 39 = .ok (.iconst 2, 1) := by decide +kernel
theorem dX6_read_40 : decode cX6_read 40 = .ok (.iadd, 1) := by decide +kernel
theorem dX6_read_41 : decode cX6_read 41 = .ok (.iconst 5, 1) := by decide +kernel
theorem dX6_read_42 : decode cX6_read 42 = .ok (.iload_n 3, 1) := by decide +kernel
theorem dX6_read_43 : decode cX6_read 43 = .ok (.imul, 1) := by decide +kernel
theorem dX6_read_44 : decode cX6_read 44 = .ok (.iadd, 1) := by decide +kernel
theorem dX6_read_45 : decode cX6_read 45 = .ok (.istore 4, 2) := by decide +kernel
theorem dX6_read_47 : decode cX6_read 47 = .ok (.aload_n 2, 1) := by decide +kernel
theorem dX6_read_48 : decode cX6_read 48 = .ok (.getfield 45, 3) := by decide +kernel
theorem dX6_read_51 : decode cX6_read 51 = .ok (.iload_n 3, 1) := by decide +kernel
theorem dX6_read_52 : decode cX6_read 52 = .ok (.aload_n 0, 1) := by decide +kernel
theorem dX6_read_53 : decode cX6_read 53 = .ok (.iload 4, 2) := by decide +kernel
theorem dX6_read_55 : decode cX6_read 55 = .ok (.iconst 1, 1) := by decide +kernel
theorem dX6_read_56 : decode cX6_read 56 = .ok (.iadd, 1) := by decide +kernel
theorem dX6_read_57 : decode cX6_read 57 = .ok (.invokevirtual 15, 3) := by decide +kernel
theorem dX6_read_60 : decode cX6_read 60 = .ok (.invokestatic 24, 3) := by decide +kernel
theorem dX6_read_63 : decode cX6_read 63 = .ok (.iastore, 1) := by decide +kernel
theorem dX6_read_64 : decode cX6_read 64 = .ok (.aload_n 2, 1) := by decide +kernel
theorem dX6_read_65 : decode cX6_read 65 = .ok (.getfield 49, 3) := by decide +kernel
theorem dX6_read_68 : decode cX6_read 68 = .ok (.iload_n 3, 1) := by decide +kernel
theorem dX6_read_69 : decode cX6_read 69 = .ok (.aload_n 0, 1) := by decide +kernel
theorem dX6_read_70 : decode cX6_read 70 = .ok (.iload 4, 2) := by decide +kernel
theorem dX6_read_72 : decode cX6_read 72 = .ok (.iconst 2, 1) := by decide +kernel
theorem dX6_read_73 : decode cX6_read 73 = .ok (.iadd, 1) := by decide +kernel
theorem dX6_read_74 : decode cX6_read 74 = .ok (.invokevirtual 15, 3) := by decide +kernel
theorem dX6_read_77 : decode cX6_read 77 = .ok (.invokestatic 21, 3) := by decide +kernel
theorem dX6_read_80 : decode cX6_read 80 = .ok (.iastore, 1) := by decide +kernel
theorem dX6_read_81 : decode cX6_read 81 = .ok (.aload_n 2, 1) := by decide +kernel
theorem dX6_read_82 : decode cX6_read 82 = .ok (.getfield 52, 3) := by decide +kernel
theorem dX6_read_85 : decode cX6_read 85 = .ok (.iload_n 3, 1) := by decide +kernel
theorem dX6_read_86 : decode cX6_read 86 = .ok (.aload_n 0, 1) := by decide +kernel
theorem dX6_read_87 : decode cX6_read 87 = .ok (.iload 4, 2) := by decide +kernel
theorem dX6_read_89 : decode cX6_read 89 = .ok (.iconst 3, 1) := by decide +kernel
theorem dX6_read_90 : decode cX6_read 90 = .ok (.iadd, 1) := by decide +kernel
theorem dX6_read_91 : decode cX6_read 91 = .ok (.invokevirtual 15, 3) := by decide +kernel
theorem dX6_read_94 : decode cX6_read 94 = .ok (.invokestatic 21, 3) := by decide +kernel
theorem dX6_read_97 : decode cX6_read 97 = .ok (.iastore, 1) := by decide +kernel
theorem dX6_read_98 : decode cX6_read 98 = .ok (.aload_n 2, 1) := by decide +kernel
theorem dX6_read_99 : decode cX6_read 99 = .ok (.getfield 55, 3) := by decide +kernel
theorem dX6_read_102 : decode cX6_read 102 = .ok (.iload_n 3, 1) := by decide +kernel
theorem dX6_read_103 : decode cX6_read 103 = .ok (.aload_n 0, 1) := by decide +kernel
theorem dX6_read_104 : decode cX6_read 104 = .ok (.iload 4, 2) := by decide +kernel
theorem dX6_read_106 : decode cX6_read 106 = .ok (.iconst 4, 1) := by decide +kernel
theorem dX6_read_107 : decode cX6_read 107 = .ok (.iadd, 1) := by decide +kernel
theorem dX6_read_108 : decode cX6_read 108 = .ok (.invokevirtual 15, 3) := by decide +kernel
theorem dX6_read_111 : decode cX6_read 111 = .ok (.invokestatic 21, 3) := by decide +kernel
theorem dX6_read_114 : decode cX6_read 114 = .ok (.iastore, 1) := by decide +kernel
theorem dX6_read_115 : decode cX6_read 115 = .ok (.iinc 3 1, 3) := by decide +kernel
theorem dX6_read_118 : decode cX6_read 118 = .ok (.goto (-88), 3) := by decide +kernel
theorem dX6_read_121 : decode cX6_read 121 = .ok (.return_, 1) := by decide +kernel
theorem dX7_init_0 : decode cX7_init 0 = .ok (.aload_n 0, 1) := by decide +kernel
theorem dX7_init_1 : decode cX7_init 1 = .ok (.invokespecial 5, 3) := by decide +kernel
theorem dX7_init_4 : decode cX7_init 4 = .ok (.aload_n 0, 1) := by decide +kernel
theorem dX7_init_5 : decode cX7_init 5 = .ok (.new 11, 3) := by decide +kernel
theorem dX7_init_8 : decode cX7_init 8 = .ok (.dup, 1) := by decide +kernel
theorem dX7_init_9 : decode cX7_init 9 = .ok (.invokespecial 13, 3) := by decide +kernel
theorem dX7_init_12 : decode cX7_init 12 = .ok (.putfield 14, 3) := by decide +kernel
theorem dX7_init_15 : decode cX7_init 15 = .ok (.aload_n 0, 1) := by decide +kernel
theorem dX7_init_16 : decode cX7_init 16 = .ok (.new 18, 3) := by decide +kernel
theorem dX7_init_19 : decode cX7_init 19 = .ok (.dup, 1) := by decide +kernel
theorem dX7_init_20 : decode cX7_init 20 = .ok (.bipush 9, 2) := by decide +kernel
theorem dX7_init_22 : decode cX7_init 22 = .ok (.invokespecial 20, 3) := by decide +kernel
theorem dX7_init_25 : decode cX7_init 25 = .ok (.putfield 23, 3) := by decide +kernel
theorem dX7_init_28 : decode cX7_init 28 = .ok (.aload_n 0, 1) := by decide +kernel
theorem dX7_init_29 : decode cX7_init 29 = .ok (.new 27, 3) := by decide +kernel
theorem dX7_init_32 : decode cX7_init 32 = .ok (.dup, 1) := by decide +kernel
theorem dX7_init_33 : decode cX7_init 33 = .ok (.invokespecial 29, 3) := by decide +kernel
theorem dX7_init_36 : decode cX7_init 36 = .ok (.putfield 30, 3) := by decide +kernel
theorem dX7_init_39 : decode cX7_init 39 = .ok (.aload_n 0, 1) := by decide +kernel
theorem dX7_init_40 : decode cX7_init 40 = .ok (.new 34, 3) := by decide +kernel
theorem dX7_init_43 : decode cX7_init 43 = .ok (.dup, 1) := by decide +kernel
theorem dX7_init_44 : decode cX7_init 44 = .ok (.aload_n 0, 1) := by decide +kernel
theorem dX7_init_45 : decode cX7_init 45 = .ok (.getfield 14, 3) := by decide +kernel
theorem dX7_init_48 : decode cX7_init 48 = .ok (.aload_n 0, 1) := by decide +kernel
theorem dX7_init_49 : decode cX7_init 49 = .ok (.getfield 23, 3) := by decide +kernel
theorem dX7_init_52 : decode cX7_init 52 = .ok (.invokespecial 36, 3) := by decide +kernel
theorem dX7_init_55 : decode cX7_init 55 = .ok (.putfield 39, 3) := by decide +kernel
theorem dX7_init_58 : decode cX7_init 58 = .ok (.aload_n 0, 1) := by decide +kernel
theorem dX7_init_59 : decode cX7_init 59 = .ok (.iconst 4, 1) := by decide +kernel
theorem dX7_init_60 : decode cX7_init 60 = .ok (.anewarray 43, 3) := by decide +kernel
theorem dX7_init_63 : decode cX7_init 63 = .ok (.putfield 45, 3) := by decide +kernel
theorem dX7_init_66 : decode cX7_init 66 = .ok (.iconst 0, 1) := by decide +kernel
theorem dX7_init_67 : decode cX7_init 67 = .ok (.istore_n 1, 1) := by decide +kernel
theorem dX7_init_68 : decode cX7_init 68 = .ok (.iload_n 1, 1) := by decide +kernel
theorem dX7_init_69 : decode cX7_init 69 = .ok (.iconst 4, 1) := by decide +kernel
theorem dX7_init_70 : decode cX7_init 70 = .ok (.if_icmp .ge 22, 3) := by decide +kernel
theorem dX7_init_73 : decode cX7_init 73 = .ok (.aload_n 0, 1) := by decide +kernel
theorem dX7_init_74 : decode cX7_init 74 = .ok (.getfield 45, 3) := by decide +kernel
theorem dX7_init_77 : decode cX7_init 77 = .ok (.iload_n 1, 1) := by decide +kernel
theorem dX7_init_78 : decode cX7_init 78 = .ok (.new 43, 3) := by decide +kernel
theorem dX7_init_81 : decode cX7_init 81 = .ok (.dup, 1) := by decide +kernel
theorem dX7_init_82 : decode cX7_init 82 = .ok (.invokespecial 49, 3) := by decide +kernel
theorem dX7_init_85 : decode cX7_init 85 = .ok (.aastore, 1) := by decide +kernel
theorem dX7_init_86 : decode cX7_init 86 = .ok (.iinc 1 1, 3) := by decide +kernel
theorem dX7_init_89 : decode cX7_init 89 = .ok (.goto (-21), 3) := by decide +kernel
theorem dX7_init_92 : decode cX7_init 92 = .ok (.return_, 1) := by decide +kernel
theorem dX7_coast_0 : decode cX7_coast 0 = .ok (.aload_n 0, 1) := by decide +kernel
theorem dX7_coast_1 : decode cX7_coast 1 = .ok (.iconst 0, 1) := by decide +kernel
theorem dX7_coast_2 : decode cX7_coast 2 = .ok (.putfield 50, 3) := by decide +kernel
theorem dX7_coast_5 : decode cX7_coast 5 = .ok (.aload_n 0, 1) := by decide +kernel
theorem dX7_coast_6 : decode cX7_coast 6 = .ok (.iload_n 1, 1) := by decide +kernel
theorem dX7_coast_7 : decode cX7_coast 7 = .ok (.invokevirtual 54, 3) := by decide +kernel
theorem dX7_coast_10 : decode cX7_coast 10 = .ok (.astore 5, 2) := by decide +kernel
theorem dX7_coast_12 : decode cX7_coast 12 = .ok (.aload 5, 2) := by decide +kernel
theorem dX7_coast_14 : decode cX7_coast 14 = .ok (.ifnonnull 5, 3) := by decide +kernel
theorem dX7_coast_17 : decode cX7_coast 17 = .ok (.iconst (-1), 1) := by decide +kernel
theorem dX7_coast_18 : decode cX7_coast 18 = .ok (.ireturn, 1) := by decide +kernel
theorem dX7_coast_19 : decode cX7_coast 19 = .ok (.iload_n 2, 1) := by decide +kernel
theorem dX7_coast_20 : decode cX7_coast 20 = .ok (.invokestatic 58, 3) := by decide +kernel
theorem dX7_coast_23 : decode cX7_coast 23 = .ok (.ifCond .ne 6, 3) := by decide +kernel
theorem dX7_coast_26 : decode cX7_coast 26 = .ok (.bipush (-2), 2) := by decide +kernel
theorem dX7_coast_28 : decode cX7_coast 28 = .ok (.ireturn, 1) := by decide +kernel
theorem dX7_coast_29 : decode cX7_coast 29 = .ok (.aload 5, 2) := by decide +kernel
theorem dX7_coast_31 : decode cX7_coast 31 = .ok (.iload_n 2, 1) := by decide +kernel
theorem dX7_coast_32 : decode cX7_coast 32 = .ok (.iload_n 3, 1) := by decide +kernel
theorem dX7_coast_33 : decode cX7_coast 33 = .ok (.iload 4, 2) := by decide +kernel
theorem dX7_coast_35 : decode cX7_coast 35 = .ok (.invokevirtual 62, 3) := by decide +kernel
theorem dX7_coast_38 : decode cX7_coast 38 = .ok (.istore 6, 2) := by decide +kernel
theorem dX7_coast_40 : decode cX7_coast 40 = .ok (.iload 6, 2) := by decide +kernel
theorem dX7_coast_42 : decode cX7_coast 42 = .ok (.ifCond .eq 10, 3) := by decide +kernel
theorem dX7_coast_45 : decode cX7_coast 45 = .ok (.aload_n 0, 1) := by decide +kernel
theorem dX7_coast_46 : decode cX7_coast 46 = .ok (.iload 6, 2) := by decide +kernel
theorem dX7_coast_48 : decode cX7_coast 48 = .ok (.invokevirtual 66, 3) := by decide +kernel
theorem dX7_coast_51 : decode cX7_coast 51 = .ok (.ireturn, 1) := by decide +kernel
theorem dX7_coast_52 : decode cX7_coast 52 = .ok (.aload 5, 2) := by decide +kernel
theorem dX7_coast_54 : decode cX7_coast 54 = .ok (.iload_n 3, 1) := by decide +kernel
theorem dX7_coast_55 : decode cX7_coast 55 = .ok (.iload 4, 2) := by decide +kernel
theorem dX7_coast_57 : decode cX7_coast 57 = .ok (.invokestatic 70, 3) := by decide +kernel
theorem dX7_coast_60 : decode cX7_coast 60 = .ok (.istore 7, 2) := by decide +kernel
theorem dX7_coast_62 : decode cX7_coast 62 = .ok (.iload 7, 2) := by decide +kernel
theorem dX7_coast_64 : decode cX7_coast 64 = .ok (.bipush (-9), 2) := by decide +kernel
theorem dX7_coast_66 : decode cX7_coast 66 = .ok (.if_icmp .eq 9, 3) := by decide +kernel
theorem dX7_coast_69 : decode cX7_coast 69 = .ok (.bipush (-100), 2) := by decide +kernel
theorem dX7_coast_71 : decode cX7_coast 71 = .ok (.iload 7, 2) := by decide +kernel
theorem dX7_coast_73 : decode cX7_coast 73 = .ok (.isub, 1) := by decide +kernel
theorem dX7_coast_74 : decode cX7_coast 74 = .ok (.ireturn, 1) := by decide +kernel
theorem dX7_coast_75 : decode cX7_coast 75 = .ok (.aload 5, 2) := by decide +kernel
theorem dX7_coast_77 : decode cX7_coast 77 = .ok (.iload_n 3, 1) := by decide +kernel
theorem dX7_coast_78 : decode cX7_coast 78 = .ok (.aload_n 0, 1) := by decide +kernel
theorem dX7_coast_79 : decode cX7_coast 79 = .ok (.getfield 14, 3) := by decide +kernel
theorem dX7_coast_82 : decode cX7_coast 82 = .ok (.invokestatic 76, 3) := by decide +kernel
theorem dX7_coast_85 : decode cX7_coast 85 = .ok (.aload_n 0, 1) := by decide +kernel
theorem dX7_coast_86 : decode cX7_coast 86 = .ok (.getfield 23, 3) := by decide +kernel
theorem dX7_coast_89 : decode cX7_coast 89 = .ok (.iconst 0, 1) := by decide +kernel
theorem dX7_coast_90 : decode cX7_coast 90 = .ok (.putfield 80, 3) := by decide +kernel
theorem dX7_coast_93 : decode cX7_coast 93 = .ok (.aload_n 0, 1) := by decide +kernel
theorem dX7_coast_94 : decode cX7_coast 94 = .ok (.getfield 30, 3) := by decide +kernel
theorem dX7_coast_97 : decode cX7_coast 97 = .ok (.iconst 0, 1) := by decide +kernel
theorem dX7_coast_98 : decode cX7_coast 98 = .ok (.putfield 83, 3) := by decide +kernel
theorem dX7_coast_101 : decode cX7_coast 101 = .ok (.aload_n 0, 1) := by decide +kernel
theorem dX7_coast_102 : decode cX7_coast 102 = .ok (.getfield 14, 3) := by decide +kernel
theorem dX7_coast_105 : decode cX7_coast 105 = .ok (.getfield 84, 3) := by decide +kernel
theorem dX7_coast_108 : decode cX7_coast 108 = .ok (.ireturn, 1) := by decide +kernel
theorem dX7_ofPerson_0 : decode cX7_ofPerson 0 = .ok (.aload_n 0, 1) := by decide +kernel
theorem dX7_ofPerson_1 : decode cX7_ofPerson 1 = .ok (.getfield 14, 3) := by decide +kernel
theorem dX7_ofPerson_4 : decode cX7_ofPerson 4 = .ok (.iload_n 1, 1) := by decide +kernel
theorem dX7_ofPerson_5 : decode cX7_ofPerson 5 = .ok (.invokevirtual 85, 3) := by decide +kernel
theorem dX7_ofPerson_8 : decode cX7_ofPerson 8 = .ok (.ifCond .ne 5, 3) := by decide +kernel
theorem dX7_ofPerson_11 : decode cX7_ofPerson 11 = .ok (.iconst (-1), 1) := by decide +kernel
theorem dX7_ofPerson_12 : decode cX7_ofPerson 12 = .ok (.ireturn, 1) := by decide +kernel
theorem dX7_ofPerson_13 : decode cX7_ofPerson 13 = .ok (.iload_n 2, 1) := by decide +kernel
theorem dX7_ofPerson_14 : decode cX7_ofPerson 14 = .ok (.tableswitch 107 0 5 #[38, 48, 58, 68, 78, 87], 38) := by decide +kernel
theorem dX7_ofPerson_52 : decode cX7_ofPerson 52 = .ok (.aload_n 0, 1) := by decide +kernel
theorem dX7_ofPerson_53 : decode cX7_ofPerson 53 = .ok (.getfield 14, 3) := by decide +kernel
theorem dX7_ofPerson_56 : decode cX7_ofPerson 56 = .ok (.getfield 88, 3) := by decide +kernel
theorem dX7_ofPerson_59 : decode cX7_ofPerson 59 = .ok (.iload_n 1, 1) := by decide +kernel
theorem dX7_ofPerson_60 : decode cX7_ofPerson 60 = .ok (.iaload, 1) := by decide +kernel
theorem dX7_ofPerson_61 : decode cX7_ofPerson 61 = .ok (.ireturn, 1) := by decide +kernel
theorem dX7_ofPerson_62 : decode cX7_ofPerson 62 = .ok (.aload_n 0, 1) := by decide +kernel
theorem dX7_ofPerson_63 : decode cX7_ofPerson 63 = .ok (.getfield 14, 3) := by decide +kernel
theorem dX7_ofPerson_66 : decode cX7_ofPerson 66 = .ok (.getfield 92, 3) := by decide +kernel
theorem dX7_ofPerson_69 : decode cX7_ofPerson 69 = .ok (.iload_n 1, 1) := by decide +kernel
theorem dX7_ofPerson_70 : decode cX7_ofPerson 70 = .ok (.iaload, 1) := by decide +kernel
theorem dX7_ofPerson_71 : decode cX7_ofPerson 71 = .ok (.ireturn, 1) := by decide +kernel
theorem dX7_ofPerson_72 : decode cX7_ofPerson 72 = .ok (.aload_n 0, 1) := by decide +kernel
theorem dX7_ofPerson_73 : decode cX7_ofPerson 73 = .ok (.getfield 14, 3) := by decide +kernel
theorem dX7_ofPerson_76 : decode cX7_ofPerson 76 = .ok (.getfield 95, 3) := by decide +kernel
theorem dX7_ofPerson_79 : decode cX7_ofPerson 79 = .ok (.iload_n 1, 1) := by decide +kernel
theorem dX7_ofPerson_80 : decode cX7_ofPerson 80 = .ok (.iaload, 1) := by decide +kernel
theorem dX7_ofPerson_81 : decode cX7_ofPerson 81 = .ok (.ireturn, 1) := by decide +kernel
theorem dX7_ofPerson_82 : decode cX7_ofPerson 82 = .ok (.aload_n 0, 1) := by decide +kernel
theorem dX7_ofPerson_83 : decode cX7_ofPerson 83 = .ok (.getfield 14, 3) := by decide +kernel
theorem dX7_ofPerson_86 : decode cX7_ofPerson 86 = .ok (.getfield 98, 3) := by decide +kernel
theorem dX7_ofPerson_89 : decode cX7_ofPerson 89 = .ok (.iload_n 1, 1) := by decide +kernel
theorem dX7_ofPerson_90 : decode cX7_ofPerson 90 = .ok (.iaload, 1) := by decide +kernel
theorem dX7_ofPerson_91 : decode cX7_ofPerson 91 = .ok (.ireturn, 1) := by decide +kernel
theorem dX7_ofPerson_92 : decode cX7_ofPerson 92 = .ok (.aload_n 0, 1) := by decide +kernel
theorem dX7_ofPerson_93 : decode cX7_ofPerson 93 = .ok (.getfield 14, 3) := by decide +kernel
theorem dX7_ofPerson_96 : decode cX7_ofPerson 96 = .ok (.iload_n 1, 1) := by decide +kernel
theorem dX7_ofPerson_97 : decode cX7_ofPerson 97 = .ok (.invokevirtual 101, 3) := by decide +kernel
theorem dX7_ofPerson_100 : decode cX7_ofPerson 100 = .ok (.ireturn, 1) := by decide +kernel
theorem dX7_ofPerson_101 : decode cX7_ofPerson 101 = .ok (.aload_n 0, 1) := by decide +kernel
theorem dX7_ofPerson_102 : decode cX7_ofPerson 102 = .ok (.getfield 14, 3) := by decide +kernel
theorem dX7_ofPerson_105 : decode cX7_ofPerson 105 = .ok (.getfield 104, 3) := by decide +kernel
theorem dX7_ofPerson_108 : decode cX7_ofPerson 108 = .ok (.iload_n 1, 1) := by decide +kernel
theorem dX7_ofPerson_109 : decode cX7_ofPerson 109 = .ok (.invokestatic 107, 3) := by decide +kernel
theorem dX7_ofPerson_112 : decode cX7_ofPerson 112 = .ok (.ifCond .eq 7, 3) := by decide +kernel
theorem dX7_ofPerson_115 : decode cX7_ofPerson 115 = .ok (.iconst 1, 1) := by decide +kernel
theorem dX7_ofPerson_116 : decode cX7_ofPerson 116 = .ok (.goto 4, 3) := by decide +kernel
theorem dX7_ofPerson_119 : decode cX7_ofPerson 119 = .ok (.iconst 0, 1) := by decide +kernel
theorem dX7_ofPerson_120 : decode cX7_ofPerson 120 = .ok (.ireturn, 1) := by decide +kernel
theorem dX7_ofPerson_121 : decode cX7_ofPerson 121 = .ok (.bipush (-2), 2) := by decide +kernel
theorem dX7_ofPerson_123 : decode cX7_ofPerson 123 = .ok (.ireturn, 1) := by decide +kernel
theorem dX7_insult_0 : decode cX7_insult 0 = .ok (.aload_n 0, 1) := by decide +kernel
theorem dX7_insult_1 : decode cX7_insult 1 = .ok (.getfield 14, 3) := by decide +kernel
theorem dX7_insult_4 : decode cX7_insult 4 = .ok (.iload_n 1, 1) := by decide +kernel
theorem dX7_insult_5 : decode cX7_insult 5 = .ok (.iload_n 2, 1) := by decide +kernel
theorem dX7_insult_6 : decode cX7_insult 6 = .ok (.invokevirtual 111, 3) := by decide +kernel
theorem dX7_insult_9 : decode cX7_insult 9 = .ok (.ifCond .ne 5, 3) := by decide +kernel
theorem dX7_insult_12 : decode cX7_insult 12 = .ok (.iconst (-1), 1) := by decide +kernel
theorem dX7_insult_13 : decode cX7_insult 13 = .ok (.ireturn, 1) := by decide +kernel
theorem dX7_insult_14 : decode cX7_insult 14 = .ok (.iload_n 3, 1) := by decide +kernel
theorem dX7_insult_15 : decode cX7_insult 15 = .ok (.invokestatic 114, 3) := by decide +kernel
theorem dX7_insult_18 : decode cX7_insult 18 = .ok (.ifCond .eq 16, 3) := by decide +kernel
theorem dX7_insult_21 : decode cX7_insult 21 = .ok (.iload 4, 2) := by decide +kernel
theorem dX7_insult_23 : decode cX7_insult 23 = .ok (.iconst 1, 1) := by decide +kernel
theorem dX7_insult_24 : decode cX7_insult 24 = .ok (.if_icmp .lt 10, 3) := by decide +kernel
theorem dX7_insult_27 : decode cX7_insult 27 = .ok (.iload 4, 2) := by decide +kernel
theorem dX7_insult_29 : decode cX7_insult 29 = .ok (.bipush 9, 2) := by decide +kernel
theorem dX7_insult_31 : decode cX7_insult 31 = .ok (.if_icmp .le 6, 3) := by decide +kernel
theorem dX7_insult_34 : decode cX7_insult 34 = .ok (.bipush (-2), 2) := by decide +kernel
theorem dX7_insult_36 : decode cX7_insult 36 = .ok (.ireturn, 1) := by decide +kernel
theorem dX7_insult_37 : decode cX7_insult 37 = .ok (.aload_n 0, 1) := by decide +kernel
theorem dX7_insult_38 : decode cX7_insult 38 = .ok (.getfield 23, 3) := by decide +kernel
theorem dX7_insult_41 : decode cX7_insult 41 = .ok (.getfield 80, 3) := by decide +kernel
theorem dX7_insult_44 : decode cX7_insult 44 = .ok (.bipush 8, 2) := by decide +kernel
theorem dX7_insult_46 : decode cX7_insult 46 = .ok (.if_icmp .lt 6, 3) := by decide +kernel
theorem dX7_insult_49 : decode cX7_insult 49 = .ok (.bipush (-4), 2) := by decide +kernel
theorem dX7_insult_51 : decode cX7_insult 51 = .ok (.ireturn, 1) := by decide +kernel
theorem dX7_insult_52 : decode cX7_insult 52 = .ok (.aload_n 0, 1) := by decide +kernel
theorem dX7_insult_53 : decode cX7_insult 53 = .ok (.getfield 23, 3) := by decide +kernel
theorem dX7_insult_56 : decode cX7_insult 56 = .ok (.iload_n 1, 1) := by decide +kernel
theorem dX7_insult_57 : decode cX7_insult 57 = .ok (.iload_n 2, 1) := by decide +kernel
theorem dX7_insult_58 : decode cX7_insult 58 = .ok (.iload_n 3, 1) := by decide +kernel
theorem dX7_insult_59 : decode cX7_insult 59 = .ok (.iload 4, 2) := by decide +kernel
theorem dX7_insult_61 : decode cX7_insult 61 = .ok (.invokevirtual 117, 3) := by decide +kernel
theorem dX7_insult_64 : decode cX7_insult 64 = .ok (.aload_n 0, 1) := by decide +kernel
theorem dX7_insult_65 : decode cX7_insult 65 = .ok (.getfield 23, 3) := by decide +kernel
theorem dX7_insult_68 : decode cX7_insult 68 = .ok (.getfield 80, 3) := by decide +kernel
theorem dX7_insult_71 : decode cX7_insult 71 = .ok (.iconst 1, 1) := by decide +kernel
theorem dX7_insult_72 : decode cX7_insult 72 = .ok (.isub, 1) := by decide +kernel
theorem dX7_insult_73 : decode cX7_insult 73 = .ok (.ireturn, 1) := by decide +kernel
theorem dX7_sorry_0 : decode cX7_sorry 0 = .ok (.iload_n 1, 1) := by decide +kernel
theorem dX7_sorry_1 : decode cX7_sorry 1 = .ok (.ifCond .lt 14, 3) := by decide +kernel
theorem dX7_sorry_4 : decode cX7_sorry 4 = .ok (.iload_n 1, 1) := by decide +kernel
theorem dX7_sorry_5 : decode cX7_sorry 5 = .ok (.aload_n 0, 1) := by decide +kernel
theorem dX7_sorry_6 : decode cX7_sorry 6 = .ok (.getfield 23, 3) := by decide +kernel
theorem dX7_sorry_9 : decode cX7_sorry 9 = .ok (.getfield 80, 3) := by decide +kernel
theorem dX7_sorry_12 : decode cX7_sorry 12 = .ok (.if_icmp .le 6, 3) := by decide +kernel
theorem dX7_sorry_15 : decode cX7_sorry 15 = .ok (.bipush (-2), 2) := by decide +kernel
theorem dX7_sorry_17 : decode cX7_sorry 17 = .ok (.ireturn, 1) := by decide +kernel
theorem dX7_sorry_18 : decode cX7_sorry 18 = .ok (.aload_n 0, 1) := by decide +kernel
theorem dX7_sorry_19 : decode cX7_sorry 19 = .ok (.getfield 23, 3) := by decide +kernel
theorem dX7_sorry_22 : decode cX7_sorry 22 = .ok (.dup, 1) := by decide +kernel
theorem dX7_sorry_23 : decode cX7_sorry 23 = .ok (.getfield 80, 3) := by decide +kernel
theorem dX7_sorry_26 : decode cX7_sorry 26 = .ok (.iload_n 1, 1) := by decide +kernel
theorem dX7_sorry_27 : decode cX7_sorry 27 = .ok (.isub, 1) := by decide +kernel
theorem dX7_sorry_28 : decode cX7_sorry 28 = .ok (.putfield 80, 3) := by decide +kernel
theorem dX7_sorry_31 : decode cX7_sorry 31 = .ok (.aload_n 0, 1) := by decide +kernel
theorem dX7_sorry_32 : decode cX7_sorry 32 = .ok (.getfield 23, 3) := by decide +kernel
theorem dX7_sorry_35 : decode cX7_sorry 35 = .ok (.getfield 80, 3) := by decide +kernel
theorem dX7_sorry_38 : decode cX7_sorry 38 = .ok (.ireturn, 1) := by decide +kernel
theorem dX7_arrest_0 : decode cX7_arrest 0 = .ok (.aload_n 0, 1) := by decide +kernel
theorem dX7_arrest_1 : decode cX7_arrest 1 = .ok (.getfield 14, 3) := by decide +kernel
theorem dX7_arrest_4 : decode cX7_arrest 4 = .ok (.iload_n 1, 1) := by decide +kernel
theorem dX7_arrest_5 : decode cX7_arrest 5 = .ok (.invokevirtual 85, 3) := by decide +kernel
theorem dX7_arrest_8 : decode cX7_arrest 8 = .ok (.ifCond .ne 5, 3) := by decide +kernel
theorem dX7_arrest_11 : decode cX7_arrest 11 = .ok (.iconst (-1), 1) := by decide +kernel
theorem dX7_arrest_12 : decode cX7_arrest 12 = .ok (.ireturn, 1) := by decide +kernel
theorem dX7_arrest_13 : decode cX7_arrest 13 = .ok (.aload_n 0, 1) := by decide +kernel
theorem dX7_arrest_14 : decode cX7_arrest 14 = .ok (.getfield 14, 3) := by decide +kernel
theorem dX7_arrest_17 : decode cX7_arrest 17 = .ok (.getfield 104, 3) := by decide +kernel
theorem dX7_arrest_20 : decode cX7_arrest 20 = .ok (.iload_n 1, 1) := by decide +kernel
theorem dX7_arrest_21 : decode cX7_arrest 21 = .ok (.invokestatic 107, 3) := by decide +kernel
theorem dX7_arrest_24 : decode cX7_arrest 24 = .ok (.iload_n 2, 1) := by decide +kernel
theorem dX7_arrest_25 : decode cX7_arrest 25 = .ok (.if_icmp .ne 5, 3) := by decide +kernel
theorem dX7_arrest_28 : decode cX7_arrest 28 = .ok (.iconst 0, 1) := by decide +kernel
theorem dX7_arrest_29 : decode cX7_arrest 29 = .ok (.ireturn, 1) := by decide +kernel
theorem dX7_arrest_30 : decode cX7_arrest 30 = .ok (.aload_n 0, 1) := by decide +kernel
theorem dX7_arrest_31 : decode cX7_arrest 31 = .ok (.getfield 14, 3) := by decide +kernel
theorem dX7_arrest_34 : decode cX7_arrest 34 = .ok (.dup, 1) := by decide +kernel
theorem dX7_arrest_35 : decode cX7_arrest 35 = .ok (.getfield 104, 3) := by decide +kernel
theorem dX7_arrest_38 : decode cX7_arrest 38 = .ok (.iload_n 1, 1) := by decide +kernel
theorem dX7_arrest_39 : decode cX7_arrest 39 = .ok (.invokestatic 121, 3) := by decide +kernel
theorem dX7_arrest_42 : decode cX7_arrest 42 = .ok (.ixor, 1) := by decide +kernel
theorem dX7_arrest_43 : decode cX7_arrest 43 = .ok (.putfield 104, 3) := by decide +kernel
theorem dX7_arrest_46 : decode cX7_arrest 46 = .ok (.iconst 1, 1) := by decide +kernel
theorem dX7_arrest_47 : decode cX7_arrest 47 = .ok (.ireturn, 1) := by decide +kernel
theorem dX7_meetings_0 : decode cX7_meetings 0 = .ok (.iload_n 1, 1) := by decide +kernel
theorem dX7_meetings_1 : decode cX7_meetings 1 = .ok (.invokestatic 124, 3) := by decide +kernel
theorem dX7_meetings_4 : decode cX7_meetings 4 = .ok (.ifCond .ne 6, 3) := by decide +kernel
theorem dX7_meetings_7 : decode cX7_meetings 7 = .ok (.bipush (-2), 2) := by decide +kernel
theorem dX7_meetings_9 : decode cX7_meetings 9 = .ok (.ireturn, 1) := by decide +kernel
theorem dX7_meetings_10 : decode cX7_meetings 10 = .ok (.aload_n 0, 1) := by decide +kernel
theorem dX7_meetings_11 : decode cX7_meetings 11 = .ok (.invokevirtual 127, 3) := by decide +kernel
theorem dX7_meetings_14 : decode cX7_meetings 14 = .ok (.ifCond .eq 6, 3) := by decide +kernel
theorem dX7_meetings_17 : decode cX7_meetings 17 = .ok (.bipush (-3), 2) := by decide +kernel
theorem dX7_meetings_19 : decode cX7_meetings 19 = .ok (.ireturn, 1) := by decide +kernel
theorem dX7_meetings_20 : decode cX7_meetings 20 = .ok (.aload_n 0, 1) := by decide +kernel
theorem dX7_meetings_21 : decode cX7_meetings 21 = .ok (.getfield 39, 3) := by decide +kernel
theorem dX7_meetings_24 : decode cX7_meetings 24 = .ok (.iconst (-1), 1) := by decide +kernel
theorem dX7_meetings_25 : decode cX7_meetings 25 = .ok (.aload_n 0, 1) := by decide +kernel
theorem dX7_meetings_26 : decode cX7_meetings 26 = .ok (.getfield 14, 3) := by decide +kernel
theorem dX7_meetings_29 : decode cX7_meetings 29 = .ok (.getfield 104, 3) := by decide +kernel
theorem dX7_meetings_32 : decode cX7_meetings 32 = .ok (.iload_n 1, 1) := by decide +kernel
theorem dX7_meetings_33 : decode cX7_meetings 33 = .ok (.invokevirtual 131, 3) := by decide +kernel
theorem dX7_meetings_36 : decode cX7_meetings 36 = .ok (.aload_n 0, 1) := by decide +kernel
theorem dX7_meetings_37 : decode cX7_meetings 37 = .ok (.getfield 39, 3) := by decide +kernel
theorem dX7_meetings_40 : decode cX7_meetings 40 = .ok (.getfield 135, 3) := by decide +kernel
theorem dX7_meetings_43 : decode cX7_meetings 43 = .ok (.getfield 139, 3) := by decide +kernel
theorem dX7_meetings_46 : decode cX7_meetings 46 = .ok (.ireturn, 1) := by decide +kernel
theorem dX7_met_0 : decode cX7_met 0 = .ok (.aload_n 0, 1) := by decide +kernel
theorem dX7_met_1 : decode cX7_met 1 = .ok (.getfield 39, 3) := by decide +kernel
theorem dX7_met_4 : decode cX7_met 4 = .ok (.iconst (-1), 1) := by decide +kernel
theorem dX7_met_5 : decode cX7_met 5 = .ok (.aload_n 0, 1) := by decide +kernel
theorem dX7_met_6 : decode cX7_met 6 = .ok (.getfield 14, 3) := by decide +kernel
theorem dX7_met_9 : decode cX7_met 9 = .ok (.getfield 104, 3) := by decide +kernel
theorem dX7_met_12 : decode cX7_met 12 = .ok (.bipush 59, 2) := by decide +kernel
theorem dX7_met_14 : decode cX7_met 14 = .ok (.invokevirtual 131, 3) := by decide +kernel
theorem dX7_met_17 : decode cX7_met 17 = .ok (.iload_n 1, 1) := by decide +kernel
theorem dX7_met_18 : decode cX7_met 18 = .ok (.ifCond .lt 17, 3) := by decide +kernel
theorem dX7_met_21 : decode cX7_met 21 = .ok (.iload_n 1, 1) := by decide +kernel
theorem dX7_met_22 : decode cX7_met 22 = .ok (.aload_n 0, 1) := by decide +kernel
theorem dX7_met_23 : decode cX7_met 23 = .ok (.getfield 39, 3) := by decide +kernel
theorem dX7_met_26 : decode cX7_met 26 = .ok (.getfield 135, 3) := by decide +kernel
theorem dX7_met_29 : decode cX7_met 29 = .ok (.getfield 139, 3) := by decide +kernel
theorem dX7_met_32 : decode cX7_met 32 = .ok (.if_icmp .lt 5, 3) := by decide +kernel
theorem dX7_met_35 : decode cX7_met 35 = .ok (.iconst (-1), 1) := by decide +kernel
theorem dX7_met_36 : decode cX7_met 36 = .ok (.ireturn, 1) := by decide +kernel
theorem dX7_met_37 : decode cX7_met 37 = .ok (.iload_n 2, 1) := by decide +kernel
theorem dX7_met_38 : decode cX7_met 38 = .ok (.ifCond .lt 9, 3) := by decide +kernel
theorem dX7_met_41 : decode cX7_met 41 = .ok (.iload_n 2, 1) := by decide +kernel
theorem dX7_met_42 : decode cX7_met 42 = .ok (.bipush 6, 2) := by decide +kernel
theorem dX7_met_44 : decode cX7_met 44 = .ok (.if_icmp .lt 6, 3) := by decide +kernel
theorem dX7_met_47 : decode cX7_met 47 = .ok (.bipush (-2), 2) := by decide +kernel
theorem dX7_met_49 : decode cX7_met 49 = .ok (.ireturn, 1) := by decide +kernel
theorem dX7_met_50 : decode cX7_met 50 = .ok (.aload_n 0, 1) := by decide +kernel
theorem dX7_met_51 : decode cX7_met 51 = .ok (.getfield 39, 3) := by decide +kernel
theorem dX7_met_54 : decode cX7_met 54 = .ok (.getfield 135, 3) := by decide +kernel
theorem dX7_met_57 : decode cX7_met 57 = .ok (.getfield 142, 3) := by decide +kernel
theorem dX7_met_60 : decode cX7_met 60 = .ok (.iload_n 2, 1) := by decide +kernel
theorem dX7_met_61 : decode cX7_met 61 = .ok (.aaload, 1) := by decide +kernel
theorem dX7_met_62 : decode cX7_met 62 = .ok (.iload_n 1, 1) := by decide +kernel
theorem dX7_met_63 : decode cX7_met 63 = .ok (.iaload, 1) := by decide +kernel
theorem dX7_met_64 : decode cX7_met 64 = .ok (.ireturn, 1) := by decide +kernel
theorem dX7_free_0 : decode cX7_free 0 = .ok (.aload_n 0, 1) := by decide +kernel
theorem dX7_free_1 : decode cX7_free 1 = .ok (.getfield 14, 3) := by decide +kernel
theorem dX7_free_4 : decode cX7_free 4 = .ok (.iload_n 1, 1) := by decide +kernel
theorem dX7_free_5 : decode cX7_free 5 = .ok (.invokevirtual 85, 3) := by decide +kernel
theorem dX7_free_8 : decode cX7_free 8 = .ok (.ifCond .ne 5, 3) := by decide +kernel
theorem dX7_free_11 : decode cX7_free 11 = .ok (.iconst (-1), 1) := by decide +kernel
theorem dX7_free_12 : decode cX7_free 12 = .ok (.ireturn, 1) := by decide +kernel
theorem dX7_free_13 : decode cX7_free 13 = .ok (.iload_n 2, 1) := by decide +kernel
theorem dX7_free_14 : decode cX7_free 14 = .ok (.invokestatic 124, 3) := by decide +kernel
theorem dX7_free_17 : decode cX7_free 17 = .ok (.ifCond .ne 6, 3) := by decide +kernel
theorem dX7_free_20 : decode cX7_free 20 = .ok (.bipush (-2), 2) := by decide +kernel
theorem dX7_free_22 : decode cX7_free 22 = .ok (.ireturn, 1) := by decide +kernel
theorem dX7_free_23 : decode cX7_free 23 = .ok (.aload_n 0, 1) := by decide +kernel
theorem dX7_free_24 : decode cX7_free 24 = .ok (.getfield 39, 3) := by decide +kernel
theorem dX7_free_27 : decode cX7_free 27 = .ok (.iconst (-1), 1) := by decide +kernel
theorem dX7_free_28 : decode cX7_free 28 = .ok (.aload_n 0, 1) := by decide +kernel
theorem dX7_free_29 : decode cX7_free 29 = .ok (.getfield 14, 3) := by decide +kernel
theorem dX7_free_32 : decode cX7_free 32 = .ok (.getfield 104, 3) := by decide +kernel
theorem dX7_free_35 : decode cX7_free 35 = .ok (.iload_n 2, 1) := by decide +kernel
theorem dX7_free_36 : decode cX7_free 36 = .ok (.iconst 1, 1) := by decide +kernel
theorem dX7_free_37 : decode cX7_free 37 = .ok (.isub, 1) := by decide +kernel
theorem dX7_free_38 : decode cX7_free 38 = .ok (.invokevirtual 131, 3) := by decide +kernel
theorem dX7_free_41 : decode cX7_free 41 = .ok (.aload_n 0, 1) := by decide +kernel
theorem dX7_free_42 : decode cX7_free 42 = .ok (.getfield 39, 3) := by decide +kernel
theorem dX7_free_45 : decode cX7_free 45 = .ok (.iload_n 2, 1) := by decide +kernel
theorem dX7_free_46 : decode cX7_free 46 = .ok (.invokevirtual 146, 3) := by decide +kernel
theorem dX7_free_49 : decode cX7_free 49 = .ok (.iload_n 1, 1) := by decide +kernel
theorem dX7_free_50 : decode cX7_free 50 = .ok (.invokestatic 107, 3) := by decide +kernel
theorem dX7_free_53 : decode cX7_free 53 = .ok (.ifCond .eq 7, 3) := by decide +kernel
theorem dX7_free_56 : decode cX7_free 56 = .ok (.iconst 1, 1) := by decide +kernel
theorem dX7_free_57 : decode cX7_free 57 = .ok (.goto 4, 3) := by decide +kernel
theorem dX7_free_60 : decode cX7_free 60 = .ok (.iconst 0, 1) := by decide +kernel
theorem dX7_free_61 : decode cX7_free 61 = .ok (.ireturn, 1) := by decide +kernel
theorem dX7_second_0 : decode cX7_second 0 = .ok (.aload_n 0, 1) := by decide +kernel
theorem dX7_second_1 : decode cX7_second 1 = .ok (.getfield 14, 3) := by decide +kernel
theorem dX7_second_4 : decode cX7_second 4 = .ok (.iload_n 1, 1) := by decide +kernel
theorem dX7_second_5 : decode cX7_second 5 = .ok (.iload_n 2, 1) := by decide +kernel
theorem dX7_second_6 : decode cX7_second 6 = .ok (.invokevirtual 111, 3) := by decide +kernel
theorem dX7_second_9 : decode cX7_second 9 = .ok (.ifCond .ne 5, 3) := by decide +kernel
theorem dX7_second_12 : decode cX7_second 12 = .ok (.iconst (-1), 1) := by decide +kernel
theorem dX7_second_13 : decode cX7_second 13 = .ok (.ireturn, 1) := by decide +kernel
theorem dX7_second_14 : decode cX7_second 14 = .ok (.iload_n 3, 1) := by decide +kernel
theorem dX7_second_15 : decode cX7_second 15 = .ok (.invokestatic 124, 3) := by decide +kernel
theorem dX7_second_18 : decode cX7_second 18 = .ok (.ifCond .ne 6, 3) := by decide +kernel
theorem dX7_second_21 : decode cX7_second 21 = .ok (.bipush (-2), 2) := by decide +kernel
theorem dX7_second_23 : decode cX7_second 23 = .ok (.ireturn, 1) := by decide +kernel
theorem dX7_second_24 : decode cX7_second 24 = .ok (.aload_n 0, 1) := by decide +kernel
theorem dX7_second_25 : decode cX7_second 25 = .ok (.getfield 39, 3) := by decide +kernel
theorem dX7_second_28 : decode cX7_second 28 = .ok (.iconst (-1), 1) := by decide +kernel
theorem dX7_second_29 : decode cX7_second 29 = .ok (.aload_n 0, 1) := by decide +kernel
theorem dX7_second_30 : decode cX7_second 30 = .ok (.getfield 14, 3) := by decide +kernel
theorem dX7_second_33 : decode cX7_second 33 = .ok (.getfield 104, 3) := by decide +kernel
theorem dX7_second_36 : decode cX7_second 36 = .ok (.iload_n 3, 1) := by decide +kernel
theorem dX7_second_37 : decode cX7_second 37 = .ok (.iconst 1, 1) := by decide +kernel
theorem dX7_second_38 : decode cX7_second 38 = .ok (.isub, 1) := by decide +kernel
theorem dX7_second_39 : decode cX7_second 39 = .ok (.invokevirtual 131, 3) := by decide +kernel
theorem dX7_second_42 : decode cX7_second 42 = .ok (.aload_n 0, 1) := by decide +kernel
theorem dX7_second_43 : decode cX7_second 43 = .ok (.getfield 14, 3) := by decide +kernel
theorem dX7_second_46 : decode cX7_second 46 = .ok (.iload_n 1, 1) := by decide +kernel
theorem dX7_second_47 : decode cX7_second 47 = .ok (.aload_n 0, 1) := by decide +kernel
theorem dX7_second_48 : decode cX7_second 48 = .ok (.getfield 39, 3) := by decide +kernel
theorem dX7_second_51 : decode cX7_second 51 = .ok (.iload_n 3, 1) := by decide +kernel
theorem dX7_second_52 : decode cX7_second 52 = .ok (.invokevirtual 146, 3) := by decide +kernel
theorem dX7_second_55 : decode cX7_second 55 = .ok (.iload_n 1, 1) := by decide +kernel
theorem dX7_second_56 : decode cX7_second 56 = .ok (.invokestatic 121, 3) := by decide +kernel
theorem dX7_second_59 : decode cX7_second 59 = .ok (.iload_n 2, 1) := by decide +kernel
theorem dX7_second_60 : decode cX7_second 60 = .ok (.invokestatic 121, 3) := by decide +kernel
theorem dX7_second_63 : decode cX7_second 63 = .ok (.ior, 1) := by decide +kernel
theorem dX7_second_64 : decode cX7_second 64 = .ok (.iconst (-1), 1) := by decide +kernel
theorem dX7_second_65 : decode cX7_second 65 = .ok (.ixor, 1) := by decide +kernel
theorem dX7_second_66 : decode cX7_second 66 = .ok (.iand, 1) := by decide +kernel
theorem dX7_second_67 : decode cX7_second 67 = .ok (.invokevirtual 149, 3) := by decide +kernel
theorem dX7_second_70 : decode cX7_second 70 = .ok (.ireturn, 1) := by decide +kernel
theorem dX7_worth_0 : decode cX7_worth 0 = .ok (.iload_n 1, 1) := by decide +kernel
theorem dX7_worth_1 : decode cX7_worth 1 = .ok (.ifCond .lt 14, 3) := by decide +kernel
theorem dX7_worth_4 : decode cX7_worth 4 = .ok (.iload_n 1, 1) := by decide +kernel
theorem dX7_worth_5 : decode cX7_worth 5 = .ok (.aload_n 0, 1) := by decide +kernel
theorem dX7_worth_6 : decode cX7_worth 6 = .ok (.getfield 23, 3) := by decide +kernel
theorem dX7_worth_9 : decode cX7_worth 9 = .ok (.getfield 80, 3) := by decide +kernel
theorem dX7_worth_12 : decode cX7_worth 12 = .ok (.if_icmp .lt 5, 3) := by decide +kernel
theorem dX7_worth_15 : decode cX7_worth 15 = .ok (.iconst (-1), 1) := by decide +kernel
theorem dX7_worth_16 : decode cX7_worth 16 = .ok (.ireturn, 1) := by decide +kernel
theorem dX7_worth_17 : decode cX7_worth 17 = .ok (.aload_n 0, 1) := by decide +kernel
theorem dX7_worth_18 : decode cX7_worth 18 = .ok (.getfield 39, 3) := by decide +kernel
theorem dX7_worth_21 : decode cX7_worth 21 = .ok (.iconst (-1), 1) := by decide +kernel
theorem dX7_worth_22 : decode cX7_worth 22 = .ok (.aload_n 0, 1) := by decide +kernel
theorem dX7_worth_23 : decode cX7_worth 23 = .ok (.getfield 14, 3) := by decide +kernel
theorem dX7_worth_26 : decode cX7_worth 26 = .ok (.getfield 104, 3) := by decide +kernel
theorem dX7_worth_29 : decode cX7_worth 29 = .ok (.bipush 59, 2) := by decide +kernel
theorem dX7_worth_31 : decode cX7_worth 31 = .ok (.invokevirtual 131, 3) := by decide +kernel
theorem dX7_worth_34 : decode cX7_worth 34 = .ok (.aload_n 0, 1) := by decide +kernel
theorem dX7_worth_35 : decode cX7_worth 35 = .ok (.getfield 39, 3) := by decide +kernel
theorem dX7_worth_38 : decode cX7_worth 38 = .ok (.getfield 135, 3) := by decide +kernel
theorem dX7_worth_41 : decode cX7_worth 41 = .ok (.getfield 139, 3) := by decide +kernel
theorem dX7_worth_44 : decode cX7_worth 44 = .ok (.istore_n 2, 1) := by decide +kernel
theorem dX7_worth_45 : decode cX7_worth 45 = .ok (.aload_n 0, 1) := by decide +kernel
theorem dX7_worth_46 : decode cX7_worth 46 = .ok (.getfield 39, 3) := by decide +kernel
theorem dX7_worth_49 : decode cX7_worth 49 = .ok (.iload_n 1, 1) := by decide +kernel
theorem dX7_worth_50 : decode cX7_worth 50 = .ok (.invokestatic 121, 3) := by decide +kernel
theorem dX7_worth_53 : decode cX7_worth 53 = .ok (.iconst (-1), 1) := by decide +kernel
theorem dX7_worth_54 : decode cX7_worth 54 = .ok (.ixor, 1) := by decide +kernel
theorem dX7_worth_55 : decode cX7_worth 55 = .ok (.aload_n 0, 1) := by decide +kernel
theorem dX7_worth_56 : decode cX7_worth 56 = .ok (.getfield 14, 3) := by decide +kernel
theorem dX7_worth_59 : decode cX7_worth 59 = .ok (.getfield 104, 3) := by decide +kernel
theorem dX7_worth_62 : decode cX7_worth 62 = .ok (.bipush 59, 2) := by decide +kernel
theorem dX7_worth_64 : decode cX7_worth 64 = .ok (.invokevirtual 131, 3) := by decide +kernel
theorem dX7_worth_67 : decode cX7_worth 67 = .ok (.iload_n 2, 1) := by decide +kernel
theorem dX7_worth_68 : decode cX7_worth 68 = .ok (.aload_n 0, 1) := by decide +kernel
theorem dX7_worth_69 : decode cX7_worth 69 = .ok (.getfield 39, 3) := by decide +kernel
theorem dX7_worth_72 : decode cX7_worth 72 = .ok (.getfield 135, 3) := by decide +kernel
theorem dX7_worth_75 : decode cX7_worth 75 = .ok (.getfield 139, 3) := by decide +kernel
theorem dX7_worth_78 : decode cX7_worth 78 = .ok (.isub, 1) := by decide +kernel
theorem dX7_worth_79 : decode cX7_worth 79 = .ok (.sipush 1000, 3) := by decide +kernel
theorem dX7_worth_82 : decode cX7_worth 82 = .ok (.iadd, 1) := by decide +kernel
theorem dX7_worth_83 : decode cX7_worth 83 = .ok (.ireturn, 1) := by decide +kernel
theorem dX7_arrests_0 : decode cX7_arrests 0 = .ok (.iload_n 1, 1) := by decide +kernel
theorem dX7_arrests_1 : decode cX7_arrests 1 = .ok (.invokestatic 124, 3) := by decide +kernel
theorem dX7_arrests_4 : decode cX7_arrests 4 = .ok (.ifCond .ne 6, 3) := by decide +kernel
theorem dX7_arrests_7 : decode cX7_arrests 7 = .ok (.bipush (-2), 2) := by decide +kernel
theorem dX7_arrests_9 : decode cX7_arrests 9 = .ok (.ireturn, 1) := by decide +kernel
theorem dX7_arrests_10 : decode cX7_arrests 10 = .ok (.aload_n 0, 1) := by decide +kernel
theorem dX7_arrests_11 : decode cX7_arrests 11 = .ok (.invokevirtual 127, 3) := by decide +kernel
theorem dX7_arrests_14 : decode cX7_arrests 14 = .ok (.ifCond .eq 6, 3) := by decide +kernel
theorem dX7_arrests_17 : decode cX7_arrests 17 = .ok (.bipush (-3), 2) := by decide +kernel
theorem dX7_arrests_19 : decode cX7_arrests 19 = .ok (.ireturn, 1) := by decide +kernel
theorem dX7_arrests_20 : decode cX7_arrests 20 = .ok (.aload_n 0, 1) := by decide +kernel
theorem dX7_arrests_21 : decode cX7_arrests 21 = .ok (.getfield 14, 3) := by decide +kernel
theorem dX7_arrests_24 : decode cX7_arrests 24 = .ok (.getfield 84, 3) := by decide +kernel
theorem dX7_arrests_27 : decode cX7_arrests 27 = .ok (.invokestatic 121, 3) := by decide +kernel
theorem dX7_arrests_30 : decode cX7_arrests 30 = .ok (.iconst 1, 1) := by decide +kernel
theorem dX7_arrests_31 : decode cX7_arrests 31 = .ok (.isub, 1) := by decide +kernel
theorem dX7_arrests_32 : decode cX7_arrests 32 = .ok (.istore_n 2, 1) := by decide +kernel
theorem dX7_arrests_33 : decode cX7_arrests 33 = .ok (.iconst 0, 1) := by decide +kernel
theorem dX7_arrests_34 : decode cX7_arrests 34 = .ok (.istore_n 3, 1) := by decide +kernel
theorem dX7_arrests_35 : decode cX7_arrests 35 = .ok (.iload_n 3, 1) := by decide +kernel
theorem dX7_arrests_36 : decode cX7_arrests 36 = .ok (.aload_n 0, 1) := by decide +kernel
theorem dX7_arrests_37 : decode cX7_arrests 37 = .ok (.getfield 14, 3) := by decide +kernel
theorem dX7_arrests_40 : decode cX7_arrests 40 = .ok (.getfield 84, 3) := by decide +kernel
theorem dX7_arrests_43 : decode cX7_arrests 43 = .ok (.invokestatic 121, 3) := by decide +kernel
theorem dX7_arrests_46 : decode cX7_arrests 46 = .ok (.if_icmp .ge 53, 3) := by decide +kernel
theorem dX7_arrests_49 : decode cX7_arrests 49 = .ok (.iload_n 3, 1) := by decide +kernel
theorem dX7_arrests_50 : decode cX7_arrests 50 = .ok (.invokestatic 153, 3) := by decide +kernel
theorem dX7_arrests_53 : decode cX7_arrests 53 = .ok (.iload_n 2, 1) := by decide +kernel
theorem dX7_arrests_54 : decode cX7_arrests 54 = .ok (.invokestatic 153, 3) := by decide +kernel
theorem dX7_arrests_57 : decode cX7_arrests 57 = .ok (.if_icmp .ge 36, 3) := by decide +kernel
theorem dX7_arrests_60 : decode cX7_arrests 60 = .ok (.aload_n 0, 1) := by decide +kernel
theorem dX7_arrests_61 : decode cX7_arrests 61 = .ok (.getfield 39, 3) := by decide +kernel
theorem dX7_arrests_64 : decode cX7_arrests 64 = .ok (.iconst (-1), 1) := by decide +kernel
theorem dX7_arrests_65 : decode cX7_arrests 65 = .ok (.aload_n 0, 1) := by decide +kernel
theorem dX7_arrests_66 : decode cX7_arrests 66 = .ok (.getfield 14, 3) := by decide +kernel
theorem dX7_arrests_69 : decode cX7_arrests 69 = .ok (.getfield 104, 3) := by decide +kernel
theorem dX7_arrests_72 : decode cX7_arrests 72 = .ok (.iload_n 3, 1) := by decide +kernel
theorem dX7_arrests_73 : decode cX7_arrests 73 = .ok (.ior, 1) := by decide +kernel
theorem dX7_arrests_74 : decode cX7_arrests 74 = .ok (.iload_n 1, 1) := by decide +kernel
theorem dX7_arrests_75 : decode cX7_arrests 75 = .ok (.invokevirtual 131, 3) := by decide +kernel
theorem dX7_arrests_78 : decode cX7_arrests 78 = .ok (.aload_n 0, 1) := by decide +kernel
theorem dX7_arrests_79 : decode cX7_arrests 79 = .ok (.getfield 39, 3) := by decide +kernel
theorem dX7_arrests_82 : decode cX7_arrests 82 = .ok (.getfield 135, 3) := by decide +kernel
theorem dX7_arrests_85 : decode cX7_arrests 85 = .ok (.getfield 139, 3) := by decide +kernel
theorem dX7_arrests_88 : decode cX7_arrests 88 = .ok (.ifCond .ne 5, 3) := by decide +kernel
theorem dX7_arrests_91 : decode cX7_arrests 91 = .ok (.iload_n 3, 1) := by decide +kernel
theorem dX7_arrests_92 : decode cX7_arrests 92 = .ok (.istore_n 2, 1) := by decide +kernel
theorem dX7_arrests_93 : decode cX7_arrests 93 = .ok (.iinc 3 1, 3) := by decide +kernel
theorem dX7_arrests_96 : decode cX7_arrests 96 = .ok (.goto (-61), 3) := by decide +kernel
theorem dX7_arrests_99 : decode cX7_arrests 99 = .ok (.iload_n 2, 1) := by decide +kernel
theorem dX7_arrests_100 : decode cX7_arrests 100 = .ok (.ireturn, 1) := by decide +kernel
theorem dX7_provoked_0 : decode cX7_provoked 0 = .ok (.aload_n 0, 1) := by decide +kernel
theorem dX7_provoked_1 : decode cX7_provoked 1 = .ok (.getfield 14, 3) := by decide +kernel
theorem dX7_provoked_4 : decode cX7_provoked 4 = .ok (.iload_n 1, 1) := by decide +kernel
theorem dX7_provoked_5 : decode cX7_provoked 5 = .ok (.iload_n 2, 1) := by decide +kernel
theorem dX7_provoked_6 : decode cX7_provoked 6 = .ok (.invokevirtual 111, 3) := by decide +kernel
theorem dX7_provoked_9 : decode cX7_provoked 9 = .ok (.ifCond .ne 5, 3) := by decide +kernel
theorem dX7_provoked_12 : decode cX7_provoked 12 = .ok (.iconst (-1), 1) := by decide +kernel
theorem dX7_provoked_13 : decode cX7_provoked 13 = .ok (.ireturn, 1) := by decide +kernel
theorem dX7_provoked_14 : decode cX7_provoked 14 = .ok (.iload_n 3, 1) := by decide +kernel
theorem dX7_provoked_15 : decode cX7_provoked 15 = .ok (.invokestatic 114, 3) := by decide +kernel
theorem dX7_provoked_18 : decode cX7_provoked 18 = .ok (.ifCond .ne 6, 3) := by decide +kernel
theorem dX7_provoked_21 : decode cX7_provoked 21 = .ok (.bipush (-2), 2) := by decide +kernel
theorem dX7_provoked_23 : decode cX7_provoked 23 = .ok (.ireturn, 1) := by decide +kernel
theorem dX7_provoked_24 : decode cX7_provoked 24 = .ok (.iconst 0, 1) := by decide +kernel
theorem dX7_provoked_25 : decode cX7_provoked 25 = .ok (.istore 4, 2) := by decide +kernel
theorem dX7_provoked_27 : decode cX7_provoked 27 = .ok (.iload 4, 2) := by decide +kernel
theorem dX7_provoked_29 : decode cX7_provoked 29 = .ok (.aload_n 0, 1) := by decide +kernel
theorem dX7_provoked_30 : decode cX7_provoked 30 = .ok (.getfield 14, 3) := by decide +kernel
theorem dX7_provoked_33 : decode cX7_provoked 33 = .ok (.getfield 84, 3) := by decide +kernel
theorem dX7_provoked_36 : decode cX7_provoked 36 = .ok (.if_icmp .ge 81, 3) := by decide +kernel
theorem dX7_provoked_39 : decode cX7_provoked 39 = .ok (.iconst 0, 1) := by decide +kernel
theorem dX7_provoked_40 : decode cX7_provoked 40 = .ok (.istore 5, 2) := by decide +kernel
theorem dX7_provoked_42 : decode cX7_provoked 42 = .ok (.iload 5, 2) := by decide +kernel
theorem dX7_provoked_44 : decode cX7_provoked 44 = .ok (.aload_n 0, 1) := by decide +kernel
theorem dX7_provoked_45 : decode cX7_provoked 45 = .ok (.getfield 14, 3) := by decide +kernel
theorem dX7_provoked_48 : decode cX7_provoked 48 = .ok (.getfield 84, 3) := by decide +kernel
theorem dX7_provoked_51 : decode cX7_provoked 51 = .ok (.if_icmp .ge 60, 3) := by decide +kernel
theorem dX7_provoked_54 : decode cX7_provoked 54 = .ok (.iload 4, 2) := by decide +kernel
theorem dX7_provoked_56 : decode cX7_provoked 56 = .ok (.iload 5, 2) := by decide +kernel
theorem dX7_provoked_58 : decode cX7_provoked 58 = .ok (.if_icmp .ne 7, 3) := by decide +kernel
theorem dX7_provoked_61 : decode cX7_provoked 61 = .ok (.iconst 0, 1) := by decide +kernel
theorem dX7_provoked_62 : decode cX7_provoked 62 = .ok (.goto 21, 3) := by decide +kernel
theorem dX7_provoked_65 : decode cX7_provoked 65 = .ok (.aload_n 0, 1) := by decide +kernel
theorem dX7_provoked_66 : decode cX7_provoked 66 = .ok (.iload 4, 2) := by decide +kernel
theorem dX7_provoked_68 : decode cX7_provoked 68 = .ok (.iload 5, 2) := by decide +kernel
theorem dX7_provoked_70 : decode cX7_provoked 70 = .ok (.iload_n 3, 1) := by decide +kernel
theorem dX7_provoked_71 : decode cX7_provoked 71 = .ok (.iload_n 1, 1) := by decide +kernel
theorem dX7_provoked_72 : decode cX7_provoked 72 = .ok (.invokestatic 121, 3) := by decide +kernel
theorem dX7_provoked_75 : decode cX7_provoked 75 = .ok (.iload_n 2, 1) := by decide +kernel
theorem dX7_provoked_76 : decode cX7_provoked 76 = .ok (.invokestatic 121, 3) := by decide +kernel
theorem dX7_provoked_79 : decode cX7_provoked 79 = .ok (.ior, 1) := by decide +kernel
theorem dX7_provoked_80 : decode cX7_provoked 80 = .ok (.invokevirtual 158, 3) := by decide +kernel
theorem dX7_provoked_83 : decode cX7_provoked 83 = .ok (.istore 6, 2) := by decide +kernel
theorem dX7_provoked_85 : decode cX7_provoked 85 = .ok (.iload 6, 2) := by decide +kernel
theorem dX7_provoked_87 : decode cX7_provoked 87 = .ok (.ifCond .le 18, 3) := by decide +kernel
theorem dX7_provoked_90 : decode cX7_provoked 90 = .ok (.bipush 100, 2) := by decide +kernel
theorem dX7_provoked_92 : decode cX7_provoked 92 = .ok (.iload 4, 2) := by decide +kernel
theorem dX7_provoked_94 : decode cX7_provoked 94 = .ok (.imul, 1) := by decide +kernel
theorem dX7_provoked_95 : decode cX7_provoked 95 = .ok (.bipush 10, 2) := by decide +kernel
theorem dX7_provoked_97 : decode cX7_provoked 97 = .ok (.iload 5, 2) := by decide +kernel
theorem dX7_provoked_99 : decode cX7_provoked 99 = .ok (.imul, 1) := by decide +kernel
theorem dX7_provoked_100 : decode cX7_provoked 100 = .ok (.iadd, 1) := by decide +kernel
theorem dX7_provoked_101 : decode cX7_provoked 101 = .ok (.iload 6, 2) := by decide +kernel
theorem dX7_provoked_103 : decode cX7_provoked 103 = .ok (.iadd, 1) := by decide +kernel
theorem dX7_provoked_104 : decode cX7_provoked 104 = .ok (.ireturn, 1) := by decide +kernel
theorem dX7_provoked_105 : decode cX7_provoked 105 = .ok (.iinc 5 1, 3) := by decide +kernel
theorem dX7_provoked_108 : decode cX7_provoked 108 = .ok (.goto (-66), 3) := by decide +kernel
theorem dX7_provoked_111 : decode cX7_provoked 111 = .ok (.iinc 4 1, 3) := by decide +kernel
theorem dX7_provoked_114 : decode cX7_provoked 114 = .ok (.goto (-87), 3) := by decide +kernel
theorem dX7_provoked_117 : decode cX7_provoked 117 = .ok (.bipush (-9), 2) := by decide +kernel
theorem dX7_provoked_119 : decode cX7_provoked 119 = .ok (.ireturn, 1) := by decide +kernel
theorem dX7_provokingDegree_0 : decode cX7_provokingDegree 0 = .ok (.iconst 1, 1) := by decide +kernel
theorem dX7_provokingDegree_1 : decode cX7_provokingDegree 1 = .ok (.istore 5, 2) := by decide +kernel
theorem dX7_provokingDegree_3 : decode cX7_provokingDegree 3 = .ok (.iload 5, 2) := by decide +kernel
theorem dX7_provokingDegree_5 : decode cX7_provokingDegree 5 = .ok (.bipush 9, 2) := by decide +kernel
theorem dX7_provokingDegree_7 : decode cX7_provokingDegree 7 = .ok (.if_icmp .gt 70, 3) := by decide +kernel
theorem dX7_provokingDegree_10 : decode cX7_provokingDegree 10 = .ok (.aload_n 0, 1) := by decide +kernel
theorem dX7_provokingDegree_11 : decode cX7_provokingDegree 11 = .ok (.getfield 23, 3) := by decide +kernel
theorem dX7_provokingDegree_14 : decode cX7_provokingDegree 14 = .ok (.iload_n 1, 1) := by decide +kernel
theorem dX7_provokingDegree_15 : decode cX7_provokingDegree 15 = .ok (.iload_n 2, 1) := by decide +kernel
theorem dX7_provokingDegree_16 : decode cX7_provokingDegree 16 = .ok (.iload_n 3, 1) := by decide +kernel
theorem dX7_provokingDegree_17 : decode cX7_provokingDegree 17 = .ok (.iload 5, 2) := by decide +kernel
theorem dX7_provokingDegree_19 : decode cX7_provokingDegree 19 = .ok (.invokevirtual 117, 3) := by decide +kernel
theorem dX7_provokingDegree_22 : decode cX7_provokingDegree 22 = .ok (.aload_n 0, 1) := by decide +kernel
theorem dX7_provokingDegree_23 : decode cX7_provokingDegree 23 = .ok (.getfield 39, 3) := by decide +kernel
theorem dX7_provokingDegree_26 : decode cX7_provokingDegree 26 = .ok (.iconst (-1), 1) := by decide +kernel
theorem dX7_provokingDegree_27 : decode cX7_provokingDegree 27 = .ok (.aload_n 0, 1) := by decide +kernel
theorem dX7_provokingDegree_28 : decode cX7_provokingDegree 28 = .ok (.getfield 14, 3) := by decide +kernel
theorem dX7_provokingDegree_31 : decode cX7_provokingDegree 31 = .ok (.getfield 104, 3) := by decide +kernel
theorem dX7_provokingDegree_34 : decode cX7_provokingDegree 34 = .ok (.bipush 59, 2) := by decide +kernel
theorem dX7_provokingDegree_36 : decode cX7_provokingDegree 36 = .ok (.invokevirtual 131, 3) := by decide +kernel
theorem dX7_provokingDegree_39 : decode cX7_provokingDegree 39 = .ok (.aload_n 0, 1) := by decide +kernel
theorem dX7_provokingDegree_40 : decode cX7_provokingDegree 40 = .ok (.getfield 23, 3) := by decide +kernel
theorem dX7_provokingDegree_43 : decode cX7_provokingDegree 43 = .ok (.dup, 1) := by decide +kernel
theorem dX7_provokingDegree_44 : decode cX7_provokingDegree 44 = .ok (.getfield 80, 3) := by decide +kernel
theorem dX7_provokingDegree_47 : decode cX7_provokingDegree 47 = .ok (.iconst 1, 1) := by decide +kernel
theorem dX7_provokingDegree_48 : decode cX7_provokingDegree 48 = .ok (.isub, 1) := by decide +kernel
theorem dX7_provokingDegree_49 : decode cX7_provokingDegree 49 = .ok (.putfield 80, 3) := by decide +kernel
theorem dX7_provokingDegree_52 : decode cX7_provokingDegree 52 = .ok (.aload_n 0, 1) := by decide +kernel
theorem dX7_provokingDegree_53 : decode cX7_provokingDegree 53 = .ok (.getfield 39, 3) := by decide +kernel
theorem dX7_provokingDegree_56 : decode cX7_provokingDegree 56 = .ok (.getfield 135, 3) := by decide +kernel
theorem dX7_provokingDegree_59 : decode cX7_provokingDegree 59 = .ok (.iload 4, 2) := by decide +kernel
theorem dX7_provokingDegree_61 : decode cX7_provokingDegree 61 = .ok (.iload_n 3, 1) := by decide +kernel
theorem dX7_provokingDegree_62 : decode cX7_provokingDegree 62 = .ok (.invokevirtual 162, 3) := by decide +kernel
theorem dX7_provokingDegree_65 : decode cX7_provokingDegree 65 = .ok (.ifCond .eq 6, 3) := by decide +kernel
theorem dX7_provokingDegree_68 : decode cX7_provokingDegree 68 = .ok (.iload 5, 2) := by decide +kernel
theorem dX7_provokingDegree_70 : decode cX7_provokingDegree 70 = .ok (.ireturn, 1) := by decide +kernel
theorem dX7_provokingDegree_71 : decode cX7_provokingDegree 71 = .ok (.iinc 5 1, 3) := by decide +kernel
theorem dX7_provokingDegree_74 : decode cX7_provokingDegree 74 = .ok (.goto (-71), 3) := by decide +kernel
theorem dX7_provokingDegree_77 : decode cX7_provokingDegree 77 = .ok (.iconst 0, 1) := by decide +kernel
theorem dX7_provokingDegree_78 : decode cX7_provokingDegree 78 = .ok (.ireturn, 1) := by decide +kernel
theorem dX7_odds_0 : decode cX7_odds 0 = .ok (.aload_n 0, 1) := by decide +kernel
theorem dX7_odds_1 : decode cX7_odds 1 = .ok (.getfield 14, 3) := by decide +kernel
theorem dX7_odds_4 : decode cX7_odds 4 = .ok (.iload_n 1, 1) := by decide +kernel
theorem dX7_odds_5 : decode cX7_odds 5 = .ok (.invokevirtual 85, 3) := by decide +kernel
theorem dX7_odds_8 : decode cX7_odds 8 = .ok (.ifCond .eq 19, 3) := by decide +kernel
theorem dX7_odds_11 : decode cX7_odds 11 = .ok (.iload_n 2, 1) := by decide +kernel
theorem dX7_odds_12 : decode cX7_odds 12 = .ok (.invokestatic 124, 3) := by decide +kernel
theorem dX7_odds_15 : decode cX7_odds 15 = .ok (.ifCond .eq 12, 3) := by decide +kernel
theorem dX7_odds_18 : decode cX7_odds 18 = .ok (.iload_n 3, 1) := by decide +kernel
theorem dX7_odds_19 : decode cX7_odds 19 = .ok (.ifCond .lt 8, 3) := by decide +kernel
theorem dX7_odds_22 : decode cX7_odds 22 = .ok (.iload_n 3, 1) := by decide +kernel
theorem dX7_odds_23 : decode cX7_odds 23 = .ok (.iconst 1, 1) := by decide +kernel
theorem dX7_odds_24 : decode cX7_odds 24 = .ok (.if_icmp .le 7, 3) := by decide +kernel
theorem dX7_odds_27 : decode cX7_odds 27 = .ok (.ldc2_w 165, 3) := by decide +kernel
theorem dX7_odds_30 : decode cX7_odds 30 = .ok (.lreturn, 1) := by decide +kernel
theorem dX7_odds_31 : decode cX7_odds 31 = .ok (.aload_n 0, 1) := by decide +kernel
theorem dX7_odds_32 : decode cX7_odds 32 = .ok (.getfield 23, 3) := by decide +kernel
theorem dX7_odds_35 : decode cX7_odds 35 = .ok (.getfield 80, 3) := by decide +kernel
theorem dX7_odds_38 : decode cX7_odds 38 = .ok (.invokestatic 121, 3) := by decide +kernel
theorem dX7_odds_41 : decode cX7_odds 41 = .ok (.istore 4, 2) := by decide +kernel
theorem dX7_odds_43 : decode cX7_odds 43 = .ok (.iconst 0, 1) := by decide +kernel
theorem dX7_odds_44 : decode cX7_odds 44 = .ok (.istore 5, 2) := by decide +kernel
theorem dX7_odds_46 : decode cX7_odds 46 = .ok (.iconst 0, 1) := by decide +kernel
theorem dX7_odds_47 : decode cX7_odds 47 = .ok (.istore 6, 2) := by decide +kernel
theorem dX7_odds_49 : decode cX7_odds 49 = .ok (.iload 6, 2) := by decide +kernel
theorem dX7_odds_51 : decode cX7_odds 51 = .ok (.aload_n 0, 1) := by decide +kernel
theorem dX7_odds_52 : decode cX7_odds 52 = .ok (.getfield 23, 3) := by decide +kernel
theorem dX7_odds_55 : decode cX7_odds 55 = .ok (.getfield 80, 3) := by decide +kernel
theorem dX7_odds_58 : decode cX7_odds 58 = .ok (.invokestatic 121, 3) := by decide +kernel
theorem dX7_odds_61 : decode cX7_odds 61 = .ok (.if_icmp .ge 43, 3) := by decide +kernel
theorem dX7_odds_64 : decode cX7_odds 64 = .ok (.aload_n 0, 1) := by decide +kernel
theorem dX7_odds_65 : decode cX7_odds 65 = .ok (.getfield 39, 3) := by decide +kernel
theorem dX7_odds_68 : decode cX7_odds 68 = .ok (.iload 6, 2) := by decide +kernel
theorem dX7_odds_70 : decode cX7_odds 70 = .ok (.aload_n 0, 1) := by decide +kernel
theorem dX7_odds_71 : decode cX7_odds 71 = .ok (.getfield 14, 3) := by decide +kernel
theorem dX7_odds_74 : decode cX7_odds 74 = .ok (.getfield 104, 3) := by decide +kernel
theorem dX7_odds_77 : decode cX7_odds 77 = .ok (.iload_n 2, 1) := by decide +kernel
theorem dX7_odds_78 : decode cX7_odds 78 = .ok (.invokevirtual 131, 3) := by decide +kernel
theorem dX7_odds_81 : decode cX7_odds 81 = .ok (.aload_n 0, 1) := by decide +kernel
theorem dX7_odds_82 : decode cX7_odds 82 = .ok (.getfield 39, 3) := by decide +kernel
theorem dX7_odds_85 : decode cX7_odds 85 = .ok (.getfield 167, 3) := by decide +kernel
theorem dX7_odds_88 : decode cX7_odds 88 = .ok (.iload_n 1, 1) := by decide +kernel
theorem dX7_odds_89 : decode cX7_odds 89 = .ok (.invokestatic 107, 3) := by decide +kernel
theorem dX7_odds_92 : decode cX7_odds 92 = .ok (.ifCond .eq 6, 3) := by decide +kernel
theorem dX7_odds_95 : decode cX7_odds 95 = .ok (.iinc 5 1, 3) := by decide +kernel
theorem dX7_odds_98 : decode cX7_odds 98 = .ok (.iinc 6 1, 3) := by decide +kernel
theorem dX7_odds_101 : decode cX7_odds 101 = .ok (.goto (-52), 3) := by decide +kernel
theorem dX7_odds_104 : decode cX7_odds 104 = .ok (.iconst 0, 1) := by decide +kernel
theorem dX7_odds_105 : decode cX7_odds 105 = .ok (.istore 6, 2) := by decide +kernel
theorem dX7_odds_107 : decode cX7_odds 107 = .ok (.iload 6, 2) := by decide +kernel
theorem dX7_odds_109 : decode cX7_odds 109 = .ok (.bipush 8, 2) := by decide +kernel
theorem dX7_odds_111 : decode cX7_odds 111 = .ok (.if_icmp .ge 35, 3) := by decide +kernel
theorem dX7_odds_114 : decode cX7_odds 114 = .ok (.iload 5, 2) := by decide +kernel
theorem dX7_odds_116 : decode cX7_odds 116 = .ok (.iconst 2, 1) := by decide +kernel
theorem dX7_odds_117 : decode cX7_odds 117 = .ok (.irem, 1) := by decide +kernel
theorem dX7_odds_118 : decode cX7_odds 118 = .ok (.ifCond .ne 22, 3) := by decide +kernel
theorem dX7_odds_121 : decode cX7_odds 121 = .ok (.iload 4, 2) := by decide +kernel
theorem dX7_odds_123 : decode cX7_odds 123 = .ok (.iconst 2, 1) := by decide +kernel
theorem dX7_odds_124 : decode cX7_odds 124 = .ok (.irem, 1) := by decide +kernel
theorem dX7_odds_125 : decode cX7_odds 125 = .ok (.ifCond .ne 15, 3) := by decide +kernel
theorem dX7_odds_128 : decode cX7_odds 128 = .ok (.iload 5, 2) := by decide +kernel
theorem dX7_odds_130 : decode cX7_odds 130 = .ok (.iconst 2, 1) := by decide +kernel
theorem dX7_odds_131 : decode cX7_odds 131 = .ok (.idiv, 1) := by decide +kernel
theorem dX7_odds_132 : decode cX7_odds 132 = .ok (.istore 5, 2) := by decide +kernel
theorem dX7_odds_134 : decode cX7_odds 134 = .ok (.iload 4, 2) := by decide +kernel
theorem dX7_odds_136 : decode cX7_odds 136 = .ok (.iconst 2, 1) := by decide +kernel
theorem dX7_odds_137 : decode cX7_odds 137 = .ok (.idiv, 1) := by decide +kernel
theorem dX7_odds_138 : decode cX7_odds 138 = .ok (.istore 4, 2) := by decide +kernel
theorem dX7_odds_140 : decode cX7_odds 140 = .ok (.iinc 6 1, 3) := by decide +kernel
theorem dX7_odds_143 : decode cX7_odds 143 = .ok (.goto (-36), 3) := by decide +kernel
theorem dX7_odds_146 : decode cX7_odds 146 = .ok (.iload_n 3, 1) := by decide +kernel
theorem dX7_odds_147 : decode cX7_odds 147 = .ok (.ifCond .ne 9, 3) := by decide +kernel
theorem dX7_odds_150 : decode cX7_odds 150 = .ok (.iload 5, 2) := by decide +kernel
theorem dX7_odds_152 : decode cX7_odds 152 = .ok (.i2l, 1) := by decide +kernel
theorem dX7_odds_153 : decode cX7_odds 153 = .ok (.goto 6, 3) := by decide +kernel
theorem dX7_odds_156 : decode cX7_odds 156 = .ok (.iload 4, 2) := by decide +kernel
theorem dX7_odds_158 : decode cX7_odds 158 = .ok (.i2l, 1) := by decide +kernel
theorem dX7_odds_159 : decode cX7_odds 159 = .ok (.lreturn, 1) := by decide +kernel
theorem dX7_reading_0 : decode cX7_reading 0 = .ok (.aload_n 0, 1) := by decide +kernel
theorem dX7_reading_1 : decode cX7_reading 1 = .ok (.getfield 14, 3) := by decide +kernel
theorem dX7_reading_4 : decode cX7_reading 4 = .ok (.iload_n 1, 1) := by decide +kernel
theorem dX7_reading_5 : decode cX7_reading 5 = .ok (.invokevirtual 85, 3) := by decide +kernel
theorem dX7_reading_8 : decode cX7_reading 8 = .ok (.ifCond .ne 5, 3) := by decide +kernel
theorem dX7_reading_11 : decode cX7_reading 11 = .ok (.iconst (-1), 1) := by decide +kernel
theorem dX7_reading_12 : decode cX7_reading 12 = .ok (.ireturn, 1) := by decide +kernel
theorem dX7_reading_13 : decode cX7_reading 13 = .ok (.iload_n 2, 1) := by decide +kernel
theorem dX7_reading_14 : decode cX7_reading 14 = .ok (.invokestatic 124, 3) := by decide +kernel
theorem dX7_reading_17 : decode cX7_reading 17 = .ok (.ifCond .ne 6, 3) := by decide +kernel
theorem dX7_reading_20 : decode cX7_reading 20 = .ok (.bipush (-2), 2) := by decide +kernel
theorem dX7_reading_22 : decode cX7_reading 22 = .ok (.ireturn, 1) := by decide +kernel
theorem dX7_reading_23 : decode cX7_reading 23 = .ok (.aload_n 0, 1) := by decide +kernel
theorem dX7_reading_24 : decode cX7_reading 24 = .ok (.getfield 30, 3) := by decide +kernel
theorem dX7_reading_27 : decode cX7_reading 27 = .ok (.getfield 83, 3) := by decide +kernel
theorem dX7_reading_30 : decode cX7_reading 30 = .ok (.bipush 8, 2) := by decide +kernel
theorem dX7_reading_32 : decode cX7_reading 32 = .ok (.if_icmp .lt 6, 3) := by decide +kernel
theorem dX7_reading_35 : decode cX7_reading 35 = .ok (.bipush (-4), 2) := by decide +kernel
theorem dX7_reading_37 : decode cX7_reading 37 = .ok (.ireturn, 1) := by decide +kernel
theorem dX7_reading_38 : decode cX7_reading 38 = .ok (.aload_n 0, 1) := by decide +kernel
theorem dX7_reading_39 : decode cX7_reading 39 = .ok (.getfield 30, 3) := by decide +kernel
theorem dX7_reading_42 : decode cX7_reading 42 = .ok (.iload_n 1, 1) := by decide +kernel
theorem dX7_reading_43 : decode cX7_reading 43 = .ok (.iload_n 2, 1) := by decide +kernel
theorem dX7_reading_44 : decode cX7_reading 44 = .ok (.iload_n 3, 1) := by decide +kernel
theorem dX7_reading_45 : decode cX7_reading 45 = .ok (.invokevirtual 170, 3) := by decide +kernel
theorem dX7_reading_48 : decode cX7_reading 48 = .ok (.aload_n 0, 1) := by decide +kernel
theorem dX7_reading_49 : decode cX7_reading 49 = .ok (.getfield 30, 3) := by decide +kernel
theorem dX7_reading_52 : decode cX7_reading 52 = .ok (.getfield 83, 3) := by decide +kernel
theorem dX7_reading_55 : decode cX7_reading 55 = .ok (.iconst 1, 1) := by decide +kernel
theorem dX7_reading_56 : decode cX7_reading 56 = .ok (.isub, 1) := by decide +kernel
theorem dX7_reading_57 : decode cX7_reading 57 = .ok (.ireturn, 1) := by decide +kernel
theorem dX7_back_0 : decode cX7_back 0 = .ok (.iload_n 1, 1) := by decide +kernel
theorem dX7_back_1 : decode cX7_back 1 = .ok (.ifCond .lt 14, 3) := by decide +kernel
theorem dX7_back_4 : decode cX7_back 4 = .ok (.iload_n 1, 1) := by decide +kernel
theorem dX7_back_5 : decode cX7_back 5 = .ok (.aload_n 0, 1) := by decide +kernel
theorem dX7_back_6 : decode cX7_back 6 = .ok (.getfield 30, 3) := by decide +kernel
theorem dX7_back_9 : decode cX7_back 9 = .ok (.getfield 83, 3) := by decide +kernel
theorem dX7_back_12 : decode cX7_back 12 = .ok (.if_icmp .le 6, 3) := by decide +kernel
theorem dX7_back_15 : decode cX7_back 15 = .ok (.bipush (-2), 2) := by decide +kernel
theorem dX7_back_17 : decode cX7_back 17 = .ok (.ireturn, 1) := by decide +kernel
theorem dX7_back_18 : decode cX7_back 18 = .ok (.aload_n 0, 1) := by decide +kernel
theorem dX7_back_19 : decode cX7_back 19 = .ok (.getfield 30, 3) := by decide +kernel
theorem dX7_back_22 : decode cX7_back 22 = .ok (.dup, 1) := by decide +kernel
theorem dX7_back_23 : decode cX7_back 23 = .ok (.getfield 83, 3) := by decide +kernel
theorem dX7_back_26 : decode cX7_back 26 = .ok (.iload_n 1, 1) := by decide +kernel
theorem dX7_back_27 : decode cX7_back 27 = .ok (.isub, 1) := by decide +kernel
theorem dX7_back_28 : decode cX7_back 28 = .ok (.putfield 83, 3) := by decide +kernel
theorem dX7_back_31 : decode cX7_back 31 = .ok (.aload_n 0, 1) := by decide +kernel
theorem dX7_back_32 : decode cX7_back 32 = .ok (.getfield 30, 3) := by decide +kernel
theorem dX7_back_35 : decode cX7_back 35 = .ok (.getfield 83, 3) := by decide +kernel
theorem dX7_back_38 : decode cX7_back 38 = .ok (.ireturn, 1) := by decide +kernel
theorem dX7_never_0 : decode cX7_never 0 = .ok (.aload_n 0, 1) := by decide +kernel
theorem dX7_never_1 : decode cX7_never 1 = .ok (.invokevirtual 127, 3) := by decide +kernel
theorem dX7_never_4 : decode cX7_never 4 = .ok (.ifCond .eq 6, 3) := by decide +kernel
theorem dX7_never_7 : decode cX7_never 7 = .ok (.bipush (-3), 2) := by decide +kernel
theorem dX7_never_9 : decode cX7_never 9 = .ok (.ireturn, 1) := by decide +kernel
theorem dX7_never_10 : decode cX7_never 10 = .ok (.iconst 0, 1) := by decide +kernel
theorem dX7_never_11 : decode cX7_never 11 = .ok (.istore_n 1, 1) := by decide +kernel
theorem dX7_never_12 : decode cX7_never 12 = .ok (.iconst 0, 1) := by decide +kernel
theorem dX7_never_13 : decode cX7_never 13 = .ok (.istore_n 2, 1) := by decide +kernel
theorem dX7_never_14 : decode cX7_never 14 = .ok (.iload_n 2, 1) := by decide +kernel
theorem dX7_never_15 : decode cX7_never 15 = .ok (.aload_n 0, 1) := by decide +kernel
theorem dX7_never_16 : decode cX7_never 16 = .ok (.getfield 23, 3) := by decide +kernel
theorem dX7_never_19 : decode cX7_never 19 = .ok (.getfield 80, 3) := by decide +kernel
theorem dX7_never_22 : decode cX7_never 22 = .ok (.if_icmp .ge 55, 3) := by decide +kernel
theorem dX7_never_25 : decode cX7_never 25 = .ok (.aload_n 0, 1) := by decide +kernel
theorem dX7_never_26 : decode cX7_never 26 = .ok (.getfield 39, 3) := by decide +kernel
theorem dX7_never_29 : decode cX7_never 29 = .ok (.iload_n 2, 1) := by decide +kernel
theorem dX7_never_30 : decode cX7_never 30 = .ok (.invokestatic 121, 3) := by decide +kernel
theorem dX7_never_33 : decode cX7_never 33 = .ok (.iconst (-1), 1) := by decide +kernel
theorem dX7_never_34 : decode cX7_never 34 = .ok (.ixor, 1) := by decide +kernel
theorem dX7_never_35 : decode cX7_never 35 = .ok (.aload_n 0, 1) := by decide +kernel
theorem dX7_never_36 : decode cX7_never 36 = .ok (.getfield 14, 3) := by decide +kernel
theorem dX7_never_39 : decode cX7_never 39 = .ok (.getfield 104, 3) := by decide +kernel
theorem dX7_never_42 : decode cX7_never 42 = .ok (.bipush 59, 2) := by decide +kernel
theorem dX7_never_44 : decode cX7_never 44 = .ok (.invokevirtual 131, 3) := by decide +kernel
theorem dX7_never_47 : decode cX7_never 47 = .ok (.aload_n 0, 1) := by decide +kernel
theorem dX7_never_48 : decode cX7_never 48 = .ok (.getfield 30, 3) := by decide +kernel
theorem dX7_never_51 : decode cX7_never 51 = .ok (.aload_n 0, 1) := by decide +kernel
theorem dX7_never_52 : decode cX7_never 52 = .ok (.getfield 39, 3) := by decide +kernel
theorem dX7_never_55 : decode cX7_never 55 = .ok (.getfield 135, 3) := by decide +kernel
theorem dX7_never_58 : decode cX7_never 58 = .ok (.invokevirtual 173, 3) := by decide +kernel
theorem dX7_never_61 : decode cX7_never 61 = .ok (.ifCond .eq 10, 3) := by decide +kernel
theorem dX7_never_64 : decode cX7_never 64 = .ok (.iload_n 1, 1) := by decide +kernel
theorem dX7_never_65 : decode cX7_never 65 = .ok (.iload_n 2, 1) := by decide +kernel
theorem dX7_never_66 : decode cX7_never 66 = .ok (.invokestatic 121, 3) := by decide +kernel
theorem dX7_never_69 : decode cX7_never 69 = .ok (.ior, 1) := by decide +kernel
theorem dX7_never_70 : decode cX7_never 70 = .ok (.istore_n 1, 1) := by decide +kernel
theorem dX7_never_71 : decode cX7_never 71 = .ok (.iinc 2 1, 3) := by decide +kernel
theorem dX7_never_74 : decode cX7_never 74 = .ok (.goto (-60), 3) := by decide +kernel
theorem dX7_never_77 : decode cX7_never 77 = .ok (.iload_n 1, 1) := by decide +kernel
theorem dX7_never_78 : decode cX7_never 78 = .ok (.ireturn, 1) := by decide +kernel
theorem dX7_caught_0 : decode cX7_caught 0 = .ok (.aload_n 0, 1) := by decide +kernel
theorem dX7_caught_1 : decode cX7_caught 1 = .ok (.invokevirtual 127, 3) := by decide +kernel
theorem dX7_caught_4 : decode cX7_caught 4 = .ok (.ifCond .eq 6, 3) := by decide +kernel
theorem dX7_caught_7 : decode cX7_caught 7 = .ok (.bipush (-3), 2) := by decide +kernel
theorem dX7_caught_9 : decode cX7_caught 9 = .ok (.ireturn, 1) := by decide +kernel
theorem dX7_caught_10 : decode cX7_caught 10 = .ok (.iconst 0, 1) := by decide +kernel
theorem dX7_caught_11 : decode cX7_caught 11 = .ok (.istore_n 1, 1) := by decide +kernel
theorem dX7_caught_12 : decode cX7_caught 12 = .ok (.iconst 0, 1) := by decide +kernel
theorem dX7_caught_13 : decode cX7_caught 13 = .ok (.istore_n 2, 1) := by decide +kernel
theorem dX7_caught_14 : decode cX7_caught 14 = .ok (.iload_n 2, 1) := by decide +kernel
theorem dX7_caught_15 : decode cX7_caught 15 = .ok (.aload_n 0, 1) := by decide +kernel
theorem dX7_caught_16 : decode cX7_caught 16 = .ok (.getfield 14, 3) := by decide +kernel
theorem dX7_caught_19 : decode cX7_caught 19 = .ok (.getfield 84, 3) := by decide +kernel
theorem dX7_caught_22 : decode cX7_caught 22 = .ok (.if_icmp .ge 55, 3) := by decide +kernel
theorem dX7_caught_25 : decode cX7_caught 25 = .ok (.aload_n 0, 1) := by decide +kernel
theorem dX7_caught_26 : decode cX7_caught 26 = .ok (.getfield 39, 3) := by decide +kernel
theorem dX7_caught_29 : decode cX7_caught 29 = .ok (.iconst (-1), 1) := by decide +kernel
theorem dX7_caught_30 : decode cX7_caught 30 = .ok (.aload_n 0, 1) := by decide +kernel
theorem dX7_caught_31 : decode cX7_caught 31 = .ok (.getfield 14, 3) := by decide +kernel
theorem dX7_caught_34 : decode cX7_caught 34 = .ok (.getfield 104, 3) := by decide +kernel
theorem dX7_caught_37 : decode cX7_caught 37 = .ok (.iload_n 2, 1) := by decide +kernel
theorem dX7_caught_38 : decode cX7_caught 38 = .ok (.invokestatic 121, 3) := by decide +kernel
theorem dX7_caught_41 : decode cX7_caught 41 = .ok (.ior, 1) := by decide +kernel
theorem dX7_caught_42 : decode cX7_caught 42 = .ok (.bipush 59, 2) := by decide +kernel
theorem dX7_caught_44 : decode cX7_caught 44 = .ok (.invokevirtual 131, 3) := by decide +kernel
theorem dX7_caught_47 : decode cX7_caught 47 = .ok (.aload_n 0, 1) := by decide +kernel
theorem dX7_caught_48 : decode cX7_caught 48 = .ok (.getfield 30, 3) := by decide +kernel
theorem dX7_caught_51 : decode cX7_caught 51 = .ok (.aload_n 0, 1) := by decide +kernel
theorem dX7_caught_52 : decode cX7_caught 52 = .ok (.getfield 39, 3) := by decide +kernel
theorem dX7_caught_55 : decode cX7_caught 55 = .ok (.getfield 135, 3) := by decide +kernel
theorem dX7_caught_58 : decode cX7_caught 58 = .ok (.invokevirtual 173, 3) := by decide +kernel
theorem dX7_caught_61 : decode cX7_caught 61 = .ok (.ifCond .eq 10, 3) := by decide +kernel
theorem dX7_caught_64 : decode cX7_caught 64 = .ok (.iload_n 1, 1) := by decide +kernel
theorem dX7_caught_65 : decode cX7_caught 65 = .ok (.iload_n 2, 1) := by decide +kernel
theorem dX7_caught_66 : decode cX7_caught 66 = .ok (.invokestatic 121, 3) := by decide +kernel
theorem dX7_caught_69 : decode cX7_caught 69 = .ok (.ior, 1) := by decide +kernel
theorem dX7_caught_70 : decode cX7_caught 70 = .ok (.istore_n 1, 1) := by decide +kernel
theorem dX7_caught_71 : decode cX7_caught 71 = .ok (.iinc 2 1, 3) := by decide +kernel
theorem dX7_caught_74 : decode cX7_caught 74 = .ok (.goto (-60), 3) := by decide +kernel
theorem dX7_caught_77 : decode cX7_caught 77 = .ok (.iload_n 1, 1) := by decide +kernel
theorem dX7_caught_78 : decode cX7_caught 78 = .ok (.ireturn, 1) := by decide +kernel
theorem dX7_row_0 : decode cX7_row 0 = .ok (.aload_n 0, 1) := by decide +kernel
theorem dX7_row_1 : decode cX7_row 1 = .ok (.iconst 0, 1) := by decide +kernel
theorem dX7_row_2 : decode cX7_row 2 = .ok (.putfield 50, 3) := by decide +kernel
theorem dX7_row_5 : decode cX7_row 5 = .ok (.aload_n 0, 1) := by decide +kernel
theorem dX7_row_6 : decode cX7_row 6 = .ok (.iload_n 1, 1) := by decide +kernel
theorem dX7_row_7 : decode cX7_row 7 = .ok (.invokevirtual 54, 3) := by decide +kernel
theorem dX7_row_10 : decode cX7_row 10 = .ok (.astore 5, 2) := by decide +kernel
theorem dX7_row_12 : decode cX7_row 12 = .ok (.aload 5, 2) := by decide +kernel
theorem dX7_row_14 : decode cX7_row 14 = .ok (.ifnonnull 5, 3) := by decide +kernel
theorem dX7_row_17 : decode cX7_row 17 = .ok (.iconst (-1), 1) := by decide +kernel
theorem dX7_row_18 : decode cX7_row 18 = .ok (.ireturn, 1) := by decide +kernel
theorem dX7_row_19 : decode cX7_row 19 = .ok (.iload_n 2, 1) := by decide +kernel
theorem dX7_row_20 : decode cX7_row 20 = .ok (.invokestatic 58, 3) := by decide +kernel
theorem dX7_row_23 : decode cX7_row 23 = .ok (.ifCond .ne 6, 3) := by decide +kernel
theorem dX7_row_26 : decode cX7_row 26 = .ok (.bipush (-2), 2) := by decide +kernel
theorem dX7_row_28 : decode cX7_row 28 = .ok (.ireturn, 1) := by decide +kernel
theorem dX7_row_29 : decode cX7_row 29 = .ok (.aload 5, 2) := by decide +kernel
theorem dX7_row_31 : decode cX7_row 31 = .ok (.iload_n 2, 1) := by decide +kernel
theorem dX7_row_32 : decode cX7_row 32 = .ok (.iload_n 3, 1) := by decide +kernel
theorem dX7_row_33 : decode cX7_row 33 = .ok (.iload 4, 2) := by decide +kernel
theorem dX7_row_35 : decode cX7_row 35 = .ok (.invokevirtual 62, 3) := by decide +kernel
theorem dX7_row_38 : decode cX7_row 38 = .ok (.istore 6, 2) := by decide +kernel
theorem dX7_row_40 : decode cX7_row 40 = .ok (.iload 6, 2) := by decide +kernel
theorem dX7_row_42 : decode cX7_row 42 = .ok (.ifCond .eq 10, 3) := by decide +kernel
theorem dX7_row_45 : decode cX7_row 45 = .ok (.aload_n 0, 1) := by decide +kernel
theorem dX7_row_46 : decode cX7_row 46 = .ok (.iload 6, 2) := by decide +kernel
theorem dX7_row_48 : decode cX7_row 48 = .ok (.invokevirtual 66, 3) := by decide +kernel
theorem dX7_row_51 : decode cX7_row 51 = .ok (.ireturn, 1) := by decide +kernel
theorem dX7_row_52 : decode cX7_row 52 = .ok (.aload_n 0, 1) := by decide +kernel
theorem dX7_row_53 : decode cX7_row 53 = .ok (.invokevirtual 127, 3) := by decide +kernel
theorem dX7_row_56 : decode cX7_row 56 = .ok (.ifCond .eq 6, 3) := by decide +kernel
theorem dX7_row_59 : decode cX7_row 59 = .ok (.bipush (-3), 2) := by decide +kernel
theorem dX7_row_61 : decode cX7_row 61 = .ok (.ireturn, 1) := by decide +kernel
theorem dX7_row_62 : decode cX7_row 62 = .ok (.iconst 0, 1) := by decide +kernel
theorem dX7_row_63 : decode cX7_row 63 = .ok (.istore 7, 2) := by decide +kernel
theorem dX7_row_65 : decode cX7_row 65 = .ok (.iload 7, 2) := by decide +kernel
theorem dX7_row_67 : decode cX7_row 67 = .ok (.iload 4, 2) := by decide +kernel
theorem dX7_row_69 : decode cX7_row 69 = .ok (.if_icmp .ge 30, 3) := by decide +kernel
theorem dX7_row_72 : decode cX7_row 72 = .ok (.aload_n 0, 1) := by decide +kernel
theorem dX7_row_73 : decode cX7_row 73 = .ok (.getfield 14, 3) := by decide +kernel
theorem dX7_row_76 : decode cX7_row 76 = .ok (.aload 5, 2) := by decide +kernel
theorem dX7_row_78 : decode cX7_row 78 = .ok (.iload_n 3, 1) := by decide +kernel
theorem dX7_row_79 : decode cX7_row 79 = .ok (.iload 7, 2) := by decide +kernel
theorem dX7_row_81 : decode cX7_row 81 = .ok (.iadd, 1) := by decide +kernel
theorem dX7_row_82 : decode cX7_row 82 = .ok (.invokevirtual 177, 3) := by decide +kernel
theorem dX7_row_85 : decode cX7_row 85 = .ok (.invokevirtual 85, 3) := by decide +kernel
theorem dX7_row_88 : decode cX7_row 88 = .ok (.ifCond .ne 5, 3) := by decide +kernel
theorem dX7_row_91 : decode cX7_row 91 = .ok (.iconst (-1), 1) := by decide +kernel
theorem dX7_row_92 : decode cX7_row 92 = .ok (.ireturn, 1) := by decide +kernel
theorem dX7_row_93 : decode cX7_row 93 = .ok (.iinc 7 1, 3) := by decide +kernel
theorem dX7_row_96 : decode cX7_row 96 = .ok (.goto (-31), 3) := by decide +kernel
theorem dX7_row_99 : decode cX7_row 99 = .ok (.aload_n 0, 1) := by decide +kernel
theorem dX7_row_100 : decode cX7_row 100 = .ok (.aload 5, 2) := by decide +kernel
theorem dX7_row_102 : decode cX7_row 102 = .ok (.iload_n 3, 1) := by decide +kernel
theorem dX7_row_103 : decode cX7_row 103 = .ok (.iload 4, 2) := by decide +kernel
theorem dX7_row_105 : decode cX7_row 105 = .ok (.invokevirtual 180, 3) := by decide +kernel
theorem dX7_row_108 : decode cX7_row 108 = .ok (.ireturn, 1) := by decide +kernel
theorem dX7_freeInTurn_0 : decode cX7_freeInTurn 0 = .ok (.aload_n 0, 1) := by decide +kernel
theorem dX7_freeInTurn_1 : decode cX7_freeInTurn 1 = .ok (.getfield 39, 3) := by decide +kernel
theorem dX7_freeInTurn_4 : decode cX7_freeInTurn 4 = .ok (.iconst (-1), 1) := by decide +kernel
theorem dX7_freeInTurn_5 : decode cX7_freeInTurn 5 = .ok (.aload_n 0, 1) := by decide +kernel
theorem dX7_freeInTurn_6 : decode cX7_freeInTurn 6 = .ok (.getfield 14, 3) := by decide +kernel
theorem dX7_freeInTurn_9 : decode cX7_freeInTurn 9 = .ok (.getfield 104, 3) := by decide +kernel
theorem dX7_freeInTurn_12 : decode cX7_freeInTurn 12 = .ok (.invokevirtual 183, 3) := by decide +kernel
theorem dX7_freeInTurn_15 : decode cX7_freeInTurn 15 = .ok (.iconst 0, 1) := by decide +kernel
theorem dX7_freeInTurn_16 : decode cX7_freeInTurn 16 = .ok (.istore 4, 2) := by decide +kernel
theorem dX7_freeInTurn_18 : decode cX7_freeInTurn 18 = .ok (.iload 4, 2) := by decide +kernel
theorem dX7_freeInTurn_20 : decode cX7_freeInTurn 20 = .ok (.iload_n 3, 1) := by decide +kernel
theorem dX7_freeInTurn_21 : decode cX7_freeInTurn 21 = .ok (.if_icmp .ge 44, 3) := by decide +kernel
theorem dX7_freeInTurn_24 : decode cX7_freeInTurn 24 = .ok (.aload_n 0, 1) := by decide +kernel
theorem dX7_freeInTurn_25 : decode cX7_freeInTurn 25 = .ok (.getfield 39, 3) := by decide +kernel
theorem dX7_freeInTurn_28 : decode cX7_freeInTurn 28 = .ok (.iload 4, 2) := by decide +kernel
theorem dX7_freeInTurn_30 : decode cX7_freeInTurn 30 = .ok (.invokevirtual 146, 3) := by decide +kernel
theorem dX7_freeInTurn_33 : decode cX7_freeInTurn 33 = .ok (.aload_n 1, 1) := by decide +kernel
theorem dX7_freeInTurn_34 : decode cX7_freeInTurn 34 = .ok (.iload_n 2, 1) := by decide +kernel
theorem dX7_freeInTurn_35 : decode cX7_freeInTurn 35 = .ok (.iload 4, 2) := by decide +kernel
theorem dX7_freeInTurn_37 : decode cX7_freeInTurn 37 = .ok (.iadd, 1) := by decide +kernel
theorem dX7_freeInTurn_38 : decode cX7_freeInTurn 38 = .ok (.invokevirtual 177, 3) := by decide +kernel
theorem dX7_freeInTurn_41 : decode cX7_freeInTurn 41 = .ok (.invokestatic 107, 3) := by decide +kernel
theorem dX7_freeInTurn_44 : decode cX7_freeInTurn 44 = .ok (.ifCond .ne 6, 3) := by decide +kernel
theorem dX7_freeInTurn_47 : decode cX7_freeInTurn 47 = .ok (.iload 4, 2) := by decide +kernel
theorem dX7_freeInTurn_49 : decode cX7_freeInTurn 49 = .ok (.ireturn, 1) := by decide +kernel
theorem dX7_freeInTurn_50 : decode cX7_freeInTurn 50 = .ok (.aload_n 0, 1) := by decide +kernel
theorem dX7_freeInTurn_51 : decode cX7_freeInTurn 51 = .ok (.getfield 39, 3) := by decide +kernel
theorem dX7_freeInTurn_54 : decode cX7_freeInTurn 54 = .ok (.iload 4, 2) := by decide +kernel
theorem dX7_freeInTurn_56 : decode cX7_freeInTurn 56 = .ok (.invokevirtual 187, 3) := by decide +kernel
theorem dX7_freeInTurn_59 : decode cX7_freeInTurn 59 = .ok (.iinc 4 1, 3) := by decide +kernel
theorem dX7_freeInTurn_62 : decode cX7_freeInTurn 62 = .ok (.goto (-44), 3) := by decide +kernel
theorem dX7_freeInTurn_65 : decode cX7_freeInTurn 65 = .ok (.iload_n 3, 1) := by decide +kernel
theorem dX7_freeInTurn_66 : decode cX7_freeInTurn 66 = .ok (.ireturn, 1) := by decide +kernel
theorem dX7_sheet_0 : decode cX7_sheet 0 = .ok (.aload_n 0, 1) := by decide +kernel
theorem dX7_sheet_1 : decode cX7_sheet 1 = .ok (.iconst 0, 1) := by decide +kernel
theorem dX7_sheet_2 : decode cX7_sheet 2 = .ok (.putfield 50, 3) := by decide +kernel
theorem dX7_sheet_5 : decode cX7_sheet 5 = .ok (.aload_n 0, 1) := by decide +kernel
theorem dX7_sheet_6 : decode cX7_sheet 6 = .ok (.iload_n 1, 1) := by decide +kernel
theorem dX7_sheet_7 : decode cX7_sheet 7 = .ok (.invokevirtual 54, 3) := by decide +kernel
theorem dX7_sheet_10 : decode cX7_sheet 10 = .ok (.astore 4, 2) := by decide +kernel
theorem dX7_sheet_12 : decode cX7_sheet 12 = .ok (.aload 4, 2) := by decide +kernel
theorem dX7_sheet_14 : decode cX7_sheet 14 = .ok (.ifnonnull 5, 3) := by decide +kernel
theorem dX7_sheet_17 : decode cX7_sheet 17 = .ok (.iconst (-1), 1) := by decide +kernel
theorem dX7_sheet_18 : decode cX7_sheet 18 = .ok (.ireturn, 1) := by decide +kernel
theorem dX7_sheet_19 : decode cX7_sheet 19 = .ok (.iload_n 2, 1) := by decide +kernel
theorem dX7_sheet_20 : decode cX7_sheet 20 = .ok (.invokestatic 58, 3) := by decide +kernel
theorem dX7_sheet_23 : decode cX7_sheet 23 = .ok (.ifCond .eq 9, 3) := by decide +kernel
theorem dX7_sheet_26 : decode cX7_sheet 26 = .ok (.iload_n 3, 1) := by decide +kernel
theorem dX7_sheet_27 : decode cX7_sheet 27 = .ok (.bipush 50, 2) := by decide +kernel
theorem dX7_sheet_29 : decode cX7_sheet 29 = .ok (.if_icmp .le 6, 3) := by decide +kernel
theorem dX7_sheet_32 : decode cX7_sheet 32 = .ok (.bipush (-2), 2) := by decide +kernel
theorem dX7_sheet_34 : decode cX7_sheet 34 = .ok (.ireturn, 1) := by decide +kernel
theorem dX7_sheet_35 : decode cX7_sheet 35 = .ok (.iload_n 3, 1) := by decide +kernel
theorem dX7_sheet_36 : decode cX7_sheet 36 = .ok (.ifCond .ge 9, 3) := by decide +kernel
theorem dX7_sheet_39 : decode cX7_sheet 39 = .ok (.aload_n 0, 1) := by decide +kernel
theorem dX7_sheet_40 : decode cX7_sheet 40 = .ok (.iconst 4, 1) := by decide +kernel
theorem dX7_sheet_41 : decode cX7_sheet 41 = .ok (.invokevirtual 66, 3) := by decide +kernel
theorem dX7_sheet_44 : decode cX7_sheet 44 = .ok (.ireturn, 1) := by decide +kernel
theorem dX7_sheet_45 : decode cX7_sheet 45 = .ok (.aload 4, 2) := by decide +kernel
theorem dX7_sheet_47 : decode cX7_sheet 47 = .ok (.iload_n 2, 1) := by decide +kernel
theorem dX7_sheet_48 : decode cX7_sheet 48 = .ok (.iload_n 3, 1) := by decide +kernel
theorem dX7_sheet_49 : decode cX7_sheet 49 = .ok (.invokevirtual 190, 3) := by decide +kernel
theorem dX7_sheet_52 : decode cX7_sheet 52 = .ok (.iconst 1, 1) := by decide +kernel
theorem dX7_sheet_53 : decode cX7_sheet 53 = .ok (.ireturn, 1) := by decide +kernel
theorem dX7_lose_0 : decode cX7_lose 0 = .ok (.aload_n 0, 1) := by decide +kernel
theorem dX7_lose_1 : decode cX7_lose 1 = .ok (.iload_n 1, 1) := by decide +kernel
theorem dX7_lose_2 : decode cX7_lose 2 = .ok (.invokevirtual 54, 3) := by decide +kernel
theorem dX7_lose_5 : decode cX7_lose 5 = .ok (.astore_n 2, 1) := by decide +kernel
theorem dX7_lose_6 : decode cX7_lose 6 = .ok (.aload_n 2, 1) := by decide +kernel
theorem dX7_lose_7 : decode cX7_lose 7 = .ok (.ifnonnull 5, 3) := by decide +kernel
theorem dX7_lose_10 : decode cX7_lose 10 = .ok (.iconst (-1), 1) := by decide +kernel
theorem dX7_lose_11 : decode cX7_lose 11 = .ok (.ireturn, 1) := by decide +kernel
theorem dX7_lose_12 : decode cX7_lose 12 = .ok (.aload_n 2, 1) := by decide +kernel
theorem dX7_lose_13 : decode cX7_lose 13 = .ok (.getfield 193, 3) := by decide +kernel
theorem dX7_lose_16 : decode cX7_lose 16 = .ok (.ifCond .ne 5, 3) := by decide +kernel
theorem dX7_lose_19 : decode cX7_lose 19 = .ok (.iconst 0, 1) := by decide +kernel
theorem dX7_lose_20 : decode cX7_lose 20 = .ok (.ireturn, 1) := by decide +kernel
theorem dX7_lose_21 : decode cX7_lose 21 = .ok (.aload_n 2, 1) := by decide +kernel
theorem dX7_lose_22 : decode cX7_lose 22 = .ok (.iconst 0, 1) := by decide +kernel
theorem dX7_lose_23 : decode cX7_lose 23 = .ok (.putfield 193, 3) := by decide +kernel
theorem dX7_lose_26 : decode cX7_lose 26 = .ok (.iconst 1, 1) := by decide +kernel
theorem dX7_lose_27 : decode cX7_lose 27 = .ok (.ireturn, 1) := by decide +kernel
theorem dX7_put_0 : decode cX7_put 0 = .ok (.aload_n 0, 1) := by decide +kernel
theorem dX7_put_1 : decode cX7_put 1 = .ok (.iconst 0, 1) := by decide +kernel
theorem dX7_put_2 : decode cX7_put 2 = .ok (.putfield 50, 3) := by decide +kernel
theorem dX7_put_5 : decode cX7_put 5 = .ok (.aload_n 0, 1) := by decide +kernel
theorem dX7_put_6 : decode cX7_put 6 = .ok (.iload_n 1, 1) := by decide +kernel
theorem dX7_put_7 : decode cX7_put 7 = .ok (.invokevirtual 54, 3) := by decide +kernel
theorem dX7_put_10 : decode cX7_put 10 = .ok (.astore 4, 2) := by decide +kernel
theorem dX7_put_12 : decode cX7_put 12 = .ok (.aload 4, 2) := by decide +kernel
theorem dX7_put_14 : decode cX7_put 14 = .ok (.ifnonnull 5, 3) := by decide +kernel
theorem dX7_put_17 : decode cX7_put 17 = .ok (.iconst (-1), 1) := by decide +kernel
theorem dX7_put_18 : decode cX7_put 18 = .ok (.ireturn, 1) := by decide +kernel
theorem dX7_put_19 : decode cX7_put 19 = .ok (.aload 4, 2) := by decide +kernel
theorem dX7_put_21 : decode cX7_put 21 = .ok (.getfield 193, 3) := by decide +kernel
theorem dX7_put_24 : decode cX7_put 24 = .ok (.ifCond .ne 9, 3) := by decide +kernel
theorem dX7_put_27 : decode cX7_put 27 = .ok (.aload_n 0, 1) := by decide +kernel
theorem dX7_put_28 : decode cX7_put 28 = .ok (.iconst 1, 1) := by decide +kernel
theorem dX7_put_29 : decode cX7_put 29 = .ok (.invokevirtual 66, 3) := by decide +kernel
theorem dX7_put_32 : decode cX7_put 32 = .ok (.ireturn, 1) := by decide +kernel
theorem dX7_put_33 : decode cX7_put 33 = .ok (.aload 4, 2) := by decide +kernel
theorem dX7_put_35 : decode cX7_put 35 = .ok (.iload_n 2, 1) := by decide +kernel
theorem dX7_put_36 : decode cX7_put 36 = .ok (.iconst 1, 1) := by decide +kernel
theorem dX7_put_37 : decode cX7_put 37 = .ok (.invokevirtual 197, 3) := by decide +kernel
theorem dX7_put_40 : decode cX7_put 40 = .ok (.ifCond .ne 9, 3) := by decide +kernel
theorem dX7_put_43 : decode cX7_put 43 = .ok (.aload_n 0, 1) := by decide +kernel
theorem dX7_put_44 : decode cX7_put 44 = .ok (.iconst 3, 1) := by decide +kernel
theorem dX7_put_45 : decode cX7_put 45 = .ok (.invokevirtual 66, 3) := by decide +kernel
theorem dX7_put_48 : decode cX7_put 48 = .ok (.ireturn, 1) := by decide +kernel
theorem dX7_put_49 : decode cX7_put 49 = .ok (.aload 4, 2) := by decide +kernel
theorem dX7_put_51 : decode cX7_put 51 = .ok (.getfield 200, 3) := by decide +kernel
theorem dX7_put_54 : decode cX7_put 54 = .ok (.iload_n 2, 1) := by decide +kernel
theorem dX7_put_55 : decode cX7_put 55 = .ok (.iload_n 3, 1) := by decide +kernel
theorem dX7_put_56 : decode cX7_put 56 = .ok (.aload 4, 2) := by decide +kernel
theorem dX7_put_58 : decode cX7_put 58 = .ok (.getfield 203, 3) := by decide +kernel
theorem dX7_put_61 : decode cX7_put 61 = .ok (.invokestatic 206, 3) := by decide +kernel
theorem dX7_put_64 : decode cX7_put 64 = .ok (.iastore, 1) := by decide +kernel
theorem dX7_put_65 : decode cX7_put 65 = .ok (.iconst 1, 1) := by decide +kernel
theorem dX7_put_66 : decode cX7_put 66 = .ok (.ireturn, 1) := by decide +kernel
theorem dX7_cell_0 : decode cX7_cell 0 = .ok (.aload_n 0, 1) := by decide +kernel
theorem dX7_cell_1 : decode cX7_cell 1 = .ok (.iconst 0, 1) := by decide +kernel
theorem dX7_cell_2 : decode cX7_cell 2 = .ok (.putfield 50, 3) := by decide +kernel
theorem dX7_cell_5 : decode cX7_cell 5 = .ok (.aload_n 0, 1) := by decide +kernel
theorem dX7_cell_6 : decode cX7_cell 6 = .ok (.iload_n 1, 1) := by decide +kernel
theorem dX7_cell_7 : decode cX7_cell 7 = .ok (.invokevirtual 54, 3) := by decide +kernel
theorem dX7_cell_10 : decode cX7_cell 10 = .ok (.astore 4, 2) := by decide +kernel
theorem dX7_cell_12 : decode cX7_cell 12 = .ok (.aload 4, 2) := by decide +kernel
theorem dX7_cell_14 : decode cX7_cell 14 = .ok (.ifnull 10, 3) := by decide +kernel
theorem dX7_cell_17 : decode cX7_cell 17 = .ok (.iload_n 3, 1) := by decide +kernel
theorem dX7_cell_18 : decode cX7_cell 18 = .ok (.invokestatic 58, 3) := by decide +kernel
theorem dX7_cell_21 : decode cX7_cell 21 = .ok (.ifCond .ne 7, 3) := by decide +kernel
theorem dX7_cell_24 : decode cX7_cell 24 = .ok (.ldc2_w 165, 3) := by decide +kernel
theorem dX7_cell_27 : decode cX7_cell 27 = .ok (.lreturn, 1) := by decide +kernel
theorem dX7_cell_28 : decode cX7_cell 28 = .ok (.aload 4, 2) := by decide +kernel
theorem dX7_cell_30 : decode cX7_cell 30 = .ok (.iload_n 3, 1) := by decide +kernel
theorem dX7_cell_31 : decode cX7_cell 31 = .ok (.iload_n 2, 1) := by decide +kernel
theorem dX7_cell_32 : decode cX7_cell 32 = .ok (.iconst 1, 1) := by decide +kernel
theorem dX7_cell_33 : decode cX7_cell 33 = .ok (.invokevirtual 62, 3) := by decide +kernel
theorem dX7_cell_36 : decode cX7_cell 36 = .ok (.istore 5, 2) := by decide +kernel
theorem dX7_cell_38 : decode cX7_cell 38 = .ok (.iload 5, 2) := by decide +kernel
theorem dX7_cell_40 : decode cX7_cell 40 = .ok (.ifCond .eq 13, 3) := by decide +kernel
theorem dX7_cell_43 : decode cX7_cell 43 = .ok (.aload_n 0, 1) := by decide +kernel
theorem dX7_cell_44 : decode cX7_cell 44 = .ok (.iload 5, 2) := by decide +kernel
theorem dX7_cell_46 : decode cX7_cell 46 = .ok (.putfield 50, 3) := by decide +kernel
theorem dX7_cell_49 : decode cX7_cell 49 = .ok (.ldc2_w 165, 3) := by decide +kernel
theorem dX7_cell_52 : decode cX7_cell 52 = .ok (.lreturn, 1) := by decide +kernel
theorem dX7_cell_53 : decode cX7_cell 53 = .ok (.aload 4, 2) := by decide +kernel
theorem dX7_cell_55 : decode cX7_cell 55 = .ok (.iload_n 2, 1) := by decide +kernel
theorem dX7_cell_56 : decode cX7_cell 56 = .ok (.invokevirtual 177, 3) := by decide +kernel
theorem dX7_cell_59 : decode cX7_cell 59 = .ok (.i2l, 1) := by decide +kernel
theorem dX7_cell_60 : decode cX7_cell 60 = .ok (.lreturn, 1) := by decide +kernel
theorem dX7_copy_0 : decode cX7_copy 0 = .ok (.aload_n 0, 1) := by decide +kernel
theorem dX7_copy_1 : decode cX7_copy 1 = .ok (.iconst 0, 1) := by decide +kernel
theorem dX7_copy_2 : decode cX7_copy 2 = .ok (.putfield 50, 3) := by decide +kernel
theorem dX7_copy_5 : decode cX7_copy 5 = .ok (.aload_n 0, 1) := by decide +kernel
theorem dX7_copy_6 : decode cX7_copy 6 = .ok (.iload_n 1, 1) := by decide +kernel
theorem dX7_copy_7 : decode cX7_copy 7 = .ok (.invokevirtual 54, 3) := by decide +kernel
theorem dX7_copy_10 : decode cX7_copy 10 = .ok (.astore 6, 2) := by decide +kernel
theorem dX7_copy_12 : decode cX7_copy 12 = .ok (.aload_n 0, 1) := by decide +kernel
theorem dX7_copy_13 : decode cX7_copy 13 = .ok (.iload_n 3, 1) := by decide +kernel
theorem dX7_copy_14 : decode cX7_copy 14 = .ok (.invokevirtual 54, 3) := by decide +kernel
theorem dX7_copy_17 : decode cX7_copy 17 = .ok (.astore 7, 2) := by decide +kernel
theorem dX7_copy_19 : decode cX7_copy 19 = .ok (.aload 6, 2) := by decide +kernel
theorem dX7_copy_21 : decode cX7_copy 21 = .ok (.ifnull 8, 3) := by decide +kernel
theorem dX7_copy_24 : decode cX7_copy 24 = .ok (.aload 7, 2) := by decide +kernel
theorem dX7_copy_26 : decode cX7_copy 26 = .ok (.ifnonnull 5, 3) := by decide +kernel
theorem dX7_copy_29 : decode cX7_copy 29 = .ok (.iconst (-1), 1) := by decide +kernel
theorem dX7_copy_30 : decode cX7_copy 30 = .ok (.ireturn, 1) := by decide +kernel
theorem dX7_copy_31 : decode cX7_copy 31 = .ok (.aload 6, 2) := by decide +kernel
theorem dX7_copy_33 : decode cX7_copy 33 = .ok (.getfield 193, 3) := by decide +kernel
theorem dX7_copy_36 : decode cX7_copy 36 = .ok (.ifCond .eq 11, 3) := by decide +kernel
theorem dX7_copy_39 : decode cX7_copy 39 = .ok (.aload 7, 2) := by decide +kernel
theorem dX7_copy_41 : decode cX7_copy 41 = .ok (.getfield 193, 3) := by decide +kernel
theorem dX7_copy_44 : decode cX7_copy 44 = .ok (.ifCond .ne 9, 3) := by decide +kernel
theorem dX7_copy_47 : decode cX7_copy 47 = .ok (.aload_n 0, 1) := by decide +kernel
theorem dX7_copy_48 : decode cX7_copy 48 = .ok (.iconst 1, 1) := by decide +kernel
theorem dX7_copy_49 : decode cX7_copy 49 = .ok (.invokevirtual 66, 3) := by decide +kernel
theorem dX7_copy_52 : decode cX7_copy 52 = .ok (.ireturn, 1) := by decide +kernel
theorem dX7_copy_53 : decode cX7_copy 53 = .ok (.aload 6, 2) := by decide +kernel
theorem dX7_copy_55 : decode cX7_copy 55 = .ok (.getfield 203, 3) := by decide +kernel
theorem dX7_copy_58 : decode cX7_copy 58 = .ok (.aload 7, 2) := by decide +kernel
theorem dX7_copy_60 : decode cX7_copy 60 = .ok (.getfield 203, 3) := by decide +kernel
theorem dX7_copy_63 : decode cX7_copy 63 = .ok (.if_icmp .eq 9, 3) := by decide +kernel
theorem dX7_copy_66 : decode cX7_copy 66 = .ok (.aload_n 0, 1) := by decide +kernel
theorem dX7_copy_67 : decode cX7_copy 67 = .ok (.iconst 2, 1) := by decide +kernel
theorem dX7_copy_68 : decode cX7_copy 68 = .ok (.invokevirtual 66, 3) := by decide +kernel
theorem dX7_copy_71 : decode cX7_copy 71 = .ok (.ireturn, 1) := by decide +kernel
theorem dX7_copy_72 : decode cX7_copy 72 = .ok (.aload 6, 2) := by decide +kernel
theorem dX7_copy_74 : decode cX7_copy 74 = .ok (.iload_n 2, 1) := by decide +kernel
theorem dX7_copy_75 : decode cX7_copy 75 = .ok (.iload 5, 2) := by decide +kernel
theorem dX7_copy_77 : decode cX7_copy 77 = .ok (.invokevirtual 197, 3) := by decide +kernel
theorem dX7_copy_80 : decode cX7_copy 80 = .ok (.ifCond .eq 15, 3) := by decide +kernel
theorem dX7_copy_83 : decode cX7_copy 83 = .ok (.aload 7, 2) := by decide +kernel
theorem dX7_copy_85 : decode cX7_copy 85 = .ok (.iload 4, 2) := by decide +kernel
theorem dX7_copy_87 : decode cX7_copy 87 = .ok (.iload 5, 2) := by decide +kernel
theorem dX7_copy_89 : decode cX7_copy 89 = .ok (.invokevirtual 197, 3) := by decide +kernel
theorem dX7_copy_92 : decode cX7_copy 92 = .ok (.ifCond .ne 9, 3) := by decide +kernel
theorem dX7_copy_95 : decode cX7_copy 95 = .ok (.aload_n 0, 1) := by decide +kernel
theorem dX7_copy_96 : decode cX7_copy 96 = .ok (.iconst 3, 1) := by decide +kernel
theorem dX7_copy_97 : decode cX7_copy 97 = .ok (.invokevirtual 66, 3) := by decide +kernel
theorem dX7_copy_100 : decode cX7_copy 100 = .ok (.ireturn, 1) := by decide +kernel
theorem dX7_copy_101 : decode cX7_copy 101 = .ok (.aload 6, 2) := by decide +kernel
theorem dX7_copy_103 : decode cX7_copy 103 = .ok (.getfield 200, 3) := by decide +kernel
theorem dX7_copy_106 : decode cX7_copy 106 = .ok (.iload_n 2, 1) := by decide +kernel
theorem dX7_copy_107 : decode cX7_copy 107 = .ok (.aload 7, 2) := by decide +kernel
theorem dX7_copy_109 : decode cX7_copy 109 = .ok (.getfield 200, 3) := by decide +kernel
theorem dX7_copy_112 : decode cX7_copy 112 = .ok (.iload 4, 2) := by decide +kernel
theorem dX7_copy_114 : decode cX7_copy 114 = .ok (.iload 5, 2) := by decide +kernel
theorem dX7_copy_116 : decode cX7_copy 116 = .ok (.invokestatic 209, 3) := by decide +kernel
theorem dX7_copy_119 : decode cX7_copy 119 = .ok (.iload 5, 2) := by decide +kernel
theorem dX7_copy_121 : decode cX7_copy 121 = .ok (.ireturn, 1) := by decide +kernel
theorem dX7_tell_0 : decode cX7_tell 0 = .ok (.aload_n 0, 1) := by decide +kernel
theorem dX7_tell_1 : decode cX7_tell 1 = .ok (.getfield 14, 3) := by decide +kernel
theorem dX7_tell_4 : decode cX7_tell 4 = .ok (.iload_n 1, 1) := by decide +kernel
theorem dX7_tell_5 : decode cX7_tell 5 = .ok (.invokevirtual 85, 3) := by decide +kernel
theorem dX7_tell_8 : decode cX7_tell 8 = .ok (.ifCond .ne 5, 3) := by decide +kernel
theorem dX7_tell_11 : decode cX7_tell 11 = .ok (.iconst (-1), 1) := by decide +kernel
theorem dX7_tell_12 : decode cX7_tell 12 = .ok (.ireturn, 1) := by decide +kernel
theorem dX7_tell_13 : decode cX7_tell 13 = .ok (.aload_n 0, 1) := by decide +kernel
theorem dX7_tell_14 : decode cX7_tell 14 = .ok (.getfield 14, 3) := by decide +kernel
theorem dX7_tell_17 : decode cX7_tell 17 = .ok (.getfield 88, 3) := by decide +kernel
theorem dX7_tell_20 : decode cX7_tell 20 = .ok (.iload_n 1, 1) := by decide +kernel
theorem dX7_tell_21 : decode cX7_tell 21 = .ok (.iaload, 1) := by decide +kernel
theorem dX7_tell_22 : decode cX7_tell 22 = .ok (.lookupswitch 38 #[(1, 32), (2, 26)], 26) := by decide +kernel
theorem dX7_tell_48 : decode cX7_tell 48 = .ok (.aload_n 0, 1) := by decide +kernel
theorem dX7_tell_49 : decode cX7_tell 49 = .ok (.iload_n 1, 1) := by decide +kernel
theorem dX7_tell_50 : decode cX7_tell 50 = .ok (.invokevirtual 215, 3) := by decide +kernel
theorem dX7_tell_53 : decode cX7_tell 53 = .ok (.ireturn, 1) := by decide +kernel
theorem dX7_tell_54 : decode cX7_tell 54 = .ok (.aload_n 0, 1) := by decide +kernel
theorem dX7_tell_55 : decode cX7_tell 55 = .ok (.iload_n 1, 1) := by decide +kernel
theorem dX7_tell_56 : decode cX7_tell 56 = .ok (.invokevirtual 218, 3) := by decide +kernel
theorem dX7_tell_59 : decode cX7_tell 59 = .ok (.ireturn, 1) := by decide +kernel
theorem dX7_tell_60 : decode cX7_tell 60 = .ok (.aload_n 0, 1) := by decide +kernel
theorem dX7_tell_61 : decode cX7_tell 61 = .ok (.iload_n 1, 1) := by decide +kernel
theorem dX7_tell_62 : decode cX7_tell 62 = .ok (.invokevirtual 221, 3) := by decide +kernel
theorem dX7_tell_65 : decode cX7_tell 65 = .ok (.ireturn, 1) := by decide +kernel
theorem dX7_salute_0 : decode cX7_salute 0 = .ok (.aload_n 0, 1) := by decide +kernel
theorem dX7_salute_1 : decode cX7_salute 1 = .ok (.getfield 14, 3) := by decide +kernel
theorem dX7_salute_4 : decode cX7_salute 4 = .ok (.iload_n 1, 1) := by decide +kernel
theorem dX7_salute_5 : decode cX7_salute 5 = .ok (.invokevirtual 85, 3) := by decide +kernel
theorem dX7_salute_8 : decode cX7_salute 8 = .ok (.ifCond .ne 5, 3) := by decide +kernel
theorem dX7_salute_11 : decode cX7_salute 11 = .ok (.iconst (-1), 1) := by decide +kernel
theorem dX7_salute_12 : decode cX7_salute 12 = .ok (.ireturn, 1) := by decide +kernel
theorem dX7_salute_13 : decode cX7_salute 13 = .ok (.aload_n 0, 1) := by decide +kernel
theorem dX7_salute_14 : decode cX7_salute 14 = .ok (.getfield 14, 3) := by decide +kernel
theorem dX7_salute_17 : decode cX7_salute 17 = .ok (.getfield 88, 3) := by decide +kernel
theorem dX7_salute_20 : decode cX7_salute 20 = .ok (.iload_n 1, 1) := by decide +kernel
theorem dX7_salute_21 : decode cX7_salute 21 = .ok (.iaload, 1) := by decide +kernel
theorem dX7_salute_22 : decode cX7_salute 22 = .ok (.iconst 2, 1) := by decide +kernel
theorem dX7_salute_23 : decode cX7_salute 23 = .ok (.if_icmp .ne 10, 3) := by decide +kernel
theorem dX7_salute_26 : decode cX7_salute 26 = .ok (.aload_n 0, 1) := by decide +kernel
theorem dX7_salute_27 : decode cX7_salute 27 = .ok (.invokevirtual 224, 3) := by decide +kernel
theorem dX7_salute_30 : decode cX7_salute 30 = .ok (.goto 8, 3) := by decide +kernel
theorem dX7_salute_33 : decode cX7_salute 33 = .ok (.aload_n 0, 1) := by decide +kernel
theorem dX7_salute_34 : decode cX7_salute 34 = .ok (.iload_n 1, 1) := by decide +kernel
theorem dX7_salute_35 : decode cX7_salute 35 = .ok (.invokevirtual 228, 3) := by decide +kernel
theorem dX7_salute_38 : decode cX7_salute 38 = .ok (.ireturn, 1) := by decide +kernel
theorem dX7_as_0 : decode cX7_as 0 = .ok (.aload_n 0, 1) := by decide +kernel
theorem dX7_as_1 : decode cX7_as 1 = .ok (.iconst 0, 1) := by decide +kernel
theorem dX7_as_2 : decode cX7_as 2 = .ok (.putfield 50, 3) := by decide +kernel
theorem dX7_as_5 : decode cX7_as 5 = .ok (.aload_n 0, 1) := by decide +kernel
theorem dX7_as_6 : decode cX7_as 6 = .ok (.getfield 14, 3) := by decide +kernel
theorem dX7_as_9 : decode cX7_as 9 = .ok (.iload_n 1, 1) := by decide +kernel
theorem dX7_as_10 : decode cX7_as 10 = .ok (.invokevirtual 85, 3) := by decide +kernel
theorem dX7_as_13 : decode cX7_as 13 = .ok (.ifCond .ne 5, 3) := by decide +kernel
theorem dX7_as_16 : decode cX7_as 16 = .ok (.iconst (-1), 1) := by decide +kernel
theorem dX7_as_17 : decode cX7_as 17 = .ok (.ireturn, 1) := by decide +kernel
theorem dX7_as_18 : decode cX7_as 18 = .ok (.iload_n 2, 1) := by decide +kernel
theorem dX7_as_19 : decode cX7_as 19 = .ok (.ifCond .lt 8, 3) := by decide +kernel
theorem dX7_as_22 : decode cX7_as 22 = .ok (.iload_n 2, 1) := by decide +kernel
theorem dX7_as_23 : decode cX7_as 23 = .ok (.iconst 3, 1) := by decide +kernel
theorem dX7_as_24 : decode cX7_as 24 = .ok (.if_icmp .lt 6, 3) := by decide +kernel
theorem dX7_as_27 : decode cX7_as 27 = .ok (.bipush (-2), 2) := by decide +kernel
theorem dX7_as_29 : decode cX7_as 29 = .ok (.ireturn, 1) := by decide +kernel
theorem dX7_as_30 : decode cX7_as 30 = .ok (.aload_n 0, 1) := by decide +kernel
theorem dX7_as_31 : decode cX7_as 31 = .ok (.getfield 14, 3) := by decide +kernel
theorem dX7_as_34 : decode cX7_as 34 = .ok (.getfield 88, 3) := by decide +kernel
theorem dX7_as_37 : decode cX7_as 37 = .ok (.iload_n 1, 1) := by decide +kernel
theorem dX7_as_38 : decode cX7_as 38 = .ok (.iaload, 1) := by decide +kernel
theorem dX7_as_39 : decode cX7_as 39 = .ok (.iload_n 2, 1) := by decide +kernel
theorem dX7_as_40 : decode cX7_as 40 = .ok (.if_icmp .lt 7, 3) := by decide +kernel
theorem dX7_as_43 : decode cX7_as 43 = .ok (.iconst 1, 1) := by decide +kernel
theorem dX7_as_44 : decode cX7_as 44 = .ok (.goto 8, 3) := by decide +kernel
theorem dX7_as_47 : decode cX7_as 47 = .ok (.aload_n 0, 1) := by decide +kernel
theorem dX7_as_48 : decode cX7_as 48 = .ok (.iconst 2, 1) := by decide +kernel
theorem dX7_as_49 : decode cX7_as 49 = .ok (.invokevirtual 66, 3) := by decide +kernel
theorem dX7_as_52 : decode cX7_as 52 = .ok (.ireturn, 1) := by decide +kernel
theorem dX7_trace_0 : decode cX7_trace 0 = .ok (.aload_n 0, 1) := by decide +kernel
theorem dX7_trace_1 : decode cX7_trace 1 = .ok (.getfield 231, 3) := by decide +kernel
theorem dX7_trace_4 : decode cX7_trace 4 = .ok (.ireturn, 1) := by decide +kernel
theorem dX7_fault_0 : decode cX7_fault 0 = .ok (.aload_n 0, 1) := by decide +kernel
theorem dX7_fault_1 : decode cX7_fault 1 = .ok (.getfield 50, 3) := by decide +kernel
theorem dX7_fault_4 : decode cX7_fault 4 = .ok (.ireturn, 1) := by decide +kernel
theorem dX7_many_0 : decode cX7_many 0 = .ok (.iload_n 1, 1) := by decide +kernel
theorem dX7_many_1 : decode cX7_many 1 = .ok (.tableswitch 83 0 3 #[31, 39, 47, 55], 31) := by decide +kernel
theorem dX7_many_32 : decode cX7_many 32 = .ok (.aload_n 0, 1) := by decide +kernel
theorem dX7_many_33 : decode cX7_many 33 = .ok (.getfield 14, 3) := by decide +kernel
theorem dX7_many_36 : decode cX7_many 36 = .ok (.getfield 84, 3) := by decide +kernel
theorem dX7_many_39 : decode cX7_many 39 = .ok (.ireturn, 1) := by decide +kernel
theorem dX7_many_40 : decode cX7_many 40 = .ok (.aload_n 0, 1) := by decide +kernel
theorem dX7_many_41 : decode cX7_many 41 = .ok (.getfield 23, 3) := by decide +kernel
theorem dX7_many_44 : decode cX7_many 44 = .ok (.getfield 80, 3) := by decide +kernel
theorem dX7_many_47 : decode cX7_many 47 = .ok (.ireturn, 1) := by decide +kernel
theorem dX7_many_48 : decode cX7_many 48 = .ok (.aload_n 0, 1) := by decide +kernel
theorem dX7_many_49 : decode cX7_many 49 = .ok (.getfield 30, 3) := by decide +kernel
theorem dX7_many_52 : decode cX7_many 52 = .ok (.getfield 83, 3) := by decide +kernel
theorem dX7_many_55 : decode cX7_many 55 = .ok (.ireturn, 1) := by decide +kernel
theorem dX7_many_56 : decode cX7_many 56 = .ok (.aload_n 0, 1) := by decide +kernel
theorem dX7_many_57 : decode cX7_many 57 = .ok (.getfield 39, 3) := by decide +kernel
theorem dX7_many_60 : decode cX7_many 60 = .ok (.iconst (-1), 1) := by decide +kernel
theorem dX7_many_61 : decode cX7_many 61 = .ok (.aload_n 0, 1) := by decide +kernel
theorem dX7_many_62 : decode cX7_many 62 = .ok (.getfield 14, 3) := by decide +kernel
theorem dX7_many_65 : decode cX7_many 65 = .ok (.getfield 104, 3) := by decide +kernel
theorem dX7_many_68 : decode cX7_many 68 = .ok (.bipush 59, 2) := by decide +kernel
theorem dX7_many_70 : decode cX7_many 70 = .ok (.invokevirtual 131, 3) := by decide +kernel
theorem dX7_many_73 : decode cX7_many 73 = .ok (.aload_n 0, 1) := by decide +kernel
theorem dX7_many_74 : decode cX7_many 74 = .ok (.getfield 39, 3) := by decide +kernel
theorem dX7_many_77 : decode cX7_many 77 = .ok (.getfield 135, 3) := by decide +kernel
theorem dX7_many_80 : decode cX7_many 80 = .ok (.getfield 139, 3) := by decide +kernel
theorem dX7_many_83 : decode cX7_many 83 = .ok (.ireturn, 1) := by decide +kernel
theorem dX7_many_84 : decode cX7_many 84 = .ok (.bipush (-2), 2) := by decide +kernel
theorem dX7_many_86 : decode cX7_many 86 = .ok (.ireturn, 1) := by decide +kernel
theorem dX7_tellGentleman_0 : decode cX7_tellGentleman 0 = .ok (.aload_n 0, 1) := by decide +kernel
theorem dX7_tellGentleman_1 : decode cX7_tellGentleman 1 = .ok (.iconst 1, 1) := by decide +kernel
theorem dX7_tellGentleman_2 : decode cX7_tellGentleman 2 = .ok (.invokevirtual 234, 3) := by decide +kernel
theorem dX7_tellGentleman_5 : decode cX7_tellGentleman 5 = .ok (.aload_n 0, 1) := by decide +kernel
theorem dX7_tellGentleman_6 : decode cX7_tellGentleman 6 = .ok (.getfield 14, 3) := by decide +kernel
theorem dX7_tellGentleman_9 : decode cX7_tellGentleman 9 = .ok (.getfield 92, 3) := by decide +kernel
theorem dX7_tellGentleman_12 : decode cX7_tellGentleman 12 = .ok (.iload_n 1, 1) := by decide +kernel
theorem dX7_tellGentleman_13 : decode cX7_tellGentleman 13 = .ok (.iaload, 1) := by decide +kernel
theorem dX7_tellGentleman_14 : decode cX7_tellGentleman 14 = .ok (.ireturn, 1) := by decide +kernel
theorem dX7_tellHothead_0 : decode cX7_tellHothead 0 = .ok (.aload_n 0, 1) := by decide +kernel
theorem dX7_tellHothead_1 : decode cX7_tellHothead 1 = .ok (.iconst 2, 1) := by decide +kernel
theorem dX7_tellHothead_2 : decode cX7_tellHothead 2 = .ok (.invokevirtual 234, 3) := by decide +kernel
theorem dX7_tellHothead_5 : decode cX7_tellHothead 5 = .ok (.aload_n 0, 1) := by decide +kernel
theorem dX7_tellHothead_6 : decode cX7_tellHothead 6 = .ok (.iload_n 1, 1) := by decide +kernel
theorem dX7_tellHothead_7 : decode cX7_tellHothead 7 = .ok (.invokevirtual 221, 3) := by decide +kernel
theorem dX7_tellHothead_10 : decode cX7_tellHothead 10 = .ok (.bipush 100, 2) := by decide +kernel
theorem dX7_tellHothead_12 : decode cX7_tellHothead 12 = .ok (.iadd, 1) := by decide +kernel
theorem dX7_tellHothead_13 : decode cX7_tellHothead 13 = .ok (.ireturn, 1) := by decide +kernel
theorem dX7_tellOfficer_0 : decode cX7_tellOfficer 0 = .ok (.aload_n 0, 1) := by decide +kernel
theorem dX7_tellOfficer_1 : decode cX7_tellOfficer 1 = .ok (.iconst 3, 1) := by decide +kernel
theorem dX7_tellOfficer_2 : decode cX7_tellOfficer 2 = .ok (.invokevirtual 234, 3) := by decide +kernel
theorem dX7_tellOfficer_5 : decode cX7_tellOfficer 5 = .ok (.aload_n 0, 1) := by decide +kernel
theorem dX7_tellOfficer_6 : decode cX7_tellOfficer 6 = .ok (.iload_n 1, 1) := by decide +kernel
theorem dX7_tellOfficer_7 : decode cX7_tellOfficer 7 = .ok (.invokevirtual 218, 3) := by decide +kernel
theorem dX7_tellOfficer_10 : decode cX7_tellOfficer 10 = .ok (.istore_n 2, 1) := by decide +kernel
theorem dX7_tellOfficer_11 : decode cX7_tellOfficer 11 = .ok (.iload_n 2, 1) := by decide +kernel
theorem dX7_tellOfficer_12 : decode cX7_tellOfficer 12 = .ok (.aload_n 0, 1) := by decide +kernel
theorem dX7_tellOfficer_13 : decode cX7_tellOfficer 13 = .ok (.iload_n 1, 1) := by decide +kernel
theorem dX7_tellOfficer_14 : decode cX7_tellOfficer 14 = .ok (.invokevirtual 221, 3) := by decide +kernel
theorem dX7_tellOfficer_17 : decode cX7_tellOfficer 17 = .ok (.iadd, 1) := by decide +kernel
theorem dX7_tellOfficer_18 : decode cX7_tellOfficer 18 = .ok (.ireturn, 1) := by decide +kernel
theorem dX7_saluteByLentBody_0 : decode cX7_saluteByLentBody 0 = .ok (.aload_n 0, 1) := by decide +kernel
theorem dX7_saluteByLentBody_1 : decode cX7_saluteByLentBody 1 = .ok (.iconst 4, 1) := by decide +kernel
theorem dX7_saluteByLentBody_2 : decode cX7_saluteByLentBody 2 = .ok (.invokevirtual 234, 3) := by decide +kernel
theorem dX7_saluteByLentBody_5 : decode cX7_saluteByLentBody 5 = .ok (.iload_n 1, 1) := by decide +kernel
theorem dX7_saluteByLentBody_6 : decode cX7_saluteByLentBody 6 = .ok (.ireturn, 1) := by decide +kernel
theorem dX7_saluteOfficer_0 : decode cX7_saluteOfficer 0 = .ok (.aload_n 0, 1) := by decide +kernel
theorem dX7_saluteOfficer_1 : decode cX7_saluteOfficer 1 = .ok (.iconst 5, 1) := by decide +kernel
theorem dX7_saluteOfficer_2 : decode cX7_saluteOfficer 2 = .ok (.invokevirtual 234, 3) := by decide +kernel
theorem dX7_saluteOfficer_5 : decode cX7_saluteOfficer 5 = .ok (.bipush 80, 2) := by decide +kernel
theorem dX7_saluteOfficer_7 : decode cX7_saluteOfficer 7 = .ok (.ireturn, 1) := by decide +kernel
theorem dX7_leave_0 : decode cX7_leave 0 = .ok (.aload_n 0, 1) := by decide +kernel
theorem dX7_leave_1 : decode cX7_leave 1 = .ok (.bipush 31, 2) := by decide +kernel
theorem dX7_leave_3 : decode cX7_leave 3 = .ok (.aload_n 0, 1) := by decide +kernel
theorem dX7_leave_4 : decode cX7_leave 4 = .ok (.getfield 231, 3) := by decide +kernel
theorem dX7_leave_7 : decode cX7_leave 7 = .ok (.imul, 1) := by decide +kernel
theorem dX7_leave_8 : decode cX7_leave 8 = .ok (.iload_n 1, 1) := by decide +kernel
theorem dX7_leave_9 : decode cX7_leave 9 = .ok (.iadd, 1) := by decide +kernel
theorem dX7_leave_10 : decode cX7_leave 10 = .ok (.putfield 231, 3) := by decide +kernel
theorem dX7_leave_13 : decode cX7_leave 13 = .ok (.return_, 1) := by decide +kernel
theorem dX7_isEmpty_0 : decode cX7_isEmpty 0 = .ok (.aload_n 0, 1) := by decide +kernel
theorem dX7_isEmpty_1 : decode cX7_isEmpty 1 = .ok (.getfield 14, 3) := by decide +kernel
theorem dX7_isEmpty_4 : decode cX7_isEmpty 4 = .ok (.getfield 84, 3) := by decide +kernel
theorem dX7_isEmpty_7 : decode cX7_isEmpty 7 = .ok (.ifCond .ne 7, 3) := by decide +kernel
theorem dX7_isEmpty_10 : decode cX7_isEmpty 10 = .ok (.iconst 1, 1) := by decide +kernel
theorem dX7_isEmpty_11 : decode cX7_isEmpty 11 = .ok (.goto 4, 3) := by decide +kernel
theorem dX7_isEmpty_14 : decode cX7_isEmpty 14 = .ok (.iconst 0, 1) := by decide +kernel
theorem dX7_isEmpty_15 : decode cX7_isEmpty 15 = .ok (.ireturn, 1) := by decide +kernel
theorem dX7_sheetOf_0 : decode cX7_sheetOf 0 = .ok (.iload_n 1, 1) := by decide +kernel
theorem dX7_sheetOf_1 : decode cX7_sheetOf 1 = .ok (.ifCond .lt 17, 3) := by decide +kernel
theorem dX7_sheetOf_4 : decode cX7_sheetOf 4 = .ok (.iload_n 1, 1) := by decide +kernel
theorem dX7_sheetOf_5 : decode cX7_sheetOf 5 = .ok (.iconst 4, 1) := by decide +kernel
theorem dX7_sheetOf_6 : decode cX7_sheetOf 6 = .ok (.if_icmp .ge 12, 3) := by decide +kernel
theorem dX7_sheetOf_9 : decode cX7_sheetOf 9 = .ok (.aload_n 0, 1) := by decide +kernel
theorem dX7_sheetOf_10 : decode cX7_sheetOf 10 = .ok (.getfield 45, 3) := by decide +kernel
theorem dX7_sheetOf_13 : decode cX7_sheetOf 13 = .ok (.iload_n 1, 1) := by decide +kernel
theorem dX7_sheetOf_14 : decode cX7_sheetOf 14 = .ok (.aaload, 1) := by decide +kernel
theorem dX7_sheetOf_15 : decode cX7_sheetOf 15 = .ok (.goto 4, 3) := by decide +kernel
theorem dX7_sheetOf_18 : decode cX7_sheetOf 18 = .ok (.aconst_null, 1) := by decide +kernel
theorem dX7_sheetOf_19 : decode cX7_sheetOf 19 = .ok (.areturn, 1) := by decide +kernel
theorem dX7_faulted_0 : decode cX7_faulted 0 = .ok (.aload_n 0, 1) := by decide +kernel
theorem dX7_faulted_1 : decode cX7_faulted 1 = .ok (.iload_n 1, 1) := by decide +kernel
theorem dX7_faulted_2 : decode cX7_faulted 2 = .ok (.putfield 50, 3) := by decide +kernel
theorem dX7_faulted_5 : decode cX7_faulted 5 = .ok (.bipush (-10), 2) := by decide +kernel
theorem dX7_faulted_7 : decode cX7_faulted 7 = .ok (.iload_n 1, 1) := by decide +kernel
theorem dX7_faulted_8 : decode cX7_faulted 8 = .ok (.isub, 1) := by decide +kernel
theorem dX7_faulted_9 : decode cX7_faulted 9 = .ok (.ireturn, 1) := by decide +kernel
theorem dX7_isLane_0 : decode cX7_isLane 0 = .ok (.iload_n 0, 1) := by decide +kernel
theorem dX7_isLane_1 : decode cX7_isLane 1 = .ok (.ifCond .lt 12, 3) := by decide +kernel
theorem dX7_isLane_4 : decode cX7_isLane 4 = .ok (.iload_n 0, 1) := by decide +kernel
theorem dX7_isLane_5 : decode cX7_isLane 5 = .ok (.iconst 3, 1) := by decide +kernel
theorem dX7_isLane_6 : decode cX7_isLane 6 = .ok (.if_icmp .ge 7, 3) := by decide +kernel
theorem dX7_isLane_9 : decode cX7_isLane 9 = .ok (.iconst 1, 1) := by decide +kernel
theorem dX7_isLane_10 : decode cX7_isLane 10 = .ok (.goto 4, 3) := by decide +kernel
theorem dX7_isLane_13 : decode cX7_isLane 13 = .ok (.iconst 0, 1) := by decide +kernel
theorem dX7_isLane_14 : decode cX7_isLane 14 = .ok (.ireturn, 1) := by decide +kernel
theorem dX7_isDay_0 : decode cX7_isDay 0 = .ok (.iload_n 0, 1) := by decide +kernel
theorem dX7_isDay_1 : decode cX7_isDay 1 = .ok (.ifCond .lt 13, 3) := by decide +kernel
theorem dX7_isDay_4 : decode cX7_isDay 4 = .ok (.iload_n 0, 1) := by decide +kernel
theorem dX7_isDay_5 : decode cX7_isDay 5 = .ok (.bipush 30, 2) := by decide +kernel
theorem dX7_isDay_7 : decode cX7_isDay 7 = .ok (.if_icmp .ge 7, 3) := by decide +kernel
theorem dX7_isDay_10 : decode cX7_isDay 10 = .ok (.iconst 1, 1) := by decide +kernel
theorem dX7_isDay_11 : decode cX7_isDay 11 = .ok (.goto 4, 3) := by decide +kernel
theorem dX7_isDay_14 : decode cX7_isDay 14 = .ok (.iconst 0, 1) := by decide +kernel
theorem dX7_isDay_15 : decode cX7_isDay 15 = .ok (.ireturn, 1) := by decide +kernel
theorem dX7_isDawn_0 : decode cX7_isDawn 0 = .ok (.iload_n 0, 1) := by decide +kernel
theorem dX7_isDawn_1 : decode cX7_isDawn 1 = .ok (.ifCond .lt 13, 3) := by decide +kernel
theorem dX7_isDawn_4 : decode cX7_isDawn 4 = .ok (.iload_n 0, 1) := by decide +kernel
theorem dX7_isDawn_5 : decode cX7_isDawn 5 = .ok (.bipush 60, 2) := by decide +kernel
theorem dX7_isDawn_7 : decode cX7_isDawn 7 = .ok (.if_icmp .ge 7, 3) := by decide +kernel
theorem dX7_isDawn_10 : decode cX7_isDawn 10 = .ok (.iconst 1, 1) := by decide +kernel
theorem dX7_isDawn_11 : decode cX7_isDawn 11 = .ok (.goto 4, 3) := by decide +kernel
theorem dX7_isDawn_14 : decode cX7_isDawn 14 = .ok (.iconst 0, 1) := by decide +kernel
theorem dX7_isDawn_15 : decode cX7_isDawn 15 = .ok (.ireturn, 1) := by decide +kernel
theorem dX7_bit_0 : decode cX7_bit 0 = .ok (.iconst 1, 1) := by decide +kernel
theorem dX7_bit_1 : decode cX7_bit 1 = .ok (.iload_n 0, 1) := by decide +kernel
theorem dX7_bit_2 : decode cX7_bit 2 = .ok (.ishl, 1) := by decide +kernel
theorem dX7_bit_3 : decode cX7_bit 3 = .ok (.ireturn, 1) := by decide +kernel
theorem dX7_in_0 : decode cX7_in 0 = .ok (.iload_n 0, 1) := by decide +kernel
theorem dX7_in_1 : decode cX7_in 1 = .ok (.iload_n 1, 1) := by decide +kernel
theorem dX7_in_2 : decode cX7_in 2 = .ok (.ishr, 1) := by decide +kernel
theorem dX7_in_3 : decode cX7_in 3 = .ok (.iconst 1, 1) := by decide +kernel
theorem dX7_in_4 : decode cX7_in 4 = .ok (.iand, 1) := by decide +kernel
theorem dX7_in_5 : decode cX7_in 5 = .ok (.iconst 1, 1) := by decide +kernel
theorem dX7_in_6 : decode cX7_in 6 = .ok (.if_icmp .ne 7, 3) := by decide +kernel
theorem dX7_in_9 : decode cX7_in 9 = .ok (.iconst 1, 1) := by decide +kernel
theorem dX7_in_10 : decode cX7_in 10 = .ok (.goto 4, 3) := by decide +kernel
theorem dX7_in_13 : decode cX7_in 13 = .ok (.iconst 0, 1) := by decide +kernel
theorem dX7_in_14 : decode cX7_in 14 = .ok (.ireturn, 1) := by decide +kernel
theorem dX7_cut_0 : decode cX7_cut 0 = .ok (.iload_n 1, 1) := by decide +kernel
theorem dX7_cut_1 : decode cX7_cut 1 = .ok (.lookupswitch 33 #[(0, 27), (1, 30)], 27) := by decide +kernel
theorem dX7_cut_28 : decode cX7_cut 28 = .ok (.iload_n 0, 1) := by decide +kernel
theorem dX7_cut_29 : decode cX7_cut 29 = .ok (.i2b, 1) := by decide +kernel
theorem dX7_cut_30 : decode cX7_cut 30 = .ok (.ireturn, 1) := by decide +kernel
theorem dX7_cut_31 : decode cX7_cut 31 = .ok (.iload_n 0, 1) := by decide +kernel
theorem dX7_cut_32 : decode cX7_cut 32 = .ok (.i2s, 1) := by decide +kernel
theorem dX7_cut_33 : decode cX7_cut 33 = .ok (.ireturn, 1) := by decide +kernel
theorem dX7_cut_34 : decode cX7_cut 34 = .ok (.iload_n 0, 1) := by decide +kernel
theorem dX7_cut_35 : decode cX7_cut 35 = .ok (.ireturn, 1) := by decide +kernel
theorem dJ6_bitCount_0f7a4_0 : decode cJ6_bitCount_0f7a4 0 = .ok (.iload_n 0, 1) := by decide +kernel
theorem dJ6_bitCount_0f7a4_1 : decode cJ6_bitCount_0f7a4 1 = .ok (.iload_n 0, 1) := by decide +kernel
theorem dJ6_bitCount_0f7a4_2 : decode cJ6_bitCount_0f7a4 2 = .ok (.iconst 1, 1) := by decide +kernel
theorem dJ6_bitCount_0f7a4_3 : decode cJ6_bitCount_0f7a4 3 = .ok (.iushr, 1) := by decide +kernel
theorem dJ6_bitCount_0f7a4_4 : decode cJ6_bitCount_0f7a4 4 = .ok (.ldc_w 265, 3) := by decide +kernel
theorem dJ6_bitCount_0f7a4_7 : decode cJ6_bitCount_0f7a4 7 = .ok (.iand, 1) := by decide +kernel
theorem dJ6_bitCount_0f7a4_8 : decode cJ6_bitCount_0f7a4 8 = .ok (.isub, 1) := by decide +kernel
theorem dJ6_bitCount_0f7a4_9 : decode cJ6_bitCount_0f7a4 9 = .ok (.istore_n 0, 1) := by decide +kernel
theorem dJ6_bitCount_0f7a4_10 : decode cJ6_bitCount_0f7a4 10 = .ok (.iload_n 0, 1) := by decide +kernel
theorem dJ6_bitCount_0f7a4_11 : decode cJ6_bitCount_0f7a4 11 = .ok (.ldc_w 266, 3) := by decide +kernel
theorem dJ6_bitCount_0f7a4_14 : decode cJ6_bitCount_0f7a4 14 = .ok (.iand, 1) := by decide +kernel
theorem dJ6_bitCount_0f7a4_15 : decode cJ6_bitCount_0f7a4 15 = .ok (.iload_n 0, 1) := by decide +kernel
theorem dJ6_bitCount_0f7a4_16 : decode cJ6_bitCount_0f7a4 16 = .ok (.iconst 2, 1) := by decide +kernel
theorem dJ6_bitCount_0f7a4_17 : decode cJ6_bitCount_0f7a4 17 = .ok (.iushr, 1) := by decide +kernel
theorem dJ6_bitCount_0f7a4_18 : decode cJ6_bitCount_0f7a4 18 = .ok (.ldc_w 266, 3) := by decide +kernel
theorem dJ6_bitCount_0f7a4_21 : decode cJ6_bitCount_0f7a4 21 = .ok (.iand, 1) := by decide +kernel
theorem dJ6_bitCount_0f7a4_22 : decode cJ6_bitCount_0f7a4 22 = .ok (.iadd, 1) := by decide +kernel
theorem dJ6_bitCount_0f7a4_23 : decode cJ6_bitCount_0f7a4 23 = .ok (.istore_n 0, 1) := by decide +kernel
theorem dJ6_bitCount_0f7a4_24 : decode cJ6_bitCount_0f7a4 24 = .ok (.iload_n 0, 1) := by decide +kernel
theorem dJ6_bitCount_0f7a4_25 : decode cJ6_bitCount_0f7a4 25 = .ok (.iload_n 0, 1) := by decide +kernel
theorem dJ6_bitCount_0f7a4_26 : decode cJ6_bitCount_0f7a4 26 = .ok (.iconst 4, 1) := by decide +kernel
theorem dJ6_bitCount_0f7a4_27 : decode cJ6_bitCount_0f7a4 27 = .ok (.iushr, 1) := by decide +kernel
theorem dJ6_bitCount_0f7a4_28 : decode cJ6_bitCount_0f7a4 28 = .ok (.iadd, 1) := by decide +kernel
theorem dJ6_bitCount_0f7a4_29 : decode cJ6_bitCount_0f7a4 29 = .ok (.ldc_w 267, 3) := by decide +kernel
theorem dJ6_bitCount_0f7a4_32 : decode cJ6_bitCount_0f7a4 32 = .ok (.iand, 1) := by decide +kernel
theorem dJ6_bitCount_0f7a4_33 : decode cJ6_bitCount_0f7a4 33 = .ok (.istore_n 0, 1) := by decide +kernel
theorem dJ6_bitCount_0f7a4_34 : decode cJ6_bitCount_0f7a4 34 = .ok (.iload_n 0, 1) := by decide +kernel
theorem dJ6_bitCount_0f7a4_35 : decode cJ6_bitCount_0f7a4 35 = .ok (.iload_n 0, 1) := by decide +kernel
theorem dJ6_bitCount_0f7a4_36 : decode cJ6_bitCount_0f7a4 36 = .ok (.bipush 8, 2) := by decide +kernel
theorem dJ6_bitCount_0f7a4_38 : decode cJ6_bitCount_0f7a4 38 = .ok (.iushr, 1) := by decide +kernel
theorem dJ6_bitCount_0f7a4_39 : decode cJ6_bitCount_0f7a4 39 = .ok (.iadd, 1) := by decide +kernel
theorem dJ6_bitCount_0f7a4_40 : decode cJ6_bitCount_0f7a4 40 = .ok (.istore_n 0, 1) := by decide +kernel
theorem dJ6_bitCount_0f7a4_41 : decode cJ6_bitCount_0f7a4 41 = .ok (.iload_n 0, 1) := by decide +kernel
theorem dJ6_bitCount_0f7a4_42 : decode cJ6_bitCount_0f7a4 42 = .ok (.iload_n 0, 1) := by decide +kernel
theorem dJ6_bitCount_0f7a4_43 : decode cJ6_bitCount_0f7a4 43 = .ok (.bipush 16, 2) := by decide +kernel
theorem dJ6_bitCount_0f7a4_45 : decode cJ6_bitCount_0f7a4 45 = .ok (.iushr, 1) := by decide +kernel
theorem dJ6_bitCount_0f7a4_46 : decode cJ6_bitCount_0f7a4 46 = .ok (.iadd, 1) := by decide +kernel
theorem dJ6_bitCount_0f7a4_47 : decode cJ6_bitCount_0f7a4 47 = .ok (.istore_n 0, 1) := by decide +kernel
theorem dJ6_bitCount_0f7a4_48 : decode cJ6_bitCount_0f7a4 48 = .ok (.iload_n 0, 1) := by decide +kernel
theorem dJ6_bitCount_0f7a4_49 : decode cJ6_bitCount_0f7a4 49 = .ok (.bipush 63, 2) := by decide +kernel
theorem dJ6_bitCount_0f7a4_51 : decode cJ6_bitCount_0f7a4 51 = .ok (.iand, 1) := by decide +kernel
theorem dJ6_bitCount_0f7a4_52 : decode cJ6_bitCount_0f7a4 52 = .ok (.ireturn, 1) := by decide +kernel
theorem dJ9_abs_0f7a4_0 : decode cJ9_abs_0f7a4 0 = .ok (.iload_n 0, 1) := by decide +kernel
theorem dJ9_abs_0f7a4_1 : decode cJ9_abs_0f7a4 1 = .ok (.ifCond .ge 8, 3) := by decide +kernel
theorem dJ9_abs_0f7a4_4 : decode cJ9_abs_0f7a4 4 = .ok (.iload_n 0, 1) := by decide +kernel
theorem dJ9_abs_0f7a4_5 : decode cJ9_abs_0f7a4 5 = .ok (.ineg, 1) := by decide +kernel
theorem dJ9_abs_0f7a4_6 : decode cJ9_abs_0f7a4 6 = .ok (.goto 4, 3) := by decide +kernel
theorem dJ9_abs_0f7a4_9 : decode cJ9_abs_0f7a4 9 = .ok (.iload_n 0, 1) := by decide +kernel
theorem dJ9_abs_0f7a4_10 : decode cJ9_abs_0f7a4 10 = .ok (.ireturn, 1) := by decide +kernel
theorem dJ9_max_7cf53_0 : decode cJ9_max_7cf53 0 = .ok (.iload_n 0, 1) := by decide +kernel
theorem dJ9_max_7cf53_1 : decode cJ9_max_7cf53 1 = .ok (.iload_n 1, 1) := by decide +kernel
theorem dJ9_max_7cf53_2 : decode cJ9_max_7cf53 2 = .ok (.if_icmp .lt 7, 3) := by decide +kernel
theorem dJ9_max_7cf53_5 : decode cJ9_max_7cf53 5 = .ok (.iload_n 0, 1) := by decide +kernel
theorem dJ9_max_7cf53_6 : decode cJ9_max_7cf53 6 = .ok (.goto 4, 3) := by decide +kernel
theorem dJ9_max_7cf53_9 : decode cJ9_max_7cf53 9 = .ok (.iload_n 1, 1) := by decide +kernel
theorem dJ9_max_7cf53_10 : decode cJ9_max_7cf53 10 = .ok (.ireturn, 1) := by decide +kernel
theorem dJ9_min_7cf53_0 : decode cJ9_min_7cf53 0 = .ok (.iload_n 0, 1) := by decide +kernel
theorem dJ9_min_7cf53_1 : decode cJ9_min_7cf53 1 = .ok (.iload_n 1, 1) := by decide +kernel
theorem dJ9_min_7cf53_2 : decode cJ9_min_7cf53 2 = .ok (.if_icmp .gt 7, 3) := by decide +kernel
theorem dJ9_min_7cf53_5 : decode cJ9_min_7cf53 5 = .ok (.iload_n 0, 1) := by decide +kernel
theorem dJ9_min_7cf53_6 : decode cJ9_min_7cf53 6 = .ok (.goto 4, 3) := by decide +kernel
theorem dJ9_min_7cf53_9 : decode cJ9_min_7cf53 9 = .ok (.iload_n 1, 1) := by decide +kernel
theorem dJ9_min_7cf53_10 : decode cJ9_min_7cf53 10 = .ok (.ireturn, 1) := by decide +kernel
theorem dJ7_fill_53178_0 : decode cJ7_fill_53178 0 = .ok (.iconst 0, 1) := by decide +kernel
theorem dJ7_fill_53178_1 : decode cJ7_fill_53178 1 = .ok (.istore_n 2, 1) := by decide +kernel
theorem dJ7_fill_53178_2 : decode cJ7_fill_53178 2 = .ok (.aload_n 0, 1) := by decide +kernel
theorem dJ7_fill_53178_3 : decode cJ7_fill_53178 3 = .ok (.arraylength, 1) := by decide +kernel
theorem dJ7_fill_53178_4 : decode cJ7_fill_53178 4 = .ok (.istore_n 3, 1) := by decide +kernel
theorem dJ7_fill_53178_5 : decode cJ7_fill_53178 5 = .ok (.iload_n 2, 1) := by decide +kernel
theorem dJ7_fill_53178_6 : decode cJ7_fill_53178 6 = .ok (.iload_n 3, 1) := by decide +kernel
theorem dJ7_fill_53178_7 : decode cJ7_fill_53178 7 = .ok (.if_icmp .ge 13, 3) := by decide +kernel
theorem dJ7_fill_53178_10 : decode cJ7_fill_53178 10 = .ok (.aload_n 0, 1) := by decide +kernel
theorem dJ7_fill_53178_11 : decode cJ7_fill_53178 11 = .ok (.iload_n 2, 1) := by decide +kernel
theorem dJ7_fill_53178_12 : decode cJ7_fill_53178 12 = .ok (.iload_n 1, 1) := by decide +kernel
theorem dJ7_fill_53178_13 : decode cJ7_fill_53178 13 = .ok (.iastore, 1) := by decide +kernel
theorem dJ7_fill_53178_14 : decode cJ7_fill_53178 14 = .ok (.iinc 2 1, 3) := by decide +kernel
theorem dJ7_fill_53178_17 : decode cJ7_fill_53178 17 = .ok (.goto (-12), 3) := by decide +kernel
theorem dJ7_fill_53178_20 : decode cJ7_fill_53178 20 = .ok (.return_, 1) := by decide +kernel
end
section
theorem dX8_init_0 : decode cX8_init 0 = .ok (.aload_n 0, 1) := by decide +kernel
theorem dX8_init_1 : decode cX8_init 1 = .ok (.invokespecial 1, 3) := by decide +kernel
theorem dX8_init_4 : decode cX8_init 4 = .ok (.aload_n 0, 1) := by decide +kernel
theorem dX8_init_5 : decode cX8_init 5 = .ok (.iconst 4, 1) := by decide +kernel
theorem dX8_init_6 : decode cX8_init 6 = .ok (.newarray .int, 2) := by decide +kernel
theorem dX8_init_8 : decode cX8_init 8 = .ok (.dup, 1) := by decide +kernel
theorem dX8_init_9 : decode cX8_init 9 = .ok (.iconst 0, 1) := by decide +kernel
theorem dX8_init_10 : decode cX8_init 10 = .ok (.bipush (-9), 2) := by decide +kernel
theorem dX8_init_12 : decode cX8_init 12 = .ok (.iastore, 1) := by decide +kernel
theorem dX8_init_13 : decode cX8_init 13 = .ok (.dup, 1) := by decide +kernel
theorem dX8_init_14 : decode cX8_init 14 = .ok (.iconst 1, 1) := by decide +kernel
theorem dX8_init_15 : decode cX8_init 15 = .ok (.bipush (-9), 2) := by decide +kernel
theorem dX8_init_17 : decode cX8_init 17 = .ok (.iastore, 1) := by decide +kernel
theorem dX8_init_18 : decode cX8_init 18 = .ok (.dup, 1) := by decide +kernel
theorem dX8_init_19 : decode cX8_init 19 = .ok (.iconst 2, 1) := by decide +kernel
theorem dX8_init_20 : decode cX8_init 20 = .ok (.bipush (-9), 2) := by decide +kernel
theorem dX8_init_22 : decode cX8_init 22 = .ok (.iastore, 1) := by decide +kernel
theorem dX8_init_23 : decode cX8_init 23 = .ok (.dup, 1) := by decide +kernel
theorem dX8_init_24 : decode cX8_init 24 = .ok (.iconst 3, 1) := by decide +kernel
theorem dX8_init_25 : decode cX8_init 25 = .ok (.bipush (-9), 2) := by decide +kernel
theorem dX8_init_27 : decode cX8_init 27 = .ok (.iastore, 1) := by decide +kernel
theorem dX8_init_28 : decode cX8_init 28 = .ok (.putfield 9, 3) := by decide +kernel
theorem dX8_init_31 : decode cX8_init 31 = .ok (.aload_n 0, 1) := by decide +kernel
theorem dX8_init_32 : decode cX8_init 32 = .ok (.iconst 4, 1) := by decide +kernel
theorem dX8_init_33 : decode cX8_init 33 = .ok (.newarray .int, 2) := by decide +kernel
theorem dX8_init_35 : decode cX8_init 35 = .ok (.putfield 13, 3) := by decide +kernel
theorem dX8_init_38 : decode cX8_init 38 = .ok (.aload_n 0, 1) := by decide +kernel
theorem dX8_init_39 : decode cX8_init 39 = .ok (.sipush 200, 3) := by decide +kernel
theorem dX8_init_42 : decode cX8_init 42 = .ok (.newarray .int, 2) := by decide +kernel
theorem dX8_init_44 : decode cX8_init 44 = .ok (.putfield 16, 3) := by decide +kernel
theorem dX8_init_47 : decode cX8_init 47 = .ok (.aload_n 0, 1) := by decide +kernel
theorem dX8_init_48 : decode cX8_init 48 = .ok (.bipush 6, 2) := by decide +kernel
theorem dX8_init_50 : decode cX8_init 50 = .ok (.newarray .int, 2) := by decide +kernel
theorem dX8_init_52 : decode cX8_init 52 = .ok (.putfield 19, 3) := by decide +kernel
theorem dX8_init_55 : decode cX8_init 55 = .ok (.aload_n 0, 1) := by decide +kernel
theorem dX8_init_56 : decode cX8_init 56 = .ok (.bipush 6, 2) := by decide +kernel
theorem dX8_init_58 : decode cX8_init 58 = .ok (.newarray .int, 2) := by decide +kernel
theorem dX8_init_60 : decode cX8_init 60 = .ok (.putfield 22, 3) := by decide +kernel
theorem dX8_init_63 : decode cX8_init 63 = .ok (.aload_n 0, 1) := by decide +kernel
theorem dX8_init_64 : decode cX8_init 64 = .ok (.bipush 12, 2) := by decide +kernel
theorem dX8_init_66 : decode cX8_init 66 = .ok (.newarray .int, 2) := by decide +kernel
theorem dX8_init_68 : decode cX8_init 68 = .ok (.putfield 25, 3) := by decide +kernel
theorem dX8_init_71 : decode cX8_init 71 = .ok (.aload_n 0, 1) := by decide +kernel
theorem dX8_init_72 : decode cX8_init 72 = .ok (.bipush 6, 2) := by decide +kernel
theorem dX8_init_74 : decode cX8_init 74 = .ok (.newarray .boolean, 2) := by decide +kernel
theorem dX8_init_76 : decode cX8_init 76 = .ok (.putfield 28, 3) := by decide +kernel
theorem dX8_init_79 : decode cX8_init 79 = .ok (.aload_n 0, 1) := by decide +kernel
theorem dX8_init_80 : decode cX8_init 80 = .ok (.bipush 6, 2) := by decide +kernel
theorem dX8_init_82 : decode cX8_init 82 = .ok (.newarray .int, 2) := by decide +kernel
theorem dX8_init_84 : decode cX8_init 84 = .ok (.putfield 32, 3) := by decide +kernel
theorem dX8_init_87 : decode cX8_init 87 = .ok (.aload_n 0, 1) := by decide +kernel
theorem dX8_init_88 : decode cX8_init 88 = .ok (.bipush 6, 2) := by decide +kernel
theorem dX8_init_90 : decode cX8_init 90 = .ok (.newarray .int, 2) := by decide +kernel
theorem dX8_init_92 : decode cX8_init 92 = .ok (.putfield 35, 3) := by decide +kernel
theorem dX8_init_95 : decode cX8_init 95 = .ok (.aload_n 0, 1) := by decide +kernel
theorem dX8_init_96 : decode cX8_init 96 = .ok (.bipush 12, 2) := by decide +kernel
theorem dX8_init_98 : decode cX8_init 98 = .ok (.newarray .int, 2) := by decide +kernel
theorem dX8_init_100 : decode cX8_init 100 = .ok (.putfield 38, 3) := by decide +kernel
theorem dX8_init_103 : decode cX8_init 103 = .ok (.aload_n 0, 1) := by decide +kernel
theorem dX8_init_104 : decode cX8_init 104 = .ok (.bipush 9, 2) := by decide +kernel
theorem dX8_init_106 : decode cX8_init 106 = .ok (.newarray .int, 2) := by decide +kernel
theorem dX8_init_108 : decode cX8_init 108 = .ok (.putfield 41, 3) := by decide +kernel
theorem dX8_init_111 : decode cX8_init 111 = .ok (.aload_n 0, 1) := by decide +kernel
theorem dX8_init_112 : decode cX8_init 112 = .ok (.bipush 9, 2) := by decide +kernel
theorem dX8_init_114 : decode cX8_init 114 = .ok (.newarray .int, 2) := by decide +kernel
theorem dX8_init_116 : decode cX8_init 116 = .ok (.putfield 44, 3) := by decide +kernel
theorem dX8_init_119 : decode cX8_init 119 = .ok (.aload_n 0, 1) := by decide +kernel
theorem dX8_init_120 : decode cX8_init 120 = .ok (.bipush 9, 2) := by decide +kernel
theorem dX8_init_122 : decode cX8_init 122 = .ok (.newarray .int, 2) := by decide +kernel
theorem dX8_init_124 : decode cX8_init 124 = .ok (.putfield 47, 3) := by decide +kernel
theorem dX8_init_127 : decode cX8_init 127 = .ok (.aload_n 0, 1) := by decide +kernel
theorem dX8_init_128 : decode cX8_init 128 = .ok (.bipush 9, 2) := by decide +kernel
theorem dX8_init_130 : decode cX8_init 130 = .ok (.newarray .int, 2) := by decide +kernel
theorem dX8_init_132 : decode cX8_init 132 = .ok (.putfield 50, 3) := by decide +kernel
theorem dX8_init_135 : decode cX8_init 135 = .ok (.aload_n 0, 1) := by decide +kernel
theorem dX8_init_136 : decode cX8_init 136 = .ok (.bipush 6, 2) := by decide +kernel
theorem dX8_init_138 : decode cX8_init 138 = .ok (.newarray .int, 2) := by decide +kernel
theorem dX8_init_140 : decode cX8_init 140 = .ok (.putfield 53, 3) := by decide +kernel
theorem dX8_init_143 : decode cX8_init 143 = .ok (.aload_n 0, 1) := by decide +kernel
theorem dX8_init_144 : decode cX8_init 144 = .ok (.sipush 200, 3) := by decide +kernel
theorem dX8_init_147 : decode cX8_init 147 = .ok (.newarray .int, 2) := by decide +kernel
theorem dX8_init_149 : decode cX8_init 149 = .ok (.putfield 56, 3) := by decide +kernel
theorem dX8_init_152 : decode cX8_init 152 = .ok (.aload_n 0, 1) := by decide +kernel
theorem dX8_init_153 : decode cX8_init 153 = .ok (.sipush 200, 3) := by decide +kernel
theorem dX8_init_156 : decode cX8_init 156 = .ok (.newarray .int, 2) := by decide +kernel
theorem dX8_init_158 : decode cX8_init 158 = .ok (.putfield 59, 3) := by decide +kernel
theorem dX8_init_161 : decode cX8_init 161 = .ok (.aload_n 0, 1) := by decide +kernel
theorem dX8_init_162 : decode cX8_init 162 = .ok (.sipush 200, 3) := by decide +kernel
theorem dX8_init_165 : decode cX8_init 165 = .ok (.newarray .int, 2) := by decide +kernel
theorem dX8_init_167 : decode cX8_init 167 = .ok (.putfield 62, 3) := by decide +kernel
theorem dX8_init_170 : decode cX8_init 170 = .ok (.aload_n 0, 1) := by decide +kernel
theorem dX8_init_171 : decode cX8_init 171 = .ok (.sipush 200, 3) := by decide +kernel
theorem dX8_init_174 : decode cX8_init 174 = .ok (.newarray .int, 2) := by decide +kernel
theorem dX8_init_176 : decode cX8_init 176 = .ok (.putfield 65, 3) := by decide +kernel
theorem dX8_init_179 : decode cX8_init 179 = .ok (.aload_n 0, 1) := by decide +kernel
theorem dX8_init_180 : decode cX8_init 180 = .ok (.sipush 200, 3) := by decide +kernel
theorem dX8_init_183 : decode cX8_init 183 = .ok (.newarray .int, 2) := by decide +kernel
theorem dX8_init_185 : decode cX8_init 185 = .ok (.putfield 68, 3) := by decide +kernel
theorem dX8_init_188 : decode cX8_init 188 = .ok (.aload_n 0, 1) := by decide +kernel
theorem dX8_init_189 : decode cX8_init 189 = .ok (.sipush 200, 3) := by decide +kernel
theorem dX8_init_192 : decode cX8_init 192 = .ok (.newarray .int, 2) := by decide +kernel
theorem dX8_init_194 : decode cX8_init 194 = .ok (.putfield 71, 3) := by decide +kernel
theorem dX8_init_197 : decode cX8_init 197 = .ok (.aload_n 0, 1) := by decide +kernel
theorem dX8_init_198 : decode cX8_init 198 = .ok (.sipush 200, 3) := by decide +kernel
theorem dX8_init_201 : decode cX8_init 201 = .ok (.newarray .int, 2) := by decide +kernel
theorem dX8_init_203 : decode cX8_init 203 = .ok (.putfield 74, 3) := by decide +kernel
theorem dX8_init_206 : decode cX8_init 206 = .ok (.aload_n 0, 1) := by decide +kernel
theorem dX8_init_207 : decode cX8_init 207 = .ok (.sipush 200, 3) := by decide +kernel
theorem dX8_init_210 : decode cX8_init 210 = .ok (.newarray .int, 2) := by decide +kernel
theorem dX8_init_212 : decode cX8_init 212 = .ok (.putfield 77, 3) := by decide +kernel
theorem dX8_init_215 : decode cX8_init 215 = .ok (.aload_n 0, 1) := by decide +kernel
theorem dX8_init_216 : decode cX8_init 216 = .ok (.sipush 200, 3) := by decide +kernel
theorem dX8_init_219 : decode cX8_init 219 = .ok (.newarray .int, 2) := by decide +kernel
theorem dX8_init_221 : decode cX8_init 221 = .ok (.putfield 80, 3) := by decide +kernel
theorem dX8_init_224 : decode cX8_init 224 = .ok (.aload_n 0, 1) := by decide +kernel
theorem dX8_init_225 : decode cX8_init 225 = .ok (.sipush 200, 3) := by decide +kernel
theorem dX8_init_228 : decode cX8_init 228 = .ok (.newarray .int, 2) := by decide +kernel
theorem dX8_init_230 : decode cX8_init 230 = .ok (.putfield 83, 3) := by decide +kernel
theorem dX8_init_233 : decode cX8_init 233 = .ok (.aload_n 0, 1) := by decide +kernel
theorem dX8_init_234 : decode cX8_init 234 = .ok (.bipush 8, 2) := by decide +kernel
theorem dX8_init_236 : decode cX8_init 236 = .ok (.newarray .int, 2) := by decide +kernel
theorem dX8_init_238 : decode cX8_init 238 = .ok (.putfield 86, 3) := by decide +kernel
theorem dX8_init_241 : decode cX8_init 241 = .ok (.aload_n 0, 1) := by decide +kernel
theorem dX8_init_242 : decode cX8_init 242 = .ok (.bipush 8, 2) := by decide +kernel
theorem dX8_init_244 : decode cX8_init 244 = .ok (.newarray .int, 2) := by decide +kernel
theorem dX8_init_246 : decode cX8_init 246 = .ok (.putfield 89, 3) := by decide +kernel
theorem dX8_init_249 : decode cX8_init 249 = .ok (.aload_n 0, 1) := by decide +kernel
theorem dX8_init_250 : decode cX8_init 250 = .ok (.bipush 8, 2) := by decide +kernel
theorem dX8_init_252 : decode cX8_init 252 = .ok (.newarray .boolean, 2) := by decide +kernel
theorem dX8_init_254 : decode cX8_init 254 = .ok (.putfield 92, 3) := by decide +kernel
theorem dX8_init_257 : decode cX8_init 257 = .ok (.return_, 1) := by decide +kernel
theorem dX8_fails_0 : decode cX8_fails 0 = .ok (.aload_n 0, 1) := by decide +kernel
theorem dX8_fails_1 : decode cX8_fails 1 = .ok (.iload_n 1, 1) := by decide +kernel
theorem dX8_fails_2 : decode cX8_fails 2 = .ok (.putfield 95, 3) := by decide +kernel
theorem dX8_fails_5 : decode cX8_fails 5 = .ok (.bipush (-10), 2) := by decide +kernel
theorem dX8_fails_7 : decode cX8_fails 7 = .ok (.iload_n 1, 1) := by decide +kernel
theorem dX8_fails_8 : decode cX8_fails 8 = .ok (.isub, 1) := by decide +kernel
theorem dX8_fails_9 : decode cX8_fails 9 = .ok (.ireturn, 1) := by decide +kernel
theorem dX8_lost_0 : decode cX8_lost 0 = .ok (.aload_n 0, 1) := by decide +kernel
theorem dX8_lost_1 : decode cX8_lost 1 = .ok (.iload_n 1, 1) := by decide +kernel
theorem dX8_lost_2 : decode cX8_lost 2 = .ok (.putfield 95, 3) := by decide +kernel
theorem dX8_lost_5 : decode cX8_lost 5 = .ok (.ldc2_w 99, 3) := by decide +kernel
theorem dX8_lost_8 : decode cX8_lost 8 = .ok (.lreturn, 1) := by decide +kernel
theorem dX8_within_0 : decode cX8_within 0 = .ok (.iload_n 0, 1) := by decide +kernel
theorem dX8_within_1 : decode cX8_within 1 = .ok (.iload_n 1, 1) := by decide +kernel
theorem dX8_within_2 : decode cX8_within 2 = .ok (.if_icmp .lt 12, 3) := by decide +kernel
theorem dX8_within_5 : decode cX8_within 5 = .ok (.iload_n 0, 1) := by decide +kernel
theorem dX8_within_6 : decode cX8_within 6 = .ok (.iload_n 2, 1) := by decide +kernel
theorem dX8_within_7 : decode cX8_within 7 = .ok (.if_icmp .gt 7, 3) := by decide +kernel
theorem dX8_within_10 : decode cX8_within 10 = .ok (.iconst 1, 1) := by decide +kernel
theorem dX8_within_11 : decode cX8_within 11 = .ok (.goto 4, 3) := by decide +kernel
theorem dX8_within_14 : decode cX8_within 14 = .ok (.iconst 0, 1) := by decide +kernel
theorem dX8_within_15 : decode cX8_within 15 = .ok (.ireturn, 1) := by decide +kernel
theorem dX8_isSheet_0 : decode cX8_isSheet 0 = .ok (.iload_n 0, 1) := by decide +kernel
theorem dX8_isSheet_1 : decode cX8_isSheet 1 = .ok (.iconst 0, 1) := by decide +kernel
theorem dX8_isSheet_2 : decode cX8_isSheet 2 = .ok (.iconst 3, 1) := by decide +kernel
theorem dX8_isSheet_3 : decode cX8_isSheet 3 = .ok (.invokestatic 101, 3) := by decide +kernel
theorem dX8_isSheet_6 : decode cX8_isSheet 6 = .ok (.ireturn, 1) := by decide +kernel
theorem dX8_isSort_0 : decode cX8_isSort 0 = .ok (.iload_n 0, 1) := by decide +kernel
theorem dX8_isSort_1 : decode cX8_isSort 1 = .ok (.iconst 0, 1) := by decide +kernel
theorem dX8_isSort_2 : decode cX8_isSort 2 = .ok (.iconst 2, 1) := by decide +kernel
theorem dX8_isSort_3 : decode cX8_isSort 3 = .ok (.invokestatic 101, 3) := by decide +kernel
theorem dX8_isSort_6 : decode cX8_isSort 6 = .ok (.ireturn, 1) := by decide +kernel
theorem dX8_against_0 : decode cX8_against 0 = .ok (.aload_n 0, 1) := by decide +kernel
theorem dX8_against_1 : decode cX8_against 1 = .ok (.getfield 9, 3) := by decide +kernel
theorem dX8_against_4 : decode cX8_against 4 = .ok (.iload_n 1, 1) := by decide +kernel
theorem dX8_against_5 : decode cX8_against 5 = .ok (.iaload, 1) := by decide +kernel
theorem dX8_against_6 : decode cX8_against 6 = .ok (.bipush (-9), 2) := by decide +kernel
theorem dX8_against_8 : decode cX8_against 8 = .ok (.if_icmp .eq 15, 3) := by decide +kernel
theorem dX8_against_11 : decode cX8_against 11 = .ok (.aload_n 0, 1) := by decide +kernel
theorem dX8_against_12 : decode cX8_against 12 = .ok (.getfield 9, 3) := by decide +kernel
theorem dX8_against_15 : decode cX8_against 15 = .ok (.iload_n 1, 1) := by decide +kernel
theorem dX8_against_16 : decode cX8_against 16 = .ok (.iaload, 1) := by decide +kernel
theorem dX8_against_17 : decode cX8_against 17 = .ok (.iload_n 2, 1) := by decide +kernel
theorem dX8_against_18 : decode cX8_against 18 = .ok (.if_icmp .eq 5, 3) := by decide +kernel
theorem dX8_against_21 : decode cX8_against 21 = .ok (.iconst 2, 1) := by decide +kernel
theorem dX8_against_22 : decode cX8_against 22 = .ok (.ireturn, 1) := by decide +kernel
theorem dX8_against_23 : decode cX8_against 23 = .ok (.aload_n 0, 1) := by decide +kernel
theorem dX8_against_24 : decode cX8_against 24 = .ok (.getfield 9, 3) := by decide +kernel
theorem dX8_against_27 : decode cX8_against 27 = .ok (.iload_n 1, 1) := by decide +kernel
theorem dX8_against_28 : decode cX8_against 28 = .ok (.iaload, 1) := by decide +kernel
theorem dX8_against_29 : decode cX8_against 29 = .ok (.bipush (-9), 2) := by decide +kernel
theorem dX8_against_31 : decode cX8_against 31 = .ok (.if_icmp .ne 5, 3) := by decide +kernel
theorem dX8_against_34 : decode cX8_against 34 = .ok (.iconst 1, 1) := by decide +kernel
theorem dX8_against_35 : decode cX8_against 35 = .ok (.ireturn, 1) := by decide +kernel
theorem dX8_against_36 : decode cX8_against 36 = .ok (.iload 4, 2) := by decide +kernel
theorem dX8_against_38 : decode cX8_against 38 = .ok (.ifCond .ge 5, 3) := by decide +kernel
theorem dX8_against_41 : decode cX8_against 41 = .ok (.iconst 4, 1) := by decide +kernel
theorem dX8_against_42 : decode cX8_against 42 = .ok (.ireturn, 1) := by decide +kernel
theorem dX8_against_43 : decode cX8_against 43 = .ok (.iload_n 3, 1) := by decide +kernel
theorem dX8_against_44 : decode cX8_against 44 = .ok (.ifCond .lt 26, 3) := by decide +kernel
theorem dX8_against_47 : decode cX8_against 47 = .ok (.iload_n 3, 1) := by decide +kernel
theorem dX8_against_48 : decode cX8_against 48 = .ok (.aload_n 0, 1) := by decide +kernel
theorem dX8_against_49 : decode cX8_against 49 = .ok (.getfield 13, 3) := by decide +kernel
theorem dX8_against_52 : decode cX8_against 52 = .ok (.iload_n 1, 1) := by decide +kernel
theorem dX8_against_53 : decode cX8_against 53 = .ok (.iaload, 1) := by decide +kernel
theorem dX8_against_54 : decode cX8_against 54 = .ok (.if_icmp .gt 16, 3) := by decide +kernel
theorem dX8_against_57 : decode cX8_against 57 = .ok (.iload 4, 2) := by decide +kernel
theorem dX8_against_59 : decode cX8_against 59 = .ok (.aload_n 0, 1) := by decide +kernel
theorem dX8_against_60 : decode cX8_against 60 = .ok (.getfield 13, 3) := by decide +kernel
theorem dX8_against_63 : decode cX8_against 63 = .ok (.iload_n 1, 1) := by decide +kernel
theorem dX8_against_64 : decode cX8_against 64 = .ok (.iaload, 1) := by decide +kernel
theorem dX8_against_65 : decode cX8_against 65 = .ok (.iload_n 3, 1) := by decide +kernel
theorem dX8_against_66 : decode cX8_against 66 = .ok (.isub, 1) := by decide +kernel
theorem dX8_against_67 : decode cX8_against 67 = .ok (.if_icmp .le 7, 3) := by decide +kernel
theorem dX8_against_70 : decode cX8_against 70 = .ok (.iconst 3, 1) := by decide +kernel
theorem dX8_against_71 : decode cX8_against 71 = .ok (.goto 4, 3) := by decide +kernel
theorem dX8_against_74 : decode cX8_against 74 = .ok (.iconst 0, 1) := by decide +kernel
theorem dX8_against_75 : decode cX8_against 75 = .ok (.ireturn, 1) := by decide +kernel
theorem dX8_isPerson_0 : decode cX8_isPerson 0 = .ok (.iload_n 1, 1) := by decide +kernel
theorem dX8_isPerson_1 : decode cX8_isPerson 1 = .ok (.ifCond .lt 15, 3) := by decide +kernel
theorem dX8_isPerson_4 : decode cX8_isPerson 4 = .ok (.iload_n 1, 1) := by decide +kernel
theorem dX8_isPerson_5 : decode cX8_isPerson 5 = .ok (.aload_n 0, 1) := by decide +kernel
theorem dX8_isPerson_6 : decode cX8_isPerson 6 = .ok (.getfield 105, 3) := by decide +kernel
theorem dX8_isPerson_9 : decode cX8_isPerson 9 = .ok (.if_icmp .ge 7, 3) := by decide +kernel
theorem dX8_isPerson_12 : decode cX8_isPerson 12 = .ok (.iconst 1, 1) := by decide +kernel
theorem dX8_isPerson_13 : decode cX8_isPerson 13 = .ok (.goto 4, 3) := by decide +kernel
theorem dX8_isPerson_16 : decode cX8_isPerson 16 = .ok (.iconst 0, 1) := by decide +kernel
theorem dX8_isPerson_17 : decode cX8_isPerson 17 = .ok (.ireturn, 1) := by decide +kernel
theorem dX8_isDawn_0 : decode cX8_isDawn 0 = .ok (.iload_n 0, 1) := by decide +kernel
theorem dX8_isDawn_1 : decode cX8_isDawn 1 = .ok (.iconst 0, 1) := by decide +kernel
theorem dX8_isDawn_2 : decode cX8_isDawn 2 = .ok (.bipush 59, 2) := by decide +kernel
theorem dX8_isDawn_4 : decode cX8_isDawn 4 = .ok (.invokestatic 101, 3) := by decide +kernel
theorem dX8_isDawn_7 : decode cX8_isDawn 7 = .ok (.ireturn, 1) := by decide +kernel
theorem dX8_digit_0 : decode cX8_digit 0 = .ok (.aload_n 0, 1) := by decide +kernel
theorem dX8_digit_1 : decode cX8_digit 1 = .ok (.getfield 108, 3) := by decide +kernel
theorem dX8_digit_4 : decode cX8_digit 4 = .ok (.iload_n 1, 1) := by decide +kernel
theorem dX8_digit_5 : decode cX8_digit 5 = .ok (.if_icmp .ge 26, 3) := by decide +kernel
theorem dX8_digit_8 : decode cX8_digit 8 = .ok (.aload_n 0, 1) := by decide +kernel
theorem dX8_digit_9 : decode cX8_digit 9 = .ok (.getfield 16, 3) := by decide +kernel
theorem dX8_digit_12 : decode cX8_digit 12 = .ok (.aload_n 0, 1) := by decide +kernel
theorem dX8_digit_13 : decode cX8_digit 13 = .ok (.getfield 108, 3) := by decide +kernel
theorem dX8_digit_16 : decode cX8_digit 16 = .ok (.iaload, 1) := by decide +kernel
theorem dX8_digit_17 : decode cX8_digit 17 = .ok (.bipush 48, 2) := by decide +kernel
theorem dX8_digit_19 : decode cX8_digit 19 = .ok (.iload_n 2, 1) := by decide +kernel
theorem dX8_digit_20 : decode cX8_digit 20 = .ok (.iadd, 1) := by decide +kernel
theorem dX8_digit_21 : decode cX8_digit 21 = .ok (.bipush 48, 2) := by decide +kernel
theorem dX8_digit_23 : decode cX8_digit 23 = .ok (.iload_n 3, 1) := by decide +kernel
theorem dX8_digit_24 : decode cX8_digit 24 = .ok (.iadd, 1) := by decide +kernel
theorem dX8_digit_25 : decode cX8_digit 25 = .ok (.invokestatic 101, 3) := by decide +kernel
theorem dX8_digit_28 : decode cX8_digit 28 = .ok (.ifCond .ne 6, 3) := by decide +kernel
theorem dX8_digit_31 : decode cX8_digit 31 = .ok (.bipush (-9), 2) := by decide +kernel
theorem dX8_digit_33 : decode cX8_digit 33 = .ok (.ireturn, 1) := by decide +kernel
theorem dX8_digit_34 : decode cX8_digit 34 = .ok (.aload_n 0, 1) := by decide +kernel
theorem dX8_digit_35 : decode cX8_digit 35 = .ok (.dup, 1) := by decide +kernel
theorem dX8_digit_36 : decode cX8_digit 36 = .ok (.getfield 108, 3) := by decide +kernel
theorem dX8_digit_39 : decode cX8_digit 39 = .ok (.iconst 1, 1) := by decide +kernel
theorem dX8_digit_40 : decode cX8_digit 40 = .ok (.iadd, 1) := by decide +kernel
theorem dX8_digit_41 : decode cX8_digit 41 = .ok (.putfield 108, 3) := by decide +kernel
theorem dX8_digit_44 : decode cX8_digit 44 = .ok (.aload_n 0, 1) := by decide +kernel
theorem dX8_digit_45 : decode cX8_digit 45 = .ok (.getfield 16, 3) := by decide +kernel
theorem dX8_digit_48 : decode cX8_digit 48 = .ok (.aload_n 0, 1) := by decide +kernel
theorem dX8_digit_49 : decode cX8_digit 49 = .ok (.getfield 108, 3) := by decide +kernel
theorem dX8_digit_52 : decode cX8_digit 52 = .ok (.iconst 1, 1) := by decide +kernel
theorem dX8_digit_53 : decode cX8_digit 53 = .ok (.isub, 1) := by decide +kernel
theorem dX8_digit_54 : decode cX8_digit 54 = .ok (.iaload, 1) := by decide +kernel
theorem dX8_digit_55 : decode cX8_digit 55 = .ok (.bipush 48, 2) := by decide +kernel
theorem dX8_digit_57 : decode cX8_digit 57 = .ok (.isub, 1) := by decide +kernel
theorem dX8_digit_58 : decode cX8_digit 58 = .ok (.ireturn, 1) := by decide +kernel
theorem dX8_coast_0 : decode cX8_coast 0 = .ok (.aload_n 0, 1) := by decide +kernel
theorem dX8_coast_1 : decode cX8_coast 1 = .ok (.iconst 0, 1) := by decide +kernel
theorem dX8_coast_2 : decode cX8_coast 2 = .ok (.putfield 95, 3) := by decide +kernel
theorem dX8_coast_5 : decode cX8_coast 5 = .ok (.iload_n 1, 1) := by decide +kernel
theorem dX8_coast_6 : decode cX8_coast 6 = .ok (.invokestatic 111, 3) := by decide +kernel
theorem dX8_coast_9 : decode cX8_coast 9 = .ok (.ifCond .ne 5, 3) := by decide +kernel
theorem dX8_coast_12 : decode cX8_coast 12 = .ok (.iconst (-1), 1) := by decide +kernel
theorem dX8_coast_13 : decode cX8_coast 13 = .ok (.ireturn, 1) := by decide +kernel
theorem dX8_coast_14 : decode cX8_coast 14 = .ok (.iload_n 2, 1) := by decide +kernel
theorem dX8_coast_15 : decode cX8_coast 15 = .ok (.invokestatic 115, 3) := by decide +kernel
theorem dX8_coast_18 : decode cX8_coast 18 = .ok (.ifCond .ne 6, 3) := by decide +kernel
theorem dX8_coast_21 : decode cX8_coast 21 = .ok (.bipush (-2), 2) := by decide +kernel
theorem dX8_coast_23 : decode cX8_coast 23 = .ok (.ireturn, 1) := by decide +kernel
theorem dX8_coast_24 : decode cX8_coast 24 = .ok (.aload_n 0, 1) := by decide +kernel
theorem dX8_coast_25 : decode cX8_coast 25 = .ok (.iload_n 1, 1) := by decide +kernel
theorem dX8_coast_26 : decode cX8_coast 26 = .ok (.iload_n 2, 1) := by decide +kernel
theorem dX8_coast_27 : decode cX8_coast 27 = .ok (.iload_n 3, 1) := by decide +kernel
theorem dX8_coast_28 : decode cX8_coast 28 = .ok (.iload 4, 2) := by decide +kernel
theorem dX8_coast_30 : decode cX8_coast 30 = .ok (.invokevirtual 118, 3) := by decide +kernel
theorem dX8_coast_33 : decode cX8_coast 33 = .ok (.istore 5, 2) := by decide +kernel
theorem dX8_coast_35 : decode cX8_coast 35 = .ok (.iload 5, 2) := by decide +kernel
theorem dX8_coast_37 : decode cX8_coast 37 = .ok (.ifCond .eq 10, 3) := by decide +kernel
theorem dX8_coast_40 : decode cX8_coast 40 = .ok (.aload_n 0, 1) := by decide +kernel
theorem dX8_coast_41 : decode cX8_coast 41 = .ok (.iload 5, 2) := by decide +kernel
theorem dX8_coast_43 : decode cX8_coast 43 = .ok (.invokevirtual 122, 3) := by decide +kernel
theorem dX8_coast_46 : decode cX8_coast 46 = .ok (.ireturn, 1) := by decide +kernel
theorem dX8_coast_47 : decode cX8_coast 47 = .ok (.bipush 50, 2) := by decide +kernel
theorem dX8_coast_49 : decode cX8_coast 49 = .ok (.iload_n 1, 1) := by decide +kernel
theorem dX8_coast_50 : decode cX8_coast 50 = .ok (.imul, 1) := by decide +kernel
theorem dX8_coast_51 : decode cX8_coast 51 = .ok (.iload_n 3, 1) := by decide +kernel
theorem dX8_coast_52 : decode cX8_coast 52 = .ok (.iadd, 1) := by decide +kernel
theorem dX8_coast_53 : decode cX8_coast 53 = .ok (.istore 6, 2) := by decide +kernel
theorem dX8_coast_55 : decode cX8_coast 55 = .ok (.aload_n 0, 1) := by decide +kernel
theorem dX8_coast_56 : decode cX8_coast 56 = .ok (.iload 6, 2) := by decide +kernel
theorem dX8_coast_58 : decode cX8_coast 58 = .ok (.putfield 108, 3) := by decide +kernel
theorem dX8_coast_61 : decode cX8_coast 61 = .ok (.aload_n 0, 1) := by decide +kernel
theorem dX8_coast_62 : decode cX8_coast 62 = .ok (.iload 6, 2) := by decide +kernel
theorem dX8_coast_64 : decode cX8_coast 64 = .ok (.iload 4, 2) := by decide +kernel
theorem dX8_coast_66 : decode cX8_coast 66 = .ok (.iadd, 1) := by decide +kernel
theorem dX8_coast_67 : decode cX8_coast 67 = .ok (.invokevirtual 126, 3) := by decide +kernel
theorem dX8_coast_70 : decode cX8_coast 70 = .ok (.ifCond .ne 14, 3) := by decide +kernel
theorem dX8_coast_73 : decode cX8_coast 73 = .ok (.bipush (-100), 2) := by decide +kernel
theorem dX8_coast_75 : decode cX8_coast 75 = .ok (.aload_n 0, 1) := by decide +kernel
theorem dX8_coast_76 : decode cX8_coast 76 = .ok (.getfield 108, 3) := by decide +kernel
theorem dX8_coast_79 : decode cX8_coast 79 = .ok (.iload 6, 2) := by decide +kernel
theorem dX8_coast_81 : decode cX8_coast 81 = .ok (.isub, 1) := by decide +kernel
theorem dX8_coast_82 : decode cX8_coast 82 = .ok (.isub, 1) := by decide +kernel
theorem dX8_coast_83 : decode cX8_coast 83 = .ok (.ireturn, 1) := by decide +kernel
theorem dX8_coast_84 : decode cX8_coast 84 = .ok (.aload_n 0, 1) := by decide +kernel
theorem dX8_coast_85 : decode cX8_coast 85 = .ok (.aload_n 0, 1) := by decide +kernel
theorem dX8_coast_86 : decode cX8_coast 86 = .ok (.getfield 129, 3) := by decide +kernel
theorem dX8_coast_89 : decode cX8_coast 89 = .ok (.putfield 105, 3) := by decide +kernel
theorem dX8_coast_92 : decode cX8_coast 92 = .ok (.iconst 0, 1) := by decide +kernel
theorem dX8_coast_93 : decode cX8_coast 93 = .ok (.istore 7, 2) := by decide +kernel
theorem dX8_coast_95 : decode cX8_coast 95 = .ok (.iload 7, 2) := by decide +kernel
theorem dX8_coast_97 : decode cX8_coast 97 = .ok (.aload_n 0, 1) := by decide +kernel
theorem dX8_coast_98 : decode cX8_coast 98 = .ok (.getfield 105, 3) := by decide +kernel
theorem dX8_coast_101 : decode cX8_coast 101 = .ok (.if_icmp .ge 85, 3) := by decide +kernel
theorem dX8_coast_104 : decode cX8_coast 104 = .ok (.aload_n 0, 1) := by decide +kernel
theorem dX8_coast_105 : decode cX8_coast 105 = .ok (.getfield 19, 3) := by decide +kernel
theorem dX8_coast_108 : decode cX8_coast 108 = .ok (.iload 7, 2) := by decide +kernel
theorem dX8_coast_110 : decode cX8_coast 110 = .ok (.aload_n 0, 1) := by decide +kernel
theorem dX8_coast_111 : decode cX8_coast 111 = .ok (.getfield 32, 3) := by decide +kernel
theorem dX8_coast_114 : decode cX8_coast 114 = .ok (.iload 7, 2) := by decide +kernel
theorem dX8_coast_116 : decode cX8_coast 116 = .ok (.iaload, 1) := by decide +kernel
theorem dX8_coast_117 : decode cX8_coast 117 = .ok (.iastore, 1) := by decide +kernel
theorem dX8_coast_118 : decode cX8_coast 118 = .ok (.aload_n 0, 1) := by decide +kernel
theorem dX8_coast_119 : decode cX8_coast 119 = .ok (.getfield 22, 3) := by decide +kernel
theorem dX8_coast_122 : decode cX8_coast 122 = .ok (.iload 7, 2) := by decide +kernel
theorem dX8_coast_124 : decode cX8_coast 124 = .ok (.aload_n 0, 1) := by decide +kernel
theorem dX8_coast_125 : decode cX8_coast 125 = .ok (.getfield 35, 3) := by decide +kernel
theorem dX8_coast_128 : decode cX8_coast 128 = .ok (.iload 7, 2) := by decide +kernel
theorem dX8_coast_130 : decode cX8_coast 130 = .ok (.iaload, 1) := by decide +kernel
theorem dX8_coast_131 : decode cX8_coast 131 = .ok (.iastore, 1) := by decide +kernel
theorem dX8_coast_132 : decode cX8_coast 132 = .ok (.aload_n 0, 1) := by decide +kernel
theorem dX8_coast_133 : decode cX8_coast 133 = .ok (.getfield 25, 3) := by decide +kernel
theorem dX8_coast_136 : decode cX8_coast 136 = .ok (.iconst 2, 1) := by decide +kernel
theorem dX8_coast_137 : decode cX8_coast 137 = .ok (.iload 7, 2) := by decide +kernel
theorem dX8_coast_139 : decode cX8_coast 139 = .ok (.imul, 1) := by decide +kernel
theorem dX8_coast_140 : decode cX8_coast 140 = .ok (.aload_n 0, 1) := by decide +kernel
theorem dX8_coast_141 : decode cX8_coast 141 = .ok (.getfield 38, 3) := by decide +kernel
theorem dX8_coast_144 : decode cX8_coast 144 = .ok (.iconst 2, 1) := by decide +kernel
theorem dX8_coast_145 : decode cX8_coast 145 = .ok (.iload 7, 2) := by decide +kernel
theorem dX8_coast_147 : decode cX8_coast 147 = .ok (.imul, 1) := by decide +kernel
theorem dX8_coast_148 : decode cX8_coast 148 = .ok (.iaload, 1) := by decide +kernel
theorem dX8_coast_149 : decode cX8_coast 149 = .ok (.iastore, 1) := by decide +kernel
theorem dX8_coast_150 : decode cX8_coast 150 = .ok (.aload_n 0, 1) := by decide +kernel
theorem dX8_coast_151 : decode cX8_coast 151 = .ok (.getfield 25, 3) := by decide +kernel
theorem dX8_coast_154 : decode cX8_coast 154 = .ok (.iconst 2, 1) := by decide +kernel
theorem dX8_coast_155 : decode cX8_coast 155 = .ok (.iload 7, 2) := by decide +kernel
theorem dX8_coast_157 : decode cX8_coast 157 = .ok (.imul, 1) := by decide +kernel
theorem dX8_coast_158 : decode cX8_coast 158 = .ok (.iconst 1, 1) := by decide +kernel
theorem dX8_coast_159 : decode cX8_coast 159 = .ok (.iadd, 1) := by decide +kernel
theorem dX8_coast_160 : decode cX8_coast 160 = .ok (.aload_n 0, 1) := by decide +kernel
theorem dX8_coast_161 : decode cX8_coast 161 = .ok (.getfield 38, 3) := by decide +kernel
theorem dX8_coast_164 : decode cX8_coast 164 = .ok (.iconst 2, 1) := by decide +kernel
theorem dX8_coast_165 : decode cX8_coast 165 = .ok (.iload 7, 2) := by decide +kernel
theorem dX8_coast_167 : decode cX8_coast 167 = .ok (.imul, 1) := by decide +kernel
theorem dX8_coast_168 : decode cX8_coast 168 = .ok (.iconst 1, 1) := by decide +kernel
theorem dX8_coast_169 : decode cX8_coast 169 = .ok (.iadd, 1) := by decide +kernel
theorem dX8_coast_170 : decode cX8_coast 170 = .ok (.iaload, 1) := by decide +kernel
theorem dX8_coast_171 : decode cX8_coast 171 = .ok (.iastore, 1) := by decide +kernel
theorem dX8_coast_172 : decode cX8_coast 172 = .ok (.aload_n 0, 1) := by decide +kernel
theorem dX8_coast_173 : decode cX8_coast 173 = .ok (.getfield 28, 3) := by decide +kernel
theorem dX8_coast_176 : decode cX8_coast 176 = .ok (.iload 7, 2) := by decide +kernel
theorem dX8_coast_178 : decode cX8_coast 178 = .ok (.iconst 0, 1) := by decide +kernel
theorem dX8_coast_179 : decode cX8_coast 179 = .ok (.bastore, 1) := by decide +kernel
theorem dX8_coast_180 : decode cX8_coast 180 = .ok (.iinc 7 1, 3) := by decide +kernel
theorem dX8_coast_183 : decode cX8_coast 183 = .ok (.goto (-88), 3) := by decide +kernel
theorem dX8_coast_186 : decode cX8_coast 186 = .ok (.aload_n 0, 1) := by decide +kernel
theorem dX8_coast_187 : decode cX8_coast 187 = .ok (.iconst 0, 1) := by decide +kernel
theorem dX8_coast_188 : decode cX8_coast 188 = .ok (.putfield 132, 3) := by decide +kernel
theorem dX8_coast_191 : decode cX8_coast 191 = .ok (.aload_n 0, 1) := by decide +kernel
theorem dX8_coast_192 : decode cX8_coast 192 = .ok (.iconst 0, 1) := by decide +kernel
theorem dX8_coast_193 : decode cX8_coast 193 = .ok (.putfield 135, 3) := by decide +kernel
theorem dX8_coast_196 : decode cX8_coast 196 = .ok (.aload_n 0, 1) := by decide +kernel
theorem dX8_coast_197 : decode cX8_coast 197 = .ok (.getfield 105, 3) := by decide +kernel
theorem dX8_coast_200 : decode cX8_coast 200 = .ok (.ireturn, 1) := by decide +kernel
theorem dX8_readCoast_0 : decode cX8_readCoast 0 = .ok (.aload_n 0, 1) := by decide +kernel
theorem dX8_readCoast_1 : decode cX8_readCoast 1 = .ok (.getfield 108, 3) := by decide +kernel
theorem dX8_readCoast_4 : decode cX8_readCoast 4 = .ok (.iload_n 1, 1) := by decide +kernel
theorem dX8_readCoast_5 : decode cX8_readCoast 5 = .ok (.if_icmp .ge 17, 3) := by decide +kernel
theorem dX8_readCoast_8 : decode cX8_readCoast 8 = .ok (.aload_n 0, 1) := by decide +kernel
theorem dX8_readCoast_9 : decode cX8_readCoast 9 = .ok (.getfield 16, 3) := by decide +kernel
theorem dX8_readCoast_12 : decode cX8_readCoast 12 = .ok (.aload_n 0, 1) := by decide +kernel
theorem dX8_readCoast_13 : decode cX8_readCoast 13 = .ok (.getfield 108, 3) := by decide +kernel
theorem dX8_readCoast_16 : decode cX8_readCoast 16 = .ok (.iaload, 1) := by decide +kernel
theorem dX8_readCoast_17 : decode cX8_readCoast 17 = .ok (.bipush 100, 2) := by decide +kernel
theorem dX8_readCoast_19 : decode cX8_readCoast 19 = .ok (.if_icmp .eq 5, 3) := by decide +kernel
theorem dX8_readCoast_22 : decode cX8_readCoast 22 = .ok (.iconst 0, 1) := by decide +kernel
theorem dX8_readCoast_23 : decode cX8_readCoast 23 = .ok (.ireturn, 1) := by decide +kernel
theorem dX8_readCoast_24 : decode cX8_readCoast 24 = .ok (.aload_n 0, 1) := by decide +kernel
theorem dX8_readCoast_25 : decode cX8_readCoast 25 = .ok (.dup, 1) := by decide +kernel
theorem dX8_readCoast_26 : decode cX8_readCoast 26 = .ok (.getfield 108, 3) := by decide +kernel
theorem dX8_readCoast_29 : decode cX8_readCoast 29 = .ok (.iconst 1, 1) := by decide +kernel
theorem dX8_readCoast_30 : decode cX8_readCoast 30 = .ok (.iadd, 1) := by decide +kernel
theorem dX8_readCoast_31 : decode cX8_readCoast 31 = .ok (.putfield 108, 3) := by decide +kernel
theorem dX8_readCoast_34 : decode cX8_readCoast 34 = .ok (.aload_n 0, 1) := by decide +kernel
theorem dX8_readCoast_35 : decode cX8_readCoast 35 = .ok (.aload_n 0, 1) := by decide +kernel
theorem dX8_readCoast_36 : decode cX8_readCoast 36 = .ok (.iload_n 1, 1) := by decide +kernel
theorem dX8_readCoast_37 : decode cX8_readCoast 37 = .ok (.iconst 2, 1) := by decide +kernel
theorem dX8_readCoast_38 : decode cX8_readCoast 38 = .ok (.bipush 6, 2) := by decide +kernel
theorem dX8_readCoast_40 : decode cX8_readCoast 40 = .ok (.invokevirtual 138, 3) := by decide +kernel
theorem dX8_readCoast_43 : decode cX8_readCoast 43 = .ok (.putfield 129, 3) := by decide +kernel
theorem dX8_readCoast_46 : decode cX8_readCoast 46 = .ok (.aload_n 0, 1) := by decide +kernel
theorem dX8_readCoast_47 : decode cX8_readCoast 47 = .ok (.getfield 129, 3) := by decide +kernel
theorem dX8_readCoast_50 : decode cX8_readCoast 50 = .ok (.bipush (-9), 2) := by decide +kernel
theorem dX8_readCoast_52 : decode cX8_readCoast 52 = .ok (.if_icmp .ne 5, 3) := by decide +kernel
theorem dX8_readCoast_55 : decode cX8_readCoast 55 = .ok (.iconst 0, 1) := by decide +kernel
theorem dX8_readCoast_56 : decode cX8_readCoast 56 = .ok (.ireturn, 1) := by decide +kernel
theorem dX8_readCoast_57 : decode cX8_readCoast 57 = .ok (.iconst 0, 1) := by decide +kernel
theorem dX8_readCoast_58 : decode cX8_readCoast 58 = .ok (.istore_n 2, 1) := by decide +kernel
theorem dX8_readCoast_59 : decode cX8_readCoast 59 = .ok (.iload_n 2, 1) := by decide +kernel
theorem dX8_readCoast_60 : decode cX8_readCoast 60 = .ok (.aload_n 0, 1) := by decide +kernel
theorem dX8_readCoast_61 : decode cX8_readCoast 61 = .ok (.getfield 129, 3) := by decide +kernel
theorem dX8_readCoast_64 : decode cX8_readCoast 64 = .ok (.if_icmp .ge 54, 3) := by decide +kernel
theorem dX8_readCoast_67 : decode cX8_readCoast 67 = .ok (.aload_n 0, 1) := by decide +kernel
theorem dX8_readCoast_68 : decode cX8_readCoast 68 = .ok (.getfield 108, 3) := by decide +kernel
theorem dX8_readCoast_71 : decode cX8_readCoast 71 = .ok (.iload_n 1, 1) := by decide +kernel
theorem dX8_readCoast_72 : decode cX8_readCoast 72 = .ok (.if_icmp .ge 17, 3) := by decide +kernel
theorem dX8_readCoast_75 : decode cX8_readCoast 75 = .ok (.aload_n 0, 1) := by decide +kernel
theorem dX8_readCoast_76 : decode cX8_readCoast 76 = .ok (.getfield 16, 3) := by decide +kernel
theorem dX8_readCoast_79 : decode cX8_readCoast 79 = .ok (.aload_n 0, 1) := by decide +kernel
theorem dX8_readCoast_80 : decode cX8_readCoast 80 = .ok (.getfield 108, 3) := by decide +kernel
theorem dX8_readCoast_83 : decode cX8_readCoast 83 = .ok (.iaload, 1) := by decide +kernel
theorem dX8_readCoast_84 : decode cX8_readCoast 84 = .ok (.bipush 59, 2) := by decide +kernel
theorem dX8_readCoast_86 : decode cX8_readCoast 86 = .ok (.if_icmp .eq 5, 3) := by decide +kernel
theorem dX8_readCoast_89 : decode cX8_readCoast 89 = .ok (.iconst 0, 1) := by decide +kernel
theorem dX8_readCoast_90 : decode cX8_readCoast 90 = .ok (.ireturn, 1) := by decide +kernel
theorem dX8_readCoast_91 : decode cX8_readCoast 91 = .ok (.aload_n 0, 1) := by decide +kernel
theorem dX8_readCoast_92 : decode cX8_readCoast 92 = .ok (.dup, 1) := by decide +kernel
theorem dX8_readCoast_93 : decode cX8_readCoast 93 = .ok (.getfield 108, 3) := by decide +kernel
theorem dX8_readCoast_96 : decode cX8_readCoast 96 = .ok (.iconst 1, 1) := by decide +kernel
theorem dX8_readCoast_97 : decode cX8_readCoast 97 = .ok (.iadd, 1) := by decide +kernel
theorem dX8_readCoast_98 : decode cX8_readCoast 98 = .ok (.putfield 108, 3) := by decide +kernel
theorem dX8_readCoast_101 : decode cX8_readCoast 101 = .ok (.aload_n 0, 1) := by decide +kernel
theorem dX8_readCoast_102 : decode cX8_readCoast 102 = .ok (.iload_n 1, 1) := by decide +kernel
theorem dX8_readCoast_103 : decode cX8_readCoast 103 = .ok (.iload_n 2, 1) := by decide +kernel
theorem dX8_readCoast_104 : decode cX8_readCoast 104 = .ok (.invokevirtual 142, 3) := by decide +kernel
theorem dX8_readCoast_107 : decode cX8_readCoast 107 = .ok (.ifCond .ne 5, 3) := by decide +kernel
theorem dX8_readCoast_110 : decode cX8_readCoast 110 = .ok (.iconst 0, 1) := by decide +kernel
theorem dX8_readCoast_111 : decode cX8_readCoast 111 = .ok (.ireturn, 1) := by decide +kernel
theorem dX8_readCoast_112 : decode cX8_readCoast 112 = .ok (.iinc 2 1, 3) := by decide +kernel
theorem dX8_readCoast_115 : decode cX8_readCoast 115 = .ok (.goto (-56), 3) := by decide +kernel
theorem dX8_readCoast_118 : decode cX8_readCoast 118 = .ok (.aload_n 0, 1) := by decide +kernel
theorem dX8_readCoast_119 : decode cX8_readCoast 119 = .ok (.getfield 108, 3) := by decide +kernel
theorem dX8_readCoast_122 : decode cX8_readCoast 122 = .ok (.iload_n 1, 1) := by decide +kernel
theorem dX8_readCoast_123 : decode cX8_readCoast 123 = .ok (.if_icmp .ne 7, 3) := by decide +kernel
theorem dX8_readCoast_126 : decode cX8_readCoast 126 = .ok (.iconst 1, 1) := by decide +kernel
theorem dX8_readCoast_127 : decode cX8_readCoast 127 = .ok (.goto 4, 3) := by decide +kernel
theorem dX8_readCoast_130 : decode cX8_readCoast 130 = .ok (.iconst 0, 1) := by decide +kernel
theorem dX8_readCoast_131 : decode cX8_readCoast 131 = .ok (.ireturn, 1) := by decide +kernel
theorem dX8_readPerson_0 : decode cX8_readPerson 0 = .ok (.aload_n 0, 1) := by decide +kernel
theorem dX8_readPerson_1 : decode cX8_readPerson 1 = .ok (.getfield 108, 3) := by decide +kernel
theorem dX8_readPerson_4 : decode cX8_readPerson 4 = .ok (.iload_n 1, 1) := by decide +kernel
theorem dX8_readPerson_5 : decode cX8_readPerson 5 = .ok (.if_icmp .ge 15, 3) := by decide +kernel
theorem dX8_readPerson_8 : decode cX8_readPerson 8 = .ok (.aload_n 0, 1) := by decide +kernel
theorem dX8_readPerson_9 : decode cX8_readPerson 9 = .ok (.getfield 16, 3) := by decide +kernel
theorem dX8_readPerson_12 : decode cX8_readPerson 12 = .ok (.aload_n 0, 1) := by decide +kernel
theorem dX8_readPerson_13 : decode cX8_readPerson 13 = .ok (.getfield 108, 3) := by decide +kernel
theorem dX8_readPerson_16 : decode cX8_readPerson 16 = .ok (.iaload, 1) := by decide +kernel
theorem dX8_readPerson_17 : decode cX8_readPerson 17 = .ok (.goto 4, 3) := by decide +kernel
theorem dX8_readPerson_20 : decode cX8_readPerson 20 = .ok (.iconst 0, 1) := by decide +kernel
theorem dX8_readPerson_21 : decode cX8_readPerson 21 = .ok (.istore_n 3, 1) := by decide +kernel
theorem dX8_readPerson_22 : decode cX8_readPerson 22 = .ok (.aload_n 0, 1) := by decide +kernel
theorem dX8_readPerson_23 : decode cX8_readPerson 23 = .ok (.getfield 32, 3) := by decide +kernel
theorem dX8_readPerson_26 : decode cX8_readPerson 26 = .ok (.iload_n 2, 1) := by decide +kernel
theorem dX8_readPerson_27 : decode cX8_readPerson 27 = .ok (.iload_n 3, 1) := by decide +kernel
theorem dX8_readPerson_28 : decode cX8_readPerson 28 = .ok (.bipush 103, 2) := by decide +kernel
theorem dX8_readPerson_30 : decode cX8_readPerson 30 = .ok (.if_icmp .ne 7, 3) := by decide +kernel
theorem dX8_readPerson_33 : decode cX8_readPerson 33 = .ok (.iconst 0, 1) := by decide +kernel
theorem dX8_readPerson_34 : decode cX8_readPerson 34 = .ok (.goto 25, 3) := by decide +kernel
theorem dX8_readPerson_37 : decode cX8_readPerson 37 = .ok (.iload_n 3, 1) := by decide +kernel
theorem dX8_readPerson_38 : decode cX8_readPerson 38 = .ok (.bipush 104, 2) := by decide +kernel
theorem dX8_readPerson_40 : decode cX8_readPerson 40 = .ok (.if_icmp .ne 7, 3) := by decide +kernel
theorem dX8_readPerson_43 : decode cX8_readPerson 43 = .ok (.iconst 1, 1) := by decide +kernel
theorem dX8_readPerson_44 : decode cX8_readPerson 44 = .ok (.goto 15, 3) := by decide +kernel
theorem dX8_readPerson_47 : decode cX8_readPerson 47 = .ok (.iload_n 3, 1) := by decide +kernel
theorem dX8_readPerson_48 : decode cX8_readPerson 48 = .ok (.bipush 111, 2) := by decide +kernel
theorem dX8_readPerson_50 : decode cX8_readPerson 50 = .ok (.if_icmp .ne 7, 3) := by decide +kernel
theorem dX8_readPerson_53 : decode cX8_readPerson 53 = .ok (.iconst 2, 1) := by decide +kernel
theorem dX8_readPerson_54 : decode cX8_readPerson 54 = .ok (.goto 5, 3) := by decide +kernel
theorem dX8_readPerson_57 : decode cX8_readPerson 57 = .ok (.bipush (-9), 2) := by decide +kernel
theorem dX8_readPerson_59 : decode cX8_readPerson 59 = .ok (.iastore, 1) := by decide +kernel
theorem dX8_readPerson_60 : decode cX8_readPerson 60 = .ok (.aload_n 0, 1) := by decide +kernel
theorem dX8_readPerson_61 : decode cX8_readPerson 61 = .ok (.getfield 32, 3) := by decide +kernel
theorem dX8_readPerson_64 : decode cX8_readPerson 64 = .ok (.iload_n 2, 1) := by decide +kernel
theorem dX8_readPerson_65 : decode cX8_readPerson 65 = .ok (.iaload, 1) := by decide +kernel
theorem dX8_readPerson_66 : decode cX8_readPerson 66 = .ok (.bipush (-9), 2) := by decide +kernel
theorem dX8_readPerson_68 : decode cX8_readPerson 68 = .ok (.if_icmp .ne 5, 3) := by decide +kernel
theorem dX8_readPerson_71 : decode cX8_readPerson 71 = .ok (.iconst 0, 1) := by decide +kernel
theorem dX8_readPerson_72 : decode cX8_readPerson 72 = .ok (.ireturn, 1) := by decide +kernel
theorem dX8_readPerson_73 : decode cX8_readPerson 73 = .ok (.aload_n 0, 1) := by decide +kernel
theorem dX8_readPerson_74 : decode cX8_readPerson 74 = .ok (.dup, 1) := by decide +kernel
theorem dX8_readPerson_75 : decode cX8_readPerson 75 = .ok (.getfield 108, 3) := by decide +kernel
theorem dX8_readPerson_78 : decode cX8_readPerson 78 = .ok (.iconst 1, 1) := by decide +kernel
theorem dX8_readPerson_79 : decode cX8_readPerson 79 = .ok (.iadd, 1) := by decide +kernel
theorem dX8_readPerson_80 : decode cX8_readPerson 80 = .ok (.putfield 108, 3) := by decide +kernel
theorem dX8_readPerson_83 : decode cX8_readPerson 83 = .ok (.aload_n 0, 1) := by decide +kernel
theorem dX8_readPerson_84 : decode cX8_readPerson 84 = .ok (.getfield 35, 3) := by decide +kernel
theorem dX8_readPerson_87 : decode cX8_readPerson 87 = .ok (.iload_n 2, 1) := by decide +kernel
theorem dX8_readPerson_88 : decode cX8_readPerson 88 = .ok (.aload_n 0, 1) := by decide +kernel
theorem dX8_readPerson_89 : decode cX8_readPerson 89 = .ok (.iload_n 1, 1) := by decide +kernel
theorem dX8_readPerson_90 : decode cX8_readPerson 90 = .ok (.iconst 1, 1) := by decide +kernel
theorem dX8_readPerson_91 : decode cX8_readPerson 91 = .ok (.bipush 9, 2) := by decide +kernel
theorem dX8_readPerson_93 : decode cX8_readPerson 93 = .ok (.invokevirtual 138, 3) := by decide +kernel
theorem dX8_readPerson_96 : decode cX8_readPerson 96 = .ok (.iastore, 1) := by decide +kernel
theorem dX8_readPerson_97 : decode cX8_readPerson 97 = .ok (.aload_n 0, 1) := by decide +kernel
theorem dX8_readPerson_98 : decode cX8_readPerson 98 = .ok (.getfield 35, 3) := by decide +kernel
theorem dX8_readPerson_101 : decode cX8_readPerson 101 = .ok (.iload_n 2, 1) := by decide +kernel
theorem dX8_readPerson_102 : decode cX8_readPerson 102 = .ok (.iaload, 1) := by decide +kernel
theorem dX8_readPerson_103 : decode cX8_readPerson 103 = .ok (.bipush (-9), 2) := by decide +kernel
theorem dX8_readPerson_105 : decode cX8_readPerson 105 = .ok (.if_icmp .ne 5, 3) := by decide +kernel
theorem dX8_readPerson_108 : decode cX8_readPerson 108 = .ok (.iconst 0, 1) := by decide +kernel
theorem dX8_readPerson_109 : decode cX8_readPerson 109 = .ok (.ireturn, 1) := by decide +kernel
theorem dX8_readPerson_110 : decode cX8_readPerson 110 = .ok (.iconst 0, 1) := by decide +kernel
theorem dX8_readPerson_111 : decode cX8_readPerson 111 = .ok (.istore 4, 2) := by decide +kernel
theorem dX8_readPerson_113 : decode cX8_readPerson 113 = .ok (.iload 4, 2) := by decide +kernel
theorem dX8_readPerson_115 : decode cX8_readPerson 115 = .ok (.iconst 2, 1) := by decide +kernel
theorem dX8_readPerson_116 : decode cX8_readPerson 116 = .ok (.if_icmp .ge 67, 3) := by decide +kernel
theorem dX8_readPerson_119 : decode cX8_readPerson 119 = .ok (.aload_n 0, 1) := by decide +kernel
theorem dX8_readPerson_120 : decode cX8_readPerson 120 = .ok (.iload_n 1, 1) := by decide +kernel
theorem dX8_readPerson_121 : decode cX8_readPerson 121 = .ok (.iconst 0, 1) := by decide +kernel
theorem dX8_readPerson_122 : decode cX8_readPerson 122 = .ok (.aload_n 0, 1) := by decide +kernel
theorem dX8_readPerson_123 : decode cX8_readPerson 123 = .ok (.getfield 129, 3) := by decide +kernel
theorem dX8_readPerson_126 : decode cX8_readPerson 126 = .ok (.iconst 1, 1) := by decide +kernel
theorem dX8_readPerson_127 : decode cX8_readPerson 127 = .ok (.isub, 1) := by decide +kernel
theorem dX8_readPerson_128 : decode cX8_readPerson 128 = .ok (.invokevirtual 138, 3) := by decide +kernel
theorem dX8_readPerson_131 : decode cX8_readPerson 131 = .ok (.istore 5, 2) := by decide +kernel
theorem dX8_readPerson_133 : decode cX8_readPerson 133 = .ok (.iload 5, 2) := by decide +kernel
theorem dX8_readPerson_135 : decode cX8_readPerson 135 = .ok (.iload_n 2, 1) := by decide +kernel
theorem dX8_readPerson_136 : decode cX8_readPerson 136 = .ok (.if_icmp .ne 13, 3) := by decide +kernel
theorem dX8_readPerson_139 : decode cX8_readPerson 139 = .ok (.aload_n 0, 1) := by decide +kernel
theorem dX8_readPerson_140 : decode cX8_readPerson 140 = .ok (.dup, 1) := by decide +kernel
theorem dX8_readPerson_141 : decode cX8_readPerson 141 = .ok (.getfield 108, 3) := by decide +kernel
theorem dX8_readPerson_144 : decode cX8_readPerson 144 = .ok (.iconst 1, 1) := by decide +kernel
theorem dX8_readPerson_145 : decode cX8_readPerson 145 = .ok (.isub, 1) := by decide +kernel
theorem dX8_readPerson_146 : decode cX8_readPerson 146 = .ok (.putfield 108, 3) := by decide +kernel
theorem dX8_readPerson_149 : decode cX8_readPerson 149 = .ok (.iload 5, 2) := by decide +kernel
theorem dX8_readPerson_151 : decode cX8_readPerson 151 = .ok (.bipush (-9), 2) := by decide +kernel
theorem dX8_readPerson_153 : decode cX8_readPerson 153 = .ok (.if_icmp .eq 9, 3) := by decide +kernel
theorem dX8_readPerson_156 : decode cX8_readPerson 156 = .ok (.iload 5, 2) := by decide +kernel
theorem dX8_readPerson_158 : decode cX8_readPerson 158 = .ok (.iload_n 2, 1) := by decide +kernel
theorem dX8_readPerson_159 : decode cX8_readPerson 159 = .ok (.if_icmp .ne 5, 3) := by decide +kernel
theorem dX8_readPerson_162 : decode cX8_readPerson 162 = .ok (.iconst 0, 1) := by decide +kernel
theorem dX8_readPerson_163 : decode cX8_readPerson 163 = .ok (.ireturn, 1) := by decide +kernel
theorem dX8_readPerson_164 : decode cX8_readPerson 164 = .ok (.aload_n 0, 1) := by decide +kernel
theorem dX8_readPerson_165 : decode cX8_readPerson 165 = .ok (.getfield 38, 3) := by decide +kernel
theorem dX8_readPerson_168 : decode cX8_readPerson 168 = .ok (.iconst 2, 1) := by decide +kernel
theorem dX8_readPerson_169 : decode cX8_readPerson 169 = .ok (.iload_n 2, 1) := by decide +kernel
theorem dX8_readPerson_170 : decode cX8_readPerson 170 = .ok (.imul, 1) := by decide +kernel
theorem dX8_readPerson_171 : decode cX8_readPerson 171 = .ok (.iload 4, 2) := by decide +kernel
theorem dX8_readPerson_173 : decode cX8_readPerson 173 = .ok (.iadd, 1) := by decide +kernel
theorem dX8_readPerson_174 : decode cX8_readPerson 174 = .ok (.iload 5, 2) := by decide +kernel
theorem dX8_readPerson_176 : decode cX8_readPerson 176 = .ok (.iastore, 1) := by decide +kernel
theorem dX8_readPerson_177 : decode cX8_readPerson 177 = .ok (.iinc 4 1, 3) := by decide +kernel
theorem dX8_readPerson_180 : decode cX8_readPerson 180 = .ok (.goto (-67), 3) := by decide +kernel
theorem dX8_readPerson_183 : decode cX8_readPerson 183 = .ok (.iconst 1, 1) := by decide +kernel
theorem dX8_readPerson_184 : decode cX8_readPerson 184 = .ok (.ireturn, 1) := by decide +kernel
theorem dX8_touchy_0 : decode cX8_touchy 0 = .ok (.bipush 10, 2) := by decide +kernel
theorem dX8_touchy_2 : decode cX8_touchy 2 = .ok (.aload_n 0, 1) := by decide +kernel
theorem dX8_touchy_3 : decode cX8_touchy 3 = .ok (.getfield 22, 3) := by decide +kernel
theorem dX8_touchy_6 : decode cX8_touchy 6 = .ok (.iload_n 1, 1) := by decide +kernel
theorem dX8_touchy_7 : decode cX8_touchy 7 = .ok (.iaload, 1) := by decide +kernel
theorem dX8_touchy_8 : decode cX8_touchy 8 = .ok (.isub, 1) := by decide +kernel
theorem dX8_touchy_9 : decode cX8_touchy 9 = .ok (.istore_n 2, 1) := by decide +kernel
theorem dX8_touchy_10 : decode cX8_touchy 10 = .ok (.aload_n 0, 1) := by decide +kernel
theorem dX8_touchy_11 : decode cX8_touchy 11 = .ok (.getfield 19, 3) := by decide +kernel
theorem dX8_touchy_14 : decode cX8_touchy 14 = .ok (.iload_n 1, 1) := by decide +kernel
theorem dX8_touchy_15 : decode cX8_touchy 15 = .ok (.iaload, 1) := by decide +kernel
theorem dX8_touchy_16 : decode cX8_touchy 16 = .ok (.ifCond .le 16, 3) := by decide +kernel
theorem dX8_touchy_19 : decode cX8_touchy 19 = .ok (.iload_n 2, 1) := by decide +kernel
theorem dX8_touchy_20 : decode cX8_touchy 20 = .ok (.iconst 3, 1) := by decide +kernel
theorem dX8_touchy_21 : decode cX8_touchy 21 = .ok (.if_icmp .le 9, 3) := by decide +kernel
theorem dX8_touchy_24 : decode cX8_touchy 24 = .ok (.iload_n 2, 1) := by decide +kernel
theorem dX8_touchy_25 : decode cX8_touchy 25 = .ok (.iconst 2, 1) := by decide +kernel
theorem dX8_touchy_26 : decode cX8_touchy 26 = .ok (.isub, 1) := by decide +kernel
theorem dX8_touchy_27 : decode cX8_touchy 27 = .ok (.goto 4, 3) := by decide +kernel
theorem dX8_touchy_30 : decode cX8_touchy 30 = .ok (.iconst 1, 1) := by decide +kernel
theorem dX8_touchy_31 : decode cX8_touchy 31 = .ok (.istore_n 2, 1) := by decide +kernel
theorem dX8_touchy_32 : decode cX8_touchy 32 = .ok (.aload_n 0, 1) := by decide +kernel
theorem dX8_touchy_33 : decode cX8_touchy 33 = .ok (.getfield 19, 3) := by decide +kernel
theorem dX8_touchy_36 : decode cX8_touchy 36 = .ok (.iload_n 1, 1) := by decide +kernel
theorem dX8_touchy_37 : decode cX8_touchy 37 = .ok (.iaload, 1) := by decide +kernel
theorem dX8_touchy_38 : decode cX8_touchy 38 = .ok (.iconst 2, 1) := by decide +kernel
theorem dX8_touchy_39 : decode cX8_touchy 39 = .ok (.if_icmp .ne 16, 3) := by decide +kernel
theorem dX8_touchy_42 : decode cX8_touchy 42 = .ok (.iload_n 2, 1) := by decide +kernel
theorem dX8_touchy_43 : decode cX8_touchy 43 = .ok (.iconst 2, 1) := by decide +kernel
theorem dX8_touchy_44 : decode cX8_touchy 44 = .ok (.if_icmp .le 9, 3) := by decide +kernel
theorem dX8_touchy_47 : decode cX8_touchy 47 = .ok (.iload_n 2, 1) := by decide +kernel
theorem dX8_touchy_48 : decode cX8_touchy 48 = .ok (.iconst 1, 1) := by decide +kernel
theorem dX8_touchy_49 : decode cX8_touchy 49 = .ok (.isub, 1) := by decide +kernel
theorem dX8_touchy_50 : decode cX8_touchy 50 = .ok (.goto 4, 3) := by decide +kernel
theorem dX8_touchy_53 : decode cX8_touchy 53 = .ok (.iconst 1, 1) := by decide +kernel
theorem dX8_touchy_54 : decode cX8_touchy 54 = .ok (.istore_n 2, 1) := by decide +kernel
theorem dX8_touchy_55 : decode cX8_touchy 55 = .ok (.iload_n 2, 1) := by decide +kernel
theorem dX8_touchy_56 : decode cX8_touchy 56 = .ok (.ireturn, 1) := by decide +kernel
theorem dX8_ofPerson_0 : decode cX8_ofPerson 0 = .ok (.aload_n 0, 1) := by decide +kernel
theorem dX8_ofPerson_1 : decode cX8_ofPerson 1 = .ok (.iload_n 1, 1) := by decide +kernel
theorem dX8_ofPerson_2 : decode cX8_ofPerson 2 = .ok (.invokevirtual 145, 3) := by decide +kernel
theorem dX8_ofPerson_5 : decode cX8_ofPerson 5 = .ok (.ifCond .ne 5, 3) := by decide +kernel
theorem dX8_ofPerson_8 : decode cX8_ofPerson 8 = .ok (.iconst (-1), 1) := by decide +kernel
theorem dX8_ofPerson_9 : decode cX8_ofPerson 9 = .ok (.ireturn, 1) := by decide +kernel
theorem dX8_ofPerson_10 : decode cX8_ofPerson 10 = .ok (.iload_n 2, 1) := by decide +kernel
theorem dX8_ofPerson_11 : decode cX8_ofPerson 11 = .ok (.tableswitch 92 0 5 #[37, 44, 51, 60, 71, 77], 37) := by decide +kernel
theorem dX8_ofPerson_48 : decode cX8_ofPerson 48 = .ok (.aload_n 0, 1) := by decide +kernel
theorem dX8_ofPerson_49 : decode cX8_ofPerson 49 = .ok (.getfield 19, 3) := by decide +kernel
theorem dX8_ofPerson_52 : decode cX8_ofPerson 52 = .ok (.iload_n 1, 1) := by decide +kernel
theorem dX8_ofPerson_53 : decode cX8_ofPerson 53 = .ok (.iaload, 1) := by decide +kernel
theorem dX8_ofPerson_54 : decode cX8_ofPerson 54 = .ok (.ireturn, 1) := by decide +kernel
theorem dX8_ofPerson_55 : decode cX8_ofPerson 55 = .ok (.aload_n 0, 1) := by decide +kernel
theorem dX8_ofPerson_56 : decode cX8_ofPerson 56 = .ok (.getfield 22, 3) := by decide +kernel
theorem dX8_ofPerson_59 : decode cX8_ofPerson 59 = .ok (.iload_n 1, 1) := by decide +kernel
theorem dX8_ofPerson_60 : decode cX8_ofPerson 60 = .ok (.iaload, 1) := by decide +kernel
theorem dX8_ofPerson_61 : decode cX8_ofPerson 61 = .ok (.ireturn, 1) := by decide +kernel
theorem dX8_ofPerson_62 : decode cX8_ofPerson 62 = .ok (.aload_n 0, 1) := by decide +kernel
theorem dX8_ofPerson_63 : decode cX8_ofPerson 63 = .ok (.getfield 25, 3) := by decide +kernel
theorem dX8_ofPerson_66 : decode cX8_ofPerson 66 = .ok (.iconst 2, 1) := by decide +kernel
theorem dX8_ofPerson_67 : decode cX8_ofPerson 67 = .ok (.iload_n 1, 1) := by decide +kernel
theorem dX8_ofPerson_68 : decode cX8_ofPerson 68 = .ok (.imul, 1) := by decide +kernel
theorem dX8_ofPerson_69 : decode cX8_ofPerson 69 = .ok (.iaload, 1) := by decide +kernel
theorem dX8_ofPerson_70 : decode cX8_ofPerson 70 = .ok (.ireturn, 1) := by decide +kernel
theorem dX8_ofPerson_71 : decode cX8_ofPerson 71 = .ok (.aload_n 0, 1) := by decide +kernel
theorem dX8_ofPerson_72 : decode cX8_ofPerson 72 = .ok (.getfield 25, 3) := by decide +kernel
theorem dX8_ofPerson_75 : decode cX8_ofPerson 75 = .ok (.iconst 2, 1) := by decide +kernel
theorem dX8_ofPerson_76 : decode cX8_ofPerson 76 = .ok (.iload_n 1, 1) := by decide +kernel
theorem dX8_ofPerson_77 : decode cX8_ofPerson 77 = .ok (.imul, 1) := by decide +kernel
theorem dX8_ofPerson_78 : decode cX8_ofPerson 78 = .ok (.iconst 1, 1) := by decide +kernel
theorem dX8_ofPerson_79 : decode cX8_ofPerson 79 = .ok (.iadd, 1) := by decide +kernel
theorem dX8_ofPerson_80 : decode cX8_ofPerson 80 = .ok (.iaload, 1) := by decide +kernel
theorem dX8_ofPerson_81 : decode cX8_ofPerson 81 = .ok (.ireturn, 1) := by decide +kernel
theorem dX8_ofPerson_82 : decode cX8_ofPerson 82 = .ok (.aload_n 0, 1) := by decide +kernel
theorem dX8_ofPerson_83 : decode cX8_ofPerson 83 = .ok (.iload_n 1, 1) := by decide +kernel
theorem dX8_ofPerson_84 : decode cX8_ofPerson 84 = .ok (.invokevirtual 148, 3) := by decide +kernel
theorem dX8_ofPerson_87 : decode cX8_ofPerson 87 = .ok (.ireturn, 1) := by decide +kernel
theorem dX8_ofPerson_88 : decode cX8_ofPerson 88 = .ok (.aload_n 0, 1) := by decide +kernel
theorem dX8_ofPerson_89 : decode cX8_ofPerson 89 = .ok (.getfield 28, 3) := by decide +kernel
theorem dX8_ofPerson_92 : decode cX8_ofPerson 92 = .ok (.iload_n 1, 1) := by decide +kernel
theorem dX8_ofPerson_93 : decode cX8_ofPerson 93 = .ok (.baload, 1) := by decide +kernel
theorem dX8_ofPerson_94 : decode cX8_ofPerson 94 = .ok (.ifCond .eq 7, 3) := by decide +kernel
theorem dX8_ofPerson_97 : decode cX8_ofPerson 97 = .ok (.iconst 1, 1) := by decide +kernel
theorem dX8_ofPerson_98 : decode cX8_ofPerson 98 = .ok (.goto 4, 3) := by decide +kernel
theorem dX8_ofPerson_101 : decode cX8_ofPerson 101 = .ok (.iconst 0, 1) := by decide +kernel
theorem dX8_ofPerson_102 : decode cX8_ofPerson 102 = .ok (.ireturn, 1) := by decide +kernel
theorem dX8_ofPerson_103 : decode cX8_ofPerson 103 = .ok (.bipush (-2), 2) := by decide +kernel
theorem dX8_ofPerson_105 : decode cX8_ofPerson 105 = .ok (.ireturn, 1) := by decide +kernel
theorem dX8_lay_0 : decode cX8_lay 0 = .ok (.aload_n 0, 1) := by decide +kernel
theorem dX8_lay_1 : decode cX8_lay 1 = .ok (.getfield 41, 3) := by decide +kernel
theorem dX8_lay_4 : decode cX8_lay 4 = .ok (.iload_n 1, 1) := by decide +kernel
theorem dX8_lay_5 : decode cX8_lay 5 = .ok (.iload_n 2, 1) := by decide +kernel
theorem dX8_lay_6 : decode cX8_lay 6 = .ok (.iastore, 1) := by decide +kernel
theorem dX8_lay_7 : decode cX8_lay 7 = .ok (.aload_n 0, 1) := by decide +kernel
theorem dX8_lay_8 : decode cX8_lay 8 = .ok (.getfield 44, 3) := by decide +kernel
theorem dX8_lay_11 : decode cX8_lay 11 = .ok (.iload_n 1, 1) := by decide +kernel
theorem dX8_lay_12 : decode cX8_lay 12 = .ok (.iload_n 3, 1) := by decide +kernel
theorem dX8_lay_13 : decode cX8_lay 13 = .ok (.iastore, 1) := by decide +kernel
theorem dX8_lay_14 : decode cX8_lay 14 = .ok (.aload_n 0, 1) := by decide +kernel
theorem dX8_lay_15 : decode cX8_lay 15 = .ok (.getfield 47, 3) := by decide +kernel
theorem dX8_lay_18 : decode cX8_lay 18 = .ok (.iload_n 1, 1) := by decide +kernel
theorem dX8_lay_19 : decode cX8_lay 19 = .ok (.iload 4, 2) := by decide +kernel
theorem dX8_lay_21 : decode cX8_lay 21 = .ok (.iastore, 1) := by decide +kernel
theorem dX8_lay_22 : decode cX8_lay 22 = .ok (.aload_n 0, 1) := by decide +kernel
theorem dX8_lay_23 : decode cX8_lay 23 = .ok (.getfield 50, 3) := by decide +kernel
theorem dX8_lay_26 : decode cX8_lay 26 = .ok (.iload_n 1, 1) := by decide +kernel
theorem dX8_lay_27 : decode cX8_lay 27 = .ok (.iload 5, 2) := by decide +kernel
theorem dX8_lay_29 : decode cX8_lay 29 = .ok (.iastore, 1) := by decide +kernel
theorem dX8_lay_30 : decode cX8_lay 30 = .ok (.return_, 1) := by decide +kernel
theorem dX8_insult_0 : decode cX8_insult 0 = .ok (.aload_n 0, 1) := by decide +kernel
theorem dX8_insult_1 : decode cX8_insult 1 = .ok (.iload_n 1, 1) := by decide +kernel
theorem dX8_insult_2 : decode cX8_insult 2 = .ok (.invokevirtual 145, 3) := by decide +kernel
theorem dX8_insult_5 : decode cX8_insult 5 = .ok (.ifCond .eq 16, 3) := by decide +kernel
theorem dX8_insult_8 : decode cX8_insult 8 = .ok (.aload_n 0, 1) := by decide +kernel
theorem dX8_insult_9 : decode cX8_insult 9 = .ok (.iload_n 2, 1) := by decide +kernel
theorem dX8_insult_10 : decode cX8_insult 10 = .ok (.invokevirtual 145, 3) := by decide +kernel
theorem dX8_insult_13 : decode cX8_insult 13 = .ok (.ifCond .eq 8, 3) := by decide +kernel
theorem dX8_insult_16 : decode cX8_insult 16 = .ok (.iload_n 1, 1) := by decide +kernel
theorem dX8_insult_17 : decode cX8_insult 17 = .ok (.iload_n 2, 1) := by decide +kernel
theorem dX8_insult_18 : decode cX8_insult 18 = .ok (.if_icmp .ne 5, 3) := by decide +kernel
theorem dX8_insult_21 : decode cX8_insult 21 = .ok (.iconst (-1), 1) := by decide +kernel
theorem dX8_insult_22 : decode cX8_insult 22 = .ok (.ireturn, 1) := by decide +kernel
theorem dX8_insult_23 : decode cX8_insult 23 = .ok (.iload_n 3, 1) := by decide +kernel
theorem dX8_insult_24 : decode cX8_insult 24 = .ok (.iconst 0, 1) := by decide +kernel
theorem dX8_insult_25 : decode cX8_insult 25 = .ok (.bipush 29, 2) := by decide +kernel
theorem dX8_insult_27 : decode cX8_insult 27 = .ok (.invokestatic 101, 3) := by decide +kernel
theorem dX8_insult_30 : decode cX8_insult 30 = .ok (.ifCond .eq 14, 3) := by decide +kernel
theorem dX8_insult_33 : decode cX8_insult 33 = .ok (.iload 4, 2) := by decide +kernel
theorem dX8_insult_35 : decode cX8_insult 35 = .ok (.iconst 1, 1) := by decide +kernel
theorem dX8_insult_36 : decode cX8_insult 36 = .ok (.bipush 9, 2) := by decide +kernel
theorem dX8_insult_38 : decode cX8_insult 38 = .ok (.invokestatic 101, 3) := by decide +kernel
theorem dX8_insult_41 : decode cX8_insult 41 = .ok (.ifCond .ne 6, 3) := by decide +kernel
theorem dX8_insult_44 : decode cX8_insult 44 = .ok (.bipush (-2), 2) := by decide +kernel
theorem dX8_insult_46 : decode cX8_insult 46 = .ok (.ireturn, 1) := by decide +kernel
theorem dX8_insult_47 : decode cX8_insult 47 = .ok (.aload_n 0, 1) := by decide +kernel
theorem dX8_insult_48 : decode cX8_insult 48 = .ok (.getfield 132, 3) := by decide +kernel
theorem dX8_insult_51 : decode cX8_insult 51 = .ok (.bipush 8, 2) := by decide +kernel
theorem dX8_insult_53 : decode cX8_insult 53 = .ok (.if_icmp .ne 6, 3) := by decide +kernel
theorem dX8_insult_56 : decode cX8_insult 56 = .ok (.bipush (-4), 2) := by decide +kernel
theorem dX8_insult_58 : decode cX8_insult 58 = .ok (.ireturn, 1) := by decide +kernel
theorem dX8_insult_59 : decode cX8_insult 59 = .ok (.aload_n 0, 1) := by decide +kernel
theorem dX8_insult_60 : decode cX8_insult 60 = .ok (.aload_n 0, 1) := by decide +kernel
theorem dX8_insult_61 : decode cX8_insult 61 = .ok (.getfield 132, 3) := by decide +kernel
theorem dX8_insult_64 : decode cX8_insult 64 = .ok (.iload_n 1, 1) := by decide +kernel
theorem dX8_insult_65 : decode cX8_insult 65 = .ok (.iload_n 2, 1) := by decide +kernel
theorem dX8_insult_66 : decode cX8_insult 66 = .ok (.iload_n 3, 1) := by decide +kernel
theorem dX8_insult_67 : decode cX8_insult 67 = .ok (.iload 4, 2) := by decide +kernel
theorem dX8_insult_69 : decode cX8_insult 69 = .ok (.invokevirtual 151, 3) := by decide +kernel
theorem dX8_insult_72 : decode cX8_insult 72 = .ok (.aload_n 0, 1) := by decide +kernel
theorem dX8_insult_73 : decode cX8_insult 73 = .ok (.dup, 1) := by decide +kernel
theorem dX8_insult_74 : decode cX8_insult 74 = .ok (.getfield 132, 3) := by decide +kernel
theorem dX8_insult_77 : decode cX8_insult 77 = .ok (.iconst 1, 1) := by decide +kernel
theorem dX8_insult_78 : decode cX8_insult 78 = .ok (.iadd, 1) := by decide +kernel
theorem dX8_insult_79 : decode cX8_insult 79 = .ok (.putfield 132, 3) := by decide +kernel
theorem dX8_insult_82 : decode cX8_insult 82 = .ok (.aload_n 0, 1) := by decide +kernel
theorem dX8_insult_83 : decode cX8_insult 83 = .ok (.getfield 132, 3) := by decide +kernel
theorem dX8_insult_86 : decode cX8_insult 86 = .ok (.iconst 1, 1) := by decide +kernel
theorem dX8_insult_87 : decode cX8_insult 87 = .ok (.isub, 1) := by decide +kernel
theorem dX8_insult_88 : decode cX8_insult 88 = .ok (.ireturn, 1) := by decide +kernel
theorem dX8_sorry_0 : decode cX8_sorry 0 = .ok (.iload_n 1, 1) := by decide +kernel
theorem dX8_sorry_1 : decode cX8_sorry 1 = .ok (.iconst 0, 1) := by decide +kernel
theorem dX8_sorry_2 : decode cX8_sorry 2 = .ok (.aload_n 0, 1) := by decide +kernel
theorem dX8_sorry_3 : decode cX8_sorry 3 = .ok (.getfield 132, 3) := by decide +kernel
theorem dX8_sorry_6 : decode cX8_sorry 6 = .ok (.invokestatic 101, 3) := by decide +kernel
theorem dX8_sorry_9 : decode cX8_sorry 9 = .ok (.ifCond .ne 6, 3) := by decide +kernel
theorem dX8_sorry_12 : decode cX8_sorry 12 = .ok (.bipush (-2), 2) := by decide +kernel
theorem dX8_sorry_14 : decode cX8_sorry 14 = .ok (.ireturn, 1) := by decide +kernel
theorem dX8_sorry_15 : decode cX8_sorry 15 = .ok (.aload_n 0, 1) := by decide +kernel
theorem dX8_sorry_16 : decode cX8_sorry 16 = .ok (.dup, 1) := by decide +kernel
theorem dX8_sorry_17 : decode cX8_sorry 17 = .ok (.getfield 132, 3) := by decide +kernel
theorem dX8_sorry_20 : decode cX8_sorry 20 = .ok (.iload_n 1, 1) := by decide +kernel
theorem dX8_sorry_21 : decode cX8_sorry 21 = .ok (.isub, 1) := by decide +kernel
theorem dX8_sorry_22 : decode cX8_sorry 22 = .ok (.putfield 132, 3) := by decide +kernel
theorem dX8_sorry_25 : decode cX8_sorry 25 = .ok (.aload_n 0, 1) := by decide +kernel
theorem dX8_sorry_26 : decode cX8_sorry 26 = .ok (.getfield 132, 3) := by decide +kernel
theorem dX8_sorry_29 : decode cX8_sorry 29 = .ok (.ireturn, 1) := by decide +kernel
theorem dX8_arrest_0 : decode cX8_arrest 0 = .ok (.aload_n 0, 1) := by decide +kernel
theorem dX8_arrest_1 : decode cX8_arrest 1 = .ok (.iload_n 1, 1) := by decide +kernel
theorem dX8_arrest_2 : decode cX8_arrest 2 = .ok (.invokevirtual 145, 3) := by decide +kernel
theorem dX8_arrest_5 : decode cX8_arrest 5 = .ok (.ifCond .ne 5, 3) := by decide +kernel
theorem dX8_arrest_8 : decode cX8_arrest 8 = .ok (.iconst (-1), 1) := by decide +kernel
theorem dX8_arrest_9 : decode cX8_arrest 9 = .ok (.ireturn, 1) := by decide +kernel
theorem dX8_arrest_10 : decode cX8_arrest 10 = .ok (.aload_n 0, 1) := by decide +kernel
theorem dX8_arrest_11 : decode cX8_arrest 11 = .ok (.getfield 28, 3) := by decide +kernel
theorem dX8_arrest_14 : decode cX8_arrest 14 = .ok (.iload_n 1, 1) := by decide +kernel
theorem dX8_arrest_15 : decode cX8_arrest 15 = .ok (.baload, 1) := by decide +kernel
theorem dX8_arrest_16 : decode cX8_arrest 16 = .ok (.istore_n 3, 1) := by decide +kernel
theorem dX8_arrest_17 : decode cX8_arrest 17 = .ok (.aload_n 0, 1) := by decide +kernel
theorem dX8_arrest_18 : decode cX8_arrest 18 = .ok (.getfield 28, 3) := by decide +kernel
theorem dX8_arrest_21 : decode cX8_arrest 21 = .ok (.iload_n 1, 1) := by decide +kernel
theorem dX8_arrest_22 : decode cX8_arrest 22 = .ok (.iload_n 2, 1) := by decide +kernel
theorem dX8_arrest_23 : decode cX8_arrest 23 = .ok (.bastore, 1) := by decide +kernel
theorem dX8_arrest_24 : decode cX8_arrest 24 = .ok (.iload_n 3, 1) := by decide +kernel
theorem dX8_arrest_25 : decode cX8_arrest 25 = .ok (.iload_n 2, 1) := by decide +kernel
theorem dX8_arrest_26 : decode cX8_arrest 26 = .ok (.if_icmp .ne 7, 3) := by decide +kernel
theorem dX8_arrest_29 : decode cX8_arrest 29 = .ok (.iconst 0, 1) := by decide +kernel
theorem dX8_arrest_30 : decode cX8_arrest 30 = .ok (.goto 4, 3) := by decide +kernel
theorem dX8_arrest_33 : decode cX8_arrest 33 = .ok (.iconst 1, 1) := by decide +kernel
theorem dX8_arrest_34 : decode cX8_arrest 34 = .ok (.ireturn, 1) := by decide +kernel
theorem dX8_isFree_0 : decode cX8_isFree 0 = .ok (.aload_n 0, 1) := by decide +kernel
theorem dX8_isFree_1 : decode cX8_isFree 1 = .ok (.getfield 28, 3) := by decide +kernel
theorem dX8_isFree_4 : decode cX8_isFree 4 = .ok (.iload_n 1, 1) := by decide +kernel
theorem dX8_isFree_5 : decode cX8_isFree 5 = .ok (.baload, 1) := by decide +kernel
theorem dX8_isFree_6 : decode cX8_isFree 6 = .ok (.ifCond .ne 28, 3) := by decide +kernel
theorem dX8_isFree_9 : decode cX8_isFree 9 = .ok (.aload_n 0, 1) := by decide +kernel
theorem dX8_isFree_10 : decode cX8_isFree 10 = .ok (.getfield 53, 3) := by decide +kernel
theorem dX8_isFree_13 : decode cX8_isFree 13 = .ok (.iload_n 1, 1) := by decide +kernel
theorem dX8_isFree_14 : decode cX8_isFree 14 = .ok (.iaload, 1) := by decide +kernel
theorem dX8_isFree_15 : decode cX8_isFree 15 = .ok (.iload_n 2, 1) := by decide +kernel
theorem dX8_isFree_16 : decode cX8_isFree 16 = .ok (.if_icmp .gt 18, 3) := by decide +kernel
theorem dX8_isFree_19 : decode cX8_isFree 19 = .ok (.aload_n 0, 1) := by decide +kernel
theorem dX8_isFree_20 : decode cX8_isFree 20 = .ok (.getfield 155, 3) := by decide +kernel
theorem dX8_isFree_23 : decode cX8_isFree 23 = .ok (.iload_n 1, 1) := by decide +kernel
theorem dX8_isFree_24 : decode cX8_isFree 24 = .ok (.ishr, 1) := by decide +kernel
theorem dX8_isFree_25 : decode cX8_isFree 25 = .ok (.iconst 1, 1) := by decide +kernel
theorem dX8_isFree_26 : decode cX8_isFree 26 = .ok (.iand, 1) := by decide +kernel
theorem dX8_isFree_27 : decode cX8_isFree 27 = .ok (.ifCond .ne 7, 3) := by decide +kernel
theorem dX8_isFree_30 : decode cX8_isFree 30 = .ok (.iconst 1, 1) := by decide +kernel
theorem dX8_isFree_31 : decode cX8_isFree 31 = .ok (.goto 4, 3) := by decide +kernel
theorem dX8_isFree_34 : decode cX8_isFree 34 = .ok (.iconst 0, 1) := by decide +kernel
theorem dX8_isFree_35 : decode cX8_isFree 35 = .ok (.ireturn, 1) := by decide +kernel
theorem dX8_maySecond_0 : decode cX8_maySecond 0 = .ok (.iload_n 1, 1) := by decide +kernel
theorem dX8_maySecond_1 : decode cX8_maySecond 1 = .ok (.iload_n 2, 1) := by decide +kernel
theorem dX8_maySecond_2 : decode cX8_maySecond 2 = .ok (.if_icmp .eq 28, 3) := by decide +kernel
theorem dX8_maySecond_5 : decode cX8_maySecond 5 = .ok (.iload_n 1, 1) := by decide +kernel
theorem dX8_maySecond_6 : decode cX8_maySecond 6 = .ok (.iload_n 3, 1) := by decide +kernel
theorem dX8_maySecond_7 : decode cX8_maySecond 7 = .ok (.if_icmp .eq 23, 3) := by decide +kernel
theorem dX8_maySecond_10 : decode cX8_maySecond 10 = .ok (.iload_n 1, 1) := by decide +kernel
theorem dX8_maySecond_11 : decode cX8_maySecond 11 = .ok (.iload 4, 2) := by decide +kernel
theorem dX8_maySecond_13 : decode cX8_maySecond 13 = .ok (.if_icmp .eq 17, 3) := by decide +kernel
theorem dX8_maySecond_16 : decode cX8_maySecond 16 = .ok (.aload_n 0, 1) := by decide +kernel
theorem dX8_maySecond_17 : decode cX8_maySecond 17 = .ok (.iload_n 1, 1) := by decide +kernel
theorem dX8_maySecond_18 : decode cX8_maySecond 18 = .ok (.iload 5, 2) := by decide +kernel
theorem dX8_maySecond_20 : decode cX8_maySecond 20 = .ok (.invokevirtual 158, 3) := by decide +kernel
theorem dX8_maySecond_23 : decode cX8_maySecond 23 = .ok (.ifCond .eq 7, 3) := by decide +kernel
theorem dX8_maySecond_26 : decode cX8_maySecond 26 = .ok (.iconst 1, 1) := by decide +kernel
theorem dX8_maySecond_27 : decode cX8_maySecond 27 = .ok (.goto 4, 3) := by decide +kernel
theorem dX8_maySecond_30 : decode cX8_maySecond 30 = .ok (.iconst 0, 1) := by decide +kernel
theorem dX8_maySecond_31 : decode cX8_maySecond 31 = .ok (.ireturn, 1) := by decide +kernel
theorem dX8_secondOf_0 : decode cX8_secondOf 0 = .ok (.aload_n 0, 1) := by decide +kernel
theorem dX8_secondOf_1 : decode cX8_secondOf 1 = .ok (.getfield 25, 3) := by decide +kernel
theorem dX8_secondOf_4 : decode cX8_secondOf 4 = .ok (.iconst 2, 1) := by decide +kernel
theorem dX8_secondOf_5 : decode cX8_secondOf 5 = .ok (.iload_n 1, 1) := by decide +kernel
theorem dX8_secondOf_6 : decode cX8_secondOf 6 = .ok (.imul, 1) := by decide +kernel
theorem dX8_secondOf_7 : decode cX8_secondOf 7 = .ok (.iaload, 1) := by decide +kernel
theorem dX8_secondOf_8 : decode cX8_secondOf 8 = .ok (.istore 5, 2) := by decide +kernel
theorem dX8_secondOf_10 : decode cX8_secondOf 10 = .ok (.aload_n 0, 1) := by decide +kernel
theorem dX8_secondOf_11 : decode cX8_secondOf 11 = .ok (.getfield 25, 3) := by decide +kernel
theorem dX8_secondOf_14 : decode cX8_secondOf 14 = .ok (.iconst 2, 1) := by decide +kernel
theorem dX8_secondOf_15 : decode cX8_secondOf 15 = .ok (.iload_n 1, 1) := by decide +kernel
theorem dX8_secondOf_16 : decode cX8_secondOf 16 = .ok (.imul, 1) := by decide +kernel
theorem dX8_secondOf_17 : decode cX8_secondOf 17 = .ok (.iconst 1, 1) := by decide +kernel
theorem dX8_secondOf_18 : decode cX8_secondOf 18 = .ok (.iadd, 1) := by decide +kernel
theorem dX8_secondOf_19 : decode cX8_secondOf 19 = .ok (.iaload, 1) := by decide +kernel
theorem dX8_secondOf_20 : decode cX8_secondOf 20 = .ok (.istore 6, 2) := by decide +kernel
theorem dX8_secondOf_22 : decode cX8_secondOf 22 = .ok (.aload_n 0, 1) := by decide +kernel
theorem dX8_secondOf_23 : decode cX8_secondOf 23 = .ok (.iload 5, 2) := by decide +kernel
theorem dX8_secondOf_25 : decode cX8_secondOf 25 = .ok (.iload_n 1, 1) := by decide +kernel
theorem dX8_secondOf_26 : decode cX8_secondOf 26 = .ok (.iload_n 2, 1) := by decide +kernel
theorem dX8_secondOf_27 : decode cX8_secondOf 27 = .ok (.iload_n 3, 1) := by decide +kernel
theorem dX8_secondOf_28 : decode cX8_secondOf 28 = .ok (.iload 4, 2) := by decide +kernel
theorem dX8_secondOf_30 : decode cX8_secondOf 30 = .ok (.invokevirtual 161, 3) := by decide +kernel
theorem dX8_secondOf_33 : decode cX8_secondOf 33 = .ok (.ifCond .eq 6, 3) := by decide +kernel
theorem dX8_secondOf_36 : decode cX8_secondOf 36 = .ok (.iload 5, 2) := by decide +kernel
theorem dX8_secondOf_38 : decode cX8_secondOf 38 = .ok (.ireturn, 1) := by decide +kernel
theorem dX8_secondOf_39 : decode cX8_secondOf 39 = .ok (.aload_n 0, 1) := by decide +kernel
theorem dX8_secondOf_40 : decode cX8_secondOf 40 = .ok (.iload 6, 2) := by decide +kernel
theorem dX8_secondOf_42 : decode cX8_secondOf 42 = .ok (.iload_n 1, 1) := by decide +kernel
theorem dX8_secondOf_43 : decode cX8_secondOf 43 = .ok (.iload_n 2, 1) := by decide +kernel
theorem dX8_secondOf_44 : decode cX8_secondOf 44 = .ok (.iload_n 3, 1) := by decide +kernel
theorem dX8_secondOf_45 : decode cX8_secondOf 45 = .ok (.iload 4, 2) := by decide +kernel
theorem dX8_secondOf_47 : decode cX8_secondOf 47 = .ok (.invokevirtual 161, 3) := by decide +kernel
theorem dX8_secondOf_50 : decode cX8_secondOf 50 = .ok (.ifCond .eq 6, 3) := by decide +kernel
theorem dX8_secondOf_53 : decode cX8_secondOf 53 = .ok (.iload 6, 2) := by decide +kernel
theorem dX8_secondOf_55 : decode cX8_secondOf 55 = .ok (.ireturn, 1) := by decide +kernel
theorem dX8_secondOf_56 : decode cX8_secondOf 56 = .ok (.iconst 0, 1) := by decide +kernel
theorem dX8_secondOf_57 : decode cX8_secondOf 57 = .ok (.istore 7, 2) := by decide +kernel
theorem dX8_secondOf_59 : decode cX8_secondOf 59 = .ok (.iload 7, 2) := by decide +kernel
theorem dX8_secondOf_61 : decode cX8_secondOf 61 = .ok (.iconst 4, 1) := by decide +kernel
theorem dX8_secondOf_62 : decode cX8_secondOf 62 = .ok (.if_icmp .ge 53, 3) := by decide +kernel
theorem dX8_secondOf_65 : decode cX8_secondOf 65 = .ok (.aload_n 0, 1) := by decide +kernel
theorem dX8_secondOf_66 : decode cX8_secondOf 66 = .ok (.getfield 25, 3) := by decide +kernel
theorem dX8_secondOf_69 : decode cX8_secondOf 69 = .ok (.iconst 2, 1) := by decide +kernel
theorem dX8_secondOf_70 : decode cX8_secondOf 70 = .ok (.iload 7, 2) := by decide +kernel
theorem dX8_secondOf_72 : decode cX8_secondOf 72 = .ok (.iconst 2, 1) := by decide +kernel
theorem dX8_secondOf_73 : decode cX8_secondOf 73 = .ok (.if_icmp .ge 8, 3) := by decide +kernel
theorem dX8_secondOf_76 : decode cX8_secondOf 76 = .ok (.iload 5, 2) := by decide +kernel
theorem dX8_secondOf_78 : decode cX8_secondOf 78 = .ok (.goto 5, 3) := by decide +kernel
theorem dX8_secondOf_81 : decode cX8_secondOf 81 = .ok (.iload 6, 2) := by decide +kernel
theorem dX8_secondOf_83 : decode cX8_secondOf 83 = .ok (.imul, 1) := by decide +kernel
theorem dX8_secondOf_84 : decode cX8_secondOf 84 = .ok (.iload 7, 2) := by decide +kernel
theorem dX8_secondOf_86 : decode cX8_secondOf 86 = .ok (.iconst 2, 1) := by decide +kernel
theorem dX8_secondOf_87 : decode cX8_secondOf 87 = .ok (.irem, 1) := by decide +kernel
theorem dX8_secondOf_88 : decode cX8_secondOf 88 = .ok (.iadd, 1) := by decide +kernel
theorem dX8_secondOf_89 : decode cX8_secondOf 89 = .ok (.iaload, 1) := by decide +kernel
theorem dX8_secondOf_90 : decode cX8_secondOf 90 = .ok (.istore 8, 2) := by decide +kernel
theorem dX8_secondOf_92 : decode cX8_secondOf 92 = .ok (.aload_n 0, 1) := by decide +kernel
theorem dX8_secondOf_93 : decode cX8_secondOf 93 = .ok (.iload 8, 2) := by decide +kernel
theorem dX8_secondOf_95 : decode cX8_secondOf 95 = .ok (.iload_n 1, 1) := by decide +kernel
theorem dX8_secondOf_96 : decode cX8_secondOf 96 = .ok (.iload_n 2, 1) := by decide +kernel
theorem dX8_secondOf_97 : decode cX8_secondOf 97 = .ok (.iload_n 3, 1) := by decide +kernel
theorem dX8_secondOf_98 : decode cX8_secondOf 98 = .ok (.iload 4, 2) := by decide +kernel
theorem dX8_secondOf_100 : decode cX8_secondOf 100 = .ok (.invokevirtual 161, 3) := by decide +kernel
theorem dX8_secondOf_103 : decode cX8_secondOf 103 = .ok (.ifCond .eq 6, 3) := by decide +kernel
theorem dX8_secondOf_106 : decode cX8_secondOf 106 = .ok (.iload 8, 2) := by decide +kernel
theorem dX8_secondOf_108 : decode cX8_secondOf 108 = .ok (.ireturn, 1) := by decide +kernel
theorem dX8_secondOf_109 : decode cX8_secondOf 109 = .ok (.iinc 7 1, 3) := by decide +kernel
theorem dX8_secondOf_112 : decode cX8_secondOf 112 = .ok (.goto (-53), 3) := by decide +kernel
theorem dX8_secondOf_115 : decode cX8_secondOf 115 = .ok (.bipush (-9), 2) := by decide +kernel
theorem dX8_secondOf_117 : decode cX8_secondOf 117 = .ok (.ireturn, 1) := by decide +kernel
theorem dX8_meet_0 : decode cX8_meet 0 = .ok (.aload_n 0, 1) := by decide +kernel
theorem dX8_meet_1 : decode cX8_meet 1 = .ok (.dup, 1) := by decide +kernel
theorem dX8_meet_2 : decode cX8_meet 2 = .ok (.getfield 155, 3) := by decide +kernel
theorem dX8_meet_5 : decode cX8_meet 5 = .ok (.iconst 1, 1) := by decide +kernel
theorem dX8_meet_6 : decode cX8_meet 6 = .ok (.iload_n 1, 1) := by decide +kernel
theorem dX8_meet_7 : decode cX8_meet 7 = .ok (.ishl, 1) := by decide +kernel
theorem dX8_meet_8 : decode cX8_meet 8 = .ok (.iconst 1, 1) := by decide +kernel
theorem dX8_meet_9 : decode cX8_meet 9 = .ok (.iload_n 2, 1) := by decide +kernel
theorem dX8_meet_10 : decode cX8_meet 10 = .ok (.ishl, 1) := by decide +kernel
theorem dX8_meet_11 : decode cX8_meet 11 = .ok (.ior, 1) := by decide +kernel
theorem dX8_meet_12 : decode cX8_meet 12 = .ok (.ior, 1) := by decide +kernel
theorem dX8_meet_13 : decode cX8_meet 13 = .ok (.putfield 155, 3) := by decide +kernel
theorem dX8_meet_16 : decode cX8_meet 16 = .ok (.aload_n 0, 1) := by decide +kernel
theorem dX8_meet_17 : decode cX8_meet 17 = .ok (.getfield 68, 3) := by decide +kernel
theorem dX8_meet_20 : decode cX8_meet 20 = .ok (.aload_n 0, 1) := by decide +kernel
theorem dX8_meet_21 : decode cX8_meet 21 = .ok (.getfield 165, 3) := by decide +kernel
theorem dX8_meet_24 : decode cX8_meet 24 = .ok (.iload 5, 2) := by decide +kernel
theorem dX8_meet_26 : decode cX8_meet 26 = .ok (.iastore, 1) := by decide +kernel
theorem dX8_meet_27 : decode cX8_meet 27 = .ok (.aload_n 0, 1) := by decide +kernel
theorem dX8_meet_28 : decode cX8_meet 28 = .ok (.getfield 71, 3) := by decide +kernel
theorem dX8_meet_31 : decode cX8_meet 31 = .ok (.aload_n 0, 1) := by decide +kernel
theorem dX8_meet_32 : decode cX8_meet 32 = .ok (.getfield 165, 3) := by decide +kernel
theorem dX8_meet_35 : decode cX8_meet 35 = .ok (.iload_n 1, 1) := by decide +kernel
theorem dX8_meet_36 : decode cX8_meet 36 = .ok (.iastore, 1) := by decide +kernel
theorem dX8_meet_37 : decode cX8_meet 37 = .ok (.aload_n 0, 1) := by decide +kernel
theorem dX8_meet_38 : decode cX8_meet 38 = .ok (.getfield 74, 3) := by decide +kernel
theorem dX8_meet_41 : decode cX8_meet 41 = .ok (.aload_n 0, 1) := by decide +kernel
theorem dX8_meet_42 : decode cX8_meet 42 = .ok (.getfield 165, 3) := by decide +kernel
theorem dX8_meet_45 : decode cX8_meet 45 = .ok (.iload_n 2, 1) := by decide +kernel
theorem dX8_meet_46 : decode cX8_meet 46 = .ok (.iastore, 1) := by decide +kernel
theorem dX8_meet_47 : decode cX8_meet 47 = .ok (.aload_n 0, 1) := by decide +kernel
theorem dX8_meet_48 : decode cX8_meet 48 = .ok (.getfield 77, 3) := by decide +kernel
theorem dX8_meet_51 : decode cX8_meet 51 = .ok (.aload_n 0, 1) := by decide +kernel
theorem dX8_meet_52 : decode cX8_meet 52 = .ok (.getfield 165, 3) := by decide +kernel
theorem dX8_meet_55 : decode cX8_meet 55 = .ok (.iload_n 3, 1) := by decide +kernel
theorem dX8_meet_56 : decode cX8_meet 56 = .ok (.iastore, 1) := by decide +kernel
theorem dX8_meet_57 : decode cX8_meet 57 = .ok (.aload_n 0, 1) := by decide +kernel
theorem dX8_meet_58 : decode cX8_meet 58 = .ok (.getfield 80, 3) := by decide +kernel
theorem dX8_meet_61 : decode cX8_meet 61 = .ok (.aload_n 0, 1) := by decide +kernel
theorem dX8_meet_62 : decode cX8_meet 62 = .ok (.getfield 165, 3) := by decide +kernel
theorem dX8_meet_65 : decode cX8_meet 65 = .ok (.iload 4, 2) := by decide +kernel
theorem dX8_meet_67 : decode cX8_meet 67 = .ok (.iastore, 1) := by decide +kernel
theorem dX8_meet_68 : decode cX8_meet 68 = .ok (.aload_n 0, 1) := by decide +kernel
theorem dX8_meet_69 : decode cX8_meet 69 = .ok (.getfield 83, 3) := by decide +kernel
theorem dX8_meet_72 : decode cX8_meet 72 = .ok (.aload_n 0, 1) := by decide +kernel
theorem dX8_meet_73 : decode cX8_meet 73 = .ok (.getfield 165, 3) := by decide +kernel
theorem dX8_meet_76 : decode cX8_meet 76 = .ok (.bipush (-9), 2) := by decide +kernel
theorem dX8_meet_78 : decode cX8_meet 78 = .ok (.iastore, 1) := by decide +kernel
theorem dX8_meet_79 : decode cX8_meet 79 = .ok (.aload_n 0, 1) := by decide +kernel
theorem dX8_meet_80 : decode cX8_meet 80 = .ok (.getfield 22, 3) := by decide +kernel
theorem dX8_meet_83 : decode cX8_meet 83 = .ok (.iload_n 1, 1) := by decide +kernel
theorem dX8_meet_84 : decode cX8_meet 84 = .ok (.iaload, 1) := by decide +kernel
theorem dX8_meet_85 : decode cX8_meet 85 = .ok (.aload_n 0, 1) := by decide +kernel
theorem dX8_meet_86 : decode cX8_meet 86 = .ok (.getfield 22, 3) := by decide +kernel
theorem dX8_meet_89 : decode cX8_meet 89 = .ok (.iload_n 2, 1) := by decide +kernel
theorem dX8_meet_90 : decode cX8_meet 90 = .ok (.iaload, 1) := by decide +kernel
theorem dX8_meet_91 : decode cX8_meet 91 = .ok (.if_icmp .eq 55, 3) := by decide +kernel
theorem dX8_meet_94 : decode cX8_meet 94 = .ok (.aload_n 0, 1) := by decide +kernel
theorem dX8_meet_95 : decode cX8_meet 95 = .ok (.getfield 22, 3) := by decide +kernel
theorem dX8_meet_98 : decode cX8_meet 98 = .ok (.iload_n 1, 1) := by decide +kernel
theorem dX8_meet_99 : decode cX8_meet 99 = .ok (.iaload, 1) := by decide +kernel
theorem dX8_meet_100 : decode cX8_meet 100 = .ok (.aload_n 0, 1) := by decide +kernel
theorem dX8_meet_101 : decode cX8_meet 101 = .ok (.getfield 22, 3) := by decide +kernel
theorem dX8_meet_104 : decode cX8_meet 104 = .ok (.iload_n 2, 1) := by decide +kernel
theorem dX8_meet_105 : decode cX8_meet 105 = .ok (.iaload, 1) := by decide +kernel
theorem dX8_meet_106 : decode cX8_meet 106 = .ok (.if_icmp .ge 7, 3) := by decide +kernel
theorem dX8_meet_109 : decode cX8_meet 109 = .ok (.iload_n 1, 1) := by decide +kernel
theorem dX8_meet_110 : decode cX8_meet 110 = .ok (.goto 4, 3) := by decide +kernel
theorem dX8_meet_113 : decode cX8_meet 113 = .ok (.iload_n 2, 1) := by decide +kernel
theorem dX8_meet_114 : decode cX8_meet 114 = .ok (.istore 6, 2) := by decide +kernel
theorem dX8_meet_116 : decode cX8_meet 116 = .ok (.aload_n 0, 1) := by decide +kernel
theorem dX8_meet_117 : decode cX8_meet 117 = .ok (.iload 6, 2) := by decide +kernel
theorem dX8_meet_119 : decode cX8_meet 119 = .ok (.iload 6, 2) := by decide +kernel
theorem dX8_meet_121 : decode cX8_meet 121 = .ok (.iload_n 1, 1) := by decide +kernel
theorem dX8_meet_122 : decode cX8_meet 122 = .ok (.if_icmp .ne 7, 3) := by decide +kernel
theorem dX8_meet_125 : decode cX8_meet 125 = .ok (.iload_n 2, 1) := by decide +kernel
theorem dX8_meet_126 : decode cX8_meet 126 = .ok (.goto 4, 3) := by decide +kernel
theorem dX8_meet_129 : decode cX8_meet 129 = .ok (.iload_n 1, 1) := by decide +kernel
theorem dX8_meet_130 : decode cX8_meet 130 = .ok (.iload 5, 2) := by decide +kernel
theorem dX8_meet_132 : decode cX8_meet 132 = .ok (.invokevirtual 168, 3) := by decide +kernel
theorem dX8_meet_135 : decode cX8_meet 135 = .ok (.aload_n 0, 1) := by decide +kernel
theorem dX8_meet_136 : decode cX8_meet 136 = .ok (.getfield 83, 3) := by decide +kernel
theorem dX8_meet_139 : decode cX8_meet 139 = .ok (.aload_n 0, 1) := by decide +kernel
theorem dX8_meet_140 : decode cX8_meet 140 = .ok (.getfield 165, 3) := by decide +kernel
theorem dX8_meet_143 : decode cX8_meet 143 = .ok (.iload 6, 2) := by decide +kernel
theorem dX8_meet_145 : decode cX8_meet 145 = .ok (.iastore, 1) := by decide +kernel
theorem dX8_meet_146 : decode cX8_meet 146 = .ok (.aload_n 0, 1) := by decide +kernel
theorem dX8_meet_147 : decode cX8_meet 147 = .ok (.dup, 1) := by decide +kernel
theorem dX8_meet_148 : decode cX8_meet 148 = .ok (.getfield 165, 3) := by decide +kernel
theorem dX8_meet_151 : decode cX8_meet 151 = .ok (.iconst 1, 1) := by decide +kernel
theorem dX8_meet_152 : decode cX8_meet 152 = .ok (.iadd, 1) := by decide +kernel
theorem dX8_meet_153 : decode cX8_meet 153 = .ok (.putfield 165, 3) := by decide +kernel
theorem dX8_meet_156 : decode cX8_meet 156 = .ok (.return_, 1) := by decide +kernel
theorem dX8_hurt_0 : decode cX8_hurt 0 = .ok (.aload_n 0, 1) := by decide +kernel
theorem dX8_hurt_1 : decode cX8_hurt 1 = .ok (.getfield 22, 3) := by decide +kernel
theorem dX8_hurt_4 : decode cX8_hurt 4 = .ok (.iload_n 2, 1) := by decide +kernel
theorem dX8_hurt_5 : decode cX8_hurt 5 = .ok (.iaload, 1) := by decide +kernel
theorem dX8_hurt_6 : decode cX8_hurt 6 = .ok (.aload_n 0, 1) := by decide +kernel
theorem dX8_hurt_7 : decode cX8_hurt 7 = .ok (.getfield 22, 3) := by decide +kernel
theorem dX8_hurt_10 : decode cX8_hurt 10 = .ok (.iload_n 1, 1) := by decide +kernel
theorem dX8_hurt_11 : decode cX8_hurt 11 = .ok (.iaload, 1) := by decide +kernel
theorem dX8_hurt_12 : decode cX8_hurt 12 = .ok (.isub, 1) := by decide +kernel
theorem dX8_hurt_13 : decode cX8_hurt 13 = .ok (.istore 4, 2) := by decide +kernel
theorem dX8_hurt_15 : decode cX8_hurt 15 = .ok (.aload_n 0, 1) := by decide +kernel
theorem dX8_hurt_16 : decode cX8_hurt 16 = .ok (.getfield 53, 3) := by decide +kernel
theorem dX8_hurt_19 : decode cX8_hurt 19 = .ok (.iload_n 1, 1) := by decide +kernel
theorem dX8_hurt_20 : decode cX8_hurt 20 = .ok (.iload_n 3, 1) := by decide +kernel
theorem dX8_hurt_21 : decode cX8_hurt 21 = .ok (.iload 4, 2) := by decide +kernel
theorem dX8_hurt_23 : decode cX8_hurt 23 = .ok (.iadd, 1) := by decide +kernel
theorem dX8_hurt_24 : decode cX8_hurt 24 = .ok (.iconst 2, 1) := by decide +kernel
theorem dX8_hurt_25 : decode cX8_hurt 25 = .ok (.iadd, 1) := by decide +kernel
theorem dX8_hurt_26 : decode cX8_hurt 26 = .ok (.iastore, 1) := by decide +kernel
theorem dX8_hurt_27 : decode cX8_hurt 27 = .ok (.aload_n 0, 1) := by decide +kernel
theorem dX8_hurt_28 : decode cX8_hurt 28 = .ok (.getfield 25, 3) := by decide +kernel
theorem dX8_hurt_31 : decode cX8_hurt 31 = .ok (.iconst 2, 1) := by decide +kernel
theorem dX8_hurt_32 : decode cX8_hurt 32 = .ok (.iload_n 1, 1) := by decide +kernel
theorem dX8_hurt_33 : decode cX8_hurt 33 = .ok (.imul, 1) := by decide +kernel
theorem dX8_hurt_34 : decode cX8_hurt 34 = .ok (.iaload, 1) := by decide +kernel
theorem dX8_hurt_35 : decode cX8_hurt 35 = .ok (.iload_n 2, 1) := by decide +kernel
theorem dX8_hurt_36 : decode cX8_hurt 36 = .ok (.if_icmp .eq 61, 3) := by decide +kernel
theorem dX8_hurt_39 : decode cX8_hurt 39 = .ok (.aload_n 0, 1) := by decide +kernel
theorem dX8_hurt_40 : decode cX8_hurt 40 = .ok (.getfield 56, 3) := by decide +kernel
theorem dX8_hurt_43 : decode cX8_hurt 43 = .ok (.aload_n 0, 1) := by decide +kernel
theorem dX8_hurt_44 : decode cX8_hurt 44 = .ok (.getfield 172, 3) := by decide +kernel
theorem dX8_hurt_47 : decode cX8_hurt 47 = .ok (.iload_n 2, 1) := by decide +kernel
theorem dX8_hurt_48 : decode cX8_hurt 48 = .ok (.iastore, 1) := by decide +kernel
theorem dX8_hurt_49 : decode cX8_hurt 49 = .ok (.aload_n 0, 1) := by decide +kernel
theorem dX8_hurt_50 : decode cX8_hurt 50 = .ok (.getfield 59, 3) := by decide +kernel
theorem dX8_hurt_53 : decode cX8_hurt 53 = .ok (.aload_n 0, 1) := by decide +kernel
theorem dX8_hurt_54 : decode cX8_hurt 54 = .ok (.getfield 172, 3) := by decide +kernel
theorem dX8_hurt_57 : decode cX8_hurt 57 = .ok (.aload_n 0, 1) := by decide +kernel
theorem dX8_hurt_58 : decode cX8_hurt 58 = .ok (.getfield 25, 3) := by decide +kernel
theorem dX8_hurt_61 : decode cX8_hurt 61 = .ok (.iconst 2, 1) := by decide +kernel
theorem dX8_hurt_62 : decode cX8_hurt 62 = .ok (.iload_n 1, 1) := by decide +kernel
theorem dX8_hurt_63 : decode cX8_hurt 63 = .ok (.imul, 1) := by decide +kernel
theorem dX8_hurt_64 : decode cX8_hurt 64 = .ok (.iaload, 1) := by decide +kernel
theorem dX8_hurt_65 : decode cX8_hurt 65 = .ok (.iastore, 1) := by decide +kernel
theorem dX8_hurt_66 : decode cX8_hurt 66 = .ok (.aload_n 0, 1) := by decide +kernel
theorem dX8_hurt_67 : decode cX8_hurt 67 = .ok (.getfield 62, 3) := by decide +kernel
theorem dX8_hurt_70 : decode cX8_hurt 70 = .ok (.aload_n 0, 1) := by decide +kernel
theorem dX8_hurt_71 : decode cX8_hurt 71 = .ok (.getfield 172, 3) := by decide +kernel
theorem dX8_hurt_74 : decode cX8_hurt 74 = .ok (.iload 4, 2) := by decide +kernel
theorem dX8_hurt_76 : decode cX8_hurt 76 = .ok (.iastore, 1) := by decide +kernel
theorem dX8_hurt_77 : decode cX8_hurt 77 = .ok (.aload_n 0, 1) := by decide +kernel
theorem dX8_hurt_78 : decode cX8_hurt 78 = .ok (.getfield 65, 3) := by decide +kernel
theorem dX8_hurt_81 : decode cX8_hurt 81 = .ok (.aload_n 0, 1) := by decide +kernel
theorem dX8_hurt_82 : decode cX8_hurt 82 = .ok (.getfield 172, 3) := by decide +kernel
theorem dX8_hurt_85 : decode cX8_hurt 85 = .ok (.iload_n 3, 1) := by decide +kernel
theorem dX8_hurt_86 : decode cX8_hurt 86 = .ok (.iastore, 1) := by decide +kernel
theorem dX8_hurt_87 : decode cX8_hurt 87 = .ok (.aload_n 0, 1) := by decide +kernel
theorem dX8_hurt_88 : decode cX8_hurt 88 = .ok (.dup, 1) := by decide +kernel
theorem dX8_hurt_89 : decode cX8_hurt 89 = .ok (.getfield 172, 3) := by decide +kernel
theorem dX8_hurt_92 : decode cX8_hurt 92 = .ok (.iconst 1, 1) := by decide +kernel
theorem dX8_hurt_93 : decode cX8_hurt 93 = .ok (.iadd, 1) := by decide +kernel
theorem dX8_hurt_94 : decode cX8_hurt 94 = .ok (.putfield 172, 3) := by decide +kernel
theorem dX8_hurt_97 : decode cX8_hurt 97 = .ok (.return_, 1) := by decide +kernel
theorem dX8_answer_0 : decode cX8_answer 0 = .ok (.iload_n 3, 1) := by decide +kernel
theorem dX8_answer_1 : decode cX8_answer 1 = .ok (.aload_n 0, 1) := by decide +kernel
theorem dX8_answer_2 : decode cX8_answer 2 = .ok (.iload_n 2, 1) := by decide +kernel
theorem dX8_answer_3 : decode cX8_answer 3 = .ok (.invokevirtual 148, 3) := by decide +kernel
theorem dX8_answer_6 : decode cX8_answer 6 = .ok (.if_icmp .ge 4, 3) := by decide +kernel
theorem dX8_answer_9 : decode cX8_answer 9 = .ok (.return_, 1) := by decide +kernel
theorem dX8_answer_10 : decode cX8_answer 10 = .ok (.aload_n 0, 1) := by decide +kernel
theorem dX8_answer_11 : decode cX8_answer 11 = .ok (.iload_n 2, 1) := by decide +kernel
theorem dX8_answer_12 : decode cX8_answer 12 = .ok (.iload_n 1, 1) := by decide +kernel
theorem dX8_answer_13 : decode cX8_answer 13 = .ok (.bipush (-9), 2) := by decide +kernel
theorem dX8_answer_15 : decode cX8_answer 15 = .ok (.iload 4, 2) := by decide +kernel
theorem dX8_answer_17 : decode cX8_answer 17 = .ok (.invokevirtual 175, 3) := by decide +kernel
theorem dX8_answer_20 : decode cX8_answer 20 = .ok (.istore 5, 2) := by decide +kernel
theorem dX8_answer_22 : decode cX8_answer 22 = .ok (.iload 5, 2) := by decide +kernel
theorem dX8_answer_24 : decode cX8_answer 24 = .ok (.bipush (-9), 2) := by decide +kernel
theorem dX8_answer_26 : decode cX8_answer 26 = .ok (.if_icmp .ne 4, 3) := by decide +kernel
theorem dX8_answer_29 : decode cX8_answer 29 = .ok (.return_, 1) := by decide +kernel
theorem dX8_answer_30 : decode cX8_answer 30 = .ok (.aload_n 0, 1) := by decide +kernel
theorem dX8_answer_31 : decode cX8_answer 31 = .ok (.iload_n 1, 1) := by decide +kernel
theorem dX8_answer_32 : decode cX8_answer 32 = .ok (.iload_n 2, 1) := by decide +kernel
theorem dX8_answer_33 : decode cX8_answer 33 = .ok (.iload 5, 2) := by decide +kernel
theorem dX8_answer_35 : decode cX8_answer 35 = .ok (.iload 4, 2) := by decide +kernel
theorem dX8_answer_37 : decode cX8_answer 37 = .ok (.invokevirtual 175, 3) := by decide +kernel
theorem dX8_answer_40 : decode cX8_answer 40 = .ok (.istore 6, 2) := by decide +kernel
theorem dX8_answer_42 : decode cX8_answer 42 = .ok (.iload 6, 2) := by decide +kernel
theorem dX8_answer_44 : decode cX8_answer 44 = .ok (.bipush (-9), 2) := by decide +kernel
theorem dX8_answer_46 : decode cX8_answer 46 = .ok (.if_icmp .eq 15, 3) := by decide +kernel
theorem dX8_answer_49 : decode cX8_answer 49 = .ok (.aload_n 0, 1) := by decide +kernel
theorem dX8_answer_50 : decode cX8_answer 50 = .ok (.iload 5, 2) := by decide +kernel
theorem dX8_answer_52 : decode cX8_answer 52 = .ok (.iload 6, 2) := by decide +kernel
theorem dX8_answer_54 : decode cX8_answer 54 = .ok (.iload_n 2, 1) := by decide +kernel
theorem dX8_answer_55 : decode cX8_answer 55 = .ok (.iload_n 1, 1) := by decide +kernel
theorem dX8_answer_56 : decode cX8_answer 56 = .ok (.iload 4, 2) := by decide +kernel
theorem dX8_answer_58 : decode cX8_answer 58 = .ok (.invokevirtual 178, 3) := by decide +kernel
theorem dX8_answer_61 : decode cX8_answer 61 = .ok (.return_, 1) := by decide +kernel
theorem dX8_begin_0 : decode cX8_begin 0 = .ok (.aload_n 0, 1) := by decide +kernel
theorem dX8_begin_1 : decode cX8_begin 1 = .ok (.iconst 0, 1) := by decide +kernel
theorem dX8_begin_2 : decode cX8_begin 2 = .ok (.putfield 165, 3) := by decide +kernel
theorem dX8_begin_5 : decode cX8_begin 5 = .ok (.aload_n 0, 1) := by decide +kernel
theorem dX8_begin_6 : decode cX8_begin 6 = .ok (.iconst 0, 1) := by decide +kernel
theorem dX8_begin_7 : decode cX8_begin 7 = .ok (.putfield 172, 3) := by decide +kernel
theorem dX8_begin_10 : decode cX8_begin 10 = .ok (.iconst 0, 1) := by decide +kernel
theorem dX8_begin_11 : decode cX8_begin 11 = .ok (.istore_n 1, 1) := by decide +kernel
theorem dX8_begin_12 : decode cX8_begin 12 = .ok (.iload_n 1, 1) := by decide +kernel
theorem dX8_begin_13 : decode cX8_begin 13 = .ok (.aload_n 0, 1) := by decide +kernel
theorem dX8_begin_14 : decode cX8_begin 14 = .ok (.getfield 105, 3) := by decide +kernel
theorem dX8_begin_17 : decode cX8_begin 17 = .ok (.if_icmp .ge 16, 3) := by decide +kernel
theorem dX8_begin_20 : decode cX8_begin 20 = .ok (.aload_n 0, 1) := by decide +kernel
theorem dX8_begin_21 : decode cX8_begin 21 = .ok (.getfield 53, 3) := by decide +kernel
theorem dX8_begin_24 : decode cX8_begin 24 = .ok (.iload_n 1, 1) := by decide +kernel
theorem dX8_begin_25 : decode cX8_begin 25 = .ok (.iconst 0, 1) := by decide +kernel
theorem dX8_begin_26 : decode cX8_begin 26 = .ok (.iastore, 1) := by decide +kernel
theorem dX8_begin_27 : decode cX8_begin 27 = .ok (.iinc 1 1, 3) := by decide +kernel
theorem dX8_begin_30 : decode cX8_begin 30 = .ok (.goto (-18), 3) := by decide +kernel
theorem dX8_begin_33 : decode cX8_begin 33 = .ok (.aload_n 0, 1) := by decide +kernel
theorem dX8_begin_34 : decode cX8_begin 34 = .ok (.iconst 0, 1) := by decide +kernel
theorem dX8_begin_35 : decode cX8_begin 35 = .ok (.putfield 155, 3) := by decide +kernel
theorem dX8_begin_38 : decode cX8_begin 38 = .ok (.return_, 1) := by decide +kernel
theorem dX8_goDawn_0 : decode cX8_goDawn 0 = .ok (.aload_n 0, 1) := by decide +kernel
theorem dX8_goDawn_1 : decode cX8_goDawn 1 = .ok (.iconst 0, 1) := by decide +kernel
theorem dX8_goDawn_2 : decode cX8_goDawn 2 = .ok (.putfield 155, 3) := by decide +kernel
theorem dX8_goDawn_5 : decode cX8_goDawn 5 = .ok (.aload_n 0, 1) := by decide +kernel
theorem dX8_goDawn_6 : decode cX8_goDawn 6 = .ok (.getfield 172, 3) := by decide +kernel
theorem dX8_goDawn_9 : decode cX8_goDawn 9 = .ok (.istore_n 2, 1) := by decide +kernel
theorem dX8_goDawn_10 : decode cX8_goDawn 10 = .ok (.iconst 0, 1) := by decide +kernel
theorem dX8_goDawn_11 : decode cX8_goDawn 11 = .ok (.istore_n 3, 1) := by decide +kernel
theorem dX8_goDawn_12 : decode cX8_goDawn 12 = .ok (.iload_n 3, 1) := by decide +kernel
theorem dX8_goDawn_13 : decode cX8_goDawn 13 = .ok (.aload_n 0, 1) := by decide +kernel
theorem dX8_goDawn_14 : decode cX8_goDawn 14 = .ok (.getfield 132, 3) := by decide +kernel
theorem dX8_goDawn_17 : decode cX8_goDawn 17 = .ok (.if_icmp .ge 55, 3) := by decide +kernel
theorem dX8_goDawn_20 : decode cX8_goDawn 20 = .ok (.aload_n 0, 1) := by decide +kernel
theorem dX8_goDawn_21 : decode cX8_goDawn 21 = .ok (.getfield 47, 3) := by decide +kernel
theorem dX8_goDawn_24 : decode cX8_goDawn 24 = .ok (.iload_n 3, 1) := by decide +kernel
theorem dX8_goDawn_25 : decode cX8_goDawn 25 = .ok (.iaload, 1) := by decide +kernel
theorem dX8_goDawn_26 : decode cX8_goDawn 26 = .ok (.iload_n 1, 1) := by decide +kernel
theorem dX8_goDawn_27 : decode cX8_goDawn 27 = .ok (.iconst 1, 1) := by decide +kernel
theorem dX8_goDawn_28 : decode cX8_goDawn 28 = .ok (.isub, 1) := by decide +kernel
theorem dX8_goDawn_29 : decode cX8_goDawn 29 = .ok (.if_icmp .ne 37, 3) := by decide +kernel
theorem dX8_goDawn_32 : decode cX8_goDawn 32 = .ok (.aload_n 0, 1) := by decide +kernel
theorem dX8_goDawn_33 : decode cX8_goDawn 33 = .ok (.getfield 181, 3) := by decide +kernel
theorem dX8_goDawn_36 : decode cX8_goDawn 36 = .ok (.iload_n 3, 1) := by decide +kernel
theorem dX8_goDawn_37 : decode cX8_goDawn 37 = .ok (.ishr, 1) := by decide +kernel
theorem dX8_goDawn_38 : decode cX8_goDawn 38 = .ok (.iconst 1, 1) := by decide +kernel
theorem dX8_goDawn_39 : decode cX8_goDawn 39 = .ok (.iand, 1) := by decide +kernel
theorem dX8_goDawn_40 : decode cX8_goDawn 40 = .ok (.ifCond .ne 26, 3) := by decide +kernel
theorem dX8_goDawn_43 : decode cX8_goDawn 43 = .ok (.aload_n 0, 1) := by decide +kernel
theorem dX8_goDawn_44 : decode cX8_goDawn 44 = .ok (.aload_n 0, 1) := by decide +kernel
theorem dX8_goDawn_45 : decode cX8_goDawn 45 = .ok (.getfield 41, 3) := by decide +kernel
theorem dX8_goDawn_48 : decode cX8_goDawn 48 = .ok (.iload_n 3, 1) := by decide +kernel
theorem dX8_goDawn_49 : decode cX8_goDawn 49 = .ok (.iaload, 1) := by decide +kernel
theorem dX8_goDawn_50 : decode cX8_goDawn 50 = .ok (.aload_n 0, 1) := by decide +kernel
theorem dX8_goDawn_51 : decode cX8_goDawn 51 = .ok (.getfield 44, 3) := by decide +kernel
theorem dX8_goDawn_54 : decode cX8_goDawn 54 = .ok (.iload_n 3, 1) := by decide +kernel
theorem dX8_goDawn_55 : decode cX8_goDawn 55 = .ok (.iaload, 1) := by decide +kernel
theorem dX8_goDawn_56 : decode cX8_goDawn 56 = .ok (.aload_n 0, 1) := by decide +kernel
theorem dX8_goDawn_57 : decode cX8_goDawn 57 = .ok (.getfield 50, 3) := by decide +kernel
theorem dX8_goDawn_60 : decode cX8_goDawn 60 = .ok (.iload_n 3, 1) := by decide +kernel
theorem dX8_goDawn_61 : decode cX8_goDawn 61 = .ok (.iaload, 1) := by decide +kernel
theorem dX8_goDawn_62 : decode cX8_goDawn 62 = .ok (.iload_n 1, 1) := by decide +kernel
theorem dX8_goDawn_63 : decode cX8_goDawn 63 = .ok (.invokevirtual 184, 3) := by decide +kernel
theorem dX8_goDawn_66 : decode cX8_goDawn 66 = .ok (.iinc 3 1, 3) := by decide +kernel
theorem dX8_goDawn_69 : decode cX8_goDawn 69 = .ok (.goto (-57), 3) := by decide +kernel
theorem dX8_goDawn_72 : decode cX8_goDawn 72 = .ok (.iconst 0, 1) := by decide +kernel
theorem dX8_goDawn_73 : decode cX8_goDawn 73 = .ok (.istore_n 3, 1) := by decide +kernel
theorem dX8_goDawn_74 : decode cX8_goDawn 74 = .ok (.iload_n 3, 1) := by decide +kernel
theorem dX8_goDawn_75 : decode cX8_goDawn 75 = .ok (.iload_n 2, 1) := by decide +kernel
theorem dX8_goDawn_76 : decode cX8_goDawn 76 = .ok (.if_icmp .ge 44, 3) := by decide +kernel
theorem dX8_goDawn_79 : decode cX8_goDawn 79 = .ok (.aload_n 0, 1) := by decide +kernel
theorem dX8_goDawn_80 : decode cX8_goDawn 80 = .ok (.getfield 65, 3) := by decide +kernel
theorem dX8_goDawn_83 : decode cX8_goDawn 83 = .ok (.iload_n 3, 1) := by decide +kernel
theorem dX8_goDawn_84 : decode cX8_goDawn 84 = .ok (.iaload, 1) := by decide +kernel
theorem dX8_goDawn_85 : decode cX8_goDawn 85 = .ok (.iload_n 1, 1) := by decide +kernel
theorem dX8_goDawn_86 : decode cX8_goDawn 86 = .ok (.iconst 1, 1) := by decide +kernel
theorem dX8_goDawn_87 : decode cX8_goDawn 87 = .ok (.isub, 1) := by decide +kernel
theorem dX8_goDawn_88 : decode cX8_goDawn 88 = .ok (.if_icmp .ne 26, 3) := by decide +kernel
theorem dX8_goDawn_91 : decode cX8_goDawn 91 = .ok (.aload_n 0, 1) := by decide +kernel
theorem dX8_goDawn_92 : decode cX8_goDawn 92 = .ok (.aload_n 0, 1) := by decide +kernel
theorem dX8_goDawn_93 : decode cX8_goDawn 93 = .ok (.getfield 56, 3) := by decide +kernel
theorem dX8_goDawn_96 : decode cX8_goDawn 96 = .ok (.iload_n 3, 1) := by decide +kernel
theorem dX8_goDawn_97 : decode cX8_goDawn 97 = .ok (.iaload, 1) := by decide +kernel
theorem dX8_goDawn_98 : decode cX8_goDawn 98 = .ok (.aload_n 0, 1) := by decide +kernel
theorem dX8_goDawn_99 : decode cX8_goDawn 99 = .ok (.getfield 59, 3) := by decide +kernel
theorem dX8_goDawn_102 : decode cX8_goDawn 102 = .ok (.iload_n 3, 1) := by decide +kernel
theorem dX8_goDawn_103 : decode cX8_goDawn 103 = .ok (.iaload, 1) := by decide +kernel
theorem dX8_goDawn_104 : decode cX8_goDawn 104 = .ok (.aload_n 0, 1) := by decide +kernel
theorem dX8_goDawn_105 : decode cX8_goDawn 105 = .ok (.getfield 62, 3) := by decide +kernel
theorem dX8_goDawn_108 : decode cX8_goDawn 108 = .ok (.iload_n 3, 1) := by decide +kernel
theorem dX8_goDawn_109 : decode cX8_goDawn 109 = .ok (.iaload, 1) := by decide +kernel
theorem dX8_goDawn_110 : decode cX8_goDawn 110 = .ok (.iload_n 1, 1) := by decide +kernel
theorem dX8_goDawn_111 : decode cX8_goDawn 111 = .ok (.invokevirtual 184, 3) := by decide +kernel
theorem dX8_goDawn_114 : decode cX8_goDawn 114 = .ok (.iinc 3 1, 3) := by decide +kernel
theorem dX8_goDawn_117 : decode cX8_goDawn 117 = .ok (.goto (-43), 3) := by decide +kernel
theorem dX8_goDawn_120 : decode cX8_goDawn 120 = .ok (.return_, 1) := by decide +kernel
theorem dX8_goAhead_0 : decode cX8_goAhead 0 = .ok (.aload_n 0, 1) := by decide +kernel
theorem dX8_goAhead_1 : decode cX8_goAhead 1 = .ok (.invokevirtual 188, 3) := by decide +kernel
theorem dX8_goAhead_4 : decode cX8_goAhead 4 = .ok (.iconst 0, 1) := by decide +kernel
theorem dX8_goAhead_5 : decode cX8_goAhead 5 = .ok (.istore_n 2, 1) := by decide +kernel
theorem dX8_goAhead_6 : decode cX8_goAhead 6 = .ok (.iload_n 2, 1) := by decide +kernel
theorem dX8_goAhead_7 : decode cX8_goAhead 7 = .ok (.iload_n 1, 1) := by decide +kernel
theorem dX8_goAhead_8 : decode cX8_goAhead 8 = .ok (.if_icmp .ge 14, 3) := by decide +kernel
theorem dX8_goAhead_11 : decode cX8_goAhead 11 = .ok (.aload_n 0, 1) := by decide +kernel
theorem dX8_goAhead_12 : decode cX8_goAhead 12 = .ok (.iload_n 2, 1) := by decide +kernel
theorem dX8_goAhead_13 : decode cX8_goAhead 13 = .ok (.invokevirtual 191, 3) := by decide +kernel
theorem dX8_goAhead_16 : decode cX8_goAhead 16 = .ok (.iinc 2 1, 3) := by decide +kernel
theorem dX8_goAhead_19 : decode cX8_goAhead 19 = .ok (.goto (-13), 3) := by decide +kernel
theorem dX8_goAhead_22 : decode cX8_goAhead 22 = .ok (.aload_n 0, 1) := by decide +kernel
theorem dX8_goAhead_23 : decode cX8_goAhead 23 = .ok (.iconst 0, 1) := by decide +kernel
theorem dX8_goAhead_24 : decode cX8_goAhead 24 = .ok (.putfield 155, 3) := by decide +kernel
theorem dX8_goAhead_27 : decode cX8_goAhead 27 = .ok (.return_, 1) := by decide +kernel
theorem dX8_meetings_0 : decode cX8_meetings 0 = .ok (.iload_n 1, 1) := by decide +kernel
theorem dX8_meetings_1 : decode cX8_meetings 1 = .ok (.invokestatic 195, 3) := by decide +kernel
theorem dX8_meetings_4 : decode cX8_meetings 4 = .ok (.ifCond .ne 6, 3) := by decide +kernel
theorem dX8_meetings_7 : decode cX8_meetings 7 = .ok (.bipush (-2), 2) := by decide +kernel
theorem dX8_meetings_9 : decode cX8_meetings 9 = .ok (.ireturn, 1) := by decide +kernel
theorem dX8_meetings_10 : decode cX8_meetings 10 = .ok (.aload_n 0, 1) := by decide +kernel
theorem dX8_meetings_11 : decode cX8_meetings 11 = .ok (.getfield 105, 3) := by decide +kernel
theorem dX8_meetings_14 : decode cX8_meetings 14 = .ok (.ifCond .ne 6, 3) := by decide +kernel
theorem dX8_meetings_17 : decode cX8_meetings 17 = .ok (.bipush (-3), 2) := by decide +kernel
theorem dX8_meetings_19 : decode cX8_meetings 19 = .ok (.ireturn, 1) := by decide +kernel
theorem dX8_meetings_20 : decode cX8_meetings 20 = .ok (.aload_n 0, 1) := by decide +kernel
theorem dX8_meetings_21 : decode cX8_meetings 21 = .ok (.iload_n 1, 1) := by decide +kernel
theorem dX8_meetings_22 : decode cX8_meetings 22 = .ok (.iconst 1, 1) := by decide +kernel
theorem dX8_meetings_23 : decode cX8_meetings 23 = .ok (.iadd, 1) := by decide +kernel
theorem dX8_meetings_24 : decode cX8_meetings 24 = .ok (.invokevirtual 198, 3) := by decide +kernel
theorem dX8_meetings_27 : decode cX8_meetings 27 = .ok (.aload_n 0, 1) := by decide +kernel
theorem dX8_meetings_28 : decode cX8_meetings 28 = .ok (.getfield 165, 3) := by decide +kernel
theorem dX8_meetings_31 : decode cX8_meetings 31 = .ok (.ireturn, 1) := by decide +kernel
theorem dX8_met_0 : decode cX8_met 0 = .ok (.aload_n 0, 1) := by decide +kernel
theorem dX8_met_1 : decode cX8_met 1 = .ok (.bipush 60, 2) := by decide +kernel
theorem dX8_met_3 : decode cX8_met 3 = .ok (.invokevirtual 198, 3) := by decide +kernel
theorem dX8_met_6 : decode cX8_met 6 = .ok (.iload_n 1, 1) := by decide +kernel
theorem dX8_met_7 : decode cX8_met 7 = .ok (.ifCond .lt 18, 3) := by decide +kernel
theorem dX8_met_10 : decode cX8_met 10 = .ok (.iload_n 1, 1) := by decide +kernel
theorem dX8_met_11 : decode cX8_met 11 = .ok (.aload_n 0, 1) := by decide +kernel
theorem dX8_met_12 : decode cX8_met 12 = .ok (.getfield 165, 3) := by decide +kernel
theorem dX8_met_15 : decode cX8_met 15 = .ok (.if_icmp .ge 10, 3) := by decide +kernel
theorem dX8_met_18 : decode cX8_met 18 = .ok (.aload_n 0, 1) := by decide +kernel
theorem dX8_met_19 : decode cX8_met 19 = .ok (.getfield 105, 3) := by decide +kernel
theorem dX8_met_22 : decode cX8_met 22 = .ok (.ifCond .ne 5, 3) := by decide +kernel
theorem dX8_met_25 : decode cX8_met 25 = .ok (.iconst (-1), 1) := by decide +kernel
theorem dX8_met_26 : decode cX8_met 26 = .ok (.ireturn, 1) := by decide +kernel
theorem dX8_met_27 : decode cX8_met 27 = .ok (.iload_n 2, 1) := by decide +kernel
theorem dX8_met_28 : decode cX8_met 28 = .ok (.tableswitch 82 0 5 #[40, 47, 54, 61, 68, 75], 40) := by decide +kernel
theorem dX8_met_68 : decode cX8_met 68 = .ok (.aload_n 0, 1) := by decide +kernel
theorem dX8_met_69 : decode cX8_met 69 = .ok (.getfield 68, 3) := by decide +kernel
theorem dX8_met_72 : decode cX8_met 72 = .ok (.iload_n 1, 1) := by decide +kernel
theorem dX8_met_73 : decode cX8_met 73 = .ok (.iaload, 1) := by decide +kernel
theorem dX8_met_74 : decode cX8_met 74 = .ok (.ireturn, 1) := by decide +kernel
theorem dX8_met_75 : decode cX8_met 75 = .ok (.aload_n 0, 1) := by decide +kernel
theorem dX8_met_76 : decode cX8_met 76 = .ok (.getfield 71, 3) := by decide +kernel
theorem dX8_met_79 : decode cX8_met 79 = .ok (.iload_n 1, 1) := by decide +kernel
theorem dX8_met_80 : decode cX8_met 80 = .ok (.iaload, 1) := by decide +kernel
theorem dX8_met_81 : decode cX8_met 81 = .ok (.ireturn, 1) := by decide +kernel
theorem dX8_met_82 : decode cX8_met 82 = .ok (.aload_n 0, 1) := by decide +kernel
theorem dX8_met_83 : decode cX8_met 83 = .ok (.getfield 74, 3) := by decide +kernel
theorem dX8_met_86 : decode cX8_met 86 = .ok (.iload_n 1, 1) := by decide +kernel
theorem dX8_met_87 : decode cX8_met 87 = .ok (.iaload, 1) := by decide +kernel
theorem dX8_met_88 : decode cX8_met 88 = .ok (.ireturn, 1) := by decide +kernel
theorem dX8_met_89 : decode cX8_met 89 = .ok (.aload_n 0, 1) := by decide +kernel
theorem dX8_met_90 : decode cX8_met 90 = .ok (.getfield 77, 3) := by decide +kernel
theorem dX8_met_93 : decode cX8_met 93 = .ok (.iload_n 1, 1) := by decide +kernel
theorem dX8_met_94 : decode cX8_met 94 = .ok (.iaload, 1) := by decide +kernel
theorem dX8_met_95 : decode cX8_met 95 = .ok (.ireturn, 1) := by decide +kernel
theorem dX8_met_96 : decode cX8_met 96 = .ok (.aload_n 0, 1) := by decide +kernel
theorem dX8_met_97 : decode cX8_met 97 = .ok (.getfield 80, 3) := by decide +kernel
theorem dX8_met_100 : decode cX8_met 100 = .ok (.iload_n 1, 1) := by decide +kernel
theorem dX8_met_101 : decode cX8_met 101 = .ok (.iaload, 1) := by decide +kernel
theorem dX8_met_102 : decode cX8_met 102 = .ok (.ireturn, 1) := by decide +kernel
theorem dX8_met_103 : decode cX8_met 103 = .ok (.aload_n 0, 1) := by decide +kernel
theorem dX8_met_104 : decode cX8_met 104 = .ok (.getfield 83, 3) := by decide +kernel
theorem dX8_met_107 : decode cX8_met 107 = .ok (.iload_n 1, 1) := by decide +kernel
theorem dX8_met_108 : decode cX8_met 108 = .ok (.iaload, 1) := by decide +kernel
theorem dX8_met_109 : decode cX8_met 109 = .ok (.ireturn, 1) := by decide +kernel
theorem dX8_met_110 : decode cX8_met 110 = .ok (.bipush (-2), 2) := by decide +kernel
theorem dX8_met_112 : decode cX8_met 112 = .ok (.ireturn, 1) := by decide +kernel
theorem dX8_free_0 : decode cX8_free 0 = .ok (.aload_n 0, 1) := by decide +kernel
theorem dX8_free_1 : decode cX8_free 1 = .ok (.iload_n 1, 1) := by decide +kernel
theorem dX8_free_2 : decode cX8_free 2 = .ok (.invokevirtual 145, 3) := by decide +kernel
theorem dX8_free_5 : decode cX8_free 5 = .ok (.ifCond .ne 5, 3) := by decide +kernel
theorem dX8_free_8 : decode cX8_free 8 = .ok (.iconst (-1), 1) := by decide +kernel
theorem dX8_free_9 : decode cX8_free 9 = .ok (.ireturn, 1) := by decide +kernel
theorem dX8_free_10 : decode cX8_free 10 = .ok (.iload_n 2, 1) := by decide +kernel
theorem dX8_free_11 : decode cX8_free 11 = .ok (.invokestatic 195, 3) := by decide +kernel
theorem dX8_free_14 : decode cX8_free 14 = .ok (.ifCond .ne 6, 3) := by decide +kernel
theorem dX8_free_17 : decode cX8_free 17 = .ok (.bipush (-2), 2) := by decide +kernel
theorem dX8_free_19 : decode cX8_free 19 = .ok (.ireturn, 1) := by decide +kernel
theorem dX8_free_20 : decode cX8_free 20 = .ok (.aload_n 0, 1) := by decide +kernel
theorem dX8_free_21 : decode cX8_free 21 = .ok (.iload_n 2, 1) := by decide +kernel
theorem dX8_free_22 : decode cX8_free 22 = .ok (.invokevirtual 198, 3) := by decide +kernel
theorem dX8_free_25 : decode cX8_free 25 = .ok (.aload_n 0, 1) := by decide +kernel
theorem dX8_free_26 : decode cX8_free 26 = .ok (.iload_n 1, 1) := by decide +kernel
theorem dX8_free_27 : decode cX8_free 27 = .ok (.iload_n 2, 1) := by decide +kernel
theorem dX8_free_28 : decode cX8_free 28 = .ok (.invokevirtual 158, 3) := by decide +kernel
theorem dX8_free_31 : decode cX8_free 31 = .ok (.ifCond .eq 7, 3) := by decide +kernel
theorem dX8_free_34 : decode cX8_free 34 = .ok (.iconst 1, 1) := by decide +kernel
theorem dX8_free_35 : decode cX8_free 35 = .ok (.goto 4, 3) := by decide +kernel
theorem dX8_free_38 : decode cX8_free 38 = .ok (.iconst 0, 1) := by decide +kernel
theorem dX8_free_39 : decode cX8_free 39 = .ok (.ireturn, 1) := by decide +kernel
theorem dX8_second_0 : decode cX8_second 0 = .ok (.aload_n 0, 1) := by decide +kernel
theorem dX8_second_1 : decode cX8_second 1 = .ok (.iload_n 1, 1) := by decide +kernel
theorem dX8_second_2 : decode cX8_second 2 = .ok (.invokevirtual 145, 3) := by decide +kernel
theorem dX8_second_5 : decode cX8_second 5 = .ok (.ifCond .eq 16, 3) := by decide +kernel
theorem dX8_second_8 : decode cX8_second 8 = .ok (.aload_n 0, 1) := by decide +kernel
theorem dX8_second_9 : decode cX8_second 9 = .ok (.iload_n 2, 1) := by decide +kernel
theorem dX8_second_10 : decode cX8_second 10 = .ok (.invokevirtual 145, 3) := by decide +kernel
theorem dX8_second_13 : decode cX8_second 13 = .ok (.ifCond .eq 8, 3) := by decide +kernel
theorem dX8_second_16 : decode cX8_second 16 = .ok (.iload_n 1, 1) := by decide +kernel
theorem dX8_second_17 : decode cX8_second 17 = .ok (.iload_n 2, 1) := by decide +kernel
theorem dX8_second_18 : decode cX8_second 18 = .ok (.if_icmp .ne 5, 3) := by decide +kernel
theorem dX8_second_21 : decode cX8_second 21 = .ok (.iconst (-1), 1) := by decide +kernel
theorem dX8_second_22 : decode cX8_second 22 = .ok (.ireturn, 1) := by decide +kernel
theorem dX8_second_23 : decode cX8_second 23 = .ok (.iload_n 3, 1) := by decide +kernel
theorem dX8_second_24 : decode cX8_second 24 = .ok (.invokestatic 195, 3) := by decide +kernel
theorem dX8_second_27 : decode cX8_second 27 = .ok (.ifCond .ne 6, 3) := by decide +kernel
theorem dX8_second_30 : decode cX8_second 30 = .ok (.bipush (-2), 2) := by decide +kernel
theorem dX8_second_32 : decode cX8_second 32 = .ok (.ireturn, 1) := by decide +kernel
theorem dX8_second_33 : decode cX8_second 33 = .ok (.aload_n 0, 1) := by decide +kernel
theorem dX8_second_34 : decode cX8_second 34 = .ok (.iload_n 3, 1) := by decide +kernel
theorem dX8_second_35 : decode cX8_second 35 = .ok (.invokevirtual 198, 3) := by decide +kernel
theorem dX8_second_38 : decode cX8_second 38 = .ok (.aload_n 0, 1) := by decide +kernel
theorem dX8_second_39 : decode cX8_second 39 = .ok (.iload_n 1, 1) := by decide +kernel
theorem dX8_second_40 : decode cX8_second 40 = .ok (.iload_n 2, 1) := by decide +kernel
theorem dX8_second_41 : decode cX8_second 41 = .ok (.bipush (-9), 2) := by decide +kernel
theorem dX8_second_43 : decode cX8_second 43 = .ok (.iload_n 3, 1) := by decide +kernel
theorem dX8_second_44 : decode cX8_second 44 = .ok (.invokevirtual 175, 3) := by decide +kernel
theorem dX8_second_47 : decode cX8_second 47 = .ok (.ireturn, 1) := by decide +kernel
theorem dX8_worth_0 : decode cX8_worth 0 = .ok (.iload_n 1, 1) := by decide +kernel
theorem dX8_worth_1 : decode cX8_worth 1 = .ok (.ifCond .lt 11, 3) := by decide +kernel
theorem dX8_worth_4 : decode cX8_worth 4 = .ok (.iload_n 1, 1) := by decide +kernel
theorem dX8_worth_5 : decode cX8_worth 5 = .ok (.aload_n 0, 1) := by decide +kernel
theorem dX8_worth_6 : decode cX8_worth 6 = .ok (.getfield 132, 3) := by decide +kernel
theorem dX8_worth_9 : decode cX8_worth 9 = .ok (.if_icmp .lt 5, 3) := by decide +kernel
theorem dX8_worth_12 : decode cX8_worth 12 = .ok (.iconst (-1), 1) := by decide +kernel
theorem dX8_worth_13 : decode cX8_worth 13 = .ok (.ireturn, 1) := by decide +kernel
theorem dX8_worth_14 : decode cX8_worth 14 = .ok (.aload_n 0, 1) := by decide +kernel
theorem dX8_worth_15 : decode cX8_worth 15 = .ok (.bipush 60, 2) := by decide +kernel
theorem dX8_worth_17 : decode cX8_worth 17 = .ok (.invokevirtual 198, 3) := by decide +kernel
theorem dX8_worth_20 : decode cX8_worth 20 = .ok (.aload_n 0, 1) := by decide +kernel
theorem dX8_worth_21 : decode cX8_worth 21 = .ok (.getfield 165, 3) := by decide +kernel
theorem dX8_worth_24 : decode cX8_worth 24 = .ok (.istore_n 2, 1) := by decide +kernel
theorem dX8_worth_25 : decode cX8_worth 25 = .ok (.aload_n 0, 1) := by decide +kernel
theorem dX8_worth_26 : decode cX8_worth 26 = .ok (.iconst 1, 1) := by decide +kernel
theorem dX8_worth_27 : decode cX8_worth 27 = .ok (.iload_n 1, 1) := by decide +kernel
theorem dX8_worth_28 : decode cX8_worth 28 = .ok (.ishl, 1) := by decide +kernel
theorem dX8_worth_29 : decode cX8_worth 29 = .ok (.putfield 181, 3) := by decide +kernel
theorem dX8_worth_32 : decode cX8_worth 32 = .ok (.aload_n 0, 1) := by decide +kernel
theorem dX8_worth_33 : decode cX8_worth 33 = .ok (.bipush 60, 2) := by decide +kernel
theorem dX8_worth_35 : decode cX8_worth 35 = .ok (.invokevirtual 198, 3) := by decide +kernel
theorem dX8_worth_38 : decode cX8_worth 38 = .ok (.aload_n 0, 1) := by decide +kernel
theorem dX8_worth_39 : decode cX8_worth 39 = .ok (.iconst 0, 1) := by decide +kernel
theorem dX8_worth_40 : decode cX8_worth 40 = .ok (.putfield 181, 3) := by decide +kernel
theorem dX8_worth_43 : decode cX8_worth 43 = .ok (.iload_n 2, 1) := by decide +kernel
theorem dX8_worth_44 : decode cX8_worth 44 = .ok (.aload_n 0, 1) := by decide +kernel
theorem dX8_worth_45 : decode cX8_worth 45 = .ok (.getfield 165, 3) := by decide +kernel
theorem dX8_worth_48 : decode cX8_worth 48 = .ok (.isub, 1) := by decide +kernel
theorem dX8_worth_49 : decode cX8_worth 49 = .ok (.sipush 1000, 3) := by decide +kernel
theorem dX8_worth_52 : decode cX8_worth 52 = .ok (.iadd, 1) := by decide +kernel
theorem dX8_worth_53 : decode cX8_worth 53 = .ok (.ireturn, 1) := by decide +kernel
theorem dX8_size_0 : decode cX8_size 0 = .ok (.iconst 0, 1) := by decide +kernel
theorem dX8_size_1 : decode cX8_size 1 = .ok (.istore_n 1, 1) := by decide +kernel
theorem dX8_size_2 : decode cX8_size 2 = .ok (.iload_n 0, 1) := by decide +kernel
theorem dX8_size_3 : decode cX8_size 3 = .ok (.istore_n 2, 1) := by decide +kernel
theorem dX8_size_4 : decode cX8_size 4 = .ok (.iload_n 2, 1) := by decide +kernel
theorem dX8_size_5 : decode cX8_size 5 = .ok (.ifCond .le 16, 3) := by decide +kernel
theorem dX8_size_8 : decode cX8_size 8 = .ok (.iload_n 1, 1) := by decide +kernel
theorem dX8_size_9 : decode cX8_size 9 = .ok (.iload_n 2, 1) := by decide +kernel
theorem dX8_size_10 : decode cX8_size 10 = .ok (.iconst 1, 1) := by decide +kernel
theorem dX8_size_11 : decode cX8_size 11 = .ok (.iand, 1) := by decide +kernel
theorem dX8_size_12 : decode cX8_size 12 = .ok (.iadd, 1) := by decide +kernel
theorem dX8_size_13 : decode cX8_size 13 = .ok (.istore_n 1, 1) := by decide +kernel
theorem dX8_size_14 : decode cX8_size 14 = .ok (.iload_n 2, 1) := by decide +kernel
theorem dX8_size_15 : decode cX8_size 15 = .ok (.iconst 1, 1) := by decide +kernel
theorem dX8_size_16 : decode cX8_size 16 = .ok (.ishr, 1) := by decide +kernel
theorem dX8_size_17 : decode cX8_size 17 = .ok (.istore_n 2, 1) := by decide +kernel
theorem dX8_size_18 : decode cX8_size 18 = .ok (.goto (-14), 3) := by decide +kernel
theorem dX8_size_21 : decode cX8_size 21 = .ok (.iload_n 1, 1) := by decide +kernel
theorem dX8_size_22 : decode cX8_size 22 = .ok (.ireturn, 1) := by decide +kernel
theorem dX8_arrestAll_0 : decode cX8_arrestAll 0 = .ok (.iconst 0, 1) := by decide +kernel
theorem dX8_arrestAll_1 : decode cX8_arrestAll 1 = .ok (.istore_n 3, 1) := by decide +kernel
theorem dX8_arrestAll_2 : decode cX8_arrestAll 2 = .ok (.iload_n 3, 1) := by decide +kernel
theorem dX8_arrestAll_3 : decode cX8_arrestAll 3 = .ok (.aload_n 0, 1) := by decide +kernel
theorem dX8_arrestAll_4 : decode cX8_arrestAll 4 = .ok (.getfield 105, 3) := by decide +kernel
theorem dX8_arrestAll_7 : decode cX8_arrestAll 7 = .ok (.if_icmp .ge 34, 3) := by decide +kernel
theorem dX8_arrestAll_10 : decode cX8_arrestAll 10 = .ok (.aload_n 0, 1) := by decide +kernel
theorem dX8_arrestAll_11 : decode cX8_arrestAll 11 = .ok (.getfield 28, 3) := by decide +kernel
theorem dX8_arrestAll_14 : decode cX8_arrestAll 14 = .ok (.iload_n 3, 1) := by decide +kernel
theorem dX8_arrestAll_15 : decode cX8_arrestAll 15 = .ok (.iload_n 1, 1) := by decide +kernel
theorem dX8_arrestAll_16 : decode cX8_arrestAll 16 = .ok (.iload_n 3, 1) := by decide +kernel
theorem dX8_arrestAll_17 : decode cX8_arrestAll 17 = .ok (.ishr, 1) := by decide +kernel
theorem dX8_arrestAll_18 : decode cX8_arrestAll 18 = .ok (.iconst 1, 1) := by decide +kernel
theorem dX8_arrestAll_19 : decode cX8_arrestAll 19 = .ok (.iand, 1) := by decide +kernel
theorem dX8_arrestAll_20 : decode cX8_arrestAll 20 = .ok (.iconst 1, 1) := by decide +kernel
theorem dX8_arrestAll_21 : decode cX8_arrestAll 21 = .ok (.if_icmp .ne 7, 3) := by decide +kernel
theorem dX8_arrestAll_24 : decode cX8_arrestAll 24 = .ok (.iload_n 2, 1) := by decide +kernel
theorem dX8_arrestAll_25 : decode cX8_arrestAll 25 = .ok (.goto 9, 3) := by decide +kernel
theorem dX8_arrestAll_28 : decode cX8_arrestAll 28 = .ok (.aload_n 0, 1) := by decide +kernel
theorem dX8_arrestAll_29 : decode cX8_arrestAll 29 = .ok (.getfield 28, 3) := by decide +kernel
theorem dX8_arrestAll_32 : decode cX8_arrestAll 32 = .ok (.iload_n 3, 1) := by decide +kernel
theorem dX8_arrestAll_33 : decode cX8_arrestAll 33 = .ok (.baload, 1) := by decide +kernel
theorem dX8_arrestAll_34 : decode cX8_arrestAll 34 = .ok (.bastore, 1) := by decide +kernel
theorem dX8_arrestAll_35 : decode cX8_arrestAll 35 = .ok (.iinc 3 1, 3) := by decide +kernel
theorem dX8_arrestAll_38 : decode cX8_arrestAll 38 = .ok (.goto (-36), 3) := by decide +kernel
theorem dX8_arrestAll_41 : decode cX8_arrestAll 41 = .ok (.return_, 1) := by decide +kernel
theorem dX8_arrests_0 : decode cX8_arrests 0 = .ok (.iload_n 1, 1) := by decide +kernel
theorem dX8_arrests_1 : decode cX8_arrests 1 = .ok (.invokestatic 195, 3) := by decide +kernel
theorem dX8_arrests_4 : decode cX8_arrests 4 = .ok (.ifCond .ne 6, 3) := by decide +kernel
theorem dX8_arrests_7 : decode cX8_arrests 7 = .ok (.bipush (-2), 2) := by decide +kernel
theorem dX8_arrests_9 : decode cX8_arrests 9 = .ok (.ireturn, 1) := by decide +kernel
theorem dX8_arrests_10 : decode cX8_arrests 10 = .ok (.aload_n 0, 1) := by decide +kernel
theorem dX8_arrests_11 : decode cX8_arrests 11 = .ok (.getfield 105, 3) := by decide +kernel
theorem dX8_arrests_14 : decode cX8_arrests 14 = .ok (.ifCond .ne 6, 3) := by decide +kernel
theorem dX8_arrests_17 : decode cX8_arrests 17 = .ok (.bipush (-3), 2) := by decide +kernel
theorem dX8_arrests_19 : decode cX8_arrests 19 = .ok (.ireturn, 1) := by decide +kernel
theorem dX8_arrests_20 : decode cX8_arrests 20 = .ok (.iconst 0, 1) := by decide +kernel
theorem dX8_arrests_21 : decode cX8_arrests 21 = .ok (.istore_n 2, 1) := by decide +kernel
theorem dX8_arrests_22 : decode cX8_arrests 22 = .ok (.iconst 0, 1) := by decide +kernel
theorem dX8_arrests_23 : decode cX8_arrests 23 = .ok (.istore_n 3, 1) := by decide +kernel
theorem dX8_arrests_24 : decode cX8_arrests 24 = .ok (.iload_n 3, 1) := by decide +kernel
theorem dX8_arrests_25 : decode cX8_arrests 25 = .ok (.aload_n 0, 1) := by decide +kernel
theorem dX8_arrests_26 : decode cX8_arrests 26 = .ok (.getfield 105, 3) := by decide +kernel
theorem dX8_arrests_29 : decode cX8_arrests 29 = .ok (.if_icmp .ge 28, 3) := by decide +kernel
theorem dX8_arrests_32 : decode cX8_arrests 32 = .ok (.iload_n 2, 1) := by decide +kernel
theorem dX8_arrests_33 : decode cX8_arrests 33 = .ok (.aload_n 0, 1) := by decide +kernel
theorem dX8_arrests_34 : decode cX8_arrests 34 = .ok (.getfield 28, 3) := by decide +kernel
theorem dX8_arrests_37 : decode cX8_arrests 37 = .ok (.iload_n 3, 1) := by decide +kernel
theorem dX8_arrests_38 : decode cX8_arrests 38 = .ok (.baload, 1) := by decide +kernel
theorem dX8_arrests_39 : decode cX8_arrests 39 = .ok (.ifCond .eq 9, 3) := by decide +kernel
theorem dX8_arrests_42 : decode cX8_arrests 42 = .ok (.iconst 1, 1) := by decide +kernel
theorem dX8_arrests_43 : decode cX8_arrests 43 = .ok (.iload_n 3, 1) := by decide +kernel
theorem dX8_arrests_44 : decode cX8_arrests 44 = .ok (.ishl, 1) := by decide +kernel
theorem dX8_arrests_45 : decode cX8_arrests 45 = .ok (.goto 4, 3) := by decide +kernel
theorem dX8_arrests_48 : decode cX8_arrests 48 = .ok (.iconst 0, 1) := by decide +kernel
theorem dX8_arrests_49 : decode cX8_arrests 49 = .ok (.ior, 1) := by decide +kernel
theorem dX8_arrests_50 : decode cX8_arrests 50 = .ok (.istore_n 2, 1) := by decide +kernel
theorem dX8_arrests_51 : decode cX8_arrests 51 = .ok (.iinc 3 1, 3) := by decide +kernel
theorem dX8_arrests_54 : decode cX8_arrests 54 = .ok (.goto (-30), 3) := by decide +kernel
theorem dX8_arrests_57 : decode cX8_arrests 57 = .ok (.bipush (-9), 2) := by decide +kernel
theorem dX8_arrests_59 : decode cX8_arrests 59 = .ok (.istore_n 3, 1) := by decide +kernel
theorem dX8_arrests_60 : decode cX8_arrests 60 = .ok (.iconst 0, 1) := by decide +kernel
theorem dX8_arrests_61 : decode cX8_arrests 61 = .ok (.istore 4, 2) := by decide +kernel
theorem dX8_arrests_63 : decode cX8_arrests 63 = .ok (.iload 4, 2) := by decide +kernel
theorem dX8_arrests_65 : decode cX8_arrests 65 = .ok (.iconst 1, 1) := by decide +kernel
theorem dX8_arrests_66 : decode cX8_arrests 66 = .ok (.aload_n 0, 1) := by decide +kernel
theorem dX8_arrests_67 : decode cX8_arrests 67 = .ok (.getfield 105, 3) := by decide +kernel
theorem dX8_arrests_70 : decode cX8_arrests 70 = .ok (.ishl, 1) := by decide +kernel
theorem dX8_arrests_71 : decode cX8_arrests 71 = .ok (.if_icmp .ge 69, 3) := by decide +kernel
theorem dX8_arrests_74 : decode cX8_arrests 74 = .ok (.iload 4, 2) := by decide +kernel
theorem dX8_arrests_76 : decode cX8_arrests 76 = .ok (.iload_n 2, 1) := by decide +kernel
theorem dX8_arrests_77 : decode cX8_arrests 77 = .ok (.iand, 1) := by decide +kernel
theorem dX8_arrests_78 : decode cX8_arrests 78 = .ok (.ifCond .ne 56, 3) := by decide +kernel
theorem dX8_arrests_81 : decode cX8_arrests 81 = .ok (.iload_n 3, 1) := by decide +kernel
theorem dX8_arrests_82 : decode cX8_arrests 82 = .ok (.bipush (-9), 2) := by decide +kernel
theorem dX8_arrests_84 : decode cX8_arrests 84 = .ok (.if_icmp .eq 15, 3) := by decide +kernel
theorem dX8_arrests_87 : decode cX8_arrests 87 = .ok (.iload 4, 2) := by decide +kernel
theorem dX8_arrests_89 : decode cX8_arrests 89 = .ok (.invokestatic 201, 3) := by decide +kernel
theorem dX8_arrests_92 : decode cX8_arrests 92 = .ok (.iload_n 3, 1) := by decide +kernel
theorem dX8_arrests_93 : decode cX8_arrests 93 = .ok (.invokestatic 201, 3) := by decide +kernel
theorem dX8_arrests_96 : decode cX8_arrests 96 = .ok (.if_icmp .ge 38, 3) := by decide +kernel
theorem dX8_arrests_99 : decode cX8_arrests 99 = .ok (.aload_n 0, 1) := by decide +kernel
theorem dX8_arrests_100 : decode cX8_arrests 100 = .ok (.iload 4, 2) := by decide +kernel
theorem dX8_arrests_102 : decode cX8_arrests 102 = .ok (.iconst 1, 1) := by decide +kernel
theorem dX8_arrests_103 : decode cX8_arrests 103 = .ok (.invokevirtual 204, 3) := by decide +kernel
theorem dX8_arrests_106 : decode cX8_arrests 106 = .ok (.aload_n 0, 1) := by decide +kernel
theorem dX8_arrests_107 : decode cX8_arrests 107 = .ok (.iload_n 1, 1) := by decide +kernel
theorem dX8_arrests_108 : decode cX8_arrests 108 = .ok (.iconst 1, 1) := by decide +kernel
theorem dX8_arrests_109 : decode cX8_arrests 109 = .ok (.iadd, 1) := by decide +kernel
theorem dX8_arrests_110 : decode cX8_arrests 110 = .ok (.invokevirtual 198, 3) := by decide +kernel
theorem dX8_arrests_113 : decode cX8_arrests 113 = .ok (.aload_n 0, 1) := by decide +kernel
theorem dX8_arrests_114 : decode cX8_arrests 114 = .ok (.iload 4, 2) := by decide +kernel
theorem dX8_arrests_116 : decode cX8_arrests 116 = .ok (.iconst 0, 1) := by decide +kernel
theorem dX8_arrests_117 : decode cX8_arrests 117 = .ok (.invokevirtual 204, 3) := by decide +kernel
theorem dX8_arrests_120 : decode cX8_arrests 120 = .ok (.aload_n 0, 1) := by decide +kernel
theorem dX8_arrests_121 : decode cX8_arrests 121 = .ok (.getfield 165, 3) := by decide +kernel
theorem dX8_arrests_124 : decode cX8_arrests 124 = .ok (.ifCond .ne 8, 3) := by decide +kernel
theorem dX8_arrests_127 : decode cX8_arrests 127 = .ok (.iload 4, 2) := by decide +kernel
theorem dX8_arrests_129 : decode cX8_arrests 129 = .ok (.goto 4, 3) := by decide +kernel
theorem dX8_arrests_132 : decode cX8_arrests 132 = .ok (.iload_n 3, 1) := by decide +kernel
theorem dX8_arrests_133 : decode cX8_arrests 133 = .ok (.istore_n 3, 1) := by decide +kernel
theorem dX8_arrests_134 : decode cX8_arrests 134 = .ok (.iinc 4 1, 3) := by decide +kernel
theorem dX8_arrests_137 : decode cX8_arrests 137 = .ok (.goto (-74), 3) := by decide +kernel
theorem dX8_arrests_140 : decode cX8_arrests 140 = .ok (.iload_n 3, 1) := by decide +kernel
theorem dX8_arrests_141 : decode cX8_arrests 141 = .ok (.ireturn, 1) := by decide +kernel
theorem dX8_didMeet_0 : decode cX8_didMeet 0 = .ok (.iconst 0, 1) := by decide +kernel
theorem dX8_didMeet_1 : decode cX8_didMeet 1 = .ok (.istore 4, 2) := by decide +kernel
theorem dX8_didMeet_3 : decode cX8_didMeet 3 = .ok (.iload 4, 2) := by decide +kernel
theorem dX8_didMeet_5 : decode cX8_didMeet 5 = .ok (.aload_n 0, 1) := by decide +kernel
theorem dX8_didMeet_6 : decode cX8_didMeet 6 = .ok (.getfield 165, 3) := by decide +kernel
theorem dX8_didMeet_9 : decode cX8_didMeet 9 = .ok (.if_icmp .ge 78, 3) := by decide +kernel
theorem dX8_didMeet_12 : decode cX8_didMeet 12 = .ok (.aload_n 0, 1) := by decide +kernel
theorem dX8_didMeet_13 : decode cX8_didMeet 13 = .ok (.getfield 71, 3) := by decide +kernel
theorem dX8_didMeet_16 : decode cX8_didMeet 16 = .ok (.iload 4, 2) := by decide +kernel
theorem dX8_didMeet_18 : decode cX8_didMeet 18 = .ok (.iaload, 1) := by decide +kernel
theorem dX8_didMeet_19 : decode cX8_didMeet 19 = .ok (.iload_n 1, 1) := by decide +kernel
theorem dX8_didMeet_20 : decode cX8_didMeet 20 = .ok (.if_icmp .ne 14, 3) := by decide +kernel
theorem dX8_didMeet_23 : decode cX8_didMeet 23 = .ok (.aload_n 0, 1) := by decide +kernel
theorem dX8_didMeet_24 : decode cX8_didMeet 24 = .ok (.getfield 74, 3) := by decide +kernel
theorem dX8_didMeet_27 : decode cX8_didMeet 27 = .ok (.iload 4, 2) := by decide +kernel
theorem dX8_didMeet_29 : decode cX8_didMeet 29 = .ok (.iaload, 1) := by decide +kernel
theorem dX8_didMeet_30 : decode cX8_didMeet 30 = .ok (.iload_n 2, 1) := by decide +kernel
theorem dX8_didMeet_31 : decode cX8_didMeet 31 = .ok (.if_icmp .eq 25, 3) := by decide +kernel
theorem dX8_didMeet_34 : decode cX8_didMeet 34 = .ok (.aload_n 0, 1) := by decide +kernel
theorem dX8_didMeet_35 : decode cX8_didMeet 35 = .ok (.getfield 71, 3) := by decide +kernel
theorem dX8_didMeet_38 : decode cX8_didMeet 38 = .ok (.iload 4, 2) := by decide +kernel
theorem dX8_didMeet_40 : decode cX8_didMeet 40 = .ok (.iaload, 1) := by decide +kernel
theorem dX8_didMeet_41 : decode cX8_didMeet 41 = .ok (.iload_n 2, 1) := by decide +kernel
theorem dX8_didMeet_42 : decode cX8_didMeet 42 = .ok (.if_icmp .ne 18, 3) := by decide +kernel
theorem dX8_didMeet_45 : decode cX8_didMeet 45 = .ok (.aload_n 0, 1) := by decide +kernel
theorem dX8_didMeet_46 : decode cX8_didMeet 46 = .ok (.getfield 74, 3) := by decide +kernel
theorem dX8_didMeet_49 : decode cX8_didMeet 49 = .ok (.iload 4, 2) := by decide +kernel
theorem dX8_didMeet_51 : decode cX8_didMeet 51 = .ok (.iaload, 1) := by decide +kernel
theorem dX8_didMeet_52 : decode cX8_didMeet 52 = .ok (.iload_n 1, 1) := by decide +kernel
theorem dX8_didMeet_53 : decode cX8_didMeet 53 = .ok (.if_icmp .ne 7, 3) := by decide +kernel
theorem dX8_didMeet_56 : decode cX8_didMeet 56 = .ok (.iconst 1, 1) := by decide +kernel
theorem dX8_didMeet_57 : decode cX8_didMeet 57 = .ok (.goto 4, 3) := by decide +kernel
theorem dX8_didMeet_60 : decode cX8_didMeet 60 = .ok (.iconst 0, 1) := by decide +kernel
theorem dX8_didMeet_61 : decode cX8_didMeet 61 = .ok (.istore 5, 2) := by decide +kernel
theorem dX8_didMeet_63 : decode cX8_didMeet 63 = .ok (.iload 5, 2) := by decide +kernel
theorem dX8_didMeet_65 : decode cX8_didMeet 65 = .ok (.ifCond .eq 16, 3) := by decide +kernel
theorem dX8_didMeet_68 : decode cX8_didMeet 68 = .ok (.aload_n 0, 1) := by decide +kernel
theorem dX8_didMeet_69 : decode cX8_didMeet 69 = .ok (.getfield 68, 3) := by decide +kernel
theorem dX8_didMeet_72 : decode cX8_didMeet 72 = .ok (.iload 4, 2) := by decide +kernel
theorem dX8_didMeet_74 : decode cX8_didMeet 74 = .ok (.iaload, 1) := by decide +kernel
theorem dX8_didMeet_75 : decode cX8_didMeet 75 = .ok (.iload_n 3, 1) := by decide +kernel
theorem dX8_didMeet_76 : decode cX8_didMeet 76 = .ok (.if_icmp .le 5, 3) := by decide +kernel
theorem dX8_didMeet_79 : decode cX8_didMeet 79 = .ok (.iconst 1, 1) := by decide +kernel
theorem dX8_didMeet_80 : decode cX8_didMeet 80 = .ok (.ireturn, 1) := by decide +kernel
theorem dX8_didMeet_81 : decode cX8_didMeet 81 = .ok (.iinc 4 1, 3) := by decide +kernel
theorem dX8_didMeet_84 : decode cX8_didMeet 84 = .ok (.goto (-81), 3) := by decide +kernel
theorem dX8_didMeet_87 : decode cX8_didMeet 87 = .ok (.iconst 0, 1) := by decide +kernel
theorem dX8_didMeet_88 : decode cX8_didMeet 88 = .ok (.ireturn, 1) := by decide +kernel
theorem dX8_doesProvoke_0 : decode cX8_doesProvoke 0 = .ok (.aload_n 0, 1) := by decide +kernel
theorem dX8_doesProvoke_1 : decode cX8_doesProvoke 1 = .ok (.aload_n 0, 1) := by decide +kernel
theorem dX8_doesProvoke_2 : decode cX8_doesProvoke 2 = .ok (.getfield 132, 3) := by decide +kernel
theorem dX8_doesProvoke_5 : decode cX8_doesProvoke 5 = .ok (.iload_n 1, 1) := by decide +kernel
theorem dX8_doesProvoke_6 : decode cX8_doesProvoke 6 = .ok (.iload_n 2, 1) := by decide +kernel
theorem dX8_doesProvoke_7 : decode cX8_doesProvoke 7 = .ok (.iload 6, 2) := by decide +kernel
theorem dX8_doesProvoke_9 : decode cX8_doesProvoke 9 = .ok (.iload_n 3, 1) := by decide +kernel
theorem dX8_doesProvoke_10 : decode cX8_doesProvoke 10 = .ok (.invokevirtual 151, 3) := by decide +kernel
theorem dX8_doesProvoke_13 : decode cX8_doesProvoke 13 = .ok (.aload_n 0, 1) := by decide +kernel
theorem dX8_doesProvoke_14 : decode cX8_doesProvoke 14 = .ok (.dup, 1) := by decide +kernel
theorem dX8_doesProvoke_15 : decode cX8_doesProvoke 15 = .ok (.getfield 132, 3) := by decide +kernel
theorem dX8_doesProvoke_18 : decode cX8_doesProvoke 18 = .ok (.iconst 1, 1) := by decide +kernel
theorem dX8_doesProvoke_19 : decode cX8_doesProvoke 19 = .ok (.iadd, 1) := by decide +kernel
theorem dX8_doesProvoke_20 : decode cX8_doesProvoke 20 = .ok (.putfield 132, 3) := by decide +kernel
theorem dX8_doesProvoke_23 : decode cX8_doesProvoke 23 = .ok (.aload_n 0, 1) := by decide +kernel
theorem dX8_doesProvoke_24 : decode cX8_doesProvoke 24 = .ok (.bipush 60, 2) := by decide +kernel
theorem dX8_doesProvoke_26 : decode cX8_doesProvoke 26 = .ok (.invokevirtual 198, 3) := by decide +kernel
theorem dX8_doesProvoke_29 : decode cX8_doesProvoke 29 = .ok (.aload_n 0, 1) := by decide +kernel
theorem dX8_doesProvoke_30 : decode cX8_doesProvoke 30 = .ok (.dup, 1) := by decide +kernel
theorem dX8_doesProvoke_31 : decode cX8_doesProvoke 31 = .ok (.getfield 132, 3) := by decide +kernel
theorem dX8_doesProvoke_34 : decode cX8_doesProvoke 34 = .ok (.iconst 1, 1) := by decide +kernel
theorem dX8_doesProvoke_35 : decode cX8_doesProvoke 35 = .ok (.isub, 1) := by decide +kernel
theorem dX8_doesProvoke_36 : decode cX8_doesProvoke 36 = .ok (.putfield 132, 3) := by decide +kernel
theorem dX8_doesProvoke_39 : decode cX8_doesProvoke 39 = .ok (.aload_n 0, 1) := by decide +kernel
theorem dX8_doesProvoke_40 : decode cX8_doesProvoke 40 = .ok (.iload 4, 2) := by decide +kernel
theorem dX8_doesProvoke_42 : decode cX8_doesProvoke 42 = .ok (.iload 5, 2) := by decide +kernel
theorem dX8_doesProvoke_44 : decode cX8_doesProvoke 44 = .ok (.iload 6, 2) := by decide +kernel
theorem dX8_doesProvoke_46 : decode cX8_doesProvoke 46 = .ok (.invokevirtual 208, 3) := by decide +kernel
theorem dX8_doesProvoke_49 : decode cX8_doesProvoke 49 = .ok (.ireturn, 1) := by decide +kernel
theorem dX8_provoked_0 : decode cX8_provoked 0 = .ok (.aload_n 0, 1) := by decide +kernel
theorem dX8_provoked_1 : decode cX8_provoked 1 = .ok (.iload_n 1, 1) := by decide +kernel
theorem dX8_provoked_2 : decode cX8_provoked 2 = .ok (.invokevirtual 145, 3) := by decide +kernel
theorem dX8_provoked_5 : decode cX8_provoked 5 = .ok (.ifCond .eq 16, 3) := by decide +kernel
theorem dX8_provoked_8 : decode cX8_provoked 8 = .ok (.aload_n 0, 1) := by decide +kernel
theorem dX8_provoked_9 : decode cX8_provoked 9 = .ok (.iload_n 2, 1) := by decide +kernel
theorem dX8_provoked_10 : decode cX8_provoked 10 = .ok (.invokevirtual 145, 3) := by decide +kernel
theorem dX8_provoked_13 : decode cX8_provoked 13 = .ok (.ifCond .eq 8, 3) := by decide +kernel
theorem dX8_provoked_16 : decode cX8_provoked 16 = .ok (.iload_n 1, 1) := by decide +kernel
theorem dX8_provoked_17 : decode cX8_provoked 17 = .ok (.iload_n 2, 1) := by decide +kernel
theorem dX8_provoked_18 : decode cX8_provoked 18 = .ok (.if_icmp .ne 5, 3) := by decide +kernel
theorem dX8_provoked_21 : decode cX8_provoked 21 = .ok (.iconst (-1), 1) := by decide +kernel
theorem dX8_provoked_22 : decode cX8_provoked 22 = .ok (.ireturn, 1) := by decide +kernel
theorem dX8_provoked_23 : decode cX8_provoked 23 = .ok (.iload_n 3, 1) := by decide +kernel
theorem dX8_provoked_24 : decode cX8_provoked 24 = .ok (.iconst 0, 1) := by decide +kernel
theorem dX8_provoked_25 : decode cX8_provoked 25 = .ok (.bipush 29, 2) := by decide +kernel
theorem dX8_provoked_27 : decode cX8_provoked 27 = .ok (.invokestatic 101, 3) := by decide +kernel
theorem dX8_provoked_30 : decode cX8_provoked 30 = .ok (.ifCond .ne 6, 3) := by decide +kernel
theorem dX8_provoked_33 : decode cX8_provoked 33 = .ok (.bipush (-2), 2) := by decide +kernel
theorem dX8_provoked_35 : decode cX8_provoked 35 = .ok (.ireturn, 1) := by decide +kernel
theorem dX8_provoked_36 : decode cX8_provoked 36 = .ok (.iconst 0, 1) := by decide +kernel
theorem dX8_provoked_37 : decode cX8_provoked 37 = .ok (.istore 4, 2) := by decide +kernel
theorem dX8_provoked_39 : decode cX8_provoked 39 = .ok (.iload 4, 2) := by decide +kernel
theorem dX8_provoked_41 : decode cX8_provoked 41 = .ok (.aload_n 0, 1) := by decide +kernel
theorem dX8_provoked_42 : decode cX8_provoked 42 = .ok (.getfield 105, 3) := by decide +kernel
theorem dX8_provoked_45 : decode cX8_provoked 45 = .ok (.if_icmp .ge 81, 3) := by decide +kernel
theorem dX8_provoked_48 : decode cX8_provoked 48 = .ok (.iconst 0, 1) := by decide +kernel
theorem dX8_provoked_49 : decode cX8_provoked 49 = .ok (.istore 5, 2) := by decide +kernel
theorem dX8_provoked_51 : decode cX8_provoked 51 = .ok (.iload 5, 2) := by decide +kernel
theorem dX8_provoked_53 : decode cX8_provoked 53 = .ok (.aload_n 0, 1) := by decide +kernel
theorem dX8_provoked_54 : decode cX8_provoked 54 = .ok (.getfield 105, 3) := by decide +kernel
theorem dX8_provoked_57 : decode cX8_provoked 57 = .ok (.if_icmp .ge 63, 3) := by decide +kernel
theorem dX8_provoked_60 : decode cX8_provoked 60 = .ok (.iconst 1, 1) := by decide +kernel
theorem dX8_provoked_61 : decode cX8_provoked 61 = .ok (.istore 6, 2) := by decide +kernel
theorem dX8_provoked_63 : decode cX8_provoked 63 = .ok (.iload 6, 2) := by decide +kernel
theorem dX8_provoked_65 : decode cX8_provoked 65 = .ok (.bipush 9, 2) := by decide +kernel
theorem dX8_provoked_67 : decode cX8_provoked 67 = .ok (.if_icmp .gt 47, 3) := by decide +kernel
theorem dX8_provoked_70 : decode cX8_provoked 70 = .ok (.iload 4, 2) := by decide +kernel
theorem dX8_provoked_72 : decode cX8_provoked 72 = .ok (.iload 5, 2) := by decide +kernel
theorem dX8_provoked_74 : decode cX8_provoked 74 = .ok (.if_icmp .eq 40, 3) := by decide +kernel
theorem dX8_provoked_77 : decode cX8_provoked 77 = .ok (.aload_n 0, 1) := by decide +kernel
theorem dX8_provoked_78 : decode cX8_provoked 78 = .ok (.iload 4, 2) := by decide +kernel
theorem dX8_provoked_80 : decode cX8_provoked 80 = .ok (.iload 5, 2) := by decide +kernel
theorem dX8_provoked_82 : decode cX8_provoked 82 = .ok (.iload 6, 2) := by decide +kernel
theorem dX8_provoked_84 : decode cX8_provoked 84 = .ok (.iload_n 1, 1) := by decide +kernel
theorem dX8_provoked_85 : decode cX8_provoked 85 = .ok (.iload_n 2, 1) := by decide +kernel
theorem dX8_provoked_86 : decode cX8_provoked 86 = .ok (.iload_n 3, 1) := by decide +kernel
theorem dX8_provoked_87 : decode cX8_provoked 87 = .ok (.invokevirtual 211, 3) := by decide +kernel
theorem dX8_provoked_90 : decode cX8_provoked 90 = .ok (.ifCond .eq 18, 3) := by decide +kernel
theorem dX8_provoked_93 : decode cX8_provoked 93 = .ok (.bipush 100, 2) := by decide +kernel
theorem dX8_provoked_95 : decode cX8_provoked 95 = .ok (.iload 4, 2) := by decide +kernel
theorem dX8_provoked_97 : decode cX8_provoked 97 = .ok (.imul, 1) := by decide +kernel
theorem dX8_provoked_98 : decode cX8_provoked 98 = .ok (.bipush 10, 2) := by decide +kernel
theorem dX8_provoked_100 : decode cX8_provoked 100 = .ok (.iload 5, 2) := by decide +kernel
theorem dX8_provoked_102 : decode cX8_provoked 102 = .ok (.imul, 1) := by decide +kernel
theorem dX8_provoked_103 : decode cX8_provoked 103 = .ok (.iadd, 1) := by decide +kernel
theorem dX8_provoked_104 : decode cX8_provoked 104 = .ok (.iload 6, 2) := by decide +kernel
theorem dX8_provoked_106 : decode cX8_provoked 106 = .ok (.iadd, 1) := by decide +kernel
theorem dX8_provoked_107 : decode cX8_provoked 107 = .ok (.ireturn, 1) := by decide +kernel
theorem dX8_provoked_108 : decode cX8_provoked 108 = .ok (.iinc 6 1, 3) := by decide +kernel
theorem dX8_provoked_111 : decode cX8_provoked 111 = .ok (.goto (-48), 3) := by decide +kernel
theorem dX8_provoked_114 : decode cX8_provoked 114 = .ok (.iinc 5 1, 3) := by decide +kernel
theorem dX8_provoked_117 : decode cX8_provoked 117 = .ok (.goto (-66), 3) := by decide +kernel
theorem dX8_provoked_120 : decode cX8_provoked 120 = .ok (.iinc 4 1, 3) := by decide +kernel
theorem dX8_provoked_123 : decode cX8_provoked 123 = .ok (.goto (-84), 3) := by decide +kernel
theorem dX8_provoked_126 : decode cX8_provoked 126 = .ok (.bipush (-9), 2) := by decide +kernel
theorem dX8_provoked_128 : decode cX8_provoked 128 = .ok (.ireturn, 1) := by decide +kernel
theorem dX8_inLeastTerms_0 : decode cX8_inLeastTerms 0 = .ok (.lload_n 0, 1) := by decide +kernel
theorem dX8_inLeastTerms_1 : decode cX8_inLeastTerms 1 = .ok (.lstore 5, 2) := by decide +kernel
theorem dX8_inLeastTerms_3 : decode cX8_inLeastTerms 3 = .ok (.lload_n 2, 1) := by decide +kernel
theorem dX8_inLeastTerms_4 : decode cX8_inLeastTerms 4 = .ok (.lstore 7, 2) := by decide +kernel
theorem dX8_inLeastTerms_6 : decode cX8_inLeastTerms 6 = .ok (.lload 7, 2) := by decide +kernel
theorem dX8_inLeastTerms_8 : decode cX8_inLeastTerms 8 = .ok (.lconst 0, 1) := by decide +kernel
theorem dX8_inLeastTerms_9 : decode cX8_inLeastTerms 9 = .ok (.lcmp, 1) := by decide +kernel
theorem dX8_inLeastTerms_10 : decode cX8_inLeastTerms 10 = .ok (.ifCond .eq 21, 3) := by decide +kernel
theorem dX8_inLeastTerms_13 : decode cX8_inLeastTerms 13 = .ok (.lload 5, 2) := by decide +kernel
theorem dX8_inLeastTerms_15 : decode cX8_inLeastTerms 15 = .ok (.lload 7, 2) := by decide +kernel
theorem dX8_inLeastTerms_17 : decode cX8_inLeastTerms 17 = .ok (.lrem, 1) := by decide +kernel
theorem dX8_inLeastTerms_18 : decode cX8_inLeastTerms 18 = .ok (.lstore 9, 2) := by decide +kernel
theorem dX8_inLeastTerms_20 : decode cX8_inLeastTerms 20 = .ok (.lload 7, 2) := by decide +kernel
theorem dX8_inLeastTerms_22 : decode cX8_inLeastTerms 22 = .ok (.lstore 5, 2) := by decide +kernel
theorem dX8_inLeastTerms_24 : decode cX8_inLeastTerms 24 = .ok (.lload 9, 2) := by decide +kernel
theorem dX8_inLeastTerms_26 : decode cX8_inLeastTerms 26 = .ok (.lstore 7, 2) := by decide +kernel
theorem dX8_inLeastTerms_28 : decode cX8_inLeastTerms 28 = .ok (.goto (-22), 3) := by decide +kernel
theorem dX8_inLeastTerms_31 : decode cX8_inLeastTerms 31 = .ok (.iload 4, 2) := by decide +kernel
theorem dX8_inLeastTerms_33 : decode cX8_inLeastTerms 33 = .ok (.ifCond .ne 10, 3) := by decide +kernel
theorem dX8_inLeastTerms_36 : decode cX8_inLeastTerms 36 = .ok (.lload_n 0, 1) := by decide +kernel
theorem dX8_inLeastTerms_37 : decode cX8_inLeastTerms 37 = .ok (.lload 5, 2) := by decide +kernel
theorem dX8_inLeastTerms_39 : decode cX8_inLeastTerms 39 = .ok (.ldiv, 1) := by decide +kernel
theorem dX8_inLeastTerms_40 : decode cX8_inLeastTerms 40 = .ok (.goto 7, 3) := by decide +kernel
theorem dX8_inLeastTerms_43 : decode cX8_inLeastTerms 43 = .ok (.lload_n 2, 1) := by decide +kernel
theorem dX8_inLeastTerms_44 : decode cX8_inLeastTerms 44 = .ok (.lload 5, 2) := by decide +kernel
theorem dX8_inLeastTerms_46 : decode cX8_inLeastTerms 46 = .ok (.ldiv, 1) := by decide +kernel
theorem dX8_inLeastTerms_47 : decode cX8_inLeastTerms 47 = .ok (.lreturn, 1) := by decide +kernel
theorem dX8_wasHurt_0 : decode cX8_wasHurt 0 = .ok (.iconst 0, 1) := by decide +kernel
theorem dX8_wasHurt_1 : decode cX8_wasHurt 1 = .ok (.istore_n 2, 1) := by decide +kernel
theorem dX8_wasHurt_2 : decode cX8_wasHurt 2 = .ok (.iload_n 2, 1) := by decide +kernel
theorem dX8_wasHurt_3 : decode cX8_wasHurt 3 = .ok (.aload_n 0, 1) := by decide +kernel
theorem dX8_wasHurt_4 : decode cX8_wasHurt 4 = .ok (.getfield 165, 3) := by decide +kernel
theorem dX8_wasHurt_7 : decode cX8_wasHurt 7 = .ok (.if_icmp .ge 21, 3) := by decide +kernel
theorem dX8_wasHurt_10 : decode cX8_wasHurt 10 = .ok (.aload_n 0, 1) := by decide +kernel
theorem dX8_wasHurt_11 : decode cX8_wasHurt 11 = .ok (.getfield 83, 3) := by decide +kernel
theorem dX8_wasHurt_14 : decode cX8_wasHurt 14 = .ok (.iload_n 2, 1) := by decide +kernel
theorem dX8_wasHurt_15 : decode cX8_wasHurt 15 = .ok (.iaload, 1) := by decide +kernel
theorem dX8_wasHurt_16 : decode cX8_wasHurt 16 = .ok (.iload_n 1, 1) := by decide +kernel
theorem dX8_wasHurt_17 : decode cX8_wasHurt 17 = .ok (.if_icmp .ne 5, 3) := by decide +kernel
theorem dX8_wasHurt_20 : decode cX8_wasHurt 20 = .ok (.iconst 1, 1) := by decide +kernel
theorem dX8_wasHurt_21 : decode cX8_wasHurt 21 = .ok (.ireturn, 1) := by decide +kernel
theorem dX8_wasHurt_22 : decode cX8_wasHurt 22 = .ok (.iinc 2 1, 3) := by decide +kernel
theorem dX8_wasHurt_25 : decode cX8_wasHurt 25 = .ok (.goto (-23), 3) := by decide +kernel
theorem dX8_wasHurt_28 : decode cX8_wasHurt 28 = .ok (.iconst 0, 1) := by decide +kernel
theorem dX8_wasHurt_29 : decode cX8_wasHurt 29 = .ok (.ireturn, 1) := by decide +kernel
theorem dX8_odds_0 : decode cX8_odds 0 = .ok (.aload_n 0, 1) := by decide +kernel
theorem dX8_odds_1 : decode cX8_odds 1 = .ok (.iload_n 1, 1) := by decide +kernel
theorem dX8_odds_2 : decode cX8_odds 2 = .ok (.invokevirtual 145, 3) := by decide +kernel
theorem dX8_odds_5 : decode cX8_odds 5 = .ok (.ifCond .eq 19, 3) := by decide +kernel
theorem dX8_odds_8 : decode cX8_odds 8 = .ok (.iload_n 2, 1) := by decide +kernel
theorem dX8_odds_9 : decode cX8_odds 9 = .ok (.invokestatic 195, 3) := by decide +kernel
theorem dX8_odds_12 : decode cX8_odds 12 = .ok (.ifCond .eq 12, 3) := by decide +kernel
theorem dX8_odds_15 : decode cX8_odds 15 = .ok (.iload_n 3, 1) := by decide +kernel
theorem dX8_odds_16 : decode cX8_odds 16 = .ok (.iconst 0, 1) := by decide +kernel
theorem dX8_odds_17 : decode cX8_odds 17 = .ok (.iconst 1, 1) := by decide +kernel
theorem dX8_odds_18 : decode cX8_odds 18 = .ok (.invokestatic 101, 3) := by decide +kernel
theorem dX8_odds_21 : decode cX8_odds 21 = .ok (.ifCond .ne 7, 3) := by decide +kernel
theorem dX8_odds_24 : decode cX8_odds 24 = .ok (.ldc2_w 99, 3) := by decide +kernel
theorem dX8_odds_27 : decode cX8_odds 27 = .ok (.lreturn, 1) := by decide +kernel
theorem dX8_odds_28 : decode cX8_odds 28 = .ok (.iconst 0, 1) := by decide +kernel
theorem dX8_odds_29 : decode cX8_odds 29 = .ok (.istore 4, 2) := by decide +kernel
theorem dX8_odds_31 : decode cX8_odds 31 = .ok (.iconst 0, 1) := by decide +kernel
theorem dX8_odds_32 : decode cX8_odds 32 = .ok (.istore 5, 2) := by decide +kernel
theorem dX8_odds_34 : decode cX8_odds 34 = .ok (.iload 5, 2) := by decide +kernel
theorem dX8_odds_36 : decode cX8_odds 36 = .ok (.iconst 1, 1) := by decide +kernel
theorem dX8_odds_37 : decode cX8_odds 37 = .ok (.aload_n 0, 1) := by decide +kernel
theorem dX8_odds_38 : decode cX8_odds 38 = .ok (.getfield 132, 3) := by decide +kernel
theorem dX8_odds_41 : decode cX8_odds 41 = .ok (.ishl, 1) := by decide +kernel
theorem dX8_odds_42 : decode cX8_odds 42 = .ok (.if_icmp .ge 40, 3) := by decide +kernel
theorem dX8_odds_45 : decode cX8_odds 45 = .ok (.aload_n 0, 1) := by decide +kernel
theorem dX8_odds_46 : decode cX8_odds 46 = .ok (.iload 5, 2) := by decide +kernel
theorem dX8_odds_48 : decode cX8_odds 48 = .ok (.putfield 181, 3) := by decide +kernel
theorem dX8_odds_51 : decode cX8_odds 51 = .ok (.aload_n 0, 1) := by decide +kernel
theorem dX8_odds_52 : decode cX8_odds 52 = .ok (.iload_n 2, 1) := by decide +kernel
theorem dX8_odds_53 : decode cX8_odds 53 = .ok (.iconst 1, 1) := by decide +kernel
theorem dX8_odds_54 : decode cX8_odds 54 = .ok (.iadd, 1) := by decide +kernel
theorem dX8_odds_55 : decode cX8_odds 55 = .ok (.invokevirtual 198, 3) := by decide +kernel
theorem dX8_odds_58 : decode cX8_odds 58 = .ok (.iload 4, 2) := by decide +kernel
theorem dX8_odds_60 : decode cX8_odds 60 = .ok (.aload_n 0, 1) := by decide +kernel
theorem dX8_odds_61 : decode cX8_odds 61 = .ok (.iload_n 1, 1) := by decide +kernel
theorem dX8_odds_62 : decode cX8_odds 62 = .ok (.invokevirtual 215, 3) := by decide +kernel
theorem dX8_odds_65 : decode cX8_odds 65 = .ok (.ifCond .eq 7, 3) := by decide +kernel
theorem dX8_odds_68 : decode cX8_odds 68 = .ok (.iconst 1, 1) := by decide +kernel
theorem dX8_odds_69 : decode cX8_odds 69 = .ok (.goto 4, 3) := by decide +kernel
theorem dX8_odds_72 : decode cX8_odds 72 = .ok (.iconst 0, 1) := by decide +kernel
theorem dX8_odds_73 : decode cX8_odds 73 = .ok (.iadd, 1) := by decide +kernel
theorem dX8_odds_74 : decode cX8_odds 74 = .ok (.istore 4, 2) := by decide +kernel
theorem dX8_odds_76 : decode cX8_odds 76 = .ok (.iinc 5 1, 3) := by decide +kernel
theorem dX8_odds_79 : decode cX8_odds 79 = .ok (.goto (-45), 3) := by decide +kernel
theorem dX8_odds_82 : decode cX8_odds 82 = .ok (.aload_n 0, 1) := by decide +kernel
theorem dX8_odds_83 : decode cX8_odds 83 = .ok (.iconst 0, 1) := by decide +kernel
theorem dX8_odds_84 : decode cX8_odds 84 = .ok (.putfield 181, 3) := by decide +kernel
theorem dX8_odds_87 : decode cX8_odds 87 = .ok (.iload 4, 2) := by decide +kernel
theorem dX8_odds_89 : decode cX8_odds 89 = .ok (.i2l, 1) := by decide +kernel
theorem dX8_odds_90 : decode cX8_odds 90 = .ok (.lconst 1, 1) := by decide +kernel
theorem dX8_odds_91 : decode cX8_odds 91 = .ok (.aload_n 0, 1) := by decide +kernel
theorem dX8_odds_92 : decode cX8_odds 92 = .ok (.getfield 132, 3) := by decide +kernel
theorem dX8_odds_95 : decode cX8_odds 95 = .ok (.lshl, 1) := by decide +kernel
theorem dX8_odds_96 : decode cX8_odds 96 = .ok (.iload_n 3, 1) := by decide +kernel
theorem dX8_odds_97 : decode cX8_odds 97 = .ok (.invokestatic 218, 3) := by decide +kernel
theorem dX8_odds_100 : decode cX8_odds 100 = .ok (.lreturn, 1) := by decide +kernel
theorem dX8_reading_0 : decode cX8_reading 0 = .ok (.aload_n 0, 1) := by decide +kernel
theorem dX8_reading_1 : decode cX8_reading 1 = .ok (.iload_n 1, 1) := by decide +kernel
theorem dX8_reading_2 : decode cX8_reading 2 = .ok (.invokevirtual 145, 3) := by decide +kernel
theorem dX8_reading_5 : decode cX8_reading 5 = .ok (.ifCond .ne 5, 3) := by decide +kernel
theorem dX8_reading_8 : decode cX8_reading 8 = .ok (.iconst (-1), 1) := by decide +kernel
theorem dX8_reading_9 : decode cX8_reading 9 = .ok (.ireturn, 1) := by decide +kernel
theorem dX8_reading_10 : decode cX8_reading 10 = .ok (.iload_n 2, 1) := by decide +kernel
theorem dX8_reading_11 : decode cX8_reading 11 = .ok (.invokestatic 195, 3) := by decide +kernel
theorem dX8_reading_14 : decode cX8_reading 14 = .ok (.ifCond .ne 6, 3) := by decide +kernel
theorem dX8_reading_17 : decode cX8_reading 17 = .ok (.bipush (-2), 2) := by decide +kernel
theorem dX8_reading_19 : decode cX8_reading 19 = .ok (.ireturn, 1) := by decide +kernel
theorem dX8_reading_20 : decode cX8_reading 20 = .ok (.aload_n 0, 1) := by decide +kernel
theorem dX8_reading_21 : decode cX8_reading 21 = .ok (.getfield 135, 3) := by decide +kernel
theorem dX8_reading_24 : decode cX8_reading 24 = .ok (.bipush 8, 2) := by decide +kernel
theorem dX8_reading_26 : decode cX8_reading 26 = .ok (.if_icmp .ne 6, 3) := by decide +kernel
theorem dX8_reading_29 : decode cX8_reading 29 = .ok (.bipush (-4), 2) := by decide +kernel
theorem dX8_reading_31 : decode cX8_reading 31 = .ok (.ireturn, 1) := by decide +kernel
theorem dX8_reading_32 : decode cX8_reading 32 = .ok (.aload_n 0, 1) := by decide +kernel
theorem dX8_reading_33 : decode cX8_reading 33 = .ok (.getfield 86, 3) := by decide +kernel
theorem dX8_reading_36 : decode cX8_reading 36 = .ok (.aload_n 0, 1) := by decide +kernel
theorem dX8_reading_37 : decode cX8_reading 37 = .ok (.getfield 135, 3) := by decide +kernel
theorem dX8_reading_40 : decode cX8_reading 40 = .ok (.iload_n 1, 1) := by decide +kernel
theorem dX8_reading_41 : decode cX8_reading 41 = .ok (.iastore, 1) := by decide +kernel
theorem dX8_reading_42 : decode cX8_reading 42 = .ok (.aload_n 0, 1) := by decide +kernel
theorem dX8_reading_43 : decode cX8_reading 43 = .ok (.getfield 89, 3) := by decide +kernel
theorem dX8_reading_46 : decode cX8_reading 46 = .ok (.aload_n 0, 1) := by decide +kernel
theorem dX8_reading_47 : decode cX8_reading 47 = .ok (.getfield 135, 3) := by decide +kernel
theorem dX8_reading_50 : decode cX8_reading 50 = .ok (.iload_n 2, 1) := by decide +kernel
theorem dX8_reading_51 : decode cX8_reading 51 = .ok (.iastore, 1) := by decide +kernel
theorem dX8_reading_52 : decode cX8_reading 52 = .ok (.aload_n 0, 1) := by decide +kernel
theorem dX8_reading_53 : decode cX8_reading 53 = .ok (.getfield 92, 3) := by decide +kernel
theorem dX8_reading_56 : decode cX8_reading 56 = .ok (.aload_n 0, 1) := by decide +kernel
theorem dX8_reading_57 : decode cX8_reading 57 = .ok (.getfield 135, 3) := by decide +kernel
theorem dX8_reading_60 : decode cX8_reading 60 = .ok (.iload_n 3, 1) := by decide +kernel
theorem dX8_reading_61 : decode cX8_reading 61 = .ok (.bastore, 1) := by decide +kernel
theorem dX8_reading_62 : decode cX8_reading 62 = .ok (.aload_n 0, 1) := by decide +kernel
theorem dX8_reading_63 : decode cX8_reading 63 = .ok (.dup, 1) := by decide +kernel
theorem dX8_reading_64 : decode cX8_reading 64 = .ok (.getfield 135, 3) := by decide +kernel
theorem dX8_reading_67 : decode cX8_reading 67 = .ok (.iconst 1, 1) := by decide +kernel
theorem dX8_reading_68 : decode cX8_reading 68 = .ok (.iadd, 1) := by decide +kernel
theorem dX8_reading_69 : decode cX8_reading 69 = .ok (.putfield 135, 3) := by decide +kernel
theorem dX8_reading_72 : decode cX8_reading 72 = .ok (.aload_n 0, 1) := by decide +kernel
theorem dX8_reading_73 : decode cX8_reading 73 = .ok (.getfield 135, 3) := by decide +kernel
theorem dX8_reading_76 : decode cX8_reading 76 = .ok (.iconst 1, 1) := by decide +kernel
theorem dX8_reading_77 : decode cX8_reading 77 = .ok (.isub, 1) := by decide +kernel
theorem dX8_reading_78 : decode cX8_reading 78 = .ok (.ireturn, 1) := by decide +kernel
theorem dX8_back_0 : decode cX8_back 0 = .ok (.iload_n 1, 1) := by decide +kernel
theorem dX8_back_1 : decode cX8_back 1 = .ok (.iconst 0, 1) := by decide +kernel
theorem dX8_back_2 : decode cX8_back 2 = .ok (.aload_n 0, 1) := by decide +kernel
theorem dX8_back_3 : decode cX8_back 3 = .ok (.getfield 135, 3) := by decide +kernel
theorem dX8_back_6 : decode cX8_back 6 = .ok (.invokestatic 101, 3) := by decide +kernel
theorem dX8_back_9 : decode cX8_back 9 = .ok (.ifCond .ne 6, 3) := by decide +kernel
theorem dX8_back_12 : decode cX8_back 12 = .ok (.bipush (-2), 2) := by decide +kernel
theorem dX8_back_14 : decode cX8_back 14 = .ok (.ireturn, 1) := by decide +kernel
theorem dX8_back_15 : decode cX8_back 15 = .ok (.aload_n 0, 1) := by decide +kernel
theorem dX8_back_16 : decode cX8_back 16 = .ok (.dup, 1) := by decide +kernel
theorem dX8_back_17 : decode cX8_back 17 = .ok (.getfield 135, 3) := by decide +kernel
theorem dX8_back_20 : decode cX8_back 20 = .ok (.iload_n 1, 1) := by decide +kernel
theorem dX8_back_21 : decode cX8_back 21 = .ok (.isub, 1) := by decide +kernel
theorem dX8_back_22 : decode cX8_back 22 = .ok (.putfield 135, 3) := by decide +kernel
theorem dX8_back_25 : decode cX8_back 25 = .ok (.aload_n 0, 1) := by decide +kernel
theorem dX8_back_26 : decode cX8_back 26 = .ok (.getfield 135, 3) := by decide +kernel
theorem dX8_back_29 : decode cX8_back 29 = .ok (.ireturn, 1) := by decide +kernel
theorem dX8_wasIn_0 : decode cX8_wasIn 0 = .ok (.iconst 0, 1) := by decide +kernel
theorem dX8_wasIn_1 : decode cX8_wasIn 1 = .ok (.istore_n 3, 1) := by decide +kernel
theorem dX8_wasIn_2 : decode cX8_wasIn 2 = .ok (.iload_n 3, 1) := by decide +kernel
theorem dX8_wasIn_3 : decode cX8_wasIn 3 = .ok (.aload_n 0, 1) := by decide +kernel
theorem dX8_wasIn_4 : decode cX8_wasIn 4 = .ok (.getfield 165, 3) := by decide +kernel
theorem dX8_wasIn_7 : decode cX8_wasIn 7 = .ok (.if_icmp .ge 41, 3) := by decide +kernel
theorem dX8_wasIn_10 : decode cX8_wasIn 10 = .ok (.aload_n 0, 1) := by decide +kernel
theorem dX8_wasIn_11 : decode cX8_wasIn 11 = .ok (.getfield 68, 3) := by decide +kernel
theorem dX8_wasIn_14 : decode cX8_wasIn 14 = .ok (.iload_n 3, 1) := by decide +kernel
theorem dX8_wasIn_15 : decode cX8_wasIn 15 = .ok (.iaload, 1) := by decide +kernel
theorem dX8_wasIn_16 : decode cX8_wasIn 16 = .ok (.iload_n 2, 1) := by decide +kernel
theorem dX8_wasIn_17 : decode cX8_wasIn 17 = .ok (.if_icmp .ne 25, 3) := by decide +kernel
theorem dX8_wasIn_20 : decode cX8_wasIn 20 = .ok (.aload_n 0, 1) := by decide +kernel
theorem dX8_wasIn_21 : decode cX8_wasIn 21 = .ok (.getfield 71, 3) := by decide +kernel
theorem dX8_wasIn_24 : decode cX8_wasIn 24 = .ok (.iload_n 3, 1) := by decide +kernel
theorem dX8_wasIn_25 : decode cX8_wasIn 25 = .ok (.iaload, 1) := by decide +kernel
theorem dX8_wasIn_26 : decode cX8_wasIn 26 = .ok (.iload_n 1, 1) := by decide +kernel
theorem dX8_wasIn_27 : decode cX8_wasIn 27 = .ok (.if_icmp .eq 13, 3) := by decide +kernel
theorem dX8_wasIn_30 : decode cX8_wasIn 30 = .ok (.aload_n 0, 1) := by decide +kernel
theorem dX8_wasIn_31 : decode cX8_wasIn 31 = .ok (.getfield 74, 3) := by decide +kernel
theorem dX8_wasIn_34 : decode cX8_wasIn 34 = .ok (.iload_n 3, 1) := by decide +kernel
theorem dX8_wasIn_35 : decode cX8_wasIn 35 = .ok (.iaload, 1) := by decide +kernel
theorem dX8_wasIn_36 : decode cX8_wasIn 36 = .ok (.iload_n 1, 1) := by decide +kernel
theorem dX8_wasIn_37 : decode cX8_wasIn 37 = .ok (.if_icmp .ne 5, 3) := by decide +kernel
theorem dX8_wasIn_40 : decode cX8_wasIn 40 = .ok (.iconst 1, 1) := by decide +kernel
theorem dX8_wasIn_41 : decode cX8_wasIn 41 = .ok (.ireturn, 1) := by decide +kernel
theorem dX8_wasIn_42 : decode cX8_wasIn 42 = .ok (.iinc 3 1, 3) := by decide +kernel
theorem dX8_wasIn_45 : decode cX8_wasIn 45 = .ok (.goto (-43), 3) := by decide +kernel
theorem dX8_wasIn_48 : decode cX8_wasIn 48 = .ok (.iconst 0, 1) := by decide +kernel
theorem dX8_wasIn_49 : decode cX8_wasIn 49 = .ok (.ireturn, 1) := by decide +kernel
theorem dX8_areSo_0 : decode cX8_areSo 0 = .ok (.aload_n 0, 1) := by decide +kernel
theorem dX8_areSo_1 : decode cX8_areSo 1 = .ok (.bipush 60, 2) := by decide +kernel
theorem dX8_areSo_3 : decode cX8_areSo 3 = .ok (.invokevirtual 198, 3) := by decide +kernel
theorem dX8_areSo_6 : decode cX8_areSo 6 = .ok (.iconst 0, 1) := by decide +kernel
theorem dX8_areSo_7 : decode cX8_areSo 7 = .ok (.istore_n 1, 1) := by decide +kernel
theorem dX8_areSo_8 : decode cX8_areSo 8 = .ok (.iload_n 1, 1) := by decide +kernel
theorem dX8_areSo_9 : decode cX8_areSo 9 = .ok (.aload_n 0, 1) := by decide +kernel
theorem dX8_areSo_10 : decode cX8_areSo 10 = .ok (.getfield 135, 3) := by decide +kernel
theorem dX8_areSo_13 : decode cX8_areSo 13 = .ok (.if_icmp .ge 36, 3) := by decide +kernel
theorem dX8_areSo_16 : decode cX8_areSo 16 = .ok (.aload_n 0, 1) := by decide +kernel
theorem dX8_areSo_17 : decode cX8_areSo 17 = .ok (.aload_n 0, 1) := by decide +kernel
theorem dX8_areSo_18 : decode cX8_areSo 18 = .ok (.getfield 86, 3) := by decide +kernel
theorem dX8_areSo_21 : decode cX8_areSo 21 = .ok (.iload_n 1, 1) := by decide +kernel
theorem dX8_areSo_22 : decode cX8_areSo 22 = .ok (.iaload, 1) := by decide +kernel
theorem dX8_areSo_23 : decode cX8_areSo 23 = .ok (.aload_n 0, 1) := by decide +kernel
theorem dX8_areSo_24 : decode cX8_areSo 24 = .ok (.getfield 89, 3) := by decide +kernel
theorem dX8_areSo_27 : decode cX8_areSo 27 = .ok (.iload_n 1, 1) := by decide +kernel
theorem dX8_areSo_28 : decode cX8_areSo 28 = .ok (.iaload, 1) := by decide +kernel
theorem dX8_areSo_29 : decode cX8_areSo 29 = .ok (.invokevirtual 222, 3) := by decide +kernel
theorem dX8_areSo_32 : decode cX8_areSo 32 = .ok (.aload_n 0, 1) := by decide +kernel
theorem dX8_areSo_33 : decode cX8_areSo 33 = .ok (.getfield 92, 3) := by decide +kernel
theorem dX8_areSo_36 : decode cX8_areSo 36 = .ok (.iload_n 1, 1) := by decide +kernel
theorem dX8_areSo_37 : decode cX8_areSo 37 = .ok (.baload, 1) := by decide +kernel
theorem dX8_areSo_38 : decode cX8_areSo 38 = .ok (.if_icmp .eq 5, 3) := by decide +kernel
theorem dX8_areSo_41 : decode cX8_areSo 41 = .ok (.iconst 0, 1) := by decide +kernel
theorem dX8_areSo_42 : decode cX8_areSo 42 = .ok (.ireturn, 1) := by decide +kernel
theorem dX8_areSo_43 : decode cX8_areSo 43 = .ok (.iinc 1 1, 3) := by decide +kernel
theorem dX8_areSo_46 : decode cX8_areSo 46 = .ok (.goto (-38), 3) := by decide +kernel
theorem dX8_areSo_49 : decode cX8_areSo 49 = .ok (.iconst 1, 1) := by decide +kernel
theorem dX8_areSo_50 : decode cX8_areSo 50 = .ok (.ireturn, 1) := by decide +kernel
theorem dX8_never_0 : decode cX8_never 0 = .ok (.aload_n 0, 1) := by decide +kernel
theorem dX8_never_1 : decode cX8_never 1 = .ok (.getfield 105, 3) := by decide +kernel
theorem dX8_never_4 : decode cX8_never 4 = .ok (.ifCond .ne 6, 3) := by decide +kernel
theorem dX8_never_7 : decode cX8_never 7 = .ok (.bipush (-3), 2) := by decide +kernel
theorem dX8_never_9 : decode cX8_never 9 = .ok (.ireturn, 1) := by decide +kernel
theorem dX8_never_10 : decode cX8_never 10 = .ok (.iconst 0, 1) := by decide +kernel
theorem dX8_never_11 : decode cX8_never 11 = .ok (.istore_n 1, 1) := by decide +kernel
theorem dX8_never_12 : decode cX8_never 12 = .ok (.iconst 0, 1) := by decide +kernel
theorem dX8_never_13 : decode cX8_never 13 = .ok (.istore_n 2, 1) := by decide +kernel
theorem dX8_never_14 : decode cX8_never 14 = .ok (.iload_n 2, 1) := by decide +kernel
theorem dX8_never_15 : decode cX8_never 15 = .ok (.aload_n 0, 1) := by decide +kernel
theorem dX8_never_16 : decode cX8_never 16 = .ok (.getfield 132, 3) := by decide +kernel
theorem dX8_never_19 : decode cX8_never 19 = .ok (.if_icmp .ge 33, 3) := by decide +kernel
theorem dX8_never_22 : decode cX8_never 22 = .ok (.aload_n 0, 1) := by decide +kernel
theorem dX8_never_23 : decode cX8_never 23 = .ok (.iconst 1, 1) := by decide +kernel
theorem dX8_never_24 : decode cX8_never 24 = .ok (.iload_n 2, 1) := by decide +kernel
theorem dX8_never_25 : decode cX8_never 25 = .ok (.ishl, 1) := by decide +kernel
theorem dX8_never_26 : decode cX8_never 26 = .ok (.putfield 181, 3) := by decide +kernel
theorem dX8_never_29 : decode cX8_never 29 = .ok (.iload_n 1, 1) := by decide +kernel
theorem dX8_never_30 : decode cX8_never 30 = .ok (.aload_n 0, 1) := by decide +kernel
theorem dX8_never_31 : decode cX8_never 31 = .ok (.invokevirtual 225, 3) := by decide +kernel
theorem dX8_never_34 : decode cX8_never 34 = .ok (.ifCond .eq 9, 3) := by decide +kernel
theorem dX8_never_37 : decode cX8_never 37 = .ok (.iconst 1, 1) := by decide +kernel
theorem dX8_never_38 : decode cX8_never 38 = .ok (.iload_n 2, 1) := by decide +kernel
theorem dX8_never_39 : decode cX8_never 39 = .ok (.ishl, 1) := by decide +kernel
theorem dX8_never_40 : decode cX8_never 40 = .ok (.goto 4, 3) := by decide +kernel
theorem dX8_never_43 : decode cX8_never 43 = .ok (.iconst 0, 1) := by decide +kernel
theorem dX8_never_44 : decode cX8_never 44 = .ok (.ior, 1) := by decide +kernel
theorem dX8_never_45 : decode cX8_never 45 = .ok (.istore_n 1, 1) := by decide +kernel
theorem dX8_never_46 : decode cX8_never 46 = .ok (.iinc 2 1, 3) := by decide +kernel
theorem dX8_never_49 : decode cX8_never 49 = .ok (.goto (-35), 3) := by decide +kernel
theorem dX8_never_52 : decode cX8_never 52 = .ok (.aload_n 0, 1) := by decide +kernel
theorem dX8_never_53 : decode cX8_never 53 = .ok (.iconst 0, 1) := by decide +kernel
theorem dX8_never_54 : decode cX8_never 54 = .ok (.putfield 181, 3) := by decide +kernel
theorem dX8_never_57 : decode cX8_never 57 = .ok (.iload_n 1, 1) := by decide +kernel
theorem dX8_never_58 : decode cX8_never 58 = .ok (.ireturn, 1) := by decide +kernel
theorem dX8_caught_0 : decode cX8_caught 0 = .ok (.aload_n 0, 1) := by decide +kernel
theorem dX8_caught_1 : decode cX8_caught 1 = .ok (.getfield 105, 3) := by decide +kernel
theorem dX8_caught_4 : decode cX8_caught 4 = .ok (.ifCond .ne 6, 3) := by decide +kernel
theorem dX8_caught_7 : decode cX8_caught 7 = .ok (.bipush (-3), 2) := by decide +kernel
theorem dX8_caught_9 : decode cX8_caught 9 = .ok (.ireturn, 1) := by decide +kernel
theorem dX8_caught_10 : decode cX8_caught 10 = .ok (.iconst 0, 1) := by decide +kernel
theorem dX8_caught_11 : decode cX8_caught 11 = .ok (.istore_n 1, 1) := by decide +kernel
theorem dX8_caught_12 : decode cX8_caught 12 = .ok (.iconst 0, 1) := by decide +kernel
theorem dX8_caught_13 : decode cX8_caught 13 = .ok (.istore_n 2, 1) := by decide +kernel
theorem dX8_caught_14 : decode cX8_caught 14 = .ok (.iload_n 2, 1) := by decide +kernel
theorem dX8_caught_15 : decode cX8_caught 15 = .ok (.aload_n 0, 1) := by decide +kernel
theorem dX8_caught_16 : decode cX8_caught 16 = .ok (.getfield 105, 3) := by decide +kernel
theorem dX8_caught_19 : decode cX8_caught 19 = .ok (.if_icmp .ge 47, 3) := by decide +kernel
theorem dX8_caught_22 : decode cX8_caught 22 = .ok (.aload_n 0, 1) := by decide +kernel
theorem dX8_caught_23 : decode cX8_caught 23 = .ok (.getfield 28, 3) := by decide +kernel
theorem dX8_caught_26 : decode cX8_caught 26 = .ok (.iload_n 2, 1) := by decide +kernel
theorem dX8_caught_27 : decode cX8_caught 27 = .ok (.baload, 1) := by decide +kernel
theorem dX8_caught_28 : decode cX8_caught 28 = .ok (.istore_n 3, 1) := by decide +kernel
theorem dX8_caught_29 : decode cX8_caught 29 = .ok (.aload_n 0, 1) := by decide +kernel
theorem dX8_caught_30 : decode cX8_caught 30 = .ok (.getfield 28, 3) := by decide +kernel
theorem dX8_caught_33 : decode cX8_caught 33 = .ok (.iload_n 2, 1) := by decide +kernel
theorem dX8_caught_34 : decode cX8_caught 34 = .ok (.iconst 1, 1) := by decide +kernel
theorem dX8_caught_35 : decode cX8_caught 35 = .ok (.bastore, 1) := by decide +kernel
theorem dX8_caught_36 : decode cX8_caught 36 = .ok (.iload_n 1, 1) := by decide +kernel
theorem dX8_caught_37 : decode cX8_caught 37 = .ok (.aload_n 0, 1) := by decide +kernel
theorem dX8_caught_38 : decode cX8_caught 38 = .ok (.invokevirtual 225, 3) := by decide +kernel
theorem dX8_caught_41 : decode cX8_caught 41 = .ok (.ifCond .eq 9, 3) := by decide +kernel
theorem dX8_caught_44 : decode cX8_caught 44 = .ok (.iconst 1, 1) := by decide +kernel
theorem dX8_caught_45 : decode cX8_caught 45 = .ok (.iload_n 2, 1) := by decide +kernel
theorem dX8_caught_46 : decode cX8_caught 46 = .ok (.ishl, 1) := by decide +kernel
theorem dX8_caught_47 : decode cX8_caught 47 = .ok (.goto 4, 3) := by decide +kernel
theorem dX8_caught_50 : decode cX8_caught 50 = .ok (.iconst 0, 1) := by decide +kernel
theorem dX8_caught_51 : decode cX8_caught 51 = .ok (.ior, 1) := by decide +kernel
theorem dX8_caught_52 : decode cX8_caught 52 = .ok (.istore_n 1, 1) := by decide +kernel
theorem dX8_caught_53 : decode cX8_caught 53 = .ok (.aload_n 0, 1) := by decide +kernel
theorem dX8_caught_54 : decode cX8_caught 54 = .ok (.getfield 28, 3) := by decide +kernel
theorem dX8_caught_57 : decode cX8_caught 57 = .ok (.iload_n 2, 1) := by decide +kernel
theorem dX8_caught_58 : decode cX8_caught 58 = .ok (.iload_n 3, 1) := by decide +kernel
theorem dX8_caught_59 : decode cX8_caught 59 = .ok (.bastore, 1) := by decide +kernel
theorem dX8_caught_60 : decode cX8_caught 60 = .ok (.iinc 2 1, 3) := by decide +kernel
theorem dX8_caught_63 : decode cX8_caught 63 = .ok (.goto (-49), 3) := by decide +kernel
theorem dX8_caught_66 : decode cX8_caught 66 = .ok (.iload_n 1, 1) := by decide +kernel
theorem dX8_caught_67 : decode cX8_caught 67 = .ok (.ireturn, 1) := by decide +kernel
theorem dX8_row_0 : decode cX8_row 0 = .ok (.aload_n 0, 1) := by decide +kernel
theorem dX8_row_1 : decode cX8_row 1 = .ok (.iconst 0, 1) := by decide +kernel
theorem dX8_row_2 : decode cX8_row 2 = .ok (.putfield 95, 3) := by decide +kernel
theorem dX8_row_5 : decode cX8_row 5 = .ok (.iload_n 1, 1) := by decide +kernel
theorem dX8_row_6 : decode cX8_row 6 = .ok (.invokestatic 111, 3) := by decide +kernel
theorem dX8_row_9 : decode cX8_row 9 = .ok (.ifCond .ne 5, 3) := by decide +kernel
theorem dX8_row_12 : decode cX8_row 12 = .ok (.iconst (-1), 1) := by decide +kernel
theorem dX8_row_13 : decode cX8_row 13 = .ok (.ireturn, 1) := by decide +kernel
theorem dX8_row_14 : decode cX8_row 14 = .ok (.iload_n 2, 1) := by decide +kernel
theorem dX8_row_15 : decode cX8_row 15 = .ok (.invokestatic 115, 3) := by decide +kernel
theorem dX8_row_18 : decode cX8_row 18 = .ok (.ifCond .ne 6, 3) := by decide +kernel
theorem dX8_row_21 : decode cX8_row 21 = .ok (.bipush (-2), 2) := by decide +kernel
theorem dX8_row_23 : decode cX8_row 23 = .ok (.ireturn, 1) := by decide +kernel
theorem dX8_row_24 : decode cX8_row 24 = .ok (.aload_n 0, 1) := by decide +kernel
theorem dX8_row_25 : decode cX8_row 25 = .ok (.iload_n 1, 1) := by decide +kernel
theorem dX8_row_26 : decode cX8_row 26 = .ok (.iload_n 2, 1) := by decide +kernel
theorem dX8_row_27 : decode cX8_row 27 = .ok (.iload_n 3, 1) := by decide +kernel
theorem dX8_row_28 : decode cX8_row 28 = .ok (.iload 4, 2) := by decide +kernel
theorem dX8_row_30 : decode cX8_row 30 = .ok (.invokevirtual 118, 3) := by decide +kernel
theorem dX8_row_33 : decode cX8_row 33 = .ok (.istore 5, 2) := by decide +kernel
theorem dX8_row_35 : decode cX8_row 35 = .ok (.iload 5, 2) := by decide +kernel
theorem dX8_row_37 : decode cX8_row 37 = .ok (.ifCond .eq 10, 3) := by decide +kernel
theorem dX8_row_40 : decode cX8_row 40 = .ok (.aload_n 0, 1) := by decide +kernel
theorem dX8_row_41 : decode cX8_row 41 = .ok (.iload 5, 2) := by decide +kernel
theorem dX8_row_43 : decode cX8_row 43 = .ok (.invokevirtual 122, 3) := by decide +kernel
theorem dX8_row_46 : decode cX8_row 46 = .ok (.ireturn, 1) := by decide +kernel
theorem dX8_row_47 : decode cX8_row 47 = .ok (.aload_n 0, 1) := by decide +kernel
theorem dX8_row_48 : decode cX8_row 48 = .ok (.getfield 105, 3) := by decide +kernel
theorem dX8_row_51 : decode cX8_row 51 = .ok (.ifCond .ne 6, 3) := by decide +kernel
theorem dX8_row_54 : decode cX8_row 54 = .ok (.bipush (-3), 2) := by decide +kernel
theorem dX8_row_56 : decode cX8_row 56 = .ok (.ireturn, 1) := by decide +kernel
theorem dX8_row_57 : decode cX8_row 57 = .ok (.bipush 50, 2) := by decide +kernel
theorem dX8_row_59 : decode cX8_row 59 = .ok (.iload_n 1, 1) := by decide +kernel
theorem dX8_row_60 : decode cX8_row 60 = .ok (.imul, 1) := by decide +kernel
theorem dX8_row_61 : decode cX8_row 61 = .ok (.iload_n 3, 1) := by decide +kernel
theorem dX8_row_62 : decode cX8_row 62 = .ok (.iadd, 1) := by decide +kernel
theorem dX8_row_63 : decode cX8_row 63 = .ok (.istore 6, 2) := by decide +kernel
theorem dX8_row_65 : decode cX8_row 65 = .ok (.iconst 0, 1) := by decide +kernel
theorem dX8_row_66 : decode cX8_row 66 = .ok (.istore 7, 2) := by decide +kernel
theorem dX8_row_68 : decode cX8_row 68 = .ok (.iload 7, 2) := by decide +kernel
theorem dX8_row_70 : decode cX8_row 70 = .ok (.iload 4, 2) := by decide +kernel
theorem dX8_row_72 : decode cX8_row 72 = .ok (.if_icmp .ge 28, 3) := by decide +kernel
theorem dX8_row_75 : decode cX8_row 75 = .ok (.aload_n 0, 1) := by decide +kernel
theorem dX8_row_76 : decode cX8_row 76 = .ok (.aload_n 0, 1) := by decide +kernel
theorem dX8_row_77 : decode cX8_row 77 = .ok (.getfield 16, 3) := by decide +kernel
theorem dX8_row_80 : decode cX8_row 80 = .ok (.iload 6, 2) := by decide +kernel
theorem dX8_row_82 : decode cX8_row 82 = .ok (.iload 7, 2) := by decide +kernel
theorem dX8_row_84 : decode cX8_row 84 = .ok (.iadd, 1) := by decide +kernel
theorem dX8_row_85 : decode cX8_row 85 = .ok (.iaload, 1) := by decide +kernel
theorem dX8_row_86 : decode cX8_row 86 = .ok (.invokevirtual 145, 3) := by decide +kernel
theorem dX8_row_89 : decode cX8_row 89 = .ok (.ifCond .ne 5, 3) := by decide +kernel
theorem dX8_row_92 : decode cX8_row 92 = .ok (.iconst (-1), 1) := by decide +kernel
theorem dX8_row_93 : decode cX8_row 93 = .ok (.ireturn, 1) := by decide +kernel
theorem dX8_row_94 : decode cX8_row 94 = .ok (.iinc 7 1, 3) := by decide +kernel
theorem dX8_row_97 : decode cX8_row 97 = .ok (.goto (-29), 3) := by decide +kernel
theorem dX8_row_100 : decode cX8_row 100 = .ok (.iconst 0, 1) := by decide +kernel
theorem dX8_row_101 : decode cX8_row 101 = .ok (.istore 7, 2) := by decide +kernel
theorem dX8_row_103 : decode cX8_row 103 = .ok (.iload 7, 2) := by decide +kernel
theorem dX8_row_105 : decode cX8_row 105 = .ok (.iload 4, 2) := by decide +kernel
theorem dX8_row_107 : decode cX8_row 107 = .ok (.if_icmp .ge 37, 3) := by decide +kernel
theorem dX8_row_110 : decode cX8_row 110 = .ok (.aload_n 0, 1) := by decide +kernel
theorem dX8_row_111 : decode cX8_row 111 = .ok (.iload 7, 2) := by decide +kernel
theorem dX8_row_113 : decode cX8_row 113 = .ok (.invokevirtual 198, 3) := by decide +kernel
theorem dX8_row_116 : decode cX8_row 116 = .ok (.aload_n 0, 1) := by decide +kernel
theorem dX8_row_117 : decode cX8_row 117 = .ok (.aload_n 0, 1) := by decide +kernel
theorem dX8_row_118 : decode cX8_row 118 = .ok (.getfield 16, 3) := by decide +kernel
theorem dX8_row_121 : decode cX8_row 121 = .ok (.iload 6, 2) := by decide +kernel
theorem dX8_row_123 : decode cX8_row 123 = .ok (.iload 7, 2) := by decide +kernel
theorem dX8_row_125 : decode cX8_row 125 = .ok (.iadd, 1) := by decide +kernel
theorem dX8_row_126 : decode cX8_row 126 = .ok (.iaload, 1) := by decide +kernel
theorem dX8_row_127 : decode cX8_row 127 = .ok (.iload 7, 2) := by decide +kernel
theorem dX8_row_129 : decode cX8_row 129 = .ok (.invokevirtual 158, 3) := by decide +kernel
theorem dX8_row_132 : decode cX8_row 132 = .ok (.ifCond .ne 6, 3) := by decide +kernel
theorem dX8_row_135 : decode cX8_row 135 = .ok (.iload 7, 2) := by decide +kernel
theorem dX8_row_137 : decode cX8_row 137 = .ok (.ireturn, 1) := by decide +kernel
theorem dX8_row_138 : decode cX8_row 138 = .ok (.iinc 7 1, 3) := by decide +kernel
theorem dX8_row_141 : decode cX8_row 141 = .ok (.goto (-38), 3) := by decide +kernel
theorem dX8_row_144 : decode cX8_row 144 = .ok (.iload 4, 2) := by decide +kernel
theorem dX8_row_146 : decode cX8_row 146 = .ok (.ireturn, 1) := by decide +kernel
theorem dX8_sheet_0 : decode cX8_sheet 0 = .ok (.aload_n 0, 1) := by decide +kernel
theorem dX8_sheet_1 : decode cX8_sheet 1 = .ok (.iconst 0, 1) := by decide +kernel
theorem dX8_sheet_2 : decode cX8_sheet 2 = .ok (.putfield 95, 3) := by decide +kernel
theorem dX8_sheet_5 : decode cX8_sheet 5 = .ok (.iload_n 1, 1) := by decide +kernel
theorem dX8_sheet_6 : decode cX8_sheet 6 = .ok (.invokestatic 111, 3) := by decide +kernel
theorem dX8_sheet_9 : decode cX8_sheet 9 = .ok (.ifCond .ne 5, 3) := by decide +kernel
theorem dX8_sheet_12 : decode cX8_sheet 12 = .ok (.iconst (-1), 1) := by decide +kernel
theorem dX8_sheet_13 : decode cX8_sheet 13 = .ok (.ireturn, 1) := by decide +kernel
theorem dX8_sheet_14 : decode cX8_sheet 14 = .ok (.iload_n 2, 1) := by decide +kernel
theorem dX8_sheet_15 : decode cX8_sheet 15 = .ok (.invokestatic 115, 3) := by decide +kernel
theorem dX8_sheet_18 : decode cX8_sheet 18 = .ok (.ifCond .eq 9, 3) := by decide +kernel
theorem dX8_sheet_21 : decode cX8_sheet 21 = .ok (.iload_n 3, 1) := by decide +kernel
theorem dX8_sheet_22 : decode cX8_sheet 22 = .ok (.bipush 50, 2) := by decide +kernel
theorem dX8_sheet_24 : decode cX8_sheet 24 = .ok (.if_icmp .le 6, 3) := by decide +kernel
theorem dX8_sheet_27 : decode cX8_sheet 27 = .ok (.bipush (-2), 2) := by decide +kernel
theorem dX8_sheet_29 : decode cX8_sheet 29 = .ok (.ireturn, 1) := by decide +kernel
theorem dX8_sheet_30 : decode cX8_sheet 30 = .ok (.iload_n 3, 1) := by decide +kernel
theorem dX8_sheet_31 : decode cX8_sheet 31 = .ok (.ifCond .ge 9, 3) := by decide +kernel
theorem dX8_sheet_34 : decode cX8_sheet 34 = .ok (.aload_n 0, 1) := by decide +kernel
theorem dX8_sheet_35 : decode cX8_sheet 35 = .ok (.iconst 4, 1) := by decide +kernel
theorem dX8_sheet_36 : decode cX8_sheet 36 = .ok (.invokevirtual 122, 3) := by decide +kernel
theorem dX8_sheet_39 : decode cX8_sheet 39 = .ok (.ireturn, 1) := by decide +kernel
theorem dX8_sheet_40 : decode cX8_sheet 40 = .ok (.aload_n 0, 1) := by decide +kernel
theorem dX8_sheet_41 : decode cX8_sheet 41 = .ok (.getfield 9, 3) := by decide +kernel
theorem dX8_sheet_44 : decode cX8_sheet 44 = .ok (.iload_n 1, 1) := by decide +kernel
theorem dX8_sheet_45 : decode cX8_sheet 45 = .ok (.iload_n 2, 1) := by decide +kernel
theorem dX8_sheet_46 : decode cX8_sheet 46 = .ok (.iastore, 1) := by decide +kernel
theorem dX8_sheet_47 : decode cX8_sheet 47 = .ok (.aload_n 0, 1) := by decide +kernel
theorem dX8_sheet_48 : decode cX8_sheet 48 = .ok (.getfield 13, 3) := by decide +kernel
theorem dX8_sheet_51 : decode cX8_sheet 51 = .ok (.iload_n 1, 1) := by decide +kernel
theorem dX8_sheet_52 : decode cX8_sheet 52 = .ok (.iload_n 3, 1) := by decide +kernel
theorem dX8_sheet_53 : decode cX8_sheet 53 = .ok (.iastore, 1) := by decide +kernel
theorem dX8_sheet_54 : decode cX8_sheet 54 = .ok (.iconst 0, 1) := by decide +kernel
theorem dX8_sheet_55 : decode cX8_sheet 55 = .ok (.istore 4, 2) := by decide +kernel
theorem dX8_sheet_57 : decode cX8_sheet 57 = .ok (.iload 4, 2) := by decide +kernel
theorem dX8_sheet_59 : decode cX8_sheet 59 = .ok (.bipush 50, 2) := by decide +kernel
theorem dX8_sheet_61 : decode cX8_sheet 61 = .ok (.if_icmp .ge 22, 3) := by decide +kernel
theorem dX8_sheet_64 : decode cX8_sheet 64 = .ok (.aload_n 0, 1) := by decide +kernel
theorem dX8_sheet_65 : decode cX8_sheet 65 = .ok (.getfield 16, 3) := by decide +kernel
theorem dX8_sheet_68 : decode cX8_sheet 68 = .ok (.bipush 50, 2) := by decide +kernel
theorem dX8_sheet_70 : decode cX8_sheet 70 = .ok (.iload_n 1, 1) := by decide +kernel
theorem dX8_sheet_71 : decode cX8_sheet 71 = .ok (.imul, 1) := by decide +kernel
theorem dX8_sheet_72 : decode cX8_sheet 72 = .ok (.iload 4, 2) := by decide +kernel
theorem dX8_sheet_74 : decode cX8_sheet 74 = .ok (.iadd, 1) := by decide +kernel
theorem dX8_sheet_75 : decode cX8_sheet 75 = .ok (.iconst 0, 1) := by decide +kernel
theorem dX8_sheet_76 : decode cX8_sheet 76 = .ok (.iastore, 1) := by decide +kernel
theorem dX8_sheet_77 : decode cX8_sheet 77 = .ok (.iinc 4 1, 3) := by decide +kernel
theorem dX8_sheet_80 : decode cX8_sheet 80 = .ok (.goto (-23), 3) := by decide +kernel
theorem dX8_sheet_83 : decode cX8_sheet 83 = .ok (.iconst 1, 1) := by decide +kernel
theorem dX8_sheet_84 : decode cX8_sheet 84 = .ok (.ireturn, 1) := by decide +kernel
theorem dX8_lose_0 : decode cX8_lose 0 = .ok (.iload_n 1, 1) := by decide +kernel
theorem dX8_lose_1 : decode cX8_lose 1 = .ok (.invokestatic 111, 3) := by decide +kernel
theorem dX8_lose_4 : decode cX8_lose 4 = .ok (.ifCond .ne 5, 3) := by decide +kernel
theorem dX8_lose_7 : decode cX8_lose 7 = .ok (.iconst (-1), 1) := by decide +kernel
theorem dX8_lose_8 : decode cX8_lose 8 = .ok (.ireturn, 1) := by decide +kernel
theorem dX8_lose_9 : decode cX8_lose 9 = .ok (.aload_n 0, 1) := by decide +kernel
theorem dX8_lose_10 : decode cX8_lose 10 = .ok (.getfield 9, 3) := by decide +kernel
theorem dX8_lose_13 : decode cX8_lose 13 = .ok (.iload_n 1, 1) := by decide +kernel
theorem dX8_lose_14 : decode cX8_lose 14 = .ok (.iaload, 1) := by decide +kernel
theorem dX8_lose_15 : decode cX8_lose 15 = .ok (.bipush (-9), 2) := by decide +kernel
theorem dX8_lose_17 : decode cX8_lose 17 = .ok (.if_icmp .ne 7, 3) := by decide +kernel
theorem dX8_lose_20 : decode cX8_lose 20 = .ok (.iconst 0, 1) := by decide +kernel
theorem dX8_lose_21 : decode cX8_lose 21 = .ok (.goto 4, 3) := by decide +kernel
theorem dX8_lose_24 : decode cX8_lose 24 = .ok (.iconst 1, 1) := by decide +kernel
theorem dX8_lose_25 : decode cX8_lose 25 = .ok (.istore_n 2, 1) := by decide +kernel
theorem dX8_lose_26 : decode cX8_lose 26 = .ok (.aload_n 0, 1) := by decide +kernel
theorem dX8_lose_27 : decode cX8_lose 27 = .ok (.getfield 9, 3) := by decide +kernel
theorem dX8_lose_30 : decode cX8_lose 30 = .ok (.iload_n 1, 1) := by decide +kernel
theorem dX8_lose_31 : decode cX8_lose 31 = .ok (.bipush (-9), 2) := by decide +kernel
theorem dX8_lose_33 : decode cX8_lose 33 = .ok (.iastore, 1) := by decide +kernel
theorem dX8_lose_34 : decode cX8_lose 34 = .ok (.iload_n 2, 1) := by decide +kernel
theorem dX8_lose_35 : decode cX8_lose 35 = .ok (.ireturn, 1) := by decide +kernel
theorem dX8_put_0 : decode cX8_put 0 = .ok (.aload_n 0, 1) := by decide +kernel
theorem dX8_put_1 : decode cX8_put 1 = .ok (.iconst 0, 1) := by decide +kernel
theorem dX8_put_2 : decode cX8_put 2 = .ok (.putfield 95, 3) := by decide +kernel
theorem dX8_put_5 : decode cX8_put 5 = .ok (.iload_n 1, 1) := by decide +kernel
theorem dX8_put_6 : decode cX8_put 6 = .ok (.invokestatic 111, 3) := by decide +kernel
theorem dX8_put_9 : decode cX8_put 9 = .ok (.ifCond .ne 5, 3) := by decide +kernel
theorem dX8_put_12 : decode cX8_put 12 = .ok (.iconst (-1), 1) := by decide +kernel
theorem dX8_put_13 : decode cX8_put 13 = .ok (.ireturn, 1) := by decide +kernel
theorem dX8_put_14 : decode cX8_put 14 = .ok (.aload_n 0, 1) := by decide +kernel
theorem dX8_put_15 : decode cX8_put 15 = .ok (.getfield 9, 3) := by decide +kernel
theorem dX8_put_18 : decode cX8_put 18 = .ok (.iload_n 1, 1) := by decide +kernel
theorem dX8_put_19 : decode cX8_put 19 = .ok (.iaload, 1) := by decide +kernel
theorem dX8_put_20 : decode cX8_put 20 = .ok (.bipush (-9), 2) := by decide +kernel
theorem dX8_put_22 : decode cX8_put 22 = .ok (.if_icmp .ne 9, 3) := by decide +kernel
theorem dX8_put_25 : decode cX8_put 25 = .ok (.aload_n 0, 1) := by decide +kernel
theorem dX8_put_26 : decode cX8_put 26 = .ok (.iconst 1, 1) := by decide +kernel
theorem dX8_put_27 : decode cX8_put 27 = .ok (.invokevirtual 122, 3) := by decide +kernel
theorem dX8_put_30 : decode cX8_put 30 = .ok (.ireturn, 1) := by decide +kernel
theorem dX8_put_31 : decode cX8_put 31 = .ok (.iload_n 2, 1) := by decide +kernel
theorem dX8_put_32 : decode cX8_put 32 = .ok (.iconst 0, 1) := by decide +kernel
theorem dX8_put_33 : decode cX8_put 33 = .ok (.aload_n 0, 1) := by decide +kernel
theorem dX8_put_34 : decode cX8_put 34 = .ok (.getfield 13, 3) := by decide +kernel
theorem dX8_put_37 : decode cX8_put 37 = .ok (.iload_n 1, 1) := by decide +kernel
theorem dX8_put_38 : decode cX8_put 38 = .ok (.iaload, 1) := by decide +kernel
theorem dX8_put_39 : decode cX8_put 39 = .ok (.iconst 1, 1) := by decide +kernel
theorem dX8_put_40 : decode cX8_put 40 = .ok (.isub, 1) := by decide +kernel
theorem dX8_put_41 : decode cX8_put 41 = .ok (.invokestatic 101, 3) := by decide +kernel
theorem dX8_put_44 : decode cX8_put 44 = .ok (.ifCond .ne 9, 3) := by decide +kernel
theorem dX8_put_47 : decode cX8_put 47 = .ok (.aload_n 0, 1) := by decide +kernel
theorem dX8_put_48 : decode cX8_put 48 = .ok (.iconst 3, 1) := by decide +kernel
theorem dX8_put_49 : decode cX8_put 49 = .ok (.invokevirtual 122, 3) := by decide +kernel
theorem dX8_put_52 : decode cX8_put 52 = .ok (.ireturn, 1) := by decide +kernel
theorem dX8_put_53 : decode cX8_put 53 = .ok (.aload_n 0, 1) := by decide +kernel
theorem dX8_put_54 : decode cX8_put 54 = .ok (.getfield 16, 3) := by decide +kernel
theorem dX8_put_57 : decode cX8_put 57 = .ok (.bipush 50, 2) := by decide +kernel
theorem dX8_put_59 : decode cX8_put 59 = .ok (.iload_n 1, 1) := by decide +kernel
theorem dX8_put_60 : decode cX8_put 60 = .ok (.imul, 1) := by decide +kernel
theorem dX8_put_61 : decode cX8_put 61 = .ok (.iload_n 2, 1) := by decide +kernel
theorem dX8_put_62 : decode cX8_put 62 = .ok (.iadd, 1) := by decide +kernel
theorem dX8_put_63 : decode cX8_put 63 = .ok (.aload_n 0, 1) := by decide +kernel
theorem dX8_put_64 : decode cX8_put 64 = .ok (.getfield 9, 3) := by decide +kernel
theorem dX8_put_67 : decode cX8_put 67 = .ok (.iload_n 1, 1) := by decide +kernel
theorem dX8_put_68 : decode cX8_put 68 = .ok (.iaload, 1) := by decide +kernel
theorem dX8_put_69 : decode cX8_put 69 = .ok (.ifCond .ne 8, 3) := by decide +kernel
theorem dX8_put_72 : decode cX8_put 72 = .ok (.iload_n 3, 1) := by decide +kernel
theorem dX8_put_73 : decode cX8_put 73 = .ok (.i2b, 1) := by decide +kernel
theorem dX8_put_74 : decode cX8_put 74 = .ok (.goto 19, 3) := by decide +kernel
theorem dX8_put_77 : decode cX8_put 77 = .ok (.aload_n 0, 1) := by decide +kernel
theorem dX8_put_78 : decode cX8_put 78 = .ok (.getfield 9, 3) := by decide +kernel
theorem dX8_put_81 : decode cX8_put 81 = .ok (.iload_n 1, 1) := by decide +kernel
theorem dX8_put_82 : decode cX8_put 82 = .ok (.iaload, 1) := by decide +kernel
theorem dX8_put_83 : decode cX8_put 83 = .ok (.iconst 1, 1) := by decide +kernel
theorem dX8_put_84 : decode cX8_put 84 = .ok (.if_icmp .ne 8, 3) := by decide +kernel
theorem dX8_put_87 : decode cX8_put 87 = .ok (.iload_n 3, 1) := by decide +kernel
theorem dX8_put_88 : decode cX8_put 88 = .ok (.i2s, 1) := by decide +kernel
theorem dX8_put_89 : decode cX8_put 89 = .ok (.goto 4, 3) := by decide +kernel
theorem dX8_put_92 : decode cX8_put 92 = .ok (.iload_n 3, 1) := by decide +kernel
theorem dX8_put_93 : decode cX8_put 93 = .ok (.iastore, 1) := by decide +kernel
theorem dX8_put_94 : decode cX8_put 94 = .ok (.iconst 1, 1) := by decide +kernel
theorem dX8_put_95 : decode cX8_put 95 = .ok (.ireturn, 1) := by decide +kernel
theorem dX8_cell_0 : decode cX8_cell 0 = .ok (.aload_n 0, 1) := by decide +kernel
theorem dX8_cell_1 : decode cX8_cell 1 = .ok (.iconst 0, 1) := by decide +kernel
theorem dX8_cell_2 : decode cX8_cell 2 = .ok (.putfield 95, 3) := by decide +kernel
theorem dX8_cell_5 : decode cX8_cell 5 = .ok (.iload_n 1, 1) := by decide +kernel
theorem dX8_cell_6 : decode cX8_cell 6 = .ok (.invokestatic 111, 3) := by decide +kernel
theorem dX8_cell_9 : decode cX8_cell 9 = .ok (.ifCond .eq 10, 3) := by decide +kernel
theorem dX8_cell_12 : decode cX8_cell 12 = .ok (.iload_n 3, 1) := by decide +kernel
theorem dX8_cell_13 : decode cX8_cell 13 = .ok (.invokestatic 115, 3) := by decide +kernel
theorem dX8_cell_16 : decode cX8_cell 16 = .ok (.ifCond .ne 7, 3) := by decide +kernel
theorem dX8_cell_19 : decode cX8_cell 19 = .ok (.ldc2_w 99, 3) := by decide +kernel
theorem dX8_cell_22 : decode cX8_cell 22 = .ok (.lreturn, 1) := by decide +kernel
theorem dX8_cell_23 : decode cX8_cell 23 = .ok (.aload_n 0, 1) := by decide +kernel
theorem dX8_cell_24 : decode cX8_cell 24 = .ok (.getfield 9, 3) := by decide +kernel
theorem dX8_cell_27 : decode cX8_cell 27 = .ok (.iload_n 1, 1) := by decide +kernel
theorem dX8_cell_28 : decode cX8_cell 28 = .ok (.iaload, 1) := by decide +kernel
theorem dX8_cell_29 : decode cX8_cell 29 = .ok (.bipush (-9), 2) := by decide +kernel
theorem dX8_cell_31 : decode cX8_cell 31 = .ok (.if_icmp .eq 19, 3) := by decide +kernel
theorem dX8_cell_34 : decode cX8_cell 34 = .ok (.aload_n 0, 1) := by decide +kernel
theorem dX8_cell_35 : decode cX8_cell 35 = .ok (.getfield 9, 3) := by decide +kernel
theorem dX8_cell_38 : decode cX8_cell 38 = .ok (.iload_n 1, 1) := by decide +kernel
theorem dX8_cell_39 : decode cX8_cell 39 = .ok (.iaload, 1) := by decide +kernel
theorem dX8_cell_40 : decode cX8_cell 40 = .ok (.iload_n 3, 1) := by decide +kernel
theorem dX8_cell_41 : decode cX8_cell 41 = .ok (.if_icmp .eq 9, 3) := by decide +kernel
theorem dX8_cell_44 : decode cX8_cell 44 = .ok (.aload_n 0, 1) := by decide +kernel
theorem dX8_cell_45 : decode cX8_cell 45 = .ok (.iconst 2, 1) := by decide +kernel
theorem dX8_cell_46 : decode cX8_cell 46 = .ok (.invokevirtual 229, 3) := by decide +kernel
theorem dX8_cell_49 : decode cX8_cell 49 = .ok (.lreturn, 1) := by decide +kernel
theorem dX8_cell_50 : decode cX8_cell 50 = .ok (.aload_n 0, 1) := by decide +kernel
theorem dX8_cell_51 : decode cX8_cell 51 = .ok (.getfield 9, 3) := by decide +kernel
theorem dX8_cell_54 : decode cX8_cell 54 = .ok (.iload_n 1, 1) := by decide +kernel
theorem dX8_cell_55 : decode cX8_cell 55 = .ok (.iaload, 1) := by decide +kernel
theorem dX8_cell_56 : decode cX8_cell 56 = .ok (.bipush (-9), 2) := by decide +kernel
theorem dX8_cell_58 : decode cX8_cell 58 = .ok (.if_icmp .ne 9, 3) := by decide +kernel
theorem dX8_cell_61 : decode cX8_cell 61 = .ok (.aload_n 0, 1) := by decide +kernel
theorem dX8_cell_62 : decode cX8_cell 62 = .ok (.iconst 1, 1) := by decide +kernel
theorem dX8_cell_63 : decode cX8_cell 63 = .ok (.invokevirtual 229, 3) := by decide +kernel
theorem dX8_cell_66 : decode cX8_cell 66 = .ok (.lreturn, 1) := by decide +kernel
theorem dX8_cell_67 : decode cX8_cell 67 = .ok (.iload_n 2, 1) := by decide +kernel
theorem dX8_cell_68 : decode cX8_cell 68 = .ok (.iconst 0, 1) := by decide +kernel
theorem dX8_cell_69 : decode cX8_cell 69 = .ok (.aload_n 0, 1) := by decide +kernel
theorem dX8_cell_70 : decode cX8_cell 70 = .ok (.getfield 13, 3) := by decide +kernel
theorem dX8_cell_73 : decode cX8_cell 73 = .ok (.iload_n 1, 1) := by decide +kernel
theorem dX8_cell_74 : decode cX8_cell 74 = .ok (.iaload, 1) := by decide +kernel
theorem dX8_cell_75 : decode cX8_cell 75 = .ok (.iconst 1, 1) := by decide +kernel
theorem dX8_cell_76 : decode cX8_cell 76 = .ok (.isub, 1) := by decide +kernel
theorem dX8_cell_77 : decode cX8_cell 77 = .ok (.invokestatic 101, 3) := by decide +kernel
theorem dX8_cell_80 : decode cX8_cell 80 = .ok (.ifCond .ne 9, 3) := by decide +kernel
theorem dX8_cell_83 : decode cX8_cell 83 = .ok (.aload_n 0, 1) := by decide +kernel
theorem dX8_cell_84 : decode cX8_cell 84 = .ok (.iconst 3, 1) := by decide +kernel
theorem dX8_cell_85 : decode cX8_cell 85 = .ok (.invokevirtual 229, 3) := by decide +kernel
theorem dX8_cell_88 : decode cX8_cell 88 = .ok (.lreturn, 1) := by decide +kernel
theorem dX8_cell_89 : decode cX8_cell 89 = .ok (.aload_n 0, 1) := by decide +kernel
theorem dX8_cell_90 : decode cX8_cell 90 = .ok (.getfield 16, 3) := by decide +kernel
theorem dX8_cell_93 : decode cX8_cell 93 = .ok (.bipush 50, 2) := by decide +kernel
theorem dX8_cell_95 : decode cX8_cell 95 = .ok (.iload_n 1, 1) := by decide +kernel
theorem dX8_cell_96 : decode cX8_cell 96 = .ok (.imul, 1) := by decide +kernel
theorem dX8_cell_97 : decode cX8_cell 97 = .ok (.iload_n 2, 1) := by decide +kernel
theorem dX8_cell_98 : decode cX8_cell 98 = .ok (.iadd, 1) := by decide +kernel
theorem dX8_cell_99 : decode cX8_cell 99 = .ok (.iaload, 1) := by decide +kernel
theorem dX8_cell_100 : decode cX8_cell 100 = .ok (.i2l, 1) := by decide +kernel
theorem dX8_cell_101 : decode cX8_cell 101 = .ok (.lreturn, 1) := by decide +kernel
theorem dX8_copy_0 : decode cX8_copy 0 = .ok (.aload_n 0, 1) := by decide +kernel
theorem dX8_copy_1 : decode cX8_copy 1 = .ok (.iconst 0, 1) := by decide +kernel
theorem dX8_copy_2 : decode cX8_copy 2 = .ok (.putfield 95, 3) := by decide +kernel
theorem dX8_copy_5 : decode cX8_copy 5 = .ok (.iload_n 1, 1) := by decide +kernel
theorem dX8_copy_6 : decode cX8_copy 6 = .ok (.invokestatic 111, 3) := by decide +kernel
theorem dX8_copy_9 : decode cX8_copy 9 = .ok (.ifCond .eq 10, 3) := by decide +kernel
theorem dX8_copy_12 : decode cX8_copy 12 = .ok (.iload_n 3, 1) := by decide +kernel
theorem dX8_copy_13 : decode cX8_copy 13 = .ok (.invokestatic 111, 3) := by decide +kernel
theorem dX8_copy_16 : decode cX8_copy 16 = .ok (.ifCond .ne 5, 3) := by decide +kernel
theorem dX8_copy_19 : decode cX8_copy 19 = .ok (.iconst (-1), 1) := by decide +kernel
theorem dX8_copy_20 : decode cX8_copy 20 = .ok (.ireturn, 1) := by decide +kernel
theorem dX8_copy_21 : decode cX8_copy 21 = .ok (.aload_n 0, 1) := by decide +kernel
theorem dX8_copy_22 : decode cX8_copy 22 = .ok (.getfield 9, 3) := by decide +kernel
theorem dX8_copy_25 : decode cX8_copy 25 = .ok (.iload_n 1, 1) := by decide +kernel
theorem dX8_copy_26 : decode cX8_copy 26 = .ok (.iaload, 1) := by decide +kernel
theorem dX8_copy_27 : decode cX8_copy 27 = .ok (.bipush (-9), 2) := by decide +kernel
theorem dX8_copy_29 : decode cX8_copy 29 = .ok (.if_icmp .eq 14, 3) := by decide +kernel
theorem dX8_copy_32 : decode cX8_copy 32 = .ok (.aload_n 0, 1) := by decide +kernel
theorem dX8_copy_33 : decode cX8_copy 33 = .ok (.getfield 9, 3) := by decide +kernel
theorem dX8_copy_36 : decode cX8_copy 36 = .ok (.iload_n 3, 1) := by decide +kernel
theorem dX8_copy_37 : decode cX8_copy 37 = .ok (.iaload, 1) := by decide +kernel
theorem dX8_copy_38 : decode cX8_copy 38 = .ok (.bipush (-9), 2) := by decide +kernel
theorem dX8_copy_40 : decode cX8_copy 40 = .ok (.if_icmp .ne 9, 3) := by decide +kernel
theorem dX8_copy_43 : decode cX8_copy 43 = .ok (.aload_n 0, 1) := by decide +kernel
theorem dX8_copy_44 : decode cX8_copy 44 = .ok (.iconst 1, 1) := by decide +kernel
theorem dX8_copy_45 : decode cX8_copy 45 = .ok (.invokevirtual 122, 3) := by decide +kernel
theorem dX8_copy_48 : decode cX8_copy 48 = .ok (.ireturn, 1) := by decide +kernel
theorem dX8_copy_49 : decode cX8_copy 49 = .ok (.aload_n 0, 1) := by decide +kernel
theorem dX8_copy_50 : decode cX8_copy 50 = .ok (.getfield 9, 3) := by decide +kernel
theorem dX8_copy_53 : decode cX8_copy 53 = .ok (.iload_n 1, 1) := by decide +kernel
theorem dX8_copy_54 : decode cX8_copy 54 = .ok (.iaload, 1) := by decide +kernel
theorem dX8_copy_55 : decode cX8_copy 55 = .ok (.aload_n 0, 1) := by decide +kernel
theorem dX8_copy_56 : decode cX8_copy 56 = .ok (.getfield 9, 3) := by decide +kernel
theorem dX8_copy_59 : decode cX8_copy 59 = .ok (.iload_n 3, 1) := by decide +kernel
theorem dX8_copy_60 : decode cX8_copy 60 = .ok (.iaload, 1) := by decide +kernel
theorem dX8_copy_61 : decode cX8_copy 61 = .ok (.if_icmp .eq 9, 3) := by decide +kernel
theorem dX8_copy_64 : decode cX8_copy 64 = .ok (.aload_n 0, 1) := by decide +kernel
theorem dX8_copy_65 : decode cX8_copy 65 = .ok (.iconst 2, 1) := by decide +kernel
theorem dX8_copy_66 : decode cX8_copy 66 = .ok (.invokevirtual 122, 3) := by decide +kernel
theorem dX8_copy_69 : decode cX8_copy 69 = .ok (.ireturn, 1) := by decide +kernel
theorem dX8_copy_70 : decode cX8_copy 70 = .ok (.iload_n 2, 1) := by decide +kernel
theorem dX8_copy_71 : decode cX8_copy 71 = .ok (.ifCond .lt 38, 3) := by decide +kernel
theorem dX8_copy_74 : decode cX8_copy 74 = .ok (.iload 4, 2) := by decide +kernel
theorem dX8_copy_76 : decode cX8_copy 76 = .ok (.ifCond .lt 33, 3) := by decide +kernel
theorem dX8_copy_79 : decode cX8_copy 79 = .ok (.iload 5, 2) := by decide +kernel
theorem dX8_copy_81 : decode cX8_copy 81 = .ok (.ifCond .lt 28, 3) := by decide +kernel
theorem dX8_copy_84 : decode cX8_copy 84 = .ok (.iload_n 2, 1) := by decide +kernel
theorem dX8_copy_85 : decode cX8_copy 85 = .ok (.aload_n 0, 1) := by decide +kernel
theorem dX8_copy_86 : decode cX8_copy 86 = .ok (.getfield 13, 3) := by decide +kernel
theorem dX8_copy_89 : decode cX8_copy 89 = .ok (.iload_n 1, 1) := by decide +kernel
theorem dX8_copy_90 : decode cX8_copy 90 = .ok (.iaload, 1) := by decide +kernel
theorem dX8_copy_91 : decode cX8_copy 91 = .ok (.if_icmp .gt 18, 3) := by decide +kernel
theorem dX8_copy_94 : decode cX8_copy 94 = .ok (.iload 4, 2) := by decide +kernel
theorem dX8_copy_96 : decode cX8_copy 96 = .ok (.aload_n 0, 1) := by decide +kernel
theorem dX8_copy_97 : decode cX8_copy 97 = .ok (.getfield 13, 3) := by decide +kernel
theorem dX8_copy_100 : decode cX8_copy 100 = .ok (.iload_n 3, 1) := by decide +kernel
theorem dX8_copy_101 : decode cX8_copy 101 = .ok (.iaload, 1) := by decide +kernel
theorem dX8_copy_102 : decode cX8_copy 102 = .ok (.if_icmp .gt 7, 3) := by decide +kernel
theorem dX8_copy_105 : decode cX8_copy 105 = .ok (.iconst 1, 1) := by decide +kernel
theorem dX8_copy_106 : decode cX8_copy 106 = .ok (.goto 4, 3) := by decide +kernel
theorem dX8_copy_109 : decode cX8_copy 109 = .ok (.iconst 0, 1) := by decide +kernel
theorem dX8_copy_110 : decode cX8_copy 110 = .ok (.istore 6, 2) := by decide +kernel
theorem dX8_copy_112 : decode cX8_copy 112 = .ok (.iload 6, 2) := by decide +kernel
theorem dX8_copy_114 : decode cX8_copy 114 = .ok (.ifCond .eq 30, 3) := by decide +kernel
theorem dX8_copy_117 : decode cX8_copy 117 = .ok (.iload 5, 2) := by decide +kernel
theorem dX8_copy_119 : decode cX8_copy 119 = .ok (.aload_n 0, 1) := by decide +kernel
theorem dX8_copy_120 : decode cX8_copy 120 = .ok (.getfield 13, 3) := by decide +kernel
theorem dX8_copy_123 : decode cX8_copy 123 = .ok (.iload_n 1, 1) := by decide +kernel
theorem dX8_copy_124 : decode cX8_copy 124 = .ok (.iaload, 1) := by decide +kernel
theorem dX8_copy_125 : decode cX8_copy 125 = .ok (.iload_n 2, 1) := by decide +kernel
theorem dX8_copy_126 : decode cX8_copy 126 = .ok (.isub, 1) := by decide +kernel
theorem dX8_copy_127 : decode cX8_copy 127 = .ok (.if_icmp .gt 17, 3) := by decide +kernel
theorem dX8_copy_130 : decode cX8_copy 130 = .ok (.iload 5, 2) := by decide +kernel
theorem dX8_copy_132 : decode cX8_copy 132 = .ok (.aload_n 0, 1) := by decide +kernel
theorem dX8_copy_133 : decode cX8_copy 133 = .ok (.getfield 13, 3) := by decide +kernel
theorem dX8_copy_136 : decode cX8_copy 136 = .ok (.iload_n 3, 1) := by decide +kernel
theorem dX8_copy_137 : decode cX8_copy 137 = .ok (.iaload, 1) := by decide +kernel
theorem dX8_copy_138 : decode cX8_copy 138 = .ok (.iload 4, 2) := by decide +kernel
theorem dX8_copy_140 : decode cX8_copy 140 = .ok (.isub, 1) := by decide +kernel
theorem dX8_copy_141 : decode cX8_copy 141 = .ok (.if_icmp .le 9, 3) := by decide +kernel
theorem dX8_copy_144 : decode cX8_copy 144 = .ok (.aload_n 0, 1) := by decide +kernel
theorem dX8_copy_145 : decode cX8_copy 145 = .ok (.iconst 3, 1) := by decide +kernel
theorem dX8_copy_146 : decode cX8_copy 146 = .ok (.invokevirtual 122, 3) := by decide +kernel
theorem dX8_copy_149 : decode cX8_copy 149 = .ok (.ireturn, 1) := by decide +kernel
theorem dX8_copy_150 : decode cX8_copy 150 = .ok (.iload_n 2, 1) := by decide +kernel
theorem dX8_copy_151 : decode cX8_copy 151 = .ok (.iload 4, 2) := by decide +kernel
theorem dX8_copy_153 : decode cX8_copy 153 = .ok (.if_icmp .ge 7, 3) := by decide +kernel
theorem dX8_copy_156 : decode cX8_copy 156 = .ok (.iconst 1, 1) := by decide +kernel
theorem dX8_copy_157 : decode cX8_copy 157 = .ok (.goto 4, 3) := by decide +kernel
theorem dX8_copy_160 : decode cX8_copy 160 = .ok (.iconst 0, 1) := by decide +kernel
theorem dX8_copy_161 : decode cX8_copy 161 = .ok (.istore 7, 2) := by decide +kernel
theorem dX8_copy_163 : decode cX8_copy 163 = .ok (.iconst 0, 1) := by decide +kernel
theorem dX8_copy_164 : decode cX8_copy 164 = .ok (.istore 8, 2) := by decide +kernel
theorem dX8_copy_166 : decode cX8_copy 166 = .ok (.iload 8, 2) := by decide +kernel
theorem dX8_copy_168 : decode cX8_copy 168 = .ok (.iload 5, 2) := by decide +kernel
theorem dX8_copy_170 : decode cX8_copy 170 = .ok (.if_icmp .ge 57, 3) := by decide +kernel
theorem dX8_copy_173 : decode cX8_copy 173 = .ok (.iload 7, 2) := by decide +kernel
theorem dX8_copy_175 : decode cX8_copy 175 = .ok (.ifCond .eq 13, 3) := by decide +kernel
theorem dX8_copy_178 : decode cX8_copy 178 = .ok (.iload 5, 2) := by decide +kernel
theorem dX8_copy_180 : decode cX8_copy 180 = .ok (.iconst 1, 1) := by decide +kernel
theorem dX8_copy_181 : decode cX8_copy 181 = .ok (.isub, 1) := by decide +kernel
theorem dX8_copy_182 : decode cX8_copy 182 = .ok (.iload 8, 2) := by decide +kernel
theorem dX8_copy_184 : decode cX8_copy 184 = .ok (.isub, 1) := by decide +kernel
theorem dX8_copy_185 : decode cX8_copy 185 = .ok (.goto 5, 3) := by decide +kernel
theorem dX8_copy_188 : decode cX8_copy 188 = .ok (.iload 8, 2) := by decide +kernel
theorem dX8_copy_190 : decode cX8_copy 190 = .ok (.istore 9, 2) := by decide +kernel
theorem dX8_copy_192 : decode cX8_copy 192 = .ok (.aload_n 0, 1) := by decide +kernel
theorem dX8_copy_193 : decode cX8_copy 193 = .ok (.getfield 16, 3) := by decide +kernel
theorem dX8_copy_196 : decode cX8_copy 196 = .ok (.bipush 50, 2) := by decide +kernel
theorem dX8_copy_198 : decode cX8_copy 198 = .ok (.iload_n 3, 1) := by decide +kernel
theorem dX8_copy_199 : decode cX8_copy 199 = .ok (.imul, 1) := by decide +kernel
theorem dX8_copy_200 : decode cX8_copy 200 = .ok (.iload 4, 2) := by decide +kernel
theorem dX8_copy_202 : decode cX8_copy 202 = .ok (.iadd, 1) := by decide +kernel
theorem dX8_copy_203 : decode cX8_copy 203 = .ok (.iload 9, 2) := by decide +kernel
theorem dX8_copy_205 : decode cX8_copy 205 = .ok (.iadd, 1) := by decide +kernel
theorem dX8_copy_206 : decode cX8_copy 206 = .ok (.aload_n 0, 1) := by decide +kernel
theorem dX8_copy_207 : decode cX8_copy 207 = .ok (.getfield 16, 3) := by decide +kernel
theorem dX8_copy_210 : decode cX8_copy 210 = .ok (.bipush 50, 2) := by decide +kernel
theorem dX8_copy_212 : decode cX8_copy 212 = .ok (.iload_n 1, 1) := by decide +kernel
theorem dX8_copy_213 : decode cX8_copy 213 = .ok (.imul, 1) := by decide +kernel
theorem dX8_copy_214 : decode cX8_copy 214 = .ok (.iload_n 2, 1) := by decide +kernel
theorem dX8_copy_215 : decode cX8_copy 215 = .ok (.iadd, 1) := by decide +kernel
theorem dX8_copy_216 : decode cX8_copy 216 = .ok (.iload 9, 2) := by decide +kernel
theorem dX8_copy_218 : decode cX8_copy 218 = .ok (.iadd, 1) := by decide +kernel
theorem dX8_copy_219 : decode cX8_copy 219 = .ok (.iaload, 1) := by decide +kernel
theorem dX8_copy_220 : decode cX8_copy 220 = .ok (.iastore, 1) := by decide +kernel
theorem dX8_copy_221 : decode cX8_copy 221 = .ok (.iinc 8 1, 3) := by decide +kernel
theorem dX8_copy_224 : decode cX8_copy 224 = .ok (.goto (-58), 3) := by decide +kernel
theorem dX8_copy_227 : decode cX8_copy 227 = .ok (.iload 5, 2) := by decide +kernel
theorem dX8_copy_229 : decode cX8_copy 229 = .ok (.ireturn, 1) := by decide +kernel
theorem dX8_begins_0 : decode cX8_begins 0 = .ok (.aload_n 0, 1) := by decide +kernel
theorem dX8_begins_1 : decode cX8_begins 1 = .ok (.bipush 31, 2) := by decide +kernel
theorem dX8_begins_3 : decode cX8_begins 3 = .ok (.aload_n 0, 1) := by decide +kernel
theorem dX8_begins_4 : decode cX8_begins 4 = .ok (.getfield 233, 3) := by decide +kernel
theorem dX8_begins_7 : decode cX8_begins 7 = .ok (.imul, 1) := by decide +kernel
theorem dX8_begins_8 : decode cX8_begins 8 = .ok (.iload_n 1, 1) := by decide +kernel
theorem dX8_begins_9 : decode cX8_begins 9 = .ok (.iadd, 1) := by decide +kernel
theorem dX8_begins_10 : decode cX8_begins 10 = .ok (.putfield 233, 3) := by decide +kernel
theorem dX8_begins_13 : decode cX8_begins 13 = .ok (.return_, 1) := by decide +kernel
theorem dX8_tell_0 : decode cX8_tell 0 = .ok (.aload_n 0, 1) := by decide +kernel
theorem dX8_tell_1 : decode cX8_tell 1 = .ok (.iload_n 1, 1) := by decide +kernel
theorem dX8_tell_2 : decode cX8_tell 2 = .ok (.invokevirtual 145, 3) := by decide +kernel
theorem dX8_tell_5 : decode cX8_tell 5 = .ok (.ifCond .ne 5, 3) := by decide +kernel
theorem dX8_tell_8 : decode cX8_tell 8 = .ok (.iconst (-1), 1) := by decide +kernel
theorem dX8_tell_9 : decode cX8_tell 9 = .ok (.ireturn, 1) := by decide +kernel
theorem dX8_tell_10 : decode cX8_tell 10 = .ok (.aload_n 0, 1) := by decide +kernel
theorem dX8_tell_11 : decode cX8_tell 11 = .ok (.getfield 22, 3) := by decide +kernel
theorem dX8_tell_14 : decode cX8_tell 14 = .ok (.iload_n 1, 1) := by decide +kernel
theorem dX8_tell_15 : decode cX8_tell 15 = .ok (.iaload, 1) := by decide +kernel
theorem dX8_tell_16 : decode cX8_tell 16 = .ok (.istore_n 2, 1) := by decide +kernel
theorem dX8_tell_17 : decode cX8_tell 17 = .ok (.aload_n 0, 1) := by decide +kernel
theorem dX8_tell_18 : decode cX8_tell 18 = .ok (.getfield 19, 3) := by decide +kernel
theorem dX8_tell_21 : decode cX8_tell 21 = .ok (.iload_n 1, 1) := by decide +kernel
theorem dX8_tell_22 : decode cX8_tell 22 = .ok (.iaload, 1) := by decide +kernel
theorem dX8_tell_23 : decode cX8_tell 23 = .ok (.lookupswitch 67 #[(1, 25), (2, 40)], 25) := by decide +kernel
theorem dX8_tell_48 : decode cX8_tell 48 = .ok (.aload_n 0, 1) := by decide +kernel
theorem dX8_tell_49 : decode cX8_tell 49 = .ok (.iconst 2, 1) := by decide +kernel
theorem dX8_tell_50 : decode cX8_tell 50 = .ok (.invokevirtual 236, 3) := by decide +kernel
theorem dX8_tell_53 : decode cX8_tell 53 = .ok (.aload_n 0, 1) := by decide +kernel
theorem dX8_tell_54 : decode cX8_tell 54 = .ok (.iconst 1, 1) := by decide +kernel
theorem dX8_tell_55 : decode cX8_tell 55 = .ok (.invokevirtual 236, 3) := by decide +kernel
theorem dX8_tell_58 : decode cX8_tell 58 = .ok (.iload_n 2, 1) := by decide +kernel
theorem dX8_tell_59 : decode cX8_tell 59 = .ok (.bipush 100, 2) := by decide +kernel
theorem dX8_tell_61 : decode cX8_tell 61 = .ok (.iadd, 1) := by decide +kernel
theorem dX8_tell_62 : decode cX8_tell 62 = .ok (.ireturn, 1) := by decide +kernel
theorem dX8_tell_63 : decode cX8_tell 63 = .ok (.aload_n 0, 1) := by decide +kernel
theorem dX8_tell_64 : decode cX8_tell 64 = .ok (.iconst 3, 1) := by decide +kernel
theorem dX8_tell_65 : decode cX8_tell 65 = .ok (.invokevirtual 236, 3) := by decide +kernel
theorem dX8_tell_68 : decode cX8_tell 68 = .ok (.aload_n 0, 1) := by decide +kernel
theorem dX8_tell_69 : decode cX8_tell 69 = .ok (.iconst 2, 1) := by decide +kernel
theorem dX8_tell_70 : decode cX8_tell 70 = .ok (.invokevirtual 236, 3) := by decide +kernel
theorem dX8_tell_73 : decode cX8_tell 73 = .ok (.aload_n 0, 1) := by decide +kernel
theorem dX8_tell_74 : decode cX8_tell 74 = .ok (.iconst 1, 1) := by decide +kernel
theorem dX8_tell_75 : decode cX8_tell 75 = .ok (.invokevirtual 236, 3) := by decide +kernel
theorem dX8_tell_78 : decode cX8_tell 78 = .ok (.aload_n 0, 1) := by decide +kernel
theorem dX8_tell_79 : decode cX8_tell 79 = .ok (.iconst 1, 1) := by decide +kernel
theorem dX8_tell_80 : decode cX8_tell 80 = .ok (.invokevirtual 236, 3) := by decide +kernel
theorem dX8_tell_83 : decode cX8_tell 83 = .ok (.iconst 2, 1) := by decide +kernel
theorem dX8_tell_84 : decode cX8_tell 84 = .ok (.iload_n 2, 1) := by decide +kernel
theorem dX8_tell_85 : decode cX8_tell 85 = .ok (.imul, 1) := by decide +kernel
theorem dX8_tell_86 : decode cX8_tell 86 = .ok (.bipush 100, 2) := by decide +kernel
theorem dX8_tell_88 : decode cX8_tell 88 = .ok (.iadd, 1) := by decide +kernel
theorem dX8_tell_89 : decode cX8_tell 89 = .ok (.ireturn, 1) := by decide +kernel
theorem dX8_tell_90 : decode cX8_tell 90 = .ok (.aload_n 0, 1) := by decide +kernel
theorem dX8_tell_91 : decode cX8_tell 91 = .ok (.iconst 1, 1) := by decide +kernel
theorem dX8_tell_92 : decode cX8_tell 92 = .ok (.invokevirtual 236, 3) := by decide +kernel
theorem dX8_tell_95 : decode cX8_tell 95 = .ok (.iload_n 2, 1) := by decide +kernel
theorem dX8_tell_96 : decode cX8_tell 96 = .ok (.ireturn, 1) := by decide +kernel
theorem dX8_salute_0 : decode cX8_salute 0 = .ok (.aload_n 0, 1) := by decide +kernel
theorem dX8_salute_1 : decode cX8_salute 1 = .ok (.iload_n 1, 1) := by decide +kernel
theorem dX8_salute_2 : decode cX8_salute 2 = .ok (.invokevirtual 145, 3) := by decide +kernel
theorem dX8_salute_5 : decode cX8_salute 5 = .ok (.ifCond .ne 5, 3) := by decide +kernel
theorem dX8_salute_8 : decode cX8_salute 8 = .ok (.iconst (-1), 1) := by decide +kernel
theorem dX8_salute_9 : decode cX8_salute 9 = .ok (.ireturn, 1) := by decide +kernel
theorem dX8_salute_10 : decode cX8_salute 10 = .ok (.aload_n 0, 1) := by decide +kernel
theorem dX8_salute_11 : decode cX8_salute 11 = .ok (.aload_n 0, 1) := by decide +kernel
theorem dX8_salute_12 : decode cX8_salute 12 = .ok (.getfield 19, 3) := by decide +kernel
theorem dX8_salute_15 : decode cX8_salute 15 = .ok (.iload_n 1, 1) := by decide +kernel
theorem dX8_salute_16 : decode cX8_salute 16 = .ok (.iaload, 1) := by decide +kernel
theorem dX8_salute_17 : decode cX8_salute 17 = .ok (.iconst 2, 1) := by decide +kernel
theorem dX8_salute_18 : decode cX8_salute 18 = .ok (.if_icmp .ne 7, 3) := by decide +kernel
theorem dX8_salute_21 : decode cX8_salute 21 = .ok (.iconst 5, 1) := by decide +kernel
theorem dX8_salute_22 : decode cX8_salute 22 = .ok (.goto 4, 3) := by decide +kernel
theorem dX8_salute_25 : decode cX8_salute 25 = .ok (.iconst 4, 1) := by decide +kernel
theorem dX8_salute_26 : decode cX8_salute 26 = .ok (.invokevirtual 236, 3) := by decide +kernel
theorem dX8_salute_29 : decode cX8_salute 29 = .ok (.aload_n 0, 1) := by decide +kernel
theorem dX8_salute_30 : decode cX8_salute 30 = .ok (.getfield 19, 3) := by decide +kernel
theorem dX8_salute_33 : decode cX8_salute 33 = .ok (.iload_n 1, 1) := by decide +kernel
theorem dX8_salute_34 : decode cX8_salute 34 = .ok (.iaload, 1) := by decide +kernel
theorem dX8_salute_35 : decode cX8_salute 35 = .ok (.iconst 2, 1) := by decide +kernel
theorem dX8_salute_36 : decode cX8_salute 36 = .ok (.if_icmp .ne 8, 3) := by decide +kernel
theorem dX8_salute_39 : decode cX8_salute 39 = .ok (.bipush 80, 2) := by decide +kernel
theorem dX8_salute_41 : decode cX8_salute 41 = .ok (.goto 4, 3) := by decide +kernel
theorem dX8_salute_44 : decode cX8_salute 44 = .ok (.iload_n 1, 1) := by decide +kernel
theorem dX8_salute_45 : decode cX8_salute 45 = .ok (.ireturn, 1) := by decide +kernel
theorem dX8_as_0 : decode cX8_as 0 = .ok (.aload_n 0, 1) := by decide +kernel
theorem dX8_as_1 : decode cX8_as 1 = .ok (.iconst 0, 1) := by decide +kernel
theorem dX8_as_2 : decode cX8_as 2 = .ok (.putfield 95, 3) := by decide +kernel
theorem dX8_as_5 : decode cX8_as 5 = .ok (.aload_n 0, 1) := by decide +kernel
theorem dX8_as_6 : decode cX8_as 6 = .ok (.iload_n 1, 1) := by decide +kernel
theorem dX8_as_7 : decode cX8_as 7 = .ok (.invokevirtual 145, 3) := by decide +kernel
theorem dX8_as_10 : decode cX8_as 10 = .ok (.ifCond .ne 5, 3) := by decide +kernel
theorem dX8_as_13 : decode cX8_as 13 = .ok (.iconst (-1), 1) := by decide +kernel
theorem dX8_as_14 : decode cX8_as 14 = .ok (.ireturn, 1) := by decide +kernel
theorem dX8_as_15 : decode cX8_as 15 = .ok (.iload_n 2, 1) := by decide +kernel
theorem dX8_as_16 : decode cX8_as 16 = .ok (.iconst 0, 1) := by decide +kernel
theorem dX8_as_17 : decode cX8_as 17 = .ok (.iconst 2, 1) := by decide +kernel
theorem dX8_as_18 : decode cX8_as 18 = .ok (.invokestatic 101, 3) := by decide +kernel
theorem dX8_as_21 : decode cX8_as 21 = .ok (.ifCond .ne 6, 3) := by decide +kernel
theorem dX8_as_24 : decode cX8_as 24 = .ok (.bipush (-2), 2) := by decide +kernel
theorem dX8_as_26 : decode cX8_as 26 = .ok (.ireturn, 1) := by decide +kernel
theorem dX8_as_27 : decode cX8_as 27 = .ok (.aload_n 0, 1) := by decide +kernel
theorem dX8_as_28 : decode cX8_as 28 = .ok (.getfield 19, 3) := by decide +kernel
theorem dX8_as_31 : decode cX8_as 31 = .ok (.iload_n 1, 1) := by decide +kernel
theorem dX8_as_32 : decode cX8_as 32 = .ok (.iaload, 1) := by decide +kernel
theorem dX8_as_33 : decode cX8_as 33 = .ok (.iload_n 2, 1) := by decide +kernel
theorem dX8_as_34 : decode cX8_as 34 = .ok (.if_icmp .lt 7, 3) := by decide +kernel
theorem dX8_as_37 : decode cX8_as 37 = .ok (.iconst 1, 1) := by decide +kernel
theorem dX8_as_38 : decode cX8_as 38 = .ok (.goto 8, 3) := by decide +kernel
theorem dX8_as_41 : decode cX8_as 41 = .ok (.aload_n 0, 1) := by decide +kernel
theorem dX8_as_42 : decode cX8_as 42 = .ok (.iconst 2, 1) := by decide +kernel
theorem dX8_as_43 : decode cX8_as 43 = .ok (.invokevirtual 122, 3) := by decide +kernel
theorem dX8_as_46 : decode cX8_as 46 = .ok (.ireturn, 1) := by decide +kernel
theorem dX8_trace_0 : decode cX8_trace 0 = .ok (.aload_n 0, 1) := by decide +kernel
theorem dX8_trace_1 : decode cX8_trace 1 = .ok (.getfield 233, 3) := by decide +kernel
theorem dX8_trace_4 : decode cX8_trace 4 = .ok (.ireturn, 1) := by decide +kernel
theorem dX8_fault_0 : decode cX8_fault 0 = .ok (.aload_n 0, 1) := by decide +kernel
theorem dX8_fault_1 : decode cX8_fault 1 = .ok (.getfield 95, 3) := by decide +kernel
theorem dX8_fault_4 : decode cX8_fault 4 = .ok (.ireturn, 1) := by decide +kernel
theorem dX8_many_0 : decode cX8_many 0 = .ok (.iload_n 1, 1) := by decide +kernel
theorem dX8_many_1 : decode cX8_many 1 = .ok (.iconst 3, 1) := by decide +kernel
theorem dX8_many_2 : decode cX8_many 2 = .ok (.if_icmp .ne 25, 3) := by decide +kernel
theorem dX8_many_5 : decode cX8_many 5 = .ok (.aload_n 0, 1) := by decide +kernel
theorem dX8_many_6 : decode cX8_many 6 = .ok (.bipush 60, 2) := by decide +kernel
theorem dX8_many_8 : decode cX8_many 8 = .ok (.invokevirtual 198, 3) := by decide +kernel
theorem dX8_many_11 : decode cX8_many 11 = .ok (.aload_n 0, 1) := by decide +kernel
theorem dX8_many_12 : decode cX8_many 12 = .ok (.getfield 105, 3) := by decide +kernel
theorem dX8_many_15 : decode cX8_many 15 = .ok (.ifCond .ne 7, 3) := by decide +kernel
theorem dX8_many_18 : decode cX8_many 18 = .ok (.iconst 0, 1) := by decide +kernel
theorem dX8_many_19 : decode cX8_many 19 = .ok (.goto 7, 3) := by decide +kernel
theorem dX8_many_22 : decode cX8_many 22 = .ok (.aload_n 0, 1) := by decide +kernel
theorem dX8_many_23 : decode cX8_many 23 = .ok (.getfield 165, 3) := by decide +kernel
theorem dX8_many_26 : decode cX8_many 26 = .ok (.ireturn, 1) := by decide +kernel
theorem dX8_many_27 : decode cX8_many 27 = .ok (.iload_n 1, 1) := by decide +kernel
theorem dX8_many_28 : decode cX8_many 28 = .ok (.ifCond .ne 10, 3) := by decide +kernel
theorem dX8_many_31 : decode cX8_many 31 = .ok (.aload_n 0, 1) := by decide +kernel
theorem dX8_many_32 : decode cX8_many 32 = .ok (.getfield 105, 3) := by decide +kernel
theorem dX8_many_35 : decode cX8_many 35 = .ok (.goto 29, 3) := by decide +kernel
theorem dX8_many_38 : decode cX8_many 38 = .ok (.iload_n 1, 1) := by decide +kernel
theorem dX8_many_39 : decode cX8_many 39 = .ok (.iconst 1, 1) := by decide +kernel
theorem dX8_many_40 : decode cX8_many 40 = .ok (.if_icmp .ne 10, 3) := by decide +kernel
theorem dX8_many_43 : decode cX8_many 43 = .ok (.aload_n 0, 1) := by decide +kernel
theorem dX8_many_44 : decode cX8_many 44 = .ok (.getfield 132, 3) := by decide +kernel
theorem dX8_many_47 : decode cX8_many 47 = .ok (.goto 17, 3) := by decide +kernel
theorem dX8_many_50 : decode cX8_many 50 = .ok (.iload_n 1, 1) := by decide +kernel
theorem dX8_many_51 : decode cX8_many 51 = .ok (.iconst 2, 1) := by decide +kernel
theorem dX8_many_52 : decode cX8_many 52 = .ok (.if_icmp .ne 10, 3) := by decide +kernel
theorem dX8_many_55 : decode cX8_many 55 = .ok (.aload_n 0, 1) := by decide +kernel
theorem dX8_many_56 : decode cX8_many 56 = .ok (.getfield 135, 3) := by decide +kernel
theorem dX8_many_59 : decode cX8_many 59 = .ok (.goto 5, 3) := by decide +kernel
theorem dX8_many_62 : decode cX8_many 62 = .ok (.bipush (-2), 2) := by decide +kernel
theorem dX8_many_64 : decode cX8_many 64 = .ok (.ireturn, 1) := by decide +kernel
end
section
theorem dL_law_0 : decode cL_law 0 = .ok (.new 7, 3) := by decide +kernel
theorem dL_law_3 : decode cL_law 3 = .ok (.dup, 1) := by decide +kernel
theorem dL_law_4 : decode cL_law 4 = .ok (.invokespecial 9, 3) := by decide +kernel
theorem dL_law_7 : decode cL_law 7 = .ok (.astore_n 1, 1) := by decide +kernel
theorem dL_law_8 : decode cL_law 8 = .ok (.new 10, 3) := by decide +kernel
theorem dL_law_11 : decode cL_law 11 = .ok (.dup, 1) := by decide +kernel
theorem dL_law_12 : decode cL_law 12 = .ok (.invokespecial 12, 3) := by decide +kernel
theorem dL_law_15 : decode cL_law 15 = .ok (.astore_n 2, 1) := by decide +kernel
theorem dL_law_16 : decode cL_law 16 = .ok (.iconst 0, 1) := by decide +kernel
theorem dL_law_17 : decode cL_law 17 = .ok (.istore_n 3, 1) := by decide +kernel
theorem dL_law_18 : decode cL_law 18 = .ok (.iload_n 3, 1) := by decide +kernel
theorem dL_law_19 : decode cL_law 19 = .ok (.aload_n 0, 1) := by decide +kernel
theorem dL_law_20 : decode cL_law 20 = .ok (.arraylength, 1) := by decide +kernel
theorem dL_law_21 : decode cL_law 21 = .ok (.bipush 6, 2) := by decide +kernel
theorem dL_law_23 : decode cL_law 23 = .ok (.isub, 1) := by decide +kernel
theorem dL_law_24 : decode cL_law 24 = .ok (.if_icmp .gt 1127, 3) := by decide +kernel
theorem dL_law_27 : decode cL_law 27 = .ok (.aload_n 0, 1) := by decide +kernel
theorem dL_law_28 : decode cL_law 28 = .ok (.iload_n 3, 1) := by decide +kernel
theorem dL_law_29 : decode cL_law 29 = .ok (.iaload, 1) := by decide +kernel
theorem dL_law_30 : decode cL_law 30 = .ok (.bipush 31, 2) := by decide +kernel
theorem dL_law_32 : decode cL_law 32 = .ok (.iand, 1) := by decide +kernel
theorem dL_law_33 : decode cL_law 33 = .ok (.tableswitch 1112 0 28 #[131, 184, 217, 270, 293, 342, 365, 398, 431, 474, 497, 520, 563, 607, 666, 689, 702, 715, 768, 811, 834, 877, 921, 984, 1007, 1030, 1063, 1076, 1089], 131) := by decide +kernel
theorem dL_law_164 : decode cL_law 164 = .ok (.aload_n 1, 1) := by decide +kernel
theorem dL_law_165 : decode cL_law 165 = .ok (.aload_n 0, 1) := by decide +kernel
theorem dL_law_166 : decode cL_law 166 = .ok (.iload_n 3, 1) := by decide +kernel
theorem dL_law_167 : decode cL_law 167 = .ok (.iconst 1, 1) := by decide +kernel
theorem dL_law_168 : decode cL_law 168 = .ok (.iadd, 1) := by decide +kernel
theorem dL_law_169 : decode cL_law 169 = .ok (.iaload, 1) := by decide +kernel
theorem dL_law_170 : decode cL_law 170 = .ok (.aload_n 0, 1) := by decide +kernel
theorem dL_law_171 : decode cL_law 171 = .ok (.iload_n 3, 1) := by decide +kernel
theorem dL_law_172 : decode cL_law 172 = .ok (.iconst 2, 1) := by decide +kernel
theorem dL_law_173 : decode cL_law 173 = .ok (.iadd, 1) := by decide +kernel
theorem dL_law_174 : decode cL_law 174 = .ok (.iaload, 1) := by decide +kernel
theorem dL_law_175 : decode cL_law 175 = .ok (.aload_n 0, 1) := by decide +kernel
theorem dL_law_176 : decode cL_law 176 = .ok (.iload_n 3, 1) := by decide +kernel
theorem dL_law_177 : decode cL_law 177 = .ok (.iconst 3, 1) := by decide +kernel
theorem dL_law_178 : decode cL_law 178 = .ok (.iadd, 1) := by decide +kernel
theorem dL_law_179 : decode cL_law 179 = .ok (.iaload, 1) := by decide +kernel
theorem dL_law_180 : decode cL_law 180 = .ok (.aload_n 0, 1) := by decide +kernel
theorem dL_law_181 : decode cL_law 181 = .ok (.iload_n 3, 1) := by decide +kernel
theorem dL_law_182 : decode cL_law 182 = .ok (.iconst 4, 1) := by decide +kernel
theorem dL_law_183 : decode cL_law 183 = .ok (.iadd, 1) := by decide +kernel
theorem dL_law_184 : decode cL_law 184 = .ok (.iaload, 1) := by decide +kernel
theorem dL_law_185 : decode cL_law 185 = .ok (.invokevirtual 13, 3) := by decide +kernel
theorem dL_law_188 : decode cL_law 188 = .ok (.aload_n 2, 1) := by decide +kernel
theorem dL_law_189 : decode cL_law 189 = .ok (.aload_n 0, 1) := by decide +kernel
theorem dL_law_190 : decode cL_law 190 = .ok (.iload_n 3, 1) := by decide +kernel
theorem dL_law_191 : decode cL_law 191 = .ok (.iconst 1, 1) := by decide +kernel
theorem dL_law_192 : decode cL_law 192 = .ok (.iadd, 1) := by decide +kernel
theorem dL_law_193 : decode cL_law 193 = .ok (.iaload, 1) := by decide +kernel
theorem dL_law_194 : decode cL_law 194 = .ok (.aload_n 0, 1) := by decide +kernel
theorem dL_law_195 : decode cL_law 195 = .ok (.iload_n 3, 1) := by decide +kernel
theorem dL_law_196 : decode cL_law 196 = .ok (.iconst 2, 1) := by decide +kernel
theorem dL_law_197 : decode cL_law 197 = .ok (.iadd, 1) := by decide +kernel
theorem dL_law_198 : decode cL_law 198 = .ok (.iaload, 1) := by decide +kernel
theorem dL_law_199 : decode cL_law 199 = .ok (.aload_n 0, 1) := by decide +kernel
theorem dL_law_200 : decode cL_law 200 = .ok (.iload_n 3, 1) := by decide +kernel
theorem dL_law_201 : decode cL_law 201 = .ok (.iconst 3, 1) := by decide +kernel
theorem dL_law_202 : decode cL_law 202 = .ok (.iadd, 1) := by decide +kernel
theorem dL_law_203 : decode cL_law 203 = .ok (.iaload, 1) := by decide +kernel
theorem dL_law_204 : decode cL_law 204 = .ok (.aload_n 0, 1) := by decide +kernel
theorem dL_law_205 : decode cL_law 205 = .ok (.iload_n 3, 1) := by decide +kernel
theorem dL_law_206 : decode cL_law 206 = .ok (.iconst 4, 1) := by decide +kernel
theorem dL_law_207 : decode cL_law 207 = .ok (.iadd, 1) := by decide +kernel
theorem dL_law_208 : decode cL_law 208 = .ok (.iaload, 1) := by decide +kernel
theorem dL_law_209 : decode cL_law 209 = .ok (.invokevirtual 17, 3) := by decide +kernel
theorem dL_law_212 : decode cL_law 212 = .ok (.if_icmp .eq 933, 3) := by decide +kernel
theorem dL_law_215 : decode cL_law 215 = .ok (.iconst 0, 1) := by decide +kernel
theorem dL_law_216 : decode cL_law 216 = .ok (.ireturn, 1) := by decide +kernel
theorem dL_law_217 : decode cL_law 217 = .ok (.aload_n 1, 1) := by decide +kernel
theorem dL_law_218 : decode cL_law 218 = .ok (.aload_n 0, 1) := by decide +kernel
theorem dL_law_219 : decode cL_law 219 = .ok (.iload_n 3, 1) := by decide +kernel
theorem dL_law_220 : decode cL_law 220 = .ok (.iconst 1, 1) := by decide +kernel
theorem dL_law_221 : decode cL_law 221 = .ok (.iadd, 1) := by decide +kernel
theorem dL_law_222 : decode cL_law 222 = .ok (.iaload, 1) := by decide +kernel
theorem dL_law_223 : decode cL_law 223 = .ok (.aload_n 0, 1) := by decide +kernel
theorem dL_law_224 : decode cL_law 224 = .ok (.iload_n 3, 1) := by decide +kernel
theorem dL_law_225 : decode cL_law 225 = .ok (.iconst 2, 1) := by decide +kernel
theorem dL_law_226 : decode cL_law 226 = .ok (.iadd, 1) := by decide +kernel
theorem dL_law_227 : decode cL_law 227 = .ok (.iaload, 1) := by decide +kernel
theorem dL_law_228 : decode cL_law 228 = .ok (.invokevirtual 18, 3) := by decide +kernel
theorem dL_law_231 : decode cL_law 231 = .ok (.aload_n 2, 1) := by decide +kernel
theorem dL_law_232 : decode cL_law 232 = .ok (.aload_n 0, 1) := by decide +kernel
theorem dL_law_233 : decode cL_law 233 = .ok (.iload_n 3, 1) := by decide +kernel
theorem dL_law_234 : decode cL_law 234 = .ok (.iconst 1, 1) := by decide +kernel
theorem dL_law_235 : decode cL_law 235 = .ok (.iadd, 1) := by decide +kernel
theorem dL_law_236 : decode cL_law 236 = .ok (.iaload, 1) := by decide +kernel
theorem dL_law_237 : decode cL_law 237 = .ok (.aload_n 0, 1) := by decide +kernel
theorem dL_law_238 : decode cL_law 238 = .ok (.iload_n 3, 1) := by decide +kernel
theorem dL_law_239 : decode cL_law 239 = .ok (.iconst 2, 1) := by decide +kernel
theorem dL_law_240 : decode cL_law 240 = .ok (.iadd, 1) := by decide +kernel
theorem dL_law_241 : decode cL_law 241 = .ok (.iaload, 1) := by decide +kernel
theorem dL_law_242 : decode cL_law 242 = .ok (.invokevirtual 22, 3) := by decide +kernel
theorem dL_law_245 : decode cL_law 245 = .ok (.if_icmp .eq 900, 3) := by decide +kernel
theorem dL_law_248 : decode cL_law 248 = .ok (.iconst 0, 1) := by decide +kernel
theorem dL_law_249 : decode cL_law 249 = .ok (.ireturn, 1) := by decide +kernel
theorem dL_law_250 : decode cL_law 250 = .ok (.aload_n 1, 1) := by decide +kernel
theorem dL_law_251 : decode cL_law 251 = .ok (.aload_n 0, 1) := by decide +kernel
theorem dL_law_252 : decode cL_law 252 = .ok (.iload_n 3, 1) := by decide +kernel
theorem dL_law_253 : decode cL_law 253 = .ok (.iconst 1, 1) := by decide +kernel
theorem dL_law_254 : decode cL_law 254 = .ok (.iadd, 1) := by decide +kernel
theorem dL_law_255 : decode cL_law 255 = .ok (.iaload, 1) := by decide +kernel
theorem dL_law_256 : decode cL_law 256 = .ok (.aload_n 0, 1) := by decide +kernel
theorem dL_law_257 : decode cL_law 257 = .ok (.iload_n 3, 1) := by decide +kernel
theorem dL_law_258 : decode cL_law 258 = .ok (.iconst 2, 1) := by decide +kernel
theorem dL_law_259 : decode cL_law 259 = .ok (.iadd, 1) := by decide +kernel
theorem dL_law_260 : decode cL_law 260 = .ok (.iaload, 1) := by decide +kernel
theorem dL_law_261 : decode cL_law 261 = .ok (.aload_n 0, 1) := by decide +kernel
theorem dL_law_262 : decode cL_law 262 = .ok (.iload_n 3, 1) := by decide +kernel
theorem dL_law_263 : decode cL_law 263 = .ok (.iconst 3, 1) := by decide +kernel
theorem dL_law_264 : decode cL_law 264 = .ok (.iadd, 1) := by decide +kernel
theorem dL_law_265 : decode cL_law 265 = .ok (.iaload, 1) := by decide +kernel
theorem dL_law_266 : decode cL_law 266 = .ok (.aload_n 0, 1) := by decide +kernel
theorem dL_law_267 : decode cL_law 267 = .ok (.iload_n 3, 1) := by decide +kernel
theorem dL_law_268 : decode cL_law 268 = .ok (.iconst 4, 1) := by decide +kernel
theorem dL_law_269 : decode cL_law 269 = .ok (.iadd, 1) := by decide +kernel
theorem dL_law_270 : decode cL_law 270 = .ok (.iaload, 1) := by decide +kernel
theorem dL_law_271 : decode cL_law 271 = .ok (.invokevirtual 23, 3) := by decide +kernel
theorem dL_law_274 : decode cL_law 274 = .ok (.aload_n 2, 1) := by decide +kernel
theorem dL_law_275 : decode cL_law 275 = .ok (.aload_n 0, 1) := by decide +kernel
theorem dL_law_276 : decode cL_law 276 = .ok (.iload_n 3, 1) := by decide +kernel
theorem dL_law_277 : decode cL_law 277 = .ok (.iconst 1, 1) := by decide +kernel
theorem dL_law_278 : decode cL_law 278 = .ok (.iadd, 1) := by decide +kernel
theorem dL_law_279 : decode cL_law 279 = .ok (.iaload, 1) := by decide +kernel
theorem dL_law_280 : decode cL_law 280 = .ok (.aload_n 0, 1) := by decide +kernel
theorem dL_law_281 : decode cL_law 281 = .ok (.iload_n 3, 1) := by decide +kernel
theorem dL_law_282 : decode cL_law 282 = .ok (.iconst 2, 1) := by decide +kernel
theorem dL_law_283 : decode cL_law 283 = .ok (.iadd, 1) := by decide +kernel
theorem dL_law_284 : decode cL_law 284 = .ok (.iaload, 1) := by decide +kernel
theorem dL_law_285 : decode cL_law 285 = .ok (.aload_n 0, 1) := by decide +kernel
theorem dL_law_286 : decode cL_law 286 = .ok (.iload_n 3, 1) := by decide +kernel
theorem dL_law_287 : decode cL_law 287 = .ok (.iconst 3, 1) := by decide +kernel
theorem dL_law_288 : decode cL_law 288 = .ok (.iadd, 1) := by decide +kernel
theorem dL_law_289 : decode cL_law 289 = .ok (.iaload, 1) := by decide +kernel
theorem dL_law_290 : decode cL_law 290 = .ok (.aload_n 0, 1) := by decide +kernel
theorem dL_law_291 : decode cL_law 291 = .ok (.iload_n 3, 1) := by decide +kernel
theorem dL_law_292 : decode cL_law 292 = .ok (.iconst 4, 1) := by decide +kernel
theorem dL_law_293 : decode cL_law 293 = .ok (.iadd, 1) := by decide +kernel
theorem dL_law_294 : decode cL_law 294 = .ok (.iaload, 1) := by decide +kernel
theorem dL_law_295 : decode cL_law 295 = .ok (.invokevirtual 26, 3) := by decide +kernel
theorem dL_law_298 : decode cL_law 298 = .ok (.if_icmp .eq 847, 3) := by decide +kernel
theorem dL_law_301 : decode cL_law 301 = .ok (.iconst 0, 1) := by decide +kernel
theorem dL_law_302 : decode cL_law 302 = .ok (.ireturn, 1) := by decide +kernel
theorem dL_law_303 : decode cL_law 303 = .ok (.aload_n 1, 1) := by decide +kernel
theorem dL_law_304 : decode cL_law 304 = .ok (.aload_n 0, 1) := by decide +kernel
theorem dL_law_305 : decode cL_law 305 = .ok (.iload_n 3, 1) := by decide +kernel
theorem dL_law_306 : decode cL_law 306 = .ok (.iconst 1, 1) := by decide +kernel
theorem dL_law_307 : decode cL_law 307 = .ok (.iadd, 1) := by decide +kernel
theorem dL_law_308 : decode cL_law 308 = .ok (.iaload, 1) := by decide +kernel
theorem dL_law_309 : decode cL_law 309 = .ok (.invokevirtual 27, 3) := by decide +kernel
theorem dL_law_312 : decode cL_law 312 = .ok (.aload_n 2, 1) := by decide +kernel
theorem dL_law_313 : decode cL_law 313 = .ok (.aload_n 0, 1) := by decide +kernel
theorem dL_law_314 : decode cL_law 314 = .ok (.iload_n 3, 1) := by decide +kernel
theorem dL_law_315 : decode cL_law 315 = .ok (.iconst 1, 1) := by decide +kernel
theorem dL_law_316 : decode cL_law 316 = .ok (.iadd, 1) := by decide +kernel
theorem dL_law_317 : decode cL_law 317 = .ok (.iaload, 1) := by decide +kernel
theorem dL_law_318 : decode cL_law 318 = .ok (.invokevirtual 31, 3) := by decide +kernel
theorem dL_law_321 : decode cL_law 321 = .ok (.if_icmp .eq 824, 3) := by decide +kernel
theorem dL_law_324 : decode cL_law 324 = .ok (.iconst 0, 1) := by decide +kernel
theorem dL_law_325 : decode cL_law 325 = .ok (.ireturn, 1) := by decide +kernel
theorem dL_law_326 : decode cL_law 326 = .ok (.aload_n 1, 1) := by decide +kernel
theorem dL_law_327 : decode cL_law 327 = .ok (.aload_n 0, 1) := by decide +kernel
theorem dL_law_328 : decode cL_law 328 = .ok (.iload_n 3, 1) := by decide +kernel
theorem dL_law_329 : decode cL_law 329 = .ok (.iconst 1, 1) := by decide +kernel
theorem dL_law_330 : decode cL_law 330 = .ok (.iadd, 1) := by decide +kernel
theorem dL_law_331 : decode cL_law 331 = .ok (.iaload, 1) := by decide +kernel
theorem dL_law_332 : decode cL_law 332 = .ok (.aload_n 0, 1) := by decide +kernel
theorem dL_law_333 : decode cL_law 333 = .ok (.iload_n 3, 1) := by decide +kernel
theorem dL_law_334 : decode cL_law 334 = .ok (.iconst 2, 1) := by decide +kernel
theorem dL_law_335 : decode cL_law 335 = .ok (.iadd, 1) := by decide +kernel
theorem dL_law_336 : decode cL_law 336 = .ok (.iaload, 1) := by decide +kernel
theorem dL_law_337 : decode cL_law 337 = .ok (.ifCond .eq 7, 3) := by decide +kernel
theorem dL_law_340 : decode cL_law 340 = .ok (.iconst 1, 1) := by decide +kernel
theorem dL_law_341 : decode cL_law 341 = .ok (.goto 4, 3) := by decide +kernel
theorem dL_law_344 : decode cL_law 344 = .ok (.iconst 0, 1) := by decide +kernel
theorem dL_law_345 : decode cL_law 345 = .ok (.invokevirtual 32, 3) := by decide +kernel
theorem dL_law_348 : decode cL_law 348 = .ok (.aload_n 2, 1) := by decide +kernel
theorem dL_law_349 : decode cL_law 349 = .ok (.aload_n 0, 1) := by decide +kernel
theorem dL_law_350 : decode cL_law 350 = .ok (.iload_n 3, 1) := by decide +kernel
theorem dL_law_351 : decode cL_law 351 = .ok (.iconst 1, 1) := by decide +kernel
theorem dL_law_352 : decode cL_law 352 = .ok (.iadd, 1) := by decide +kernel
theorem dL_law_353 : decode cL_law 353 = .ok (.iaload, 1) := by decide +kernel
theorem dL_law_354 : decode cL_law 354 = .ok (.aload_n 0, 1) := by decide +kernel
theorem dL_law_355 : decode cL_law 355 = .ok (.iload_n 3, 1) := by decide +kernel
theorem dL_law_356 : decode cL_law 356 = .ok (.iconst 2, 1) := by decide +kernel
theorem dL_law_357 : decode cL_law 357 = .ok (.iadd, 1) := by decide +kernel
theorem dL_law_358 : decode cL_law 358 = .ok (.iaload, 1) := by decide +kernel
theorem dL_law_359 : decode cL_law 359 = .ok (.ifCond .eq 7, 3) := by decide +kernel
theorem dL_law_362 : decode cL_law 362 = .ok (.iconst 1, 1) := by decide +kernel
theorem dL_law_363 : decode cL_law 363 = .ok (.goto 4, 3) := by decide +kernel
theorem dL_law_366 : decode cL_law 366 = .ok (.iconst 0, 1) := by decide +kernel
theorem dL_law_367 : decode cL_law 367 = .ok (.invokevirtual 36, 3) := by decide +kernel
theorem dL_law_370 : decode cL_law 370 = .ok (.if_icmp .eq 775, 3) := by decide +kernel
theorem dL_law_373 : decode cL_law 373 = .ok (.iconst 0, 1) := by decide +kernel
theorem dL_law_374 : decode cL_law 374 = .ok (.ireturn, 1) := by decide +kernel
theorem dL_law_375 : decode cL_law 375 = .ok (.aload_n 1, 1) := by decide +kernel
theorem dL_law_376 : decode cL_law 376 = .ok (.aload_n 0, 1) := by decide +kernel
theorem dL_law_377 : decode cL_law 377 = .ok (.iload_n 3, 1) := by decide +kernel
theorem dL_law_378 : decode cL_law 378 = .ok (.iconst 1, 1) := by decide +kernel
theorem dL_law_379 : decode cL_law 379 = .ok (.iadd, 1) := by decide +kernel
theorem dL_law_380 : decode cL_law 380 = .ok (.iaload, 1) := by decide +kernel
theorem dL_law_381 : decode cL_law 381 = .ok (.invokevirtual 37, 3) := by decide +kernel
theorem dL_law_384 : decode cL_law 384 = .ok (.aload_n 2, 1) := by decide +kernel
theorem dL_law_385 : decode cL_law 385 = .ok (.aload_n 0, 1) := by decide +kernel
theorem dL_law_386 : decode cL_law 386 = .ok (.iload_n 3, 1) := by decide +kernel
theorem dL_law_387 : decode cL_law 387 = .ok (.iconst 1, 1) := by decide +kernel
theorem dL_law_388 : decode cL_law 388 = .ok (.iadd, 1) := by decide +kernel
theorem dL_law_389 : decode cL_law 389 = .ok (.iaload, 1) := by decide +kernel
theorem dL_law_390 : decode cL_law 390 = .ok (.invokevirtual 40, 3) := by decide +kernel
theorem dL_law_393 : decode cL_law 393 = .ok (.if_icmp .eq 752, 3) := by decide +kernel
theorem dL_law_396 : decode cL_law 396 = .ok (.iconst 0, 1) := by decide +kernel
theorem dL_law_397 : decode cL_law 397 = .ok (.ireturn, 1) := by decide +kernel
theorem dL_law_398 : decode cL_law 398 = .ok (.aload_n 1, 1) := by decide +kernel
theorem dL_law_399 : decode cL_law 399 = .ok (.aload_n 0, 1) := by decide +kernel
theorem dL_law_400 : decode cL_law 400 = .ok (.iload_n 3, 1) := by decide +kernel
theorem dL_law_401 : decode cL_law 401 = .ok (.iconst 1, 1) := by decide +kernel
theorem dL_law_402 : decode cL_law 402 = .ok (.iadd, 1) := by decide +kernel
theorem dL_law_403 : decode cL_law 403 = .ok (.iaload, 1) := by decide +kernel
theorem dL_law_404 : decode cL_law 404 = .ok (.aload_n 0, 1) := by decide +kernel
theorem dL_law_405 : decode cL_law 405 = .ok (.iload_n 3, 1) := by decide +kernel
theorem dL_law_406 : decode cL_law 406 = .ok (.iconst 2, 1) := by decide +kernel
theorem dL_law_407 : decode cL_law 407 = .ok (.iadd, 1) := by decide +kernel
theorem dL_law_408 : decode cL_law 408 = .ok (.iaload, 1) := by decide +kernel
theorem dL_law_409 : decode cL_law 409 = .ok (.invokevirtual 41, 3) := by decide +kernel
theorem dL_law_412 : decode cL_law 412 = .ok (.aload_n 2, 1) := by decide +kernel
theorem dL_law_413 : decode cL_law 413 = .ok (.aload_n 0, 1) := by decide +kernel
theorem dL_law_414 : decode cL_law 414 = .ok (.iload_n 3, 1) := by decide +kernel
theorem dL_law_415 : decode cL_law 415 = .ok (.iconst 1, 1) := by decide +kernel
theorem dL_law_416 : decode cL_law 416 = .ok (.iadd, 1) := by decide +kernel
theorem dL_law_417 : decode cL_law 417 = .ok (.iaload, 1) := by decide +kernel
theorem dL_law_418 : decode cL_law 418 = .ok (.aload_n 0, 1) := by decide +kernel
theorem dL_law_419 : decode cL_law 419 = .ok (.iload_n 3, 1) := by decide +kernel
theorem dL_law_420 : decode cL_law 420 = .ok (.iconst 2, 1) := by decide +kernel
theorem dL_law_421 : decode cL_law 421 = .ok (.iadd, 1) := by decide +kernel
theorem dL_law_422 : decode cL_law 422 = .ok (.iaload, 1) := by decide +kernel
theorem dL_law_423 : decode cL_law 423 = .ok (.invokevirtual 44, 3) := by decide +kernel
theorem dL_law_426 : decode cL_law 426 = .ok (.if_icmp .eq 719, 3) := by decide +kernel
theorem dL_law_429 : decode cL_law 429 = .ok (.iconst 0, 1) := by decide +kernel
theorem dL_law_430 : decode cL_law 430 = .ok (.ireturn, 1) := by decide +kernel
theorem dL_law_431 : decode cL_law 431 = .ok (.aload_n 1, 1) := by decide +kernel
theorem dL_law_432 : decode cL_law 432 = .ok (.aload_n 0, 1) := by decide +kernel
theorem dL_law_433 : decode cL_law 433 = .ok (.iload_n 3, 1) := by decide +kernel
theorem dL_law_434 : decode cL_law 434 = .ok (.iconst 1, 1) := by decide +kernel
theorem dL_law_435 : decode cL_law 435 = .ok (.iadd, 1) := by decide +kernel
theorem dL_law_436 : decode cL_law 436 = .ok (.iaload, 1) := by decide +kernel
theorem dL_law_437 : decode cL_law 437 = .ok (.aload_n 0, 1) := by decide +kernel
theorem dL_law_438 : decode cL_law 438 = .ok (.iload_n 3, 1) := by decide +kernel
theorem dL_law_439 : decode cL_law 439 = .ok (.iconst 2, 1) := by decide +kernel
theorem dL_law_440 : decode cL_law 440 = .ok (.iadd, 1) := by decide +kernel
theorem dL_law_441 : decode cL_law 441 = .ok (.iaload, 1) := by decide +kernel
theorem dL_law_442 : decode cL_law 442 = .ok (.invokevirtual 45, 3) := by decide +kernel
theorem dL_law_445 : decode cL_law 445 = .ok (.aload_n 2, 1) := by decide +kernel
theorem dL_law_446 : decode cL_law 446 = .ok (.aload_n 0, 1) := by decide +kernel
theorem dL_law_447 : decode cL_law 447 = .ok (.iload_n 3, 1) := by decide +kernel
theorem dL_law_448 : decode cL_law 448 = .ok (.iconst 1, 1) := by decide +kernel
theorem dL_law_449 : decode cL_law 449 = .ok (.iadd, 1) := by decide +kernel
theorem dL_law_450 : decode cL_law 450 = .ok (.iaload, 1) := by decide +kernel
theorem dL_law_451 : decode cL_law 451 = .ok (.aload_n 0, 1) := by decide +kernel
theorem dL_law_452 : decode cL_law 452 = .ok (.iload_n 3, 1) := by decide +kernel
theorem dL_law_453 : decode cL_law 453 = .ok (.iconst 2, 1) := by decide +kernel
theorem dL_law_454 : decode cL_law 454 = .ok (.iadd, 1) := by decide +kernel
theorem dL_law_455 : decode cL_law 455 = .ok (.iaload, 1) := by decide +kernel
theorem dL_law_456 : decode cL_law 456 = .ok (.invokevirtual 48, 3) := by decide +kernel
theorem dL_law_459 : decode cL_law 459 = .ok (.if_icmp .eq 686, 3) := by decide +kernel
theorem dL_law_462 : decode cL_law 462 = .ok (.iconst 0, 1) := by decide +kernel
theorem dL_law_463 : decode cL_law 463 = .ok (.ireturn, 1) := by decide +kernel
theorem dL_law_464 : decode cL_law 464 = .ok (.aload_n 1, 1) := by decide +kernel
theorem dL_law_465 : decode cL_law 465 = .ok (.aload_n 0, 1) := by decide +kernel
theorem dL_law_466 : decode cL_law 466 = .ok (.iload_n 3, 1) := by decide +kernel
theorem dL_law_467 : decode cL_law 467 = .ok (.iconst 1, 1) := by decide +kernel
theorem dL_law_468 : decode cL_law 468 = .ok (.iadd, 1) := by decide +kernel
theorem dL_law_469 : decode cL_law 469 = .ok (.iaload, 1) := by decide +kernel
theorem dL_law_470 : decode cL_law 470 = .ok (.aload_n 0, 1) := by decide +kernel
theorem dL_law_471 : decode cL_law 471 = .ok (.iload_n 3, 1) := by decide +kernel
theorem dL_law_472 : decode cL_law 472 = .ok (.iconst 2, 1) := by decide +kernel
theorem dL_law_473 : decode cL_law 473 = .ok (.iadd, 1) := by decide +kernel
theorem dL_law_474 : decode cL_law 474 = .ok (.iaload, 1) := by decide +kernel
theorem dL_law_475 : decode cL_law 475 = .ok (.aload_n 0, 1) := by decide +kernel
theorem dL_law_476 : decode cL_law 476 = .ok (.iload_n 3, 1) := by decide +kernel
theorem dL_law_477 : decode cL_law 477 = .ok (.iconst 3, 1) := by decide +kernel
theorem dL_law_478 : decode cL_law 478 = .ok (.iadd, 1) := by decide +kernel
theorem dL_law_479 : decode cL_law 479 = .ok (.iaload, 1) := by decide +kernel
theorem dL_law_480 : decode cL_law 480 = .ok (.invokevirtual 49, 3) := by decide +kernel
theorem dL_law_483 : decode cL_law 483 = .ok (.aload_n 2, 1) := by decide +kernel
theorem dL_law_484 : decode cL_law 484 = .ok (.aload_n 0, 1) := by decide +kernel
theorem dL_law_485 : decode cL_law 485 = .ok (.iload_n 3, 1) := by decide +kernel
theorem dL_law_486 : decode cL_law 486 = .ok (.iconst 1, 1) := by decide +kernel
theorem dL_law_487 : decode cL_law 487 = .ok (.iadd, 1) := by decide +kernel
theorem dL_law_488 : decode cL_law 488 = .ok (.iaload, 1) := by decide +kernel
theorem dL_law_489 : decode cL_law 489 = .ok (.aload_n 0, 1) := by decide +kernel
theorem dL_law_490 : decode cL_law 490 = .ok (.iload_n 3, 1) := by decide +kernel
theorem dL_law_491 : decode cL_law 491 = .ok (.iconst 2, 1) := by decide +kernel
theorem dL_law_492 : decode cL_law 492 = .ok (.iadd, 1) := by decide +kernel
theorem dL_law_493 : decode cL_law 493 = .ok (.iaload, 1) := by decide +kernel
theorem dL_law_494 : decode cL_law 494 = .ok (.aload_n 0, 1) := by decide +kernel
theorem dL_law_495 : decode cL_law 495 = .ok (.iload_n 3, 1) := by decide +kernel
theorem dL_law_496 : decode cL_law 496 = .ok (.iconst 3, 1) := by decide +kernel
theorem dL_law_497 : decode cL_law 497 = .ok (.iadd, 1) := by decide +kernel
theorem dL_law_498 : decode cL_law 498 = .ok (.iaload, 1) := by decide +kernel
theorem dL_law_499 : decode cL_law 499 = .ok (.invokevirtual 53, 3) := by decide +kernel
theorem dL_law_502 : decode cL_law 502 = .ok (.if_icmp .eq 643, 3) := by decide +kernel
theorem dL_law_505 : decode cL_law 505 = .ok (.iconst 0, 1) := by decide +kernel
theorem dL_law_506 : decode cL_law 506 = .ok (.ireturn, 1) := by decide +kernel
theorem dL_law_507 : decode cL_law 507 = .ok (.aload_n 1, 1) := by decide +kernel
theorem dL_law_508 : decode cL_law 508 = .ok (.aload_n 0, 1) := by decide +kernel
theorem dL_law_509 : decode cL_law 509 = .ok (.iload_n 3, 1) := by decide +kernel
theorem dL_law_510 : decode cL_law 510 = .ok (.iconst 1, 1) := by decide +kernel
theorem dL_law_511 : decode cL_law 511 = .ok (.iadd, 1) := by decide +kernel
theorem dL_law_512 : decode cL_law 512 = .ok (.iaload, 1) := by decide +kernel
theorem dL_law_513 : decode cL_law 513 = .ok (.invokevirtual 54, 3) := by decide +kernel
theorem dL_law_516 : decode cL_law 516 = .ok (.aload_n 2, 1) := by decide +kernel
theorem dL_law_517 : decode cL_law 517 = .ok (.aload_n 0, 1) := by decide +kernel
theorem dL_law_518 : decode cL_law 518 = .ok (.iload_n 3, 1) := by decide +kernel
theorem dL_law_519 : decode cL_law 519 = .ok (.iconst 1, 1) := by decide +kernel
theorem dL_law_520 : decode cL_law 520 = .ok (.iadd, 1) := by decide +kernel
theorem dL_law_521 : decode cL_law 521 = .ok (.iaload, 1) := by decide +kernel
theorem dL_law_522 : decode cL_law 522 = .ok (.invokevirtual 57, 3) := by decide +kernel
theorem dL_law_525 : decode cL_law 525 = .ok (.if_icmp .eq 620, 3) := by decide +kernel
theorem dL_law_528 : decode cL_law 528 = .ok (.iconst 0, 1) := by decide +kernel
theorem dL_law_529 : decode cL_law 529 = .ok (.ireturn, 1) := by decide +kernel
theorem dL_law_530 : decode cL_law 530 = .ok (.aload_n 1, 1) := by decide +kernel
theorem dL_law_531 : decode cL_law 531 = .ok (.aload_n 0, 1) := by decide +kernel
theorem dL_law_532 : decode cL_law 532 = .ok (.iload_n 3, 1) := by decide +kernel
theorem dL_law_533 : decode cL_law 533 = .ok (.iconst 1, 1) := by decide +kernel
theorem dL_law_534 : decode cL_law 534 = .ok (.iadd, 1) := by decide +kernel
theorem dL_law_535 : decode cL_law 535 = .ok (.iaload, 1) := by decide +kernel
theorem dL_law_536 : decode cL_law 536 = .ok (.invokevirtual 58, 3) := by decide +kernel
theorem dL_law_539 : decode cL_law 539 = .ok (.aload_n 2, 1) := by decide +kernel
theorem dL_law_540 : decode cL_law 540 = .ok (.aload_n 0, 1) := by decide +kernel
theorem dL_law_541 : decode cL_law 541 = .ok (.iload_n 3, 1) := by decide +kernel
theorem dL_law_542 : decode cL_law 542 = .ok (.iconst 1, 1) := by decide +kernel
theorem dL_law_543 : decode cL_law 543 = .ok (.iadd, 1) := by decide +kernel
theorem dL_law_544 : decode cL_law 544 = .ok (.iaload, 1) := by decide +kernel
theorem dL_law_545 : decode cL_law 545 = .ok (.invokevirtual 61, 3) := by decide +kernel
theorem dL_law_548 : decode cL_law 548 = .ok (.if_icmp .eq 597, 3) := by decide +kernel
theorem dL_law_551 : decode cL_law 551 = .ok (.iconst 0, 1) := by decide +kernel
theorem dL_law_552 : decode cL_law 552 = .ok (.ireturn, 1) := by decide +kernel
theorem dL_law_553 : decode cL_law 553 = .ok (.aload_n 1, 1) := by decide +kernel
theorem dL_law_554 : decode cL_law 554 = .ok (.aload_n 0, 1) := by decide +kernel
theorem dL_law_555 : decode cL_law 555 = .ok (.iload_n 3, 1) := by decide +kernel
theorem dL_law_556 : decode cL_law 556 = .ok (.iconst 1, 1) := by decide +kernel
theorem dL_law_557 : decode cL_law 557 = .ok (.iadd, 1) := by decide +kernel
theorem dL_law_558 : decode cL_law 558 = .ok (.iaload, 1) := by decide +kernel
theorem dL_law_559 : decode cL_law 559 = .ok (.aload_n 0, 1) := by decide +kernel
theorem dL_law_560 : decode cL_law 560 = .ok (.iload_n 3, 1) := by decide +kernel
theorem dL_law_561 : decode cL_law 561 = .ok (.iconst 2, 1) := by decide +kernel
theorem dL_law_562 : decode cL_law 562 = .ok (.iadd, 1) := by decide +kernel
theorem dL_law_563 : decode cL_law 563 = .ok (.iaload, 1) := by decide +kernel
theorem dL_law_564 : decode cL_law 564 = .ok (.aload_n 0, 1) := by decide +kernel
theorem dL_law_565 : decode cL_law 565 = .ok (.iload_n 3, 1) := by decide +kernel
theorem dL_law_566 : decode cL_law 566 = .ok (.iconst 3, 1) := by decide +kernel
theorem dL_law_567 : decode cL_law 567 = .ok (.iadd, 1) := by decide +kernel
theorem dL_law_568 : decode cL_law 568 = .ok (.iaload, 1) := by decide +kernel
theorem dL_law_569 : decode cL_law 569 = .ok (.invokevirtual 62, 3) := by decide +kernel
theorem dL_law_572 : decode cL_law 572 = .ok (.aload_n 2, 1) := by decide +kernel
theorem dL_law_573 : decode cL_law 573 = .ok (.aload_n 0, 1) := by decide +kernel
theorem dL_law_574 : decode cL_law 574 = .ok (.iload_n 3, 1) := by decide +kernel
theorem dL_law_575 : decode cL_law 575 = .ok (.iconst 1, 1) := by decide +kernel
theorem dL_law_576 : decode cL_law 576 = .ok (.iadd, 1) := by decide +kernel
theorem dL_law_577 : decode cL_law 577 = .ok (.iaload, 1) := by decide +kernel
theorem dL_law_578 : decode cL_law 578 = .ok (.aload_n 0, 1) := by decide +kernel
theorem dL_law_579 : decode cL_law 579 = .ok (.iload_n 3, 1) := by decide +kernel
theorem dL_law_580 : decode cL_law 580 = .ok (.iconst 2, 1) := by decide +kernel
theorem dL_law_581 : decode cL_law 581 = .ok (.iadd, 1) := by decide +kernel
theorem dL_law_582 : decode cL_law 582 = .ok (.iaload, 1) := by decide +kernel
theorem dL_law_583 : decode cL_law 583 = .ok (.aload_n 0, 1) := by decide +kernel
theorem dL_law_584 : decode cL_law 584 = .ok (.iload_n 3, 1) := by decide +kernel
theorem dL_law_585 : decode cL_law 585 = .ok (.iconst 3, 1) := by decide +kernel
theorem dL_law_586 : decode cL_law 586 = .ok (.iadd, 1) := by decide +kernel
theorem dL_law_587 : decode cL_law 587 = .ok (.iaload, 1) := by decide +kernel
theorem dL_law_588 : decode cL_law 588 = .ok (.invokevirtual 65, 3) := by decide +kernel
theorem dL_law_591 : decode cL_law 591 = .ok (.if_icmp .eq 554, 3) := by decide +kernel
theorem dL_law_594 : decode cL_law 594 = .ok (.iconst 0, 1) := by decide +kernel
theorem dL_law_595 : decode cL_law 595 = .ok (.ireturn, 1) := by decide +kernel
theorem dL_law_596 : decode cL_law 596 = .ok (.aload_n 1, 1) := by decide +kernel
theorem dL_law_597 : decode cL_law 597 = .ok (.aload_n 0, 1) := by decide +kernel
theorem dL_law_598 : decode cL_law 598 = .ok (.iload_n 3, 1) := by decide +kernel
theorem dL_law_599 : decode cL_law 599 = .ok (.iconst 1, 1) := by decide +kernel
theorem dL_law_600 : decode cL_law 600 = .ok (.iadd, 1) := by decide +kernel
theorem dL_law_601 : decode cL_law 601 = .ok (.iaload, 1) := by decide +kernel
theorem dL_law_602 : decode cL_law 602 = .ok (.aload_n 0, 1) := by decide +kernel
theorem dL_law_603 : decode cL_law 603 = .ok (.iload_n 3, 1) := by decide +kernel
theorem dL_law_604 : decode cL_law 604 = .ok (.iconst 2, 1) := by decide +kernel
theorem dL_law_605 : decode cL_law 605 = .ok (.iadd, 1) := by decide +kernel
theorem dL_law_606 : decode cL_law 606 = .ok (.iaload, 1) := by decide +kernel
theorem dL_law_607 : decode cL_law 607 = .ok (.aload_n 0, 1) := by decide +kernel
theorem dL_law_608 : decode cL_law 608 = .ok (.iload_n 3, 1) := by decide +kernel
theorem dL_law_609 : decode cL_law 609 = .ok (.iconst 3, 1) := by decide +kernel
theorem dL_law_610 : decode cL_law 610 = .ok (.iadd, 1) := by decide +kernel
theorem dL_law_611 : decode cL_law 611 = .ok (.iaload, 1) := by decide +kernel
theorem dL_law_612 : decode cL_law 612 = .ok (.invokevirtual 66, 3) := by decide +kernel
theorem dL_law_615 : decode cL_law 615 = .ok (.aload_n 2, 1) := by decide +kernel
theorem dL_law_616 : decode cL_law 616 = .ok (.aload_n 0, 1) := by decide +kernel
theorem dL_law_617 : decode cL_law 617 = .ok (.iload_n 3, 1) := by decide +kernel
theorem dL_law_618 : decode cL_law 618 = .ok (.iconst 1, 1) := by decide +kernel
theorem dL_law_619 : decode cL_law 619 = .ok (.iadd, 1) := by decide +kernel
theorem dL_law_620 : decode cL_law 620 = .ok (.iaload, 1) := by decide +kernel
theorem dL_law_621 : decode cL_law 621 = .ok (.aload_n 0, 1) := by decide +kernel
theorem dL_law_622 : decode cL_law 622 = .ok (.iload_n 3, 1) := by decide +kernel
theorem dL_law_623 : decode cL_law 623 = .ok (.iconst 2, 1) := by decide +kernel
theorem dL_law_624 : decode cL_law 624 = .ok (.iadd, 1) := by decide +kernel
theorem dL_law_625 : decode cL_law 625 = .ok (.iaload, 1) := by decide +kernel
theorem dL_law_626 : decode cL_law 626 = .ok (.aload_n 0, 1) := by decide +kernel
theorem dL_law_627 : decode cL_law 627 = .ok (.iload_n 3, 1) := by decide +kernel
theorem dL_law_628 : decode cL_law 628 = .ok (.iconst 3, 1) := by decide +kernel
theorem dL_law_629 : decode cL_law 629 = .ok (.iadd, 1) := by decide +kernel
theorem dL_law_630 : decode cL_law 630 = .ok (.iaload, 1) := by decide +kernel
theorem dL_law_631 : decode cL_law 631 = .ok (.invokevirtual 70, 3) := by decide +kernel
theorem dL_law_634 : decode cL_law 634 = .ok (.lcmp, 1) := by decide +kernel
theorem dL_law_635 : decode cL_law 635 = .ok (.ifCond .eq 510, 3) := by decide +kernel
theorem dL_law_638 : decode cL_law 638 = .ok (.iconst 0, 1) := by decide +kernel
theorem dL_law_639 : decode cL_law 639 = .ok (.ireturn, 1) := by decide +kernel
theorem dL_law_640 : decode cL_law 640 = .ok (.aload_n 1, 1) := by decide +kernel
theorem dL_law_641 : decode cL_law 641 = .ok (.aload_n 0, 1) := by decide +kernel
theorem dL_law_642 : decode cL_law 642 = .ok (.iload_n 3, 1) := by decide +kernel
theorem dL_law_643 : decode cL_law 643 = .ok (.iconst 1, 1) := by decide +kernel
theorem dL_law_644 : decode cL_law 644 = .ok (.iadd, 1) := by decide +kernel
theorem dL_law_645 : decode cL_law 645 = .ok (.iaload, 1) := by decide +kernel
theorem dL_law_646 : decode cL_law 646 = .ok (.aload_n 0, 1) := by decide +kernel
theorem dL_law_647 : decode cL_law 647 = .ok (.iload_n 3, 1) := by decide +kernel
theorem dL_law_648 : decode cL_law 648 = .ok (.iconst 2, 1) := by decide +kernel
theorem dL_law_649 : decode cL_law 649 = .ok (.iadd, 1) := by decide +kernel
theorem dL_law_650 : decode cL_law 650 = .ok (.iaload, 1) := by decide +kernel
theorem dL_law_651 : decode cL_law 651 = .ok (.aload_n 0, 1) := by decide +kernel
theorem dL_law_652 : decode cL_law 652 = .ok (.iload_n 3, 1) := by decide +kernel
theorem dL_law_653 : decode cL_law 653 = .ok (.iconst 3, 1) := by decide +kernel
theorem dL_law_654 : decode cL_law 654 = .ok (.iadd, 1) := by decide +kernel
theorem dL_law_655 : decode cL_law 655 = .ok (.iaload, 1) := by decide +kernel
theorem dL_law_656 : decode cL_law 656 = .ok (.ifCond .eq 7, 3) := by decide +kernel
theorem dL_law_659 : decode cL_law 659 = .ok (.iconst 1, 1) := by decide +kernel
theorem dL_law_660 : decode cL_law 660 = .ok (.goto 4, 3) := by decide +kernel
theorem dL_law_663 : decode cL_law 663 = .ok (.iconst 0, 1) := by decide +kernel
theorem dL_law_664 : decode cL_law 664 = .ok (.invokevirtual 71, 3) := by decide +kernel
theorem dL_law_667 : decode cL_law 667 = .ok (.aload_n 2, 1) := by decide +kernel
theorem dL_law_668 : decode cL_law 668 = .ok (.aload_n 0, 1) := by decide +kernel
theorem dL_law_669 : decode cL_law 669 = .ok (.iload_n 3, 1) := by decide +kernel
theorem dL_law_670 : decode cL_law 670 = .ok (.iconst 1, 1) := by decide +kernel
theorem dL_law_671 : decode cL_law 671 = .ok (.iadd, 1) := by decide +kernel
theorem dL_law_672 : decode cL_law 672 = .ok (.iaload, 1) := by decide +kernel
theorem dL_law_673 : decode cL_law 673 = .ok (.aload_n 0, 1) := by decide +kernel
theorem dL_law_674 : decode cL_law 674 = .ok (.iload_n 3, 1) := by decide +kernel
theorem dL_law_675 : decode cL_law 675 = .ok (.iconst 2, 1) := by decide +kernel
theorem dL_law_676 : decode cL_law 676 = .ok (.iadd, 1) := by decide +kernel
theorem dL_law_677 : decode cL_law 677 = .ok (.iaload, 1) := by decide +kernel
theorem dL_law_678 : decode cL_law 678 = .ok (.aload_n 0, 1) := by decide +kernel
theorem dL_law_679 : decode cL_law 679 = .ok (.iload_n 3, 1) := by decide +kernel
theorem dL_law_680 : decode cL_law 680 = .ok (.iconst 3, 1) := by decide +kernel
theorem dL_law_681 : decode cL_law 681 = .ok (.iadd, 1) := by decide +kernel
theorem dL_law_682 : decode cL_law 682 = .ok (.iaload, 1) := by decide +kernel
theorem dL_law_683 : decode cL_law 683 = .ok (.ifCond .eq 7, 3) := by decide +kernel
theorem dL_law_686 : decode cL_law 686 = .ok (.iconst 1, 1) := by decide +kernel
theorem dL_law_687 : decode cL_law 687 = .ok (.goto 4, 3) := by decide +kernel
theorem dL_law_690 : decode cL_law 690 = .ok (.iconst 0, 1) := by decide +kernel
theorem dL_law_691 : decode cL_law 691 = .ok (.invokevirtual 75, 3) := by decide +kernel
theorem dL_law_694 : decode cL_law 694 = .ok (.if_icmp .eq 451, 3) := by decide +kernel
theorem dL_law_697 : decode cL_law 697 = .ok (.iconst 0, 1) := by decide +kernel
theorem dL_law_698 : decode cL_law 698 = .ok (.ireturn, 1) := by decide +kernel
theorem dL_law_699 : decode cL_law 699 = .ok (.aload_n 1, 1) := by decide +kernel
theorem dL_law_700 : decode cL_law 700 = .ok (.aload_n 0, 1) := by decide +kernel
theorem dL_law_701 : decode cL_law 701 = .ok (.iload_n 3, 1) := by decide +kernel
theorem dL_law_702 : decode cL_law 702 = .ok (.iconst 1, 1) := by decide +kernel
theorem dL_law_703 : decode cL_law 703 = .ok (.iadd, 1) := by decide +kernel
theorem dL_law_704 : decode cL_law 704 = .ok (.iaload, 1) := by decide +kernel
theorem dL_law_705 : decode cL_law 705 = .ok (.invokevirtual 76, 3) := by decide +kernel
theorem dL_law_708 : decode cL_law 708 = .ok (.aload_n 2, 1) := by decide +kernel
theorem dL_law_709 : decode cL_law 709 = .ok (.aload_n 0, 1) := by decide +kernel
theorem dL_law_710 : decode cL_law 710 = .ok (.iload_n 3, 1) := by decide +kernel
theorem dL_law_711 : decode cL_law 711 = .ok (.iconst 1, 1) := by decide +kernel
theorem dL_law_712 : decode cL_law 712 = .ok (.iadd, 1) := by decide +kernel
theorem dL_law_713 : decode cL_law 713 = .ok (.iaload, 1) := by decide +kernel
theorem dL_law_714 : decode cL_law 714 = .ok (.invokevirtual 79, 3) := by decide +kernel
theorem dL_law_717 : decode cL_law 717 = .ok (.if_icmp .eq 428, 3) := by decide +kernel
theorem dL_law_720 : decode cL_law 720 = .ok (.iconst 0, 1) := by decide +kernel
theorem dL_law_721 : decode cL_law 721 = .ok (.ireturn, 1) := by decide +kernel
theorem dL_law_722 : decode cL_law 722 = .ok (.aload_n 1, 1) := by decide +kernel
theorem dL_law_723 : decode cL_law 723 = .ok (.invokevirtual 80, 3) := by decide +kernel
theorem dL_law_726 : decode cL_law 726 = .ok (.aload_n 2, 1) := by decide +kernel
theorem dL_law_727 : decode cL_law 727 = .ok (.invokevirtual 84, 3) := by decide +kernel
theorem dL_law_730 : decode cL_law 730 = .ok (.if_icmp .eq 415, 3) := by decide +kernel
theorem dL_law_733 : decode cL_law 733 = .ok (.iconst 0, 1) := by decide +kernel
theorem dL_law_734 : decode cL_law 734 = .ok (.ireturn, 1) := by decide +kernel
theorem dL_law_735 : decode cL_law 735 = .ok (.aload_n 1, 1) := by decide +kernel
theorem dL_law_736 : decode cL_law 736 = .ok (.invokevirtual 85, 3) := by decide +kernel
theorem dL_law_739 : decode cL_law 739 = .ok (.aload_n 2, 1) := by decide +kernel
theorem dL_law_740 : decode cL_law 740 = .ok (.invokevirtual 88, 3) := by decide +kernel
theorem dL_law_743 : decode cL_law 743 = .ok (.if_icmp .eq 402, 3) := by decide +kernel
theorem dL_law_746 : decode cL_law 746 = .ok (.iconst 0, 1) := by decide +kernel
theorem dL_law_747 : decode cL_law 747 = .ok (.ireturn, 1) := by decide +kernel
theorem dL_law_748 : decode cL_law 748 = .ok (.aload_n 1, 1) := by decide +kernel
theorem dL_law_749 : decode cL_law 749 = .ok (.aload_n 0, 1) := by decide +kernel
theorem dL_law_750 : decode cL_law 750 = .ok (.iload_n 3, 1) := by decide +kernel
theorem dL_law_751 : decode cL_law 751 = .ok (.iconst 1, 1) := by decide +kernel
theorem dL_law_752 : decode cL_law 752 = .ok (.iadd, 1) := by decide +kernel
theorem dL_law_753 : decode cL_law 753 = .ok (.iaload, 1) := by decide +kernel
theorem dL_law_754 : decode cL_law 754 = .ok (.aload_n 0, 1) := by decide +kernel
theorem dL_law_755 : decode cL_law 755 = .ok (.iload_n 3, 1) := by decide +kernel
theorem dL_law_756 : decode cL_law 756 = .ok (.iconst 2, 1) := by decide +kernel
theorem dL_law_757 : decode cL_law 757 = .ok (.iadd, 1) := by decide +kernel
theorem dL_law_758 : decode cL_law 758 = .ok (.iaload, 1) := by decide +kernel
theorem dL_law_759 : decode cL_law 759 = .ok (.aload_n 0, 1) := by decide +kernel
theorem dL_law_760 : decode cL_law 760 = .ok (.iload_n 3, 1) := by decide +kernel
theorem dL_law_761 : decode cL_law 761 = .ok (.iconst 3, 1) := by decide +kernel
theorem dL_law_762 : decode cL_law 762 = .ok (.iadd, 1) := by decide +kernel
theorem dL_law_763 : decode cL_law 763 = .ok (.iaload, 1) := by decide +kernel
theorem dL_law_764 : decode cL_law 764 = .ok (.aload_n 0, 1) := by decide +kernel
theorem dL_law_765 : decode cL_law 765 = .ok (.iload_n 3, 1) := by decide +kernel
theorem dL_law_766 : decode cL_law 766 = .ok (.iconst 4, 1) := by decide +kernel
theorem dL_law_767 : decode cL_law 767 = .ok (.iadd, 1) := by decide +kernel
theorem dL_law_768 : decode cL_law 768 = .ok (.iaload, 1) := by decide +kernel
theorem dL_law_769 : decode cL_law 769 = .ok (.invokevirtual 89, 3) := by decide +kernel
theorem dL_law_772 : decode cL_law 772 = .ok (.aload_n 2, 1) := by decide +kernel
theorem dL_law_773 : decode cL_law 773 = .ok (.aload_n 0, 1) := by decide +kernel
theorem dL_law_774 : decode cL_law 774 = .ok (.iload_n 3, 1) := by decide +kernel
theorem dL_law_775 : decode cL_law 775 = .ok (.iconst 1, 1) := by decide +kernel
theorem dL_law_776 : decode cL_law 776 = .ok (.iadd, 1) := by decide +kernel
theorem dL_law_777 : decode cL_law 777 = .ok (.iaload, 1) := by decide +kernel
theorem dL_law_778 : decode cL_law 778 = .ok (.aload_n 0, 1) := by decide +kernel
theorem dL_law_779 : decode cL_law 779 = .ok (.iload_n 3, 1) := by decide +kernel
theorem dL_law_780 : decode cL_law 780 = .ok (.iconst 2, 1) := by decide +kernel
theorem dL_law_781 : decode cL_law 781 = .ok (.iadd, 1) := by decide +kernel
theorem dL_law_782 : decode cL_law 782 = .ok (.iaload, 1) := by decide +kernel
theorem dL_law_783 : decode cL_law 783 = .ok (.aload_n 0, 1) := by decide +kernel
theorem dL_law_784 : decode cL_law 784 = .ok (.iload_n 3, 1) := by decide +kernel
theorem dL_law_785 : decode cL_law 785 = .ok (.iconst 3, 1) := by decide +kernel
theorem dL_law_786 : decode cL_law 786 = .ok (.iadd, 1) := by decide +kernel
theorem dL_law_787 : decode cL_law 787 = .ok (.iaload, 1) := by decide +kernel
theorem dL_law_788 : decode cL_law 788 = .ok (.aload_n 0, 1) := by decide +kernel
theorem dL_law_789 : decode cL_law 789 = .ok (.iload_n 3, 1) := by decide +kernel
theorem dL_law_790 : decode cL_law 790 = .ok (.iconst 4, 1) := by decide +kernel
theorem dL_law_791 : decode cL_law 791 = .ok (.iadd, 1) := by decide +kernel
theorem dL_law_792 : decode cL_law 792 = .ok (.iaload, 1) := by decide +kernel
theorem dL_law_793 : decode cL_law 793 = .ok (.invokevirtual 92, 3) := by decide +kernel
theorem dL_law_796 : decode cL_law 796 = .ok (.if_icmp .eq 349, 3) := by decide +kernel
theorem dL_law_799 : decode cL_law 799 = .ok (.iconst 0, 1) := by decide +kernel
theorem dL_law_800 : decode cL_law 800 = .ok (.ireturn, 1) := by decide +kernel
theorem dL_law_801 : decode cL_law 801 = .ok (.aload_n 1, 1) := by decide +kernel
theorem dL_law_802 : decode cL_law 802 = .ok (.aload_n 0, 1) := by decide +kernel
theorem dL_law_803 : decode cL_law 803 = .ok (.iload_n 3, 1) := by decide +kernel
theorem dL_law_804 : decode cL_law 804 = .ok (.iconst 1, 1) := by decide +kernel
theorem dL_law_805 : decode cL_law 805 = .ok (.iadd, 1) := by decide +kernel
theorem dL_law_806 : decode cL_law 806 = .ok (.iaload, 1) := by decide +kernel
theorem dL_law_807 : decode cL_law 807 = .ok (.aload_n 0, 1) := by decide +kernel
theorem dL_law_808 : decode cL_law 808 = .ok (.iload_n 3, 1) := by decide +kernel
theorem dL_law_809 : decode cL_law 809 = .ok (.iconst 2, 1) := by decide +kernel
theorem dL_law_810 : decode cL_law 810 = .ok (.iadd, 1) := by decide +kernel
theorem dL_law_811 : decode cL_law 811 = .ok (.iaload, 1) := by decide +kernel
theorem dL_law_812 : decode cL_law 812 = .ok (.aload_n 0, 1) := by decide +kernel
theorem dL_law_813 : decode cL_law 813 = .ok (.iload_n 3, 1) := by decide +kernel
theorem dL_law_814 : decode cL_law 814 = .ok (.iconst 3, 1) := by decide +kernel
theorem dL_law_815 : decode cL_law 815 = .ok (.iadd, 1) := by decide +kernel
theorem dL_law_816 : decode cL_law 816 = .ok (.iaload, 1) := by decide +kernel
theorem dL_law_817 : decode cL_law 817 = .ok (.invokevirtual 93, 3) := by decide +kernel
theorem dL_law_820 : decode cL_law 820 = .ok (.aload_n 2, 1) := by decide +kernel
theorem dL_law_821 : decode cL_law 821 = .ok (.aload_n 0, 1) := by decide +kernel
theorem dL_law_822 : decode cL_law 822 = .ok (.iload_n 3, 1) := by decide +kernel
theorem dL_law_823 : decode cL_law 823 = .ok (.iconst 1, 1) := by decide +kernel
theorem dL_law_824 : decode cL_law 824 = .ok (.iadd, 1) := by decide +kernel
theorem dL_law_825 : decode cL_law 825 = .ok (.iaload, 1) := by decide +kernel
theorem dL_law_826 : decode cL_law 826 = .ok (.aload_n 0, 1) := by decide +kernel
theorem dL_law_827 : decode cL_law 827 = .ok (.iload_n 3, 1) := by decide +kernel
theorem dL_law_828 : decode cL_law 828 = .ok (.iconst 2, 1) := by decide +kernel
theorem dL_law_829 : decode cL_law 829 = .ok (.iadd, 1) := by decide +kernel
theorem dL_law_830 : decode cL_law 830 = .ok (.iaload, 1) := by decide +kernel
theorem dL_law_831 : decode cL_law 831 = .ok (.aload_n 0, 1) := by decide +kernel
theorem dL_law_832 : decode cL_law 832 = .ok (.iload_n 3, 1) := by decide +kernel
theorem dL_law_833 : decode cL_law 833 = .ok (.iconst 3, 1) := by decide +kernel
theorem dL_law_834 : decode cL_law 834 = .ok (.iadd, 1) := by decide +kernel
theorem dL_law_835 : decode cL_law 835 = .ok (.iaload, 1) := by decide +kernel
theorem dL_law_836 : decode cL_law 836 = .ok (.invokevirtual 96, 3) := by decide +kernel
theorem dL_law_839 : decode cL_law 839 = .ok (.if_icmp .eq 306, 3) := by decide +kernel
theorem dL_law_842 : decode cL_law 842 = .ok (.iconst 0, 1) := by decide +kernel
theorem dL_law_843 : decode cL_law 843 = .ok (.ireturn, 1) := by decide +kernel
theorem dL_law_844 : decode cL_law 844 = .ok (.aload_n 1, 1) := by decide +kernel
theorem dL_law_845 : decode cL_law 845 = .ok (.aload_n 0, 1) := by decide +kernel
theorem dL_law_846 : decode cL_law 846 = .ok (.iload_n 3, 1) := by decide +kernel
theorem dL_law_847 : decode cL_law 847 = .ok (.iconst 1, 1) := by decide +kernel
theorem dL_law_848 : decode cL_law 848 = .ok (.iadd, 1) := by decide +kernel
theorem dL_law_849 : decode cL_law 849 = .ok (.iaload, 1) := by decide +kernel
theorem dL_law_850 : decode cL_law 850 = .ok (.invokevirtual 97, 3) := by decide +kernel
theorem dL_law_853 : decode cL_law 853 = .ok (.aload_n 2, 1) := by decide +kernel
theorem dL_law_854 : decode cL_law 854 = .ok (.aload_n 0, 1) := by decide +kernel
theorem dL_law_855 : decode cL_law 855 = .ok (.iload_n 3, 1) := by decide +kernel
theorem dL_law_856 : decode cL_law 856 = .ok (.iconst 1, 1) := by decide +kernel
theorem dL_law_857 : decode cL_law 857 = .ok (.iadd, 1) := by decide +kernel
theorem dL_law_858 : decode cL_law 858 = .ok (.iaload, 1) := by decide +kernel
theorem dL_law_859 : decode cL_law 859 = .ok (.invokevirtual 100, 3) := by decide +kernel
theorem dL_law_862 : decode cL_law 862 = .ok (.if_icmp .eq 283, 3) := by decide +kernel
theorem dL_law_865 : decode cL_law 865 = .ok (.iconst 0, 1) := by decide +kernel
theorem dL_law_866 : decode cL_law 866 = .ok (.ireturn, 1) := by decide +kernel
theorem dL_law_867 : decode cL_law 867 = .ok (.aload_n 1, 1) := by decide +kernel
theorem dL_law_868 : decode cL_law 868 = .ok (.aload_n 0, 1) := by decide +kernel
theorem dL_law_869 : decode cL_law 869 = .ok (.iload_n 3, 1) := by decide +kernel
theorem dL_law_870 : decode cL_law 870 = .ok (.iconst 1, 1) := by decide +kernel
theorem dL_law_871 : decode cL_law 871 = .ok (.iadd, 1) := by decide +kernel
theorem dL_law_872 : decode cL_law 872 = .ok (.iaload, 1) := by decide +kernel
theorem dL_law_873 : decode cL_law 873 = .ok (.aload_n 0, 1) := by decide +kernel
theorem dL_law_874 : decode cL_law 874 = .ok (.iload_n 3, 1) := by decide +kernel
theorem dL_law_875 : decode cL_law 875 = .ok (.iconst 2, 1) := by decide +kernel
theorem dL_law_876 : decode cL_law 876 = .ok (.iadd, 1) := by decide +kernel
theorem dL_law_877 : decode cL_law 877 = .ok (.iaload, 1) := by decide +kernel
theorem dL_law_878 : decode cL_law 878 = .ok (.aload_n 0, 1) := by decide +kernel
theorem dL_law_879 : decode cL_law 879 = .ok (.iload_n 3, 1) := by decide +kernel
theorem dL_law_880 : decode cL_law 880 = .ok (.iconst 3, 1) := by decide +kernel
theorem dL_law_881 : decode cL_law 881 = .ok (.iadd, 1) := by decide +kernel
theorem dL_law_882 : decode cL_law 882 = .ok (.iaload, 1) := by decide +kernel
theorem dL_law_883 : decode cL_law 883 = .ok (.invokevirtual 101, 3) := by decide +kernel
theorem dL_law_886 : decode cL_law 886 = .ok (.aload_n 2, 1) := by decide +kernel
theorem dL_law_887 : decode cL_law 887 = .ok (.aload_n 0, 1) := by decide +kernel
theorem dL_law_888 : decode cL_law 888 = .ok (.iload_n 3, 1) := by decide +kernel
theorem dL_law_889 : decode cL_law 889 = .ok (.iconst 1, 1) := by decide +kernel
theorem dL_law_890 : decode cL_law 890 = .ok (.iadd, 1) := by decide +kernel
theorem dL_law_891 : decode cL_law 891 = .ok (.iaload, 1) := by decide +kernel
theorem dL_law_892 : decode cL_law 892 = .ok (.aload_n 0, 1) := by decide +kernel
theorem dL_law_893 : decode cL_law 893 = .ok (.iload_n 3, 1) := by decide +kernel
theorem dL_law_894 : decode cL_law 894 = .ok (.iconst 2, 1) := by decide +kernel
theorem dL_law_895 : decode cL_law 895 = .ok (.iadd, 1) := by decide +kernel
theorem dL_law_896 : decode cL_law 896 = .ok (.iaload, 1) := by decide +kernel
theorem dL_law_897 : decode cL_law 897 = .ok (.aload_n 0, 1) := by decide +kernel
theorem dL_law_898 : decode cL_law 898 = .ok (.iload_n 3, 1) := by decide +kernel
theorem dL_law_899 : decode cL_law 899 = .ok (.iconst 3, 1) := by decide +kernel
theorem dL_law_900 : decode cL_law 900 = .ok (.iadd, 1) := by decide +kernel
theorem dL_law_901 : decode cL_law 901 = .ok (.iaload, 1) := by decide +kernel
theorem dL_law_902 : decode cL_law 902 = .ok (.invokevirtual 104, 3) := by decide +kernel
theorem dL_law_905 : decode cL_law 905 = .ok (.if_icmp .eq 240, 3) := by decide +kernel
theorem dL_law_908 : decode cL_law 908 = .ok (.iconst 0, 1) := by decide +kernel
theorem dL_law_909 : decode cL_law 909 = .ok (.ireturn, 1) := by decide +kernel
theorem dL_law_910 : decode cL_law 910 = .ok (.aload_n 1, 1) := by decide +kernel
theorem dL_law_911 : decode cL_law 911 = .ok (.aload_n 0, 1) := by decide +kernel
theorem dL_law_912 : decode cL_law 912 = .ok (.iload_n 3, 1) := by decide +kernel
theorem dL_law_913 : decode cL_law 913 = .ok (.iconst 1, 1) := by decide +kernel
theorem dL_law_914 : decode cL_law 914 = .ok (.iadd, 1) := by decide +kernel
theorem dL_law_915 : decode cL_law 915 = .ok (.iaload, 1) := by decide +kernel
theorem dL_law_916 : decode cL_law 916 = .ok (.aload_n 0, 1) := by decide +kernel
theorem dL_law_917 : decode cL_law 917 = .ok (.iload_n 3, 1) := by decide +kernel
theorem dL_law_918 : decode cL_law 918 = .ok (.iconst 2, 1) := by decide +kernel
theorem dL_law_919 : decode cL_law 919 = .ok (.iadd, 1) := by decide +kernel
theorem dL_law_920 : decode cL_law 920 = .ok (.iaload, 1) := by decide +kernel
theorem dL_law_921 : decode cL_law 921 = .ok (.aload_n 0, 1) := by decide +kernel
theorem dL_law_922 : decode cL_law 922 = .ok (.iload_n 3, 1) := by decide +kernel
theorem dL_law_923 : decode cL_law 923 = .ok (.iconst 3, 1) := by decide +kernel
theorem dL_law_924 : decode cL_law 924 = .ok (.iadd, 1) := by decide +kernel
theorem dL_law_925 : decode cL_law 925 = .ok (.iaload, 1) := by decide +kernel
theorem dL_law_926 : decode cL_law 926 = .ok (.invokevirtual 105, 3) := by decide +kernel
theorem dL_law_929 : decode cL_law 929 = .ok (.aload_n 2, 1) := by decide +kernel
theorem dL_law_930 : decode cL_law 930 = .ok (.aload_n 0, 1) := by decide +kernel
theorem dL_law_931 : decode cL_law 931 = .ok (.iload_n 3, 1) := by decide +kernel
theorem dL_law_932 : decode cL_law 932 = .ok (.iconst 1, 1) := by decide +kernel
theorem dL_law_933 : decode cL_law 933 = .ok (.iadd, 1) := by decide +kernel
theorem dL_law_934 : decode cL_law 934 = .ok (.iaload, 1) := by decide +kernel
theorem dL_law_935 : decode cL_law 935 = .ok (.aload_n 0, 1) := by decide +kernel
theorem dL_law_936 : decode cL_law 936 = .ok (.iload_n 3, 1) := by decide +kernel
theorem dL_law_937 : decode cL_law 937 = .ok (.iconst 2, 1) := by decide +kernel
theorem dL_law_938 : decode cL_law 938 = .ok (.iadd, 1) := by decide +kernel
theorem dL_law_939 : decode cL_law 939 = .ok (.iaload, 1) := by decide +kernel
theorem dL_law_940 : decode cL_law 940 = .ok (.aload_n 0, 1) := by decide +kernel
theorem dL_law_941 : decode cL_law 941 = .ok (.iload_n 3, 1) := by decide +kernel
theorem dL_law_942 : decode cL_law 942 = .ok (.iconst 3, 1) := by decide +kernel
theorem dL_law_943 : decode cL_law 943 = .ok (.iadd, 1) := by decide +kernel
theorem dL_law_944 : decode cL_law 944 = .ok (.iaload, 1) := by decide +kernel
theorem dL_law_945 : decode cL_law 945 = .ok (.invokevirtual 108, 3) := by decide +kernel
theorem dL_law_948 : decode cL_law 948 = .ok (.lcmp, 1) := by decide +kernel
theorem dL_law_949 : decode cL_law 949 = .ok (.ifCond .eq 196, 3) := by decide +kernel
theorem dL_law_952 : decode cL_law 952 = .ok (.iconst 0, 1) := by decide +kernel
theorem dL_law_953 : decode cL_law 953 = .ok (.ireturn, 1) := by decide +kernel
theorem dL_law_954 : decode cL_law 954 = .ok (.aload_n 1, 1) := by decide +kernel
theorem dL_law_955 : decode cL_law 955 = .ok (.aload_n 0, 1) := by decide +kernel
theorem dL_law_956 : decode cL_law 956 = .ok (.iload_n 3, 1) := by decide +kernel
theorem dL_law_957 : decode cL_law 957 = .ok (.iconst 1, 1) := by decide +kernel
theorem dL_law_958 : decode cL_law 958 = .ok (.iadd, 1) := by decide +kernel
theorem dL_law_959 : decode cL_law 959 = .ok (.iaload, 1) := by decide +kernel
theorem dL_law_960 : decode cL_law 960 = .ok (.aload_n 0, 1) := by decide +kernel
theorem dL_law_961 : decode cL_law 961 = .ok (.iload_n 3, 1) := by decide +kernel
theorem dL_law_962 : decode cL_law 962 = .ok (.iconst 2, 1) := by decide +kernel
theorem dL_law_963 : decode cL_law 963 = .ok (.iadd, 1) := by decide +kernel
theorem dL_law_964 : decode cL_law 964 = .ok (.iaload, 1) := by decide +kernel
theorem dL_law_965 : decode cL_law 965 = .ok (.aload_n 0, 1) := by decide +kernel
theorem dL_law_966 : decode cL_law 966 = .ok (.iload_n 3, 1) := by decide +kernel
theorem dL_law_967 : decode cL_law 967 = .ok (.iconst 3, 1) := by decide +kernel
theorem dL_law_968 : decode cL_law 968 = .ok (.iadd, 1) := by decide +kernel
theorem dL_law_969 : decode cL_law 969 = .ok (.iaload, 1) := by decide +kernel
theorem dL_law_970 : decode cL_law 970 = .ok (.aload_n 0, 1) := by decide +kernel
theorem dL_law_971 : decode cL_law 971 = .ok (.iload_n 3, 1) := by decide +kernel
theorem dL_law_972 : decode cL_law 972 = .ok (.iconst 4, 1) := by decide +kernel
theorem dL_law_973 : decode cL_law 973 = .ok (.iadd, 1) := by decide +kernel
theorem dL_law_974 : decode cL_law 974 = .ok (.iaload, 1) := by decide +kernel
theorem dL_law_975 : decode cL_law 975 = .ok (.aload_n 0, 1) := by decide +kernel
theorem dL_law_976 : decode cL_law 976 = .ok (.iload_n 3, 1) := by decide +kernel
theorem dL_law_977 : decode cL_law 977 = .ok (.iconst 5, 1) := by decide +kernel
theorem dL_law_978 : decode cL_law 978 = .ok (.iadd, 1) := by decide +kernel
theorem dL_law_979 : decode cL_law 979 = .ok (.iaload, 1) := by decide +kernel
theorem dL_law_980 : decode cL_law 980 = .ok (.invokevirtual 109, 3) := by decide +kernel
theorem dL_law_983 : decode cL_law 983 = .ok (.aload_n 2, 1) := by decide +kernel
theorem dL_law_984 : decode cL_law 984 = .ok (.aload_n 0, 1) := by decide +kernel
theorem dL_law_985 : decode cL_law 985 = .ok (.iload_n 3, 1) := by decide +kernel
theorem dL_law_986 : decode cL_law 986 = .ok (.iconst 1, 1) := by decide +kernel
theorem dL_law_987 : decode cL_law 987 = .ok (.iadd, 1) := by decide +kernel
theorem dL_law_988 : decode cL_law 988 = .ok (.iaload, 1) := by decide +kernel
theorem dL_law_989 : decode cL_law 989 = .ok (.aload_n 0, 1) := by decide +kernel
theorem dL_law_990 : decode cL_law 990 = .ok (.iload_n 3, 1) := by decide +kernel
theorem dL_law_991 : decode cL_law 991 = .ok (.iconst 2, 1) := by decide +kernel
theorem dL_law_992 : decode cL_law 992 = .ok (.iadd, 1) := by decide +kernel
theorem dL_law_993 : decode cL_law 993 = .ok (.iaload, 1) := by decide +kernel
theorem dL_law_994 : decode cL_law 994 = .ok (.aload_n 0, 1) := by decide +kernel
theorem dL_law_995 : decode cL_law 995 = .ok (.iload_n 3, 1) := by decide +kernel
theorem dL_law_996 : decode cL_law 996 = .ok (.iconst 3, 1) := by decide +kernel
theorem dL_law_997 : decode cL_law 997 = .ok (.iadd, 1) := by decide +kernel
theorem dL_law_998 : decode cL_law 998 = .ok (.iaload, 1) := by decide +kernel
theorem dL_law_999 : decode cL_law 999 = .ok (.aload_n 0, 1) := by decide +kernel
theorem dL_law_1000 : decode cL_law 1000 = .ok (.iload_n 3, 1) := by decide +kernel
theorem dL_law_1001 : decode cL_law 1001 = .ok (.iconst 4, 1) := by decide +kernel
theorem dL_law_1002 : decode cL_law 1002 = .ok (.iadd, 1) := by decide +kernel
theorem dL_law_1003 : decode cL_law 1003 = .ok (.iaload, 1) := by decide +kernel
theorem dL_law_1004 : decode cL_law 1004 = .ok (.aload_n 0, 1) := by decide +kernel
theorem dL_law_1005 : decode cL_law 1005 = .ok (.iload_n 3, 1) := by decide +kernel
theorem dL_law_1006 : decode cL_law 1006 = .ok (.iconst 5, 1) := by decide +kernel
theorem dL_law_1007 : decode cL_law 1007 = .ok (.iadd, 1) := by decide +kernel
theorem dL_law_1008 : decode cL_law 1008 = .ok (.iaload, 1) := by decide +kernel
theorem dL_law_1009 : decode cL_law 1009 = .ok (.invokevirtual 113, 3) := by decide +kernel
theorem dL_law_1012 : decode cL_law 1012 = .ok (.if_icmp .eq 133, 3) := by decide +kernel
theorem dL_law_1015 : decode cL_law 1015 = .ok (.iconst 0, 1) := by decide +kernel
theorem dL_law_1016 : decode cL_law 1016 = .ok (.ireturn, 1) := by decide +kernel
theorem dL_law_1017 : decode cL_law 1017 = .ok (.aload_n 1, 1) := by decide +kernel
theorem dL_law_1018 : decode cL_law 1018 = .ok (.aload_n 0, 1) := by decide +kernel
theorem dL_law_1019 : decode cL_law 1019 = .ok (.iload_n 3, 1) := by decide +kernel
theorem dL_law_1020 : decode cL_law 1020 = .ok (.iconst 1, 1) := by decide +kernel
theorem dL_law_1021 : decode cL_law 1021 = .ok (.iadd, 1) := by decide +kernel
theorem dL_law_1022 : decode cL_law 1022 = .ok (.iaload, 1) := by decide +kernel
theorem dL_law_1023 : decode cL_law 1023 = .ok (.invokevirtual 114, 3) := by decide +kernel
theorem dL_law_1026 : decode cL_law 1026 = .ok (.aload_n 2, 1) := by decide +kernel
theorem dL_law_1027 : decode cL_law 1027 = .ok (.aload_n 0, 1) := by decide +kernel
theorem dL_law_1028 : decode cL_law 1028 = .ok (.iload_n 3, 1) := by decide +kernel
theorem dL_law_1029 : decode cL_law 1029 = .ok (.iconst 1, 1) := by decide +kernel
theorem dL_law_1030 : decode cL_law 1030 = .ok (.iadd, 1) := by decide +kernel
theorem dL_law_1031 : decode cL_law 1031 = .ok (.iaload, 1) := by decide +kernel
theorem dL_law_1032 : decode cL_law 1032 = .ok (.invokevirtual 117, 3) := by decide +kernel
theorem dL_law_1035 : decode cL_law 1035 = .ok (.if_icmp .eq 110, 3) := by decide +kernel
theorem dL_law_1038 : decode cL_law 1038 = .ok (.iconst 0, 1) := by decide +kernel
theorem dL_law_1039 : decode cL_law 1039 = .ok (.ireturn, 1) := by decide +kernel
theorem dL_law_1040 : decode cL_law 1040 = .ok (.aload_n 1, 1) := by decide +kernel
theorem dL_law_1041 : decode cL_law 1041 = .ok (.aload_n 0, 1) := by decide +kernel
theorem dL_law_1042 : decode cL_law 1042 = .ok (.iload_n 3, 1) := by decide +kernel
theorem dL_law_1043 : decode cL_law 1043 = .ok (.iconst 1, 1) := by decide +kernel
theorem dL_law_1044 : decode cL_law 1044 = .ok (.iadd, 1) := by decide +kernel
theorem dL_law_1045 : decode cL_law 1045 = .ok (.iaload, 1) := by decide +kernel
theorem dL_law_1046 : decode cL_law 1046 = .ok (.invokevirtual 118, 3) := by decide +kernel
theorem dL_law_1049 : decode cL_law 1049 = .ok (.aload_n 2, 1) := by decide +kernel
theorem dL_law_1050 : decode cL_law 1050 = .ok (.aload_n 0, 1) := by decide +kernel
theorem dL_law_1051 : decode cL_law 1051 = .ok (.iload_n 3, 1) := by decide +kernel
theorem dL_law_1052 : decode cL_law 1052 = .ok (.iconst 1, 1) := by decide +kernel
theorem dL_law_1053 : decode cL_law 1053 = .ok (.iadd, 1) := by decide +kernel
theorem dL_law_1054 : decode cL_law 1054 = .ok (.iaload, 1) := by decide +kernel
theorem dL_law_1055 : decode cL_law 1055 = .ok (.invokevirtual 121, 3) := by decide +kernel
theorem dL_law_1058 : decode cL_law 1058 = .ok (.if_icmp .eq 87, 3) := by decide +kernel
theorem dL_law_1061 : decode cL_law 1061 = .ok (.iconst 0, 1) := by decide +kernel
theorem dL_law_1062 : decode cL_law 1062 = .ok (.ireturn, 1) := by decide +kernel
theorem dL_law_1063 : decode cL_law 1063 = .ok (.aload_n 1, 1) := by decide +kernel
theorem dL_law_1064 : decode cL_law 1064 = .ok (.aload_n 0, 1) := by decide +kernel
theorem dL_law_1065 : decode cL_law 1065 = .ok (.iload_n 3, 1) := by decide +kernel
theorem dL_law_1066 : decode cL_law 1066 = .ok (.iconst 1, 1) := by decide +kernel
theorem dL_law_1067 : decode cL_law 1067 = .ok (.iadd, 1) := by decide +kernel
theorem dL_law_1068 : decode cL_law 1068 = .ok (.iaload, 1) := by decide +kernel
theorem dL_law_1069 : decode cL_law 1069 = .ok (.aload_n 0, 1) := by decide +kernel
theorem dL_law_1070 : decode cL_law 1070 = .ok (.iload_n 3, 1) := by decide +kernel
theorem dL_law_1071 : decode cL_law 1071 = .ok (.iconst 2, 1) := by decide +kernel
theorem dL_law_1072 : decode cL_law 1072 = .ok (.iadd, 1) := by decide +kernel
theorem dL_law_1073 : decode cL_law 1073 = .ok (.iaload, 1) := by decide +kernel
theorem dL_law_1074 : decode cL_law 1074 = .ok (.invokevirtual 122, 3) := by decide +kernel
theorem dL_law_1077 : decode cL_law 1077 = .ok (.aload_n 2, 1) := by decide +kernel
theorem dL_law_1078 : decode cL_law 1078 = .ok (.aload_n 0, 1) := by decide +kernel
theorem dL_law_1079 : decode cL_law 1079 = .ok (.iload_n 3, 1) := by decide +kernel
theorem dL_law_1080 : decode cL_law 1080 = .ok (.iconst 1, 1) := by decide +kernel
theorem dL_law_1081 : decode cL_law 1081 = .ok (.iadd, 1) := by decide +kernel
theorem dL_law_1082 : decode cL_law 1082 = .ok (.iaload, 1) := by decide +kernel
theorem dL_law_1083 : decode cL_law 1083 = .ok (.aload_n 0, 1) := by decide +kernel
theorem dL_law_1084 : decode cL_law 1084 = .ok (.iload_n 3, 1) := by decide +kernel
theorem dL_law_1085 : decode cL_law 1085 = .ok (.iconst 2, 1) := by decide +kernel
theorem dL_law_1086 : decode cL_law 1086 = .ok (.iadd, 1) := by decide +kernel
theorem dL_law_1087 : decode cL_law 1087 = .ok (.iaload, 1) := by decide +kernel
theorem dL_law_1088 : decode cL_law 1088 = .ok (.invokevirtual 125, 3) := by decide +kernel
theorem dL_law_1091 : decode cL_law 1091 = .ok (.if_icmp .eq 54, 3) := by decide +kernel
theorem dL_law_1094 : decode cL_law 1094 = .ok (.iconst 0, 1) := by decide +kernel
theorem dL_law_1095 : decode cL_law 1095 = .ok (.ireturn, 1) := by decide +kernel
theorem dL_law_1096 : decode cL_law 1096 = .ok (.aload_n 1, 1) := by decide +kernel
theorem dL_law_1097 : decode cL_law 1097 = .ok (.invokevirtual 126, 3) := by decide +kernel
theorem dL_law_1100 : decode cL_law 1100 = .ok (.aload_n 2, 1) := by decide +kernel
theorem dL_law_1101 : decode cL_law 1101 = .ok (.invokevirtual 129, 3) := by decide +kernel
theorem dL_law_1104 : decode cL_law 1104 = .ok (.if_icmp .eq 41, 3) := by decide +kernel
theorem dL_law_1107 : decode cL_law 1107 = .ok (.iconst 0, 1) := by decide +kernel
theorem dL_law_1108 : decode cL_law 1108 = .ok (.ireturn, 1) := by decide +kernel
theorem dL_law_1109 : decode cL_law 1109 = .ok (.aload_n 1, 1) := by decide +kernel
theorem dL_law_1110 : decode cL_law 1110 = .ok (.invokevirtual 130, 3) := by decide +kernel
theorem dL_law_1113 : decode cL_law 1113 = .ok (.aload_n 2, 1) := by decide +kernel
theorem dL_law_1114 : decode cL_law 1114 = .ok (.invokevirtual 133, 3) := by decide +kernel
theorem dL_law_1117 : decode cL_law 1117 = .ok (.if_icmp .eq 28, 3) := by decide +kernel
theorem dL_law_1120 : decode cL_law 1120 = .ok (.iconst 0, 1) := by decide +kernel
theorem dL_law_1121 : decode cL_law 1121 = .ok (.ireturn, 1) := by decide +kernel
theorem dL_law_1122 : decode cL_law 1122 = .ok (.aload_n 1, 1) := by decide +kernel
theorem dL_law_1123 : decode cL_law 1123 = .ok (.aload_n 0, 1) := by decide +kernel
theorem dL_law_1124 : decode cL_law 1124 = .ok (.iload_n 3, 1) := by decide +kernel
theorem dL_law_1125 : decode cL_law 1125 = .ok (.iconst 1, 1) := by decide +kernel
theorem dL_law_1126 : decode cL_law 1126 = .ok (.iadd, 1) := by decide +kernel
theorem dL_law_1127 : decode cL_law 1127 = .ok (.iaload, 1) := by decide +kernel
theorem dL_law_1128 : decode cL_law 1128 = .ok (.invokevirtual 134, 3) := by decide +kernel
theorem dL_law_1131 : decode cL_law 1131 = .ok (.aload_n 2, 1) := by decide +kernel
theorem dL_law_1132 : decode cL_law 1132 = .ok (.aload_n 0, 1) := by decide +kernel
theorem dL_law_1133 : decode cL_law 1133 = .ok (.iload_n 3, 1) := by decide +kernel
theorem dL_law_1134 : decode cL_law 1134 = .ok (.iconst 1, 1) := by decide +kernel
theorem dL_law_1135 : decode cL_law 1135 = .ok (.iadd, 1) := by decide +kernel
theorem dL_law_1136 : decode cL_law 1136 = .ok (.iaload, 1) := by decide +kernel
theorem dL_law_1137 : decode cL_law 1137 = .ok (.invokevirtual 137, 3) := by decide +kernel
theorem dL_law_1140 : decode cL_law 1140 = .ok (.if_icmp .eq 5, 3) := by decide +kernel
theorem dL_law_1143 : decode cL_law 1143 = .ok (.iconst 0, 1) := by decide +kernel
theorem dL_law_1144 : decode cL_law 1144 = .ok (.ireturn, 1) := by decide +kernel
theorem dL_law_1145 : decode cL_law 1145 = .ok (.iinc 3 6, 3) := by decide +kernel
theorem dL_law_1148 : decode cL_law 1148 = .ok (.goto (-1130), 3) := by decide +kernel
theorem dL_law_1151 : decode cL_law 1151 = .ok (.iconst 1, 1) := by decide +kernel
theorem dL_law_1152 : decode cL_law 1152 = .ok (.ireturn, 1) := by decide +kernel
end
section
/-! ===== the judgement: a method's body over a world of fixed shape ===== -/
/-- what a field holds: none: an int; some none: a long; some (some r): cell r -/
abbrev kF : Type := Option (Option Nat)
/-- a cell's shape: an object (kind, fields), an array of numbers (type, length), an array of references -/
abbrev kE : Type := (Nat × List kF) ⊕ ((Nat × Nat) ⊕ (Nat × Nat × (Nat → Option Nat)))
/-- what the cells hold: ints, longs, by cell and place -/
abbrev kW : Type := (Nat → Nat → Int32) × (Nat → Nat → Int64)
def k_val (ad : Nat → Nat) (w : kW) (c j : Nat) (f : kF) : Value := match f with
  | none => .int (w.1 c j)
  | some none => .long (w.2 c j)
  | some (some r) => .ref (ad r)
def k_ent (ad : Nat → Nat) (ca : Nat → ClassId) (w : kW) (c : Nat) (e : kE) : va_E := match e with
  | .inl q => .inr (q.1, q.2.mapIdx (fun j f => k_val ad w c j f))
  | .inr (.inl q) => .inl (ca q.1, q.2, .inl (w.1 c))
  | .inr (.inr q) => .inl (ca q.1, q.2.1, .inr (.inr (.inr (.inr (fun i => (q.2.2 i).map ad)))))
def k_wd (ad : Nat → Nat) (ca : Nat → ClassId) (sh : List kE) (w : kW) : va_W := sh.mapIdx (fun c e => (ad c, k_ent ad ca w c e))
def k_v (ad : Nat → Nat) (v : Value) : Value := match v with
  | .ref r => .ref (ad r)
  | v => v
def k_L (ad : Nat → Nat) (L : List (Nat × Value)) : List (Nat × Value) := L.map (fun q => (q.1, k_v ad q.2))
def k_tys (ca : Nat → ClassId) : List (ClassId × FieldType) := [(ca 0, .int), (ca 1, .boolean), (ca 2, .object "DuelSeconds$Sheet"), (ca 3, .array .int)]
def k_up {α : Type} (f : Nat → Nat → α) (c k : Nat) (v : α) : Nat → Nat → α := fun c' k' => if c' = c then (if k' = k then v else f c' k') else f c' k'
theorem k_up_same {α : Type} (f : Nat → Nat → α) (c k : Nat) (v : α) : k_up f c k v c k = v := by simp [k_up]
theorem k_up_row {α : Type} (f : Nat → Nat → α) (c k : Nat) (v : α) {c' : Nat} (h : c' ≠ c) : k_up f c k v c' = f c' := by
  funext j
  simp [k_up, h]
theorem k_wd_get {ad : Nat → Nat} {ca : Nat → ClassId} {sh : List kE} {w : kW} {c : Nat} {e : kE} (h : sh[c]? = some e) : (k_wd ad ca sh w)[c]? = some (ad c, k_ent ad ca w c e) := by
  simp [k_wd, List.getElem?_mapIdx, h]
theorem k_ent_row {ad : Nat → Nat} {ca : Nat → ClassId} {w w' : kW} {c : Nat} (e : kE) (h1 : w'.1 c = w.1 c) (h2 : w'.2 c = w.2 c) : k_ent ad ca w' c e = k_ent ad ca w c e := by
  have hv : ∀ j f, k_val ad w' c j f = k_val ad w c j f := by
    intro j f
    match f with
    | none => simp [k_val, h1]
    | some none => simp [k_val, h2]
    | some (some r) => rfl
  match e with
  | .inl q => simp [k_ent, hv]
  | .inr (.inl q) => simp [k_ent, h1]
  | .inr (.inr q) => rfl
theorem k_wd_set {ad : Nat → Nat} {ca : Nat → ClassId} {sh : List kE} {w w' : kW} {c : Nat} {e : kE} (h : sh[c]? = some e) (h1 : ∀ c', c' ≠ c → w'.1 c' = w.1 c') (h2 : ∀ c', c' ≠ c → w'.2 c' = w.2 c') {x : va_E} (hx : x = k_ent ad ca w' c e) : (k_wd ad ca sh w).set c (ad c, x) = k_wd ad ca sh w' := by
  subst hx
  apply List.ext_getElem?
  intro i
  have hl : c < sh.length := (List.getElem?_eq_some_iff.mp h).1
  by_cases hi : c = i
  · subst hi
    rw [List.getElem?_set_self (by simpa [k_wd] using hl), k_wd_get h]
  · rw [List.getElem?_set_ne hi]
    simp only [k_wd, List.getElem?_mapIdx]
    cases hs : sh[i]? with
    | none => rfl
    | some y => simp only [Option.map_some]; rw [k_ent_row y (h1 i (Ne.symm hi)) (h2 i (Ne.symm hi))]
theorem k_wd_addr {ad : Nat → Nat} {ca : Nat → ClassId} {sh : List kE} {w : kW} {k : Nat} {q : Nat × va_E} (h : (k_wd ad ca sh w)[k]? = some q) : k < sh.length ∧ q.1 = ad k := by
  simp only [k_wd, List.getElem?_mapIdx] at h
  cases hs : sh[k]? with
  | none => rw [hs] at h; cases h
  | some y =>
    rw [hs] at h
    cases h
    exact ⟨(List.getElem?_eq_some_iff.mp hs).1, rfl⟩
def k_A (sh : List kE) (ad : Nat → Nat) (sz : Nat) : Nat → Prop := fun q => (∃ c, c < sh.length ∧ q = ad c) ∨ sz ≤ q
theorem k_D_of {A B : Nat → Prop} {ad : Nat → Nat} {ca : Nat → ClassId} {sh : List kE} {w w' : kW} (h : va_D A (k_wd ad ca sh w)) (hB : ∀ c, c < sh.length → B (ad c)) : va_D B (k_wd ad ca sh w') := by
  have key : ∀ (k : Nat) (q : Nat × va_E), (k_wd ad ca sh w')[k]? = some q → ∃ q0, (k_wd ad ca sh w)[k]? = some q0 ∧ q0.1 = q.1 := by
    intro k q hk
    obtain ⟨hl, he⟩ := k_wd_addr hk
    obtain ⟨y, hy⟩ : ∃ y, sh[k]? = some y := ⟨_, List.getElem?_eq_getElem hl⟩
    exact ⟨_, k_wd_get hy, he.symm⟩
  refine ⟨fun i j p q hi hj hpq => ?_, fun k q hk => ?_⟩
  · obtain ⟨p0, a1, a2⟩ := key i p hi
    obtain ⟨q0, b1, b2⟩ := key j q hj
    exact h.1 i j p0 q0 a1 b1 (a2.trans (hpq.trans b2.symm))
  · obtain ⟨hl, he⟩ := k_wd_addr hk
    rw [he]
    exact hB k hl
theorem k_D_self {A : Nat → Prop} {ad : Nat → Nat} {ca : Nat → ClassId} {sh : List kE} {w w' : kW} {sz : Nat} (h : va_D A (k_wd ad ca sh w)) : va_D (k_A sh ad sz) (k_wd ad ca sh w') := k_D_of h (fun c hc => Or.inl ⟨c, hc, rfl⟩)
/-- calls of private static methods of a nest mate, by entry -/
def nst : List (String × Nat × MethodName × String) := [(RX7, 13, yX2_init, RX7), (RX7, 29, yX3_init, RX7), (RX4, 11, yX1_init, RX7), (RX7, 49, yX5_init, RX7), (RX4, 59, yX7_in, RX7), (RX4, 93, yX7_bit, RX7), (RX2, 38, yX7_in, RX7), (RX1, 20, yX7_bit, RX7), (RX1, 27, yX7_in, RX7)]
def k_N (U : State) : Prop := ∀ q ∈ nst, va_Nw (.methodLinkNest q.1 q.2.1 q.2.2.1 q.2.2.2) U
theorem k_N.warm {s U : State} (hW : s.WarmedH U.vm) (h : k_N s) : k_N U := fun q hq => va_Nw.warmM hW (h q hq)
theorem k_N.same {s U : State} (e : s.vm = U.vm) (h : k_N s) : k_N U := fun q hq => va_Nw.same rfl e (h q hq)
def k_K (D : va_G) (ca : Nat → ClassId) (U : State) : Prop := va_K D vwCl (k_tys ca) U ∧ k_N U
theorem k_K.warm {s U : State} {D : va_G} {ca : Nat → ClassId} (hW : s.WarmedH U.vm) (h : k_K D ca s) : k_K D ca U := ⟨va_K.moved hW.alike h.1, k_N.warm hW h.2⟩
def k_Pc (sh : List kE) (D : va_G) (ca : Nat → ClassId) (ad : Nat → Nat) (sz : Nat) (As : List Value) (w : kW) : Array Value → State → Prop := va_Pc (As.map (k_v ad)) (fun U => U.heap.size = sz ∧ va_P D vwCl (k_wd ad ca sh w) U.heap ∧ k_K D ca U ∧ va_D (fun _ => True) (k_wd ad ca sh w))
def k_Qc (sh : List kE) (D : va_G) (ca : Nat → ClassId) (ad : Nat → Nat) (sz : Nat) (Φ : Option Value → kW → Prop) : Array Value → State → Outcome → State → Prop := fun _ st oc t => (∃ (r : Option Value) (w' : kW), oc = .returned (r.map (k_v ad)) ∧ Φ r w' ∧ va_P D vwCl (k_wd ad ca sh w') t.heap ∧ va_K D vwCl (k_tys ca) t) ∧ va_F (k_A sh ad sz) st t
/-- a method's contract at given arguments and world: it returns, and Φ holds of its answer and of the world behind it -/
def Spec (sh : List kE) (y : MethodName) (cc : ByteArray) (n : Nat) (rt : Option FieldType) (fr lo : Nat) (As : List Value) (w : kW) (Φ : Option Value → kW → Prop) : Prop :=
  ∀ (l : Launch) (D : va_G) (ca : Nat → ClassId) (ad : Nat → Nat) (sz : Nat), Met l y (.code y cc n rt :: cw) ({ frames := fr, cells := 0, slots := 0, locals := lo } : Room) (k_Pc sh D ca ad sz As w) (k_Qc sh D ca ad sz Φ) 0 0 (k_A sh ad sz)
def k_cx (p : Program) (s : State) (m : MethodId) (args : Array Value) (meth : Method) (c : Code) (own : String) (cc : ByteArray) (n : Nat) (rt : Option FieldType) (D : va_G) (ca : Nat → ClassId) : Prop :=
  p.tables.exec = Jvm.exec ∧ c.code = cc ∧ c.maxLocals = n ∧ s.vm.findClass own = some m.cls ∧ (∀ w ∈ cw, w.before args s = true) ∧ meth.sig.returnType = rt ∧ meth.locks = false ∧ k_K D ca s
/-- from pc on, with these locals, this stack and this world, the method returns, and Φ holds -/
def BS (sh : List kE) (own : String) (cc : ByteArray) (n : Nat) (rt : Option FieldType) (fr lo : Nat) (Φ : Option Value → kW → Prop) (pc : Nat) (L : List (Nat × Value)) (st : List Value) (w : kW) : Prop :=
  ∀ (p : Program) (l : Launch) (e : Env) (s : State) (m : MethodId) (args : Array Value) (below : List Frame) (meth : Method) (c : Code) (D : va_G) (ca : Nat → ClassId) (ad : Nat → Nat) (H : Heap) (locs : List Loc) (ls : Array Slot),
    k_cx p s m args meth c own cc n rt D ca → va_P D vwCl (k_wd ad ca sh w) H → va_D (k_A sh ad s.heap.size) (k_wd ad ca sh w) → va_S (k_A sh ad s.heap.size) s.heap H locs → lv_has ls n (k_L ad L) →
    W p l e ({ frames := fr, cells := 0, slots := 0, locals := lo } : Room) s m args below meth c H locs 0 0 (MQ below (k_Qc sh D ca ad s.heap.size Φ) args s 0 0 (k_A sh ad s.heap.size)) (F0 m pc ls (st.map (k_v ad)))
theorem k_v_cat (ad : Nat → Nat) (v : Value) : (k_v ad v).category = v.category := by cases v <;> rfl
theorem k_args (ad : Nat → Nat) : ∀ (vs : List Value) (i : Nat), lv_args i (vs.map (k_v ad)) = k_L ad (lv_args i vs)
  | [], _ => rfl
  | v :: vs, i => by
    show (i, k_v ad v) :: lv_args _ (vs.map (k_v ad)) = (i, k_v ad v) :: k_L ad (lv_args _ vs)
    rw [k_v_cat, k_args ad vs]
theorem k_sl_len (ad : Nat → Nat) : ∀ (vs : List Value), (lg_sl (vs.map (k_v ad))).length = (lg_sl vs).length
  | [] => rfl
  | v :: vs => by
    have ih := k_sl_len ad vs
    simp only [lg_sl, List.map_cons, List.flatMap_cons, List.length_append, k_v_cat] at ih ⊢
    rw [ih]
    split <;> rfl
theorem k_cats (ad : Nat → Nat) (st : List Value) : ((st.map (k_v ad)).map fun v => v.category) = st.map fun v => v.category := by
  rw [List.map_map]
  apply List.map_congr_left
  intro v _
  exact k_v_cat ad v
theorem k_blind {sh : List kE} {D : va_G} {ca : Nat → ClassId} {ad : Nat → Nat} {sz : Nat} {As : List Value} {w : kW} : FrameBlind (k_Pc sh D ca ad sz As w) := by
  intro a U g mk q
  obtain ⟨q0, q1, qP, qK, qD⟩ := q
  exact ⟨q0, q1, qP, ⟨va_K.moved (u := U) (U := U.calling g mk a) (Vm.Alike.refl U.vm) qK.1, k_N.same (s := U) (U := U.calling g mk a) rfl qK.2⟩, qD⟩
theorem k_enter {sh : List kE} {y : MethodName} {cc : ByteArray} {n : Nat} {rt : Option FieldType} {fr lo : Nat} {As : List Value} {w : kW} {Φ : Option Value → kW → Prop} (hy : plainName y.cls = true) (hn : (lg_sl As).length ≤ n) (h : BS sh y.cls cc n rt fr lo Φ 0 (lv_args 0 As) [] w) : Spec sh y cc n rt fr lo As w Φ := by
  intro l D ca ad sz
  refine Met.ofW (cc := cc) (maxL := n) (ret := rt) hy rfl ?_
  intro p e s m args below meth c s₁ B hml hv
  obtain ⟨rfl, hsz, hP, hK, hD0⟩ := hv
  subst hsz
  have hts0 := atoms_spec (ws := .code y cc n rt :: cw) B.pre
  have hts : ∀ w ∈ cw, w.before (As.map (k_v ad)).toArray s = true := fun w hw => hts0 w (List.mem_cons_of_mem _ hw)
  have hl := lv_entry (As.map (k_v ad)) (n := n) (by rw [k_sl_len]; exact hn)
  rw [lg_entry_eq]
  rw [k_args] at hl
  exact h p l e s m _ below meth c D ca ad s.heap [] _ ⟨B.exec, B.bytes, hml, findClass_of_methodNamed B.named, hts, B.returns, B.notSynchronized, hK⟩ hP (k_D_self hD0) va_S.rf hl
section KB
variable {sh : List kE} {own : String} {cc : ByteArray} {n : Nat} {rt : Option FieldType} {fr lo : Nat} {Φ : Option Value → kW → Prop} {pc : Nat} {L : List (Nat × Value)} {st : List Value} {w : kW}
theorem BS.mono {Ψ : Option Value → kW → Prop} (h : ∀ r w', Φ r w' → Ψ r w') (hb : BS sh own cc n rt fr lo Φ pc L st w) : BS sh own cc n rt fr lo Ψ pc L st w := by
  intro p l e s m args below meth co D ca ad H locs ls cx hP hD hS hl T hT X
  obtain ⟨t, a, o, b1, b2, ⟨⟨⟨r, w', c1, c2, c3⟩, c4⟩, b4⟩⟩ := hb p l e s m args below meth co D ca ad H locs ls cx hP hD hS hl T hT X
  exact ⟨t, a, o, b1, b2, ⟨⟨r, w', c1, h r w' c2, c3⟩, c4⟩, b4⟩
/-- the locals: place i holds v now -/
def k_st1 (L : List (Nat × Value)) (i : Nat) (v : Value) : List (Nat × Value) := (i, v) :: L.filter (fun q => !(q.1 == i) && !(q.1 + 1 == i && q.2.category == 2))
def k_st2 (L : List (Nat × Value)) (i : Nat) (v : Value) : List (Nat × Value) := (i, v) :: L.filter (fun q => !(q.1 == i) && (!(q.1 == i + 1) && !(q.1 + 1 == i && q.2.category == 2)))
theorem k_st1_L (ad : Nat → Nat) (i : Nat) (v : Value) : (i, k_v ad v) :: (k_L ad L).filter (fun q => !(q.1 == i) && !(q.1 + 1 == i && q.2.category == 2)) = k_L ad (k_st1 L i v) := by
  simp only [k_L, k_st1, List.map_cons, List.filter_map]
  congr 2
  apply List.filter_congr
  intro q _
  simp [Function.comp, k_v_cat]
theorem k_st2_L (ad : Nat → Nat) (i : Nat) (v : Value) : (i, k_v ad v) :: (k_L ad L).filter (fun q => !(q.1 == i) && (!(q.1 == i + 1) && !(q.1 + 1 == i && q.2.category == 2))) = k_L ad (k_st2 L i v) := by
  simp only [k_L, k_st2, List.map_cons, List.filter_map]
  congr 2
  apply List.filter_congr
  intro q _
  simp [Function.comp, k_v_cat]
theorem k_lget {ad : Nat → Nat} {ls : Array Slot} {i : Nat} {v : Value} (hl : lv_has ls n (k_L ad L)) (h : L.lookup i = some v) : ls[i]? = some (.val (k_v ad v)) := by
  have hm : (i, v) ∈ L := by
    clear hl
    induction L with
    | nil => cases h
    | cons a t ih =>
      obtain ⟨a1, a2⟩ := a
      rw [List.lookup_cons] at h
      by_cases hb : (i == a1) = true
      · rw [hb] at h
        cases h
        rw [beq_iff_eq] at hb
        subst hb
        exact List.mem_cons_self
      · rw [Bool.not_eq_true] at hb
        rw [hb] at h
        exact List.mem_cons_of_mem _ (ih h)
  exact hl.2.2 (i, k_v ad v) (List.mem_map.mpr ⟨(i, v), hm, rfl⟩)
theorem b_iconst {k : Int} {v : Int32} (hd : decode cc pc = .ok (.iconst k, 1)) (hv : Int32.ofInt k = v) (kk : BS sh own cc n rt fr lo Φ (pc + 1) L (.int v :: st) w) : BS sh own cc n rt fr lo Φ pc L st w := by
  intro p l e s m args below meth co D ca ad H locs ls cx hP hD hS hl
  exact lv_iconst cx.1 cx.2.1 hd hv (kk p l e s m args below meth co D ca ad H locs ls cx hP hD hS hl)
theorem b_bipush {k : Int} {v : Int32} (hd : decode cc pc = .ok (.bipush k, 2)) (hv : (Int8.ofInt k).toInt32 = v) (kk : BS sh own cc n rt fr lo Φ (pc + 2) L (.int v :: st) w) : BS sh own cc n rt fr lo Φ pc L st w := by
  intro p l e s m args below meth co D ca ad H locs ls cx hP hD hS hl
  exact lv_bipush cx.1 cx.2.1 hd hv (kk p l e s m args below meth co D ca ad H locs ls cx hP hD hS hl)
theorem b_sipush {k : Int} {v : Int32} (hd : decode cc pc = .ok (.sipush k, 3)) (hv : (Int16.ofInt k).toInt32 = v) (kk : BS sh own cc n rt fr lo Φ (pc + 3) L (.int v :: st) w) : BS sh own cc n rt fr lo Φ pc L st w := by
  intro p l e s m args below meth co D ca ad H locs ls cx hP hD hS hl
  exact lv_sipush cx.1 cx.2.1 hd hv (kk p l e s m args below meth co D ca ad H locs ls cx hP hD hS hl)
theorem b_lconst {k : Fin 2} {v : Int64} (hd : decode cc pc = .ok (.lconst k, 1)) (hv : Int64.ofNat (k : Nat) = v) (kk : BS sh own cc n rt fr lo Φ (pc + 1) L (.long v :: st) w) : BS sh own cc n rt fr lo Φ pc L st w := by
  intro p l e s m args below meth co D ca ad H locs ls cx hP hD hS hl
  exact lv_lconst cx.1 cx.2.1 hd hv (kk p l e s m args below meth co D ca ad H locs ls cx hP hD hS hl)
theorem b_ldc2 {ix : Nat} {v : Int64} (hd : decode cc pc = .ok (.ldc2_w ix, 3)) (hc : Cond.constantLong own ix v ∈ cw) (kk : BS sh own cc n rt fr lo Φ (pc + 3) L (.long v :: st) w) : BS sh own cc n rt fr lo Φ pc L st w := by
  intro p l e s m args below meth co D ca ad H locs ls cx hP hD hS hl
  exact lv_ldc2 cx.1 cx.2.1 cx.2.2.2.1 (cx.2.2.2.2.1 _ hc) hd (kk p l e s m args below meth co D ca ad H locs ls cx hP hD hS hl)
theorem b_ldcw {ix : Nat} {v : Int32} (hd : decode cc pc = .ok (.ldc_w ix, 3)) (hc : Cond.constant own ix v ∈ cw) (kk : BS sh own cc n rt fr lo Φ (pc + 3) L (.int v :: st) w) : BS sh own cc n rt fr lo Φ pc L st w := by
  intro p l e s m args below meth co D ca ad H locs ls cx hP hD hS hl
  exact lv_ldcw cx.1 cx.2.1 cx.2.2.2.1 (cx.2.2.2.2.1 _ hc) hd (kk p l e s m args below meth co D ca ad H locs ls cx hP hD hS hl)
theorem b_null (hd : decode cc pc = .ok (.aconst_null, 1)) (kk : BS sh own cc n rt fr lo Φ (pc + 1) L (.null :: st) w) : BS sh own cc n rt fr lo Φ pc L st w := by
  intro p l e s m args below meth co D ca ad H locs ls cx hP hD hS hl
  exact lv_null cx.1 cx.2.1 hd (kk p l e s m args below meth co D ca ad H locs ls cx hP hD hS hl)
theorem b_iload_n {k : Fin 4} {x : Int32} (hd : decode cc pc = .ok (.iload_n k, 1)) (hv : L.lookup (k : Nat) = some (.int x)) (kk : BS sh own cc n rt fr lo Φ (pc + 1) L (.int x :: st) w) : BS sh own cc n rt fr lo Φ pc L st w := by
  intro p l e s m args below meth co D ca ad H locs ls cx hP hD hS hl
  exact lv_iload_n cx.1 cx.2.1 hd rfl (k_lget hl hv) (kk p l e s m args below meth co D ca ad H locs ls cx hP hD hS hl)
theorem b_iload {k : Nat} {x : Int32} (hd : decode cc pc = .ok (.iload k, 2)) (hv : L.lookup k = some (.int x)) (kk : BS sh own cc n rt fr lo Φ (pc + 2) L (.int x :: st) w) : BS sh own cc n rt fr lo Φ pc L st w := by
  intro p l e s m args below meth co D ca ad H locs ls cx hP hD hS hl
  exact lv_iload cx.1 cx.2.1 hd (k_lget hl hv) (kk p l e s m args below meth co D ca ad H locs ls cx hP hD hS hl)
theorem b_lload_n {k : Fin 4} {x : Int64} (hd : decode cc pc = .ok (.lload_n k, 1)) (hv : L.lookup (k : Nat) = some (.long x)) (kk : BS sh own cc n rt fr lo Φ (pc + 1) L (.long x :: st) w) : BS sh own cc n rt fr lo Φ pc L st w := by
  intro p l e s m args below meth co D ca ad H locs ls cx hP hD hS hl
  exact lv_lload_n cx.1 cx.2.1 hd rfl (k_lget hl hv) (kk p l e s m args below meth co D ca ad H locs ls cx hP hD hS hl)
theorem b_lload {k : Nat} {x : Int64} (hd : decode cc pc = .ok (.lload k, 2)) (hv : L.lookup k = some (.long x)) (kk : BS sh own cc n rt fr lo Φ (pc + 2) L (.long x :: st) w) : BS sh own cc n rt fr lo Φ pc L st w := by
  intro p l e s m args below meth co D ca ad H locs ls cx hP hD hS hl
  exact lv_lload cx.1 cx.2.1 hd (k_lget hl hv) (kk p l e s m args below meth co D ca ad H locs ls cx hP hD hS hl)
theorem b_aload_n {k : Fin 4} {x : Nat} (hd : decode cc pc = .ok (.aload_n k, 1)) (hv : L.lookup (k : Nat) = some (.ref x)) (kk : BS sh own cc n rt fr lo Φ (pc + 1) L (.ref x :: st) w) : BS sh own cc n rt fr lo Φ pc L st w := by
  intro p l e s m args below meth co D ca ad H locs ls cx hP hD hS hl
  exact lv_aload_n cx.1 cx.2.1 hd rfl (k_lget hl hv) (kk p l e s m args below meth co D ca ad H locs ls cx hP hD hS hl)
theorem b_aload {k : Nat} {x : Nat} (hd : decode cc pc = .ok (.aload k, 2)) (hv : L.lookup k = some (.ref x)) (kk : BS sh own cc n rt fr lo Φ (pc + 2) L (.ref x :: st) w) : BS sh own cc n rt fr lo Φ pc L st w := by
  intro p l e s m args below meth co D ca ad H locs ls cx hP hD hS hl
  exact lv_aload cx.1 cx.2.1 hd (k_lget hl hv) (kk p l e s m args below meth co D ca ad H locs ls cx hP hD hS hl)
theorem b_aload_nN {k : Fin 4} (hd : decode cc pc = .ok (.aload_n k, 1)) (hv : L.lookup (k : Nat) = some .null) (kk : BS sh own cc n rt fr lo Φ (pc + 1) L (.null :: st) w) : BS sh own cc n rt fr lo Φ pc L st w := by
  intro p l e s m args below meth co D ca ad H locs ls cx hP hD hS hl
  exact lv_aload_nN cx.1 cx.2.1 hd rfl (k_lget hl hv) (kk p l e s m args below meth co D ca ad H locs ls cx hP hD hS hl)
theorem b_aloadN {k : Nat} (hd : decode cc pc = .ok (.aload k, 2)) (hv : L.lookup k = some .null) (kk : BS sh own cc n rt fr lo Φ (pc + 2) L (.null :: st) w) : BS sh own cc n rt fr lo Φ pc L st w := by
  intro p l e s m args below meth co D ca ad H locs ls cx hP hD hS hl
  exact lv_aloadN cx.1 cx.2.1 hd (k_lget hl hv) (kk p l e s m args below meth co D ca ad H locs ls cx hP hD hS hl)
theorem b_istore_n {k : Fin 4} {x : Int32} (hd : decode cc pc = .ok (.istore_n k, 1)) (hn : (k : Nat) < n) (kk : BS sh own cc n rt fr lo Φ (pc + 1) (k_st1 L k (.int x)) st w) : BS sh own cc n rt fr lo Φ pc L (.int x :: st) w := by
  intro p l e s m args below meth co D ca ad H locs ls cx hP hD hS hl
  exact lv_istore_n cx.1 cx.2.1 hd rfl hl hn (k_st1_L ad k (.int x)) (fun ls9 hl9 => kk p l e s m args below meth co D ca ad H locs ls9 cx hP hD hS hl9)
theorem b_istore {k : Nat} {x : Int32} (hd : decode cc pc = .ok (.istore k, 2)) (hn : k < n) (kk : BS sh own cc n rt fr lo Φ (pc + 2) (k_st1 L k (.int x)) st w) : BS sh own cc n rt fr lo Φ pc L (.int x :: st) w := by
  intro p l e s m args below meth co D ca ad H locs ls cx hP hD hS hl
  exact lv_istore cx.1 cx.2.1 hd hl hn (k_st1_L ad k (.int x)) (fun ls9 hl9 => kk p l e s m args below meth co D ca ad H locs ls9 cx hP hD hS hl9)
theorem b_lstore_n {k : Fin 4} {x : Int64} (hd : decode cc pc = .ok (.lstore_n k, 1)) (hn : (k : Nat) + 1 < n) (kk : BS sh own cc n rt fr lo Φ (pc + 1) (k_st2 L k (.long x)) st w) : BS sh own cc n rt fr lo Φ pc L (.long x :: st) w := by
  intro p l e s m args below meth co D ca ad H locs ls cx hP hD hS hl
  exact lv_lstore_n cx.1 cx.2.1 hd rfl hl hn (k_st2_L ad k (.long x)) (fun ls9 hl9 => kk p l e s m args below meth co D ca ad H locs ls9 cx hP hD hS hl9)
theorem b_lstore {k : Nat} {x : Int64} (hd : decode cc pc = .ok (.lstore k, 2)) (hn : k + 1 < n) (kk : BS sh own cc n rt fr lo Φ (pc + 2) (k_st2 L k (.long x)) st w) : BS sh own cc n rt fr lo Φ pc L (.long x :: st) w := by
  intro p l e s m args below meth co D ca ad H locs ls cx hP hD hS hl
  exact lv_lstore cx.1 cx.2.1 hd hl hn (k_st2_L ad k (.long x)) (fun ls9 hl9 => kk p l e s m args below meth co D ca ad H locs ls9 cx hP hD hS hl9)
theorem b_astore_n {k : Fin 4} {x : Nat} (hd : decode cc pc = .ok (.astore_n k, 1)) (hn : (k : Nat) < n) (kk : BS sh own cc n rt fr lo Φ (pc + 1) (k_st1 L k (.ref x)) st w) : BS sh own cc n rt fr lo Φ pc L (.ref x :: st) w := by
  intro p l e s m args below meth co D ca ad H locs ls cx hP hD hS hl
  exact lv_astore_n cx.1 cx.2.1 hd rfl hl hn (k_st1_L ad k (.ref x)) (fun ls9 hl9 => kk p l e s m args below meth co D ca ad H locs ls9 cx hP hD hS hl9)
theorem b_astore {k : Nat} {x : Nat} (hd : decode cc pc = .ok (.astore k, 2)) (hn : k < n) (kk : BS sh own cc n rt fr lo Φ (pc + 2) (k_st1 L k (.ref x)) st w) : BS sh own cc n rt fr lo Φ pc L (.ref x :: st) w := by
  intro p l e s m args below meth co D ca ad H locs ls cx hP hD hS hl
  exact lv_astore cx.1 cx.2.1 hd hl hn (k_st1_L ad k (.ref x)) (fun ls9 hl9 => kk p l e s m args below meth co D ca ad H locs ls9 cx hP hD hS hl9)
theorem b_astore_nN {k : Fin 4} (hd : decode cc pc = .ok (.astore_n k, 1)) (hn : (k : Nat) < n) (kk : BS sh own cc n rt fr lo Φ (pc + 1) (k_st1 L k .null) st w) : BS sh own cc n rt fr lo Φ pc L (.null :: st) w := by
  intro p l e s m args below meth co D ca ad H locs ls cx hP hD hS hl
  exact lv_astore_nN cx.1 cx.2.1 hd rfl hl hn (k_st1_L ad k .null) (fun ls9 hl9 => kk p l e s m args below meth co D ca ad H locs ls9 cx hP hD hS hl9)
theorem b_astoreN {k : Nat} (hd : decode cc pc = .ok (.astore k, 2)) (hn : k < n) (kk : BS sh own cc n rt fr lo Φ (pc + 2) (k_st1 L k .null) st w) : BS sh own cc n rt fr lo Φ pc L (.null :: st) w := by
  intro p l e s m args below meth co D ca ad H locs ls cx hP hD hS hl
  exact lv_astoreN cx.1 cx.2.1 hd hl hn (k_st1_L ad k .null) (fun ls9 hl9 => kk p l e s m args below meth co D ca ad H locs ls9 cx hP hD hS hl9)
theorem b_iinc {k : Nat} {d : Int} {x v : Int32} (hd : decode cc pc = .ok (.iinc k d, 3)) (hv : L.lookup k = some (.int x)) (he : x + Int32.ofInt d = v) (hn : k < n) (kk : BS sh own cc n rt fr lo Φ (pc + 3) (k_st1 L k (.int v)) st w) : BS sh own cc n rt fr lo Φ pc L st w := by
  intro p l e s m args below meth co D ca ad H locs ls cx hP hD hS hl
  have hm : ls[k]? = some (.val (k_v ad (.int x))) := k_lget hl hv
  obtain ⟨j, hj⟩ : ∃ j, ((k, Value.int x) :: k_L ad L)[j]? = some (k, Value.int x) := ⟨0, rfl⟩
  have hl2 : lv_has ls n ((k, Value.int x) :: k_L ad L) := ⟨hl.1, hl.2.1, fun q hq => by
    rcases List.mem_cons.mp hq with h | h
    · rw [h]; exact hm
    · exact hl.2.2 q h⟩
  refine lv_iinc cx.1 cx.2.1 hd hl2 hj he hn (lv' := k_L ad (k_st1 L k (.int v))) ?_ (fun ls9 hl9 => kk p l e s m args below meth co D ca ad H locs ls9 cx hP hD hS hl9)
  rw [← k_st1_L ad k (.int v), List.filter_cons_of_neg (by simp)]
  rfl
theorem b_iadd {x y : Int32} (hd : decode cc pc = .ok (.iadd, 1)) (kk : BS sh own cc n rt fr lo Φ (pc + 1) L (.int (x + y) :: st) w) : BS sh own cc n rt fr lo Φ pc L (.int y :: .int x :: st) w := by
  intro p l e s m args below meth co D ca ad H locs ls cx hP hD hS hl
  exact lv_iadd cx.1 cx.2.1 hd (kk p l e s m args below meth co D ca ad H locs ls cx hP hD hS hl)
theorem b_isub {x y : Int32} (hd : decode cc pc = .ok (.isub, 1)) (kk : BS sh own cc n rt fr lo Φ (pc + 1) L (.int (x - y) :: st) w) : BS sh own cc n rt fr lo Φ pc L (.int y :: .int x :: st) w := by
  intro p l e s m args below meth co D ca ad H locs ls cx hP hD hS hl
  exact lv_isub cx.1 cx.2.1 hd (kk p l e s m args below meth co D ca ad H locs ls cx hP hD hS hl)
theorem b_imul {x y : Int32} (hd : decode cc pc = .ok (.imul, 1)) (kk : BS sh own cc n rt fr lo Φ (pc + 1) L (.int (x * y) :: st) w) : BS sh own cc n rt fr lo Φ pc L (.int y :: .int x :: st) w := by
  intro p l e s m args below meth co D ca ad H locs ls cx hP hD hS hl
  exact lv_imul cx.1 cx.2.1 hd (kk p l e s m args below meth co D ca ad H locs ls cx hP hD hS hl)
theorem b_iand {x y : Int32} (hd : decode cc pc = .ok (.iand, 1)) (kk : BS sh own cc n rt fr lo Φ (pc + 1) L (.int (x &&& y) :: st) w) : BS sh own cc n rt fr lo Φ pc L (.int y :: .int x :: st) w := by
  intro p l e s m args below meth co D ca ad H locs ls cx hP hD hS hl
  exact lv_iand cx.1 cx.2.1 hd (kk p l e s m args below meth co D ca ad H locs ls cx hP hD hS hl)
theorem b_ior {x y : Int32} (hd : decode cc pc = .ok (.ior, 1)) (kk : BS sh own cc n rt fr lo Φ (pc + 1) L (.int (x ||| y) :: st) w) : BS sh own cc n rt fr lo Φ pc L (.int y :: .int x :: st) w := by
  intro p l e s m args below meth co D ca ad H locs ls cx hP hD hS hl
  exact lv_ior cx.1 cx.2.1 hd (kk p l e s m args below meth co D ca ad H locs ls cx hP hD hS hl)
theorem b_ixor {x y : Int32} (hd : decode cc pc = .ok (.ixor, 1)) (kk : BS sh own cc n rt fr lo Φ (pc + 1) L (.int (x ^^^ y) :: st) w) : BS sh own cc n rt fr lo Φ pc L (.int y :: .int x :: st) w := by
  intro p l e s m args below meth co D ca ad H locs ls cx hP hD hS hl
  exact lv_ixor cx.1 cx.2.1 hd (kk p l e s m args below meth co D ca ad H locs ls cx hP hD hS hl)
theorem b_ishl {x y : Int32} (hd : decode cc pc = .ok (.ishl, 1)) (kk : BS sh own cc n rt fr lo Φ (pc + 1) L (.int (x <<< (y &&& 31)) :: st) w) : BS sh own cc n rt fr lo Φ pc L (.int y :: .int x :: st) w := by
  intro p l e s m args below meth co D ca ad H locs ls cx hP hD hS hl
  exact lv_ishl cx.1 cx.2.1 hd (kk p l e s m args below meth co D ca ad H locs ls cx hP hD hS hl)
theorem b_ishr {x y : Int32} (hd : decode cc pc = .ok (.ishr, 1)) (kk : BS sh own cc n rt fr lo Φ (pc + 1) L (.int (x >>> (y &&& 31)) :: st) w) : BS sh own cc n rt fr lo Φ pc L (.int y :: .int x :: st) w := by
  intro p l e s m args below meth co D ca ad H locs ls cx hP hD hS hl
  exact lv_ishr cx.1 cx.2.1 hd (kk p l e s m args below meth co D ca ad H locs ls cx hP hD hS hl)
theorem b_idiv {x y : Int32} (hd : decode cc pc = .ok (.idiv, 1)) (hne : ¬ y = 0) (kk : BS sh own cc n rt fr lo Φ (pc + 1) L (.int (x / y) :: st) w) : BS sh own cc n rt fr lo Φ pc L (.int y :: .int x :: st) w := by
  intro p l e s m args below meth co D ca ad H locs ls cx hP hD hS hl
  exact lv_idiv cx.1 cx.2.1 hd hne (kk p l e s m args below meth co D ca ad H locs ls cx hP hD hS hl)
theorem b_irem {x y : Int32} (hd : decode cc pc = .ok (.irem, 1)) (hne : ¬ y = 0) (kk : BS sh own cc n rt fr lo Φ (pc + 1) L (.int (x - x / y * y) :: st) w) : BS sh own cc n rt fr lo Φ pc L (.int y :: .int x :: st) w := by
  intro p l e s m args below meth co D ca ad H locs ls cx hP hD hS hl
  exact lv_irem cx.1 cx.2.1 hd hne (kk p l e s m args below meth co D ca ad H locs ls cx hP hD hS hl)
theorem b_ladd {x y : Int64} (hd : decode cc pc = .ok (.ladd, 1)) (kk : BS sh own cc n rt fr lo Φ (pc + 1) L (.long (x + y) :: st) w) : BS sh own cc n rt fr lo Φ pc L (.long y :: .long x :: st) w := by
  intro p l e s m args below meth co D ca ad H locs ls cx hP hD hS hl
  exact lv_ladd cx.1 cx.2.1 hd (kk p l e s m args below meth co D ca ad H locs ls cx hP hD hS hl)
theorem b_land {x y : Int64} (hd : decode cc pc = .ok (.land, 1)) (kk : BS sh own cc n rt fr lo Φ (pc + 1) L (.long (x &&& y) :: st) w) : BS sh own cc n rt fr lo Φ pc L (.long y :: .long x :: st) w := by
  intro p l e s m args below meth co D ca ad H locs ls cx hP hD hS hl
  exact lv_land cx.1 cx.2.1 hd (kk p l e s m args below meth co D ca ad H locs ls cx hP hD hS hl)
theorem b_lor {x y : Int64} (hd : decode cc pc = .ok (.lor, 1)) (kk : BS sh own cc n rt fr lo Φ (pc + 1) L (.long (x ||| y) :: st) w) : BS sh own cc n rt fr lo Φ pc L (.long y :: .long x :: st) w := by
  intro p l e s m args below meth co D ca ad H locs ls cx hP hD hS hl
  exact lv_lor cx.1 cx.2.1 hd (kk p l e s m args below meth co D ca ad H locs ls cx hP hD hS hl)
theorem b_ldiv {x y : Int64} (hd : decode cc pc = .ok (.ldiv, 1)) (hne : ¬ y = 0) (kk : BS sh own cc n rt fr lo Φ (pc + 1) L (.long (x / y) :: st) w) : BS sh own cc n rt fr lo Φ pc L (.long y :: .long x :: st) w := by
  intro p l e s m args below meth co D ca ad H locs ls cx hP hD hS hl
  exact lv_ldiv cx.1 cx.2.1 hd hne (kk p l e s m args below meth co D ca ad H locs ls cx hP hD hS hl)
theorem b_lrem {x y : Int64} (hd : decode cc pc = .ok (.lrem, 1)) (hne : ¬ y = 0) (kk : BS sh own cc n rt fr lo Φ (pc + 1) L (.long (x - x / y * y) :: st) w) : BS sh own cc n rt fr lo Φ pc L (.long y :: .long x :: st) w := by
  intro p l e s m args below meth co D ca ad H locs ls cx hP hD hS hl
  exact lv_lrem cx.1 cx.2.1 hd hne (kk p l e s m args below meth co D ca ad H locs ls cx hP hD hS hl)
theorem b_lcmp {x y : Int64} (hd : decode cc pc = .ok (.lcmp, 1)) (kk : BS sh own cc n rt fr lo Φ (pc + 1) L (.int (lg_cmp x y) :: st) w) : BS sh own cc n rt fr lo Φ pc L (.long y :: .long x :: st) w := by
  intro p l e s m args below meth co D ca ad H locs ls cx hP hD hS hl
  exact W.lcmp cx.1 cx.2.1 hd (kk p l e s m args below meth co D ca ad H locs ls cx hP hD hS hl)
theorem b_lshl {x : Int64} {y : Int32} (hd : decode cc pc = .ok (.lshl, 1)) (kk : BS sh own cc n rt fr lo Φ (pc + 1) L (.long (x <<< (y.toInt64 &&& 63)) :: st) w) : BS sh own cc n rt fr lo Φ pc L (.int y :: .long x :: st) w := by
  intro p l e s m args below meth co D ca ad H locs ls cx hP hD hS hl
  exact lv_lshl cx.1 cx.2.1 hd rfl (kk p l e s m args below meth co D ca ad H locs ls cx hP hD hS hl)
theorem b_lshr {x : Int64} {y : Int32} (hd : decode cc pc = .ok (.lshr, 1)) (kk : BS sh own cc n rt fr lo Φ (pc + 1) L (.long (x >>> (y.toInt64 &&& 63)) :: st) w) : BS sh own cc n rt fr lo Φ pc L (.int y :: .long x :: st) w := by
  intro p l e s m args below meth co D ca ad H locs ls cx hP hD hS hl
  exact lv_lshr cx.1 cx.2.1 hd rfl (kk p l e s m args below meth co D ca ad H locs ls cx hP hD hS hl)
theorem b_iushr {x y : Int32} (hd : decode cc pc = .ok (.iushr, 1)) (kk : BS sh own cc n rt fr lo Φ (pc + 1) L (.int (x.toUInt32 >>> (y.toUInt32 &&& Int32.toUInt32 31)).toInt32 :: st) w) : BS sh own cc n rt fr lo Φ pc L (.int y :: .int x :: st) w := by
  intro p l e s m args below meth co D ca ad H locs ls cx hP hD hS hl
  exact lv_iushr cx.1 cx.2.1 hd rfl (kk p l e s m args below meth co D ca ad H locs ls cx hP hD hS hl)
theorem b_i2l {x : Int32} (hd : decode cc pc = .ok (.i2l, 1)) (kk : BS sh own cc n rt fr lo Φ (pc + 1) L (.long x.toInt64 :: st) w) : BS sh own cc n rt fr lo Φ pc L (.int x :: st) w := by
  intro p l e s m args below meth co D ca ad H locs ls cx hP hD hS hl
  exact lv_i2l cx.1 cx.2.1 hd rfl (kk p l e s m args below meth co D ca ad H locs ls cx hP hD hS hl)
theorem b_i2b {x : Int32} (hd : decode cc pc = .ok (.i2b, 1)) (kk : BS sh own cc n rt fr lo Φ (pc + 1) L (.int x.toInt8.toInt32 :: st) w) : BS sh own cc n rt fr lo Φ pc L (.int x :: st) w := by
  intro p l e s m args below meth co D ca ad H locs ls cx hP hD hS hl
  exact lv_i2b cx.1 cx.2.1 hd rfl (kk p l e s m args below meth co D ca ad H locs ls cx hP hD hS hl)
theorem b_i2s {x : Int32} (hd : decode cc pc = .ok (.i2s, 1)) (kk : BS sh own cc n rt fr lo Φ (pc + 1) L (.int x.toInt16.toInt32 :: st) w) : BS sh own cc n rt fr lo Φ pc L (.int x :: st) w := by
  intro p l e s m args below meth co D ca ad H locs ls cx hP hD hS hl
  exact lv_i2s cx.1 cx.2.1 hd rfl (kk p l e s m args below meth co D ca ad H locs ls cx hP hD hS hl)
theorem b_dup {v : Value} (hd : decode cc pc = .ok (.dup, 1)) (hv : v.category = 1) (kk : BS sh own cc n rt fr lo Φ (pc + 1) L (v :: v :: st) w) : BS sh own cc n rt fr lo Φ pc L (v :: st) w := by
  intro p l e s m args below meth co D ca ad H locs ls cx hP hD hS hl
  exact lv_dup cx.1 cx.2.1 hd (by rw [k_v_cat]; exact hv) (kk p l e s m args below meth co D ca ad H locs ls cx hP hD hS hl)
theorem b_if_eq {x : Int32} {off : Int} {tgt : Nat} (hd : decode cc pc = .ok (.ifCond .eq off, 3)) (ht : (pc : Int) + off = (tgt : Int)) (kt : x = 0 → BS sh own cc n rt fr lo Φ tgt L st w) (kf : ¬ x = 0 → BS sh own cc n rt fr lo Φ (pc + 3) L st w) : BS sh own cc n rt fr lo Φ pc L (.int x :: st) w := by
  intro p l e s m args below meth co D ca ad H locs ls cx hP hD hS hl
  exact lv_if_eq cx.1 cx.2.1 hd ht (fun h9 => kt h9 p l e s m args below meth co D ca ad H locs ls cx hP hD hS hl) (fun h9 => kf h9 p l e s m args below meth co D ca ad H locs ls cx hP hD hS hl)
theorem b_icmp_eq {x y : Int32} {off : Int} {tgt : Nat} (hd : decode cc pc = .ok (.if_icmp .eq off, 3)) (ht : (pc : Int) + off = (tgt : Int)) (kt : x = y → BS sh own cc n rt fr lo Φ tgt L st w) (kf : ¬ x = y → BS sh own cc n rt fr lo Φ (pc + 3) L st w) : BS sh own cc n rt fr lo Φ pc L (.int y :: .int x :: st) w := by
  intro p l e s m args below meth co D ca ad H locs ls cx hP hD hS hl
  exact lv_icmp_eq cx.1 cx.2.1 hd ht (fun h9 => kt h9 p l e s m args below meth co D ca ad H locs ls cx hP hD hS hl) (fun h9 => kf h9 p l e s m args below meth co D ca ad H locs ls cx hP hD hS hl)
theorem b_if_ne {x : Int32} {off : Int} {tgt : Nat} (hd : decode cc pc = .ok (.ifCond .ne off, 3)) (ht : (pc : Int) + off = (tgt : Int)) (kt : ¬ x = 0 → BS sh own cc n rt fr lo Φ tgt L st w) (kf : x = 0 → BS sh own cc n rt fr lo Φ (pc + 3) L st w) : BS sh own cc n rt fr lo Φ pc L (.int x :: st) w := by
  intro p l e s m args below meth co D ca ad H locs ls cx hP hD hS hl
  exact lv_if_ne cx.1 cx.2.1 hd ht (fun h9 => kt h9 p l e s m args below meth co D ca ad H locs ls cx hP hD hS hl) (fun h9 => kf h9 p l e s m args below meth co D ca ad H locs ls cx hP hD hS hl)
theorem b_icmp_ne {x y : Int32} {off : Int} {tgt : Nat} (hd : decode cc pc = .ok (.if_icmp .ne off, 3)) (ht : (pc : Int) + off = (tgt : Int)) (kt : ¬ x = y → BS sh own cc n rt fr lo Φ tgt L st w) (kf : x = y → BS sh own cc n rt fr lo Φ (pc + 3) L st w) : BS sh own cc n rt fr lo Φ pc L (.int y :: .int x :: st) w := by
  intro p l e s m args below meth co D ca ad H locs ls cx hP hD hS hl
  exact lv_icmp_ne cx.1 cx.2.1 hd ht (fun h9 => kt h9 p l e s m args below meth co D ca ad H locs ls cx hP hD hS hl) (fun h9 => kf h9 p l e s m args below meth co D ca ad H locs ls cx hP hD hS hl)
theorem b_if_lt {x : Int32} {off : Int} {tgt : Nat} (hd : decode cc pc = .ok (.ifCond .lt off, 3)) (ht : (pc : Int) + off = (tgt : Int)) (kt : x < 0 → BS sh own cc n rt fr lo Φ tgt L st w) (kf : ¬ x < 0 → BS sh own cc n rt fr lo Φ (pc + 3) L st w) : BS sh own cc n rt fr lo Φ pc L (.int x :: st) w := by
  intro p l e s m args below meth co D ca ad H locs ls cx hP hD hS hl
  exact lv_if_lt cx.1 cx.2.1 hd ht (fun h9 => kt h9 p l e s m args below meth co D ca ad H locs ls cx hP hD hS hl) (fun h9 => kf h9 p l e s m args below meth co D ca ad H locs ls cx hP hD hS hl)
theorem b_icmp_lt {x y : Int32} {off : Int} {tgt : Nat} (hd : decode cc pc = .ok (.if_icmp .lt off, 3)) (ht : (pc : Int) + off = (tgt : Int)) (kt : x < y → BS sh own cc n rt fr lo Φ tgt L st w) (kf : ¬ x < y → BS sh own cc n rt fr lo Φ (pc + 3) L st w) : BS sh own cc n rt fr lo Φ pc L (.int y :: .int x :: st) w := by
  intro p l e s m args below meth co D ca ad H locs ls cx hP hD hS hl
  exact lv_icmp_lt cx.1 cx.2.1 hd ht (fun h9 => kt h9 p l e s m args below meth co D ca ad H locs ls cx hP hD hS hl) (fun h9 => kf h9 p l e s m args below meth co D ca ad H locs ls cx hP hD hS hl)
theorem b_if_ge {x : Int32} {off : Int} {tgt : Nat} (hd : decode cc pc = .ok (.ifCond .ge off, 3)) (ht : (pc : Int) + off = (tgt : Int)) (kt : 0 ≤ x → BS sh own cc n rt fr lo Φ tgt L st w) (kf : ¬ 0 ≤ x → BS sh own cc n rt fr lo Φ (pc + 3) L st w) : BS sh own cc n rt fr lo Φ pc L (.int x :: st) w := by
  intro p l e s m args below meth co D ca ad H locs ls cx hP hD hS hl
  exact lv_if_ge cx.1 cx.2.1 hd ht (fun h9 => kt h9 p l e s m args below meth co D ca ad H locs ls cx hP hD hS hl) (fun h9 => kf h9 p l e s m args below meth co D ca ad H locs ls cx hP hD hS hl)
theorem b_icmp_ge {x y : Int32} {off : Int} {tgt : Nat} (hd : decode cc pc = .ok (.if_icmp .ge off, 3)) (ht : (pc : Int) + off = (tgt : Int)) (kt : y ≤ x → BS sh own cc n rt fr lo Φ tgt L st w) (kf : ¬ y ≤ x → BS sh own cc n rt fr lo Φ (pc + 3) L st w) : BS sh own cc n rt fr lo Φ pc L (.int y :: .int x :: st) w := by
  intro p l e s m args below meth co D ca ad H locs ls cx hP hD hS hl
  exact lv_icmp_ge cx.1 cx.2.1 hd ht (fun h9 => kt h9 p l e s m args below meth co D ca ad H locs ls cx hP hD hS hl) (fun h9 => kf h9 p l e s m args below meth co D ca ad H locs ls cx hP hD hS hl)
theorem b_if_gt {x : Int32} {off : Int} {tgt : Nat} (hd : decode cc pc = .ok (.ifCond .gt off, 3)) (ht : (pc : Int) + off = (tgt : Int)) (kt : 0 < x → BS sh own cc n rt fr lo Φ tgt L st w) (kf : ¬ 0 < x → BS sh own cc n rt fr lo Φ (pc + 3) L st w) : BS sh own cc n rt fr lo Φ pc L (.int x :: st) w := by
  intro p l e s m args below meth co D ca ad H locs ls cx hP hD hS hl
  exact lv_if_gt cx.1 cx.2.1 hd ht (fun h9 => kt h9 p l e s m args below meth co D ca ad H locs ls cx hP hD hS hl) (fun h9 => kf h9 p l e s m args below meth co D ca ad H locs ls cx hP hD hS hl)
theorem b_icmp_gt {x y : Int32} {off : Int} {tgt : Nat} (hd : decode cc pc = .ok (.if_icmp .gt off, 3)) (ht : (pc : Int) + off = (tgt : Int)) (kt : y < x → BS sh own cc n rt fr lo Φ tgt L st w) (kf : ¬ y < x → BS sh own cc n rt fr lo Φ (pc + 3) L st w) : BS sh own cc n rt fr lo Φ pc L (.int y :: .int x :: st) w := by
  intro p l e s m args below meth co D ca ad H locs ls cx hP hD hS hl
  exact lv_icmp_gt cx.1 cx.2.1 hd ht (fun h9 => kt h9 p l e s m args below meth co D ca ad H locs ls cx hP hD hS hl) (fun h9 => kf h9 p l e s m args below meth co D ca ad H locs ls cx hP hD hS hl)
theorem b_if_le {x : Int32} {off : Int} {tgt : Nat} (hd : decode cc pc = .ok (.ifCond .le off, 3)) (ht : (pc : Int) + off = (tgt : Int)) (kt : x ≤ 0 → BS sh own cc n rt fr lo Φ tgt L st w) (kf : ¬ x ≤ 0 → BS sh own cc n rt fr lo Φ (pc + 3) L st w) : BS sh own cc n rt fr lo Φ pc L (.int x :: st) w := by
  intro p l e s m args below meth co D ca ad H locs ls cx hP hD hS hl
  exact lv_if_le cx.1 cx.2.1 hd ht (fun h9 => kt h9 p l e s m args below meth co D ca ad H locs ls cx hP hD hS hl) (fun h9 => kf h9 p l e s m args below meth co D ca ad H locs ls cx hP hD hS hl)
theorem b_icmp_le {x y : Int32} {off : Int} {tgt : Nat} (hd : decode cc pc = .ok (.if_icmp .le off, 3)) (ht : (pc : Int) + off = (tgt : Int)) (kt : x ≤ y → BS sh own cc n rt fr lo Φ tgt L st w) (kf : ¬ x ≤ y → BS sh own cc n rt fr lo Φ (pc + 3) L st w) : BS sh own cc n rt fr lo Φ pc L (.int y :: .int x :: st) w := by
  intro p l e s m args below meth co D ca ad H locs ls cx hP hD hS hl
  exact lv_icmp_le cx.1 cx.2.1 hd ht (fun h9 => kt h9 p l e s m args below meth co D ca ad H locs ls cx hP hD hS hl) (fun h9 => kf h9 p l e s m args below meth co D ca ad H locs ls cx hP hD hS hl)
theorem b_goto {off : Int} {tgt : Nat} (hd : decode cc pc = .ok (.goto off, 3)) (ht : (pc : Int) + off = (tgt : Int)) (kk : BS sh own cc n rt fr lo Φ tgt L st w) : BS sh own cc n rt fr lo Φ pc L st w := by
  intro p l e s m args below meth co D ca ad H locs ls cx hP hD hS hl
  exact lv_goto cx.1 cx.2.1 hd ht (kk p l e s m args below meth co D ca ad H locs ls cx hP hD hS hl)
theorem b_ifnull {x : Nat} {off : Int} (hd : decode cc pc = .ok (.ifnull off, 3)) (kk : BS sh own cc n rt fr lo Φ (pc + 3) L st w) : BS sh own cc n rt fr lo Φ pc L (.ref x :: st) w := by
  intro p l e s m args below meth co D ca ad H locs ls cx hP hD hS hl
  exact lv_ifnull cx.1 cx.2.1 hd (kk p l e s m args below meth co D ca ad H locs ls cx hP hD hS hl)
theorem b_ifnullN {off : Int} {tgt : Nat} (hd : decode cc pc = .ok (.ifnull off, 3)) (ht : (pc : Int) + off = (tgt : Int)) (kk : BS sh own cc n rt fr lo Φ tgt L st w) : BS sh own cc n rt fr lo Φ pc L (.null :: st) w := by
  intro p l e s m args below meth co D ca ad H locs ls cx hP hD hS hl
  exact lv_ifnullN cx.1 cx.2.1 hd ht (kk p l e s m args below meth co D ca ad H locs ls cx hP hD hS hl)
theorem b_ifnonnull {x : Nat} {off : Int} {tgt : Nat} (hd : decode cc pc = .ok (.ifnonnull off, 3)) (ht : (pc : Int) + off = (tgt : Int)) (kk : BS sh own cc n rt fr lo Φ tgt L st w) : BS sh own cc n rt fr lo Φ pc L (.ref x :: st) w := by
  intro p l e s m args below meth co D ca ad H locs ls cx hP hD hS hl
  exact lv_ifnonnull cx.1 cx.2.1 hd ht (kk p l e s m args below meth co D ca ad H locs ls cx hP hD hS hl)
theorem b_ifnonnullN {off : Int} (hd : decode cc pc = .ok (.ifnonnull off, 3)) (kk : BS sh own cc n rt fr lo Φ (pc + 3) L st w) : BS sh own cc n rt fr lo Φ pc L (.null :: st) w := by
  intro p l e s m args below meth co D ca ad H locs ls cx hP hD hS hl
  exact lv_ifnonnullN cx.1 cx.2.1 hd (kk p l e s m args below meth co D ca ad H locs ls cx hP hD hS hl)
theorem b_tsIn {dflt lw hg : Int} {offs : Array Int} {len : Nat} {x : Int32} {off : Int} {tgt : Nat} (hd : decode cc pc = .ok (.tableswitch dflt lw hg offs, len)) (h1 : ¬ x.toInt < lw) (h2 : ¬ hg < x.toInt) (ho : offs[(x.toInt - lw).toNat]? = some off) (ht : (pc : Int) + off = (tgt : Int)) (kk : BS sh own cc n rt fr lo Φ tgt L st w) : BS sh own cc n rt fr lo Φ pc L (.int x :: st) w := by
  intro p l e s m args below meth co D ca ad H locs ls cx hP hD hS hl
  exact lv_tableIn cx.1 cx.2.1 hd h1 h2 ho ht (kk p l e s m args below meth co D ca ad H locs ls cx hP hD hS hl)
theorem b_tsOut {dflt lw hg : Int} {offs : Array Int} {len : Nat} {x : Int32} {tgt : Nat} (hd : decode cc pc = .ok (.tableswitch dflt lw hg offs, len)) (h : x.toInt < lw ∨ hg < x.toInt) (ht : (pc : Int) + dflt = (tgt : Int)) (kk : BS sh own cc n rt fr lo Φ tgt L st w) : BS sh own cc n rt fr lo Φ pc L (.int x :: st) w := by
  intro p l e s m args below meth co D ca ad H locs ls cx hP hD hS hl
  exact lv_tableOut cx.1 cx.2.1 hd h ht (kk p l e s m args below meth co D ca ad H locs ls cx hP hD hS hl)
theorem b_lsw {dflt : Int} {ps : Array (Int × Int)} {len : Nat} {x : Int32} {off : Int} {tgt : Nat} (hd : decode cc pc = .ok (.lookupswitch dflt ps, len)) (hp : (ps.toList.zip (ps.toList.drop 1)).all (fun (a, next) => a.1 < next.1) = true) (ho : Op.lookupswitch.offset ps.toList dflt x.toInt = off) (ht : (pc : Int) + off = (tgt : Int)) (kk : BS sh own cc n rt fr lo Φ tgt L st w) : BS sh own cc n rt fr lo Φ pc L (.int x :: st) w := by
  intro p l e s m args below meth co D ca ad H locs ls cx hP hD hS hl
  exact lv_lookup cx.1 cx.2.1 hd hp ho ht (kk p l e s m args below meth co D ca ad H locs ls cx hP hD hS hl)
/-- field k of kind ci, under the entry ix of own's pool -/
def k_fld (own : String) (ix ci k : Nat) : Prop := ∃ (C : String) (T : u_T) (N : Nat), vwCl[ci]? = some (C, T, N) ∧ (∀ w ∈ u_ws C T N, w ∈ cw) ∧ k < N ∧ Cond.fieldLink own ix (T k).1 (T k).2.1 (T k).2.2.1 ∈ cw
/-- what a store into it wants: its type, not final -/
def k_fst (ci k : Nat) (ty : FieldType) : Prop := ∃ (C : String) (T : u_T) (N : Nat) (t0 : Nat → FieldType), vwCl[ci]? = some (C, T, N) ∧ (∀ a, a < N → parseFieldDescriptor (T a).2.2.1 = some (t0 a)) ∧ (∀ a, a < N → ∀ b, b < N → a ≠ b → (T a).2.1 ≠ (T b).2.1) ∧ t0 k = ty ∧ (T k).2.2.2 = false
theorem k_obj {ad : Nat → Nat} {ca : Nat → ClassId} {c ci : Nat} {fs : List kF} (hc : sh[c]? = some (.inl (ci, fs))) : (k_wd ad ca sh w)[c]? = some (ad c, .inr (ci, fs.mapIdx (fun j f => k_val ad w c j f))) := k_wd_get hc
theorem k_fs {ad : Nat → Nat} {c k : Nat} {fs : List kF} {f : kF} (hf : fs[k]? = some f) : (fs.mapIdx (fun j f => k_val ad w c j f))[k]? = some (k_val ad w c k f) := by
  rw [List.getElem?_mapIdx, hf]; rfl
theorem b_geti {ix c ci k : Nat} {fs : List kF} (hd : decode cc pc = .ok (.getfield ix, 3)) (hF : k_fld own ix ci k) (hc : sh[c]? = some (.inl (ci, fs))) (hf : fs[k]? = some none) (kk : BS sh own cc n rt fr lo Φ (pc + 3) L ((.int (w.1 c k)) :: st) w) : BS sh own cc n rt fr lo Φ pc L (.ref c :: st) w := by
  intro p l e s m args below meth co D ca ad H locs ls cx hP hD hS hl
  obtain ⟨C, T, N, hcl, hin, hk, hlk⟩ := hF
  exact va_get cx.1 cx.2.1 cx.2.2.2.2.1 hin cx.2.2.2.1 cx.2.2.2.2.2.2.2.1 hP c (k_obj hc) hcl k hk (cx.2.2.2.2.1 _ hlk) (fun x h => h) (k_fs hf) hd (kk p l e s m args below meth co D ca ad H locs ls cx hP hD hS hl)
theorem b_getl {ix c ci k : Nat} {fs : List kF} (hd : decode cc pc = .ok (.getfield ix, 3)) (hF : k_fld own ix ci k) (hc : sh[c]? = some (.inl (ci, fs))) (hf : fs[k]? = some (some none)) (kk : BS sh own cc n rt fr lo Φ (pc + 3) L ((.long (w.2 c k)) :: st) w) : BS sh own cc n rt fr lo Φ pc L (.ref c :: st) w := by
  intro p l e s m args below meth co D ca ad H locs ls cx hP hD hS hl
  obtain ⟨C, T, N, hcl, hin, hk, hlk⟩ := hF
  exact va_get cx.1 cx.2.1 cx.2.2.2.2.1 hin cx.2.2.2.1 cx.2.2.2.2.2.2.2.1 hP c (k_obj hc) hcl k hk (cx.2.2.2.2.1 _ hlk) (fun x h => h) (k_fs hf) hd (kk p l e s m args below meth co D ca ad H locs ls cx hP hD hS hl)
theorem b_getr {ix c ci k : Nat} {r : Nat} {fs : List kF} (hd : decode cc pc = .ok (.getfield ix, 3)) (hF : k_fld own ix ci k) (hc : sh[c]? = some (.inl (ci, fs))) (hf : fs[k]? = some (some (some r))) (kk : BS sh own cc n rt fr lo Φ (pc + 3) L ((.ref r) :: st) w) : BS sh own cc n rt fr lo Φ pc L (.ref c :: st) w := by
  intro p l e s m args below meth co D ca ad H locs ls cx hP hD hS hl
  obtain ⟨C, T, N, hcl, hin, hk, hlk⟩ := hF
  exact va_get cx.1 cx.2.1 cx.2.2.2.2.1 hin cx.2.2.2.1 cx.2.2.2.2.2.2.2.1 hP c (k_obj hc) hcl k hk (cx.2.2.2.2.1 _ hlk) (fun x h => h) (k_fs hf) hd (kk p l e s m args below meth co D ca ad H locs ls cx hP hD hS hl)
theorem k_set_i {ad : Nat → Nat} {ca : Nat → ClassId} {c ci k : Nat} {fs : List kF} {v : Int32} (hc : sh[c]? = some (.inl (ci, fs))) (hf : fs[k]? = some none) : (k_wd ad ca sh w).set c (ad c, .inr (ci, (fs.mapIdx (fun j f => k_val ad w c j f)).set k (.int v))) = k_wd ad ca sh (k_up w.1 c k v, w.2) := by
  refine k_wd_set (w := w) (w' := (k_up w.1 c k v, w.2)) hc (fun c' h => k_up_row _ _ _ _ h) (fun _ _ => rfl) ?_
  show Sum.inr (ci, _) = Sum.inr (ci, _)
  congr 2
  apply List.ext_getElem?
  intro i
  have hl := (List.getElem?_eq_some_iff.mp hf).1
  by_cases hi : k = i
  · subst hi
    rw [List.getElem?_set_self (by simpa using hl), List.getElem?_mapIdx, hf]
    simp [k_val, k_up]
  · rw [List.getElem?_set_ne hi, List.getElem?_mapIdx, List.getElem?_mapIdx]
    cases hs : fs[i]? with
    | none => rfl
    | some f =>
      match f with
      | none => simp [k_val, k_up, Ne.symm hi]
      | some none => rfl
      | some (some r) => rfl
theorem k_set_l {ad : Nat → Nat} {ca : Nat → ClassId} {c ci k : Nat} {fs : List kF} {v : Int64} (hc : sh[c]? = some (.inl (ci, fs))) (hf : fs[k]? = some (some none)) : (k_wd ad ca sh w).set c (ad c, .inr (ci, (fs.mapIdx (fun j f => k_val ad w c j f)).set k (.long v))) = k_wd ad ca sh (w.1, k_up w.2 c k v) := by
  refine k_wd_set (w := w) (w' := (w.1, k_up w.2 c k v)) hc (fun _ _ => rfl) (fun c' h => k_up_row _ _ _ _ h) ?_
  show Sum.inr (ci, _) = Sum.inr (ci, _)
  congr 2
  apply List.ext_getElem?
  intro i
  have hl := (List.getElem?_eq_some_iff.mp hf).1
  by_cases hi : k = i
  · subst hi
    rw [List.getElem?_set_self (by simpa using hl), List.getElem?_mapIdx, hf]
    simp [k_val, k_up]
  · rw [List.getElem?_set_ne hi, List.getElem?_mapIdx, List.getElem?_mapIdx]
    cases hs : fs[i]? with
    | none => rfl
    | some f =>
      match f with
      | none => rfl
      | some none => simp [k_val, k_up, Ne.symm hi]
      | some (some r) => rfl
theorem k_arr {ad : Nat → Nat} {ca : Nat → ClassId} {c t N : Nat} (hc : sh[c]? = some (.inr (.inl (t, N)))) : (k_wd ad ca sh w)[c]? = some (ad c, .inl (ca t, N, .inl (w.1 c))) := k_wd_get hc
theorem k_set_a {ad : Nat → Nat} {ca : Nat → ClassId} {c t N i : Nat} {v : Int32} (hc : sh[c]? = some (.inr (.inl (t, N)))) : (k_wd ad ca sh w).set c (ad c, .inl (ca t, N, .inl (upd (w.1 c) i v))) = k_wd ad ca sh (k_up w.1 c i v, w.2) := by
  refine k_wd_set (w := w) (w' := (k_up w.1 c i v, w.2)) hc (fun c' h => k_up_row _ _ _ _ h) (fun _ _ => rfl) ?_
  show Sum.inl (ca t, N, Sum.inl _) = Sum.inl (ca t, N, Sum.inl _)
  refine congrArg (fun f => Sum.inl (ca t, N, Sum.inl f)) ?_
  funext j
  simp [upd, k_up]
theorem b_puti {ix c ci k : Nat} {v : Int32} {fs : List kF} (hd : decode cc pc = .ok (.putfield ix, 3)) (hF : k_fld own ix ci k) (hG : k_fst ci k .int) (hc : sh[c]? = some (.inl (ci, fs))) (hf : fs[k]? = some none) (kk : BS sh own cc n rt fr lo Φ (pc + 3) L st (k_up w.1 c k v, w.2)) : BS sh own cc n rt fr lo Φ pc L (.int v :: .ref c :: st) w := by
  intro p l e s m args below meth co D ca ad H locs ls cx hP hD hS hl
  obtain ⟨C, T, N, hcl, hin, hk, hlk⟩ := hF
  obtain ⟨C', T', N', t0, hcl', hty, hnm, hkt, hfin⟩ := hG
  cases hcl.symm.trans hcl'
  have hl9 : k < (fs.mapIdx (fun j f => k_val ad w c j f)).length := by simpa using (List.getElem?_eq_some_iff.mp hf).1
  refine va_put (ty := .int) cx.1 cx.2.1 cx.2.2.2.2.1 hin t0 hty hnm cx.2.2.2.1 cx.2.2.2.2.2.2.2.1 hP hD hS c (k_obj hc) hcl k hk (cx.2.2.2.2.1 _ hlk) (fun x h => h) hfin (by rw [hty k hk, hkt]) rfl rfl hl9 hd (fun H1 locs1 hP1 hD1 hS1 => ?_)
  have e9 := k_set_i (w := w) (ad := ad) (ca := ca) (v := v) hc hf
  exact kk p l e s m args below meth co D ca ad H1 locs1 ls cx (e9 ▸ hP1) (k_D_self hD) hS1 hl
theorem b_putz {ix c ci k : Nat} {v : Int32} {fs : List kF} (hd : decode cc pc = .ok (.putfield ix, 3)) (hF : k_fld own ix ci k) (hG : k_fst ci k .boolean) (hc : sh[c]? = some (.inl (ci, fs))) (hf : fs[k]? = some none) (hv : v = 0 ∨ v = 1) (kk : BS sh own cc n rt fr lo Φ (pc + 3) L st (k_up w.1 c k v, w.2)) : BS sh own cc n rt fr lo Φ pc L (.int v :: .ref c :: st) w := by
  intro p l e s m args below meth co D ca ad H locs ls cx hP hD hS hl
  obtain ⟨C, T, N, hcl, hin, hk, hlk⟩ := hF
  obtain ⟨C', T', N', t0, hcl', hty, hnm, hkt, hfin⟩ := hG
  cases hcl.symm.trans hcl'
  have hl9 : k < (fs.mapIdx (fun j f => k_val ad w c j f)).length := by simpa using (List.getElem?_eq_some_iff.mp hf).1
  refine va_put (ty := .boolean) cx.1 cx.2.1 cx.2.2.2.2.1 hin t0 hty hnm cx.2.2.2.1 cx.2.2.2.2.2.2.2.1 hP hD hS c (k_obj hc) hcl k hk (cx.2.2.2.2.1 _ hlk) (fun x h => h) hfin (by rw [hty k hk, hkt]) (by rcases hv with rfl | rfl <;> rfl) (by rcases hv with rfl | rfl <;> rfl) hl9 hd (fun H1 locs1 hP1 hD1 hS1 => ?_)
  have e9 := k_set_i (w := w) (ad := ad) (ca := ca) (v := v) hc hf
  exact kk p l e s m args below meth co D ca ad H1 locs1 ls cx (e9 ▸ hP1) (k_D_self hD) hS1 hl
theorem b_putl {ix c ci k : Nat} {v : Int64} {fs : List kF} (hd : decode cc pc = .ok (.putfield ix, 3)) (hF : k_fld own ix ci k) (hG : k_fst ci k .long) (hc : sh[c]? = some (.inl (ci, fs))) (hf : fs[k]? = some (some none)) (kk : BS sh own cc n rt fr lo Φ (pc + 3) L st (w.1, k_up w.2 c k v)) : BS sh own cc n rt fr lo Φ pc L (.long v :: .ref c :: st) w := by
  intro p l e s m args below meth co D ca ad H locs ls cx hP hD hS hl
  obtain ⟨C, T, N, hcl, hin, hk, hlk⟩ := hF
  obtain ⟨C', T', N', t0, hcl', hty, hnm, hkt, hfin⟩ := hG
  cases hcl.symm.trans hcl'
  have hl9 : k < (fs.mapIdx (fun j f => k_val ad w c j f)).length := by simpa using (List.getElem?_eq_some_iff.mp hf).1
  refine va_put (ty := .long) cx.1 cx.2.1 cx.2.2.2.2.1 hin t0 hty hnm cx.2.2.2.1 cx.2.2.2.2.2.2.2.1 hP hD hS c (k_obj hc) hcl k hk (cx.2.2.2.2.1 _ hlk) (fun x h => h) hfin (by rw [hty k hk, hkt]) rfl rfl hl9 hd (fun H1 locs1 hP1 hD1 hS1 => ?_)
  have e9 := k_set_l (w := w) (ad := ad) (ca := ca) (v := v) hc hf
  exact kk p l e s m args below meth co D ca ad H1 locs1 ls cx (e9 ▸ hP1) (k_D_self hD) hS1 hl
theorem b_iald {c N : Nat} {i : Int32} (hd : decode cc pc = .ok (.iaload, 1)) (hc : sh[c]? = some (.inr (.inl (0, N)))) (hi : vp_in i N) (kk : BS sh own cc n rt fr lo Φ (pc + 1) L (.int (w.1 c i.toNatClampNeg) :: st) w) : BS sh own cc n rt fr lo Φ pc L (.int i :: .ref c :: st) w := by
  intro p l e s m args below meth co D ca ad H locs ls cx hP hD hS hl
  exact va_iald cx.1 cx.2.1 cx.2.2.2.2.2.2.2.1 hP c 0 (k_arr hc) rfl hi hd (kk p l e s m args below meth co D ca ad H locs ls cx hP hD hS hl)
theorem b_zald {c N : Nat} {i : Int32} (hd : decode cc pc = .ok (.baload, 1)) (hc : sh[c]? = some (.inr (.inl (1, N)))) (hi : vp_in i N) (kk : BS sh own cc n rt fr lo Φ (pc + 1) L (.int (w.1 c i.toNatClampNeg) :: st) w) : BS sh own cc n rt fr lo Φ pc L (.int i :: .ref c :: st) w := by
  intro p l e s m args below meth co D ca ad H locs ls cx hP hD hS hl
  exact va_zald cx.1 cx.2.1 cx.2.2.2.2.2.2.2.1 hP c 1 (k_arr hc) rfl hi hd (kk p l e s m args below meth co D ca ad H locs ls cx hP hD hS hl)
theorem b_iast {c N : Nat} {i x : Int32} (hd : decode cc pc = .ok (.iastore, 1)) (hc : sh[c]? = some (.inr (.inl (0, N)))) (hi : vp_in i N) (kk : BS sh own cc n rt fr lo Φ (pc + 1) L st (k_up w.1 c i.toNatClampNeg x, w.2)) : BS sh own cc n rt fr lo Φ pc L (.int x :: .int i :: .ref c :: st) w := by
  intro p l e s m args below meth co D ca ad H locs ls cx hP hD hS hl
  refine va_iast cx.1 cx.2.1 cx.2.2.2.2.2.2.2.1 hP hD hS c 0 (k_arr hc) rfl hi hd (fun H1 locs1 hP1 hD1 hS1 => ?_)
  have e9 := k_set_a (w := w) (ad := ad) (ca := ca) (i := i.toNatClampNeg) (v := x) hc
  exact kk p l e s m args below meth co D ca ad H1 locs1 ls cx (e9 ▸ hP1) (k_D_self hD) hS1 hl
theorem b_zast {c N : Nat} {i x : Int32} (hd : decode cc pc = .ok (.bastore, 1)) (hc : sh[c]? = some (.inr (.inl (1, N)))) (hi : vp_in i N) (hx : vp_nar .boolean x = x) (kk : BS sh own cc n rt fr lo Φ (pc + 1) L st (k_up w.1 c i.toNatClampNeg x, w.2)) : BS sh own cc n rt fr lo Φ pc L (.int x :: .int i :: .ref c :: st) w := by
  intro p l e s m args below meth co D ca ad H locs ls cx hP hD hS hl
  refine va_zast cx.1 cx.2.1 cx.2.2.2.2.2.2.2.1 hP hD hS c 1 (k_arr hc) rfl hi hd (fun H1 locs1 hP1 hD1 hS1 => ?_)
  rw [hx] at hP1
  have e9 := k_set_a (w := w) (ad := ad) (ca := ca) (i := i.toNatClampNeg) (v := x) hc
  exact kk p l e s m args below meth co D ca ad H1 locs1 ls cx (e9 ▸ hP1) (k_D_self hD) hS1 hl
theorem b_alen {c t N : Nat} {v : Int32} (hd : decode cc pc = .ok (.arraylength, 1)) (hc : sh[c]? = some (.inr (.inl (t, N)))) (ht : t < 4) (hv : Int32.ofNat N = v) (kk : BS sh own cc n rt fr lo Φ (pc + 1) L (.int v :: st) w) : BS sh own cc n rt fr lo Φ pc L (.ref c :: st) w := by
  intro p l e s m args below meth co D ca ad H locs ls cx hP hD hS hl
  obtain ⟨ty, hty⟩ : ∃ ty, (k_tys ca)[t]? = some (ca t, ty) := by
    rcases (show t = 0 ∨ t = 1 ∨ t = 2 ∨ t = 3 by omega) with rfl | rfl | rfl | rfl <;> exact ⟨_, rfl⟩
  exact va_alen cx.1 cx.2.1 cx.2.2.2.2.2.2.2.1 hP c t (k_arr hc) hty hv hd (kk p l e s m args below meth co D ca ad H locs ls cx hP hD hS hl)
theorem b_aald {c t N r : Nat} {i : Int32} {f : Nat → Option Nat} (hd : decode cc pc = .ok (.aaload, 1)) (hc : sh[c]? = some (.inr (.inr (t, N, f)))) (ht : t = 2 ∨ t = 3) (hi : vp_in i N) (hf : f i.toNatClampNeg = some r) (kk : BS sh own cc n rt fr lo Φ (pc + 1) L (.ref r :: st) w) : BS sh own cc n rt fr lo Φ pc L (.int i :: .ref c :: st) w := by
  intro p l e s m args below meth co D ca ad H locs ls cx hP hD hS hl
  have hlt : i.toNatClampNeg < N := Nat.not_le.mp fun q => hi (Or.inr q)
  have hg : (k_wd ad ca sh w)[c]? = some (ad c, .inl (ca t, N, .inr (.inr (.inr (.inr (fun i => (f i).map ad)))))) := k_wd_get hc
  obtain ⟨ty, hty, hr⟩ : ∃ ty : FieldType, (k_tys ca)[t]? = some (ca t, ty) ∧ ty.isReference = true := by
    rcases ht with rfl | rfl <;> exact ⟨_, rfl, rfl⟩
  refine W.aald (v := .ref (ad r)) (ty := ty) cx.1 cx.2.1 (hP c _ hg) ((cx.2.2.2.2.2.2.2.1.2 t _ hty).1 N (fun j => va_rf ((f j).map ad))) hr (fun q => by cases q) (by show ¬ (i < 0 ∨ (arrV _ _ _).slots.size ≤ _); rw [arrV_size]; exact hi) ?_ rfl rfl hd (kk p l e s m args below meth co D ca ad H locs ls cx hP hD hS hl)
  show (arrV _ _ _).slots[_]? = _
  rw [arrV_read _ _ hlt]
  show some (va_rf ((f i.toNatClampNeg).map ad)) = _
  rw [hf]
  rfl
theorem b_iret {v : Int32} (hd : decode cc pc = .ok (.ireturn, 1)) (hr : rt = some .int) (h : Φ (some (.int v)) w) : BS sh own cc n rt fr lo Φ pc L [(.int v)] w := by
  intro p l e s m args below meth co D ca ad H locs ls cx hP hD hS hl
  exact W.iret cx.1 cx.2.1 (cx.2.2.2.2.2.1.trans hr) (fun t ht hW => ⟨⟨some (.int v), w, rfl, h, by rw [ht]; exact hP, va_K.moved hW.alike cx.2.2.2.2.2.2.2.1⟩, hS.F ht⟩) hS.2.2 hd cx.2.2.2.2.2.2.1
theorem b_zret {v : Int32} (hv : v = 0 ∨ v = 1) (hd : decode cc pc = .ok (.ireturn, 1)) (hr : rt = some .boolean) (h : Φ (some (.int v)) w) : BS sh own cc n rt fr lo Φ pc L [(.int v)] w := by
  intro p l e s m args below meth co D ca ad H locs ls cx hP hD hS hl
  exact W.zret cx.1 cx.2.1 (cx.2.2.2.2.2.1.trans hr) (by rcases hv with rfl | rfl <;> rfl) (fun t ht hW => ⟨⟨some (.int v), w, rfl, h, by rw [ht]; exact hP, va_K.moved hW.alike cx.2.2.2.2.2.2.2.1⟩, hS.F ht⟩) hS.2.2 hd cx.2.2.2.2.2.2.1
theorem b_lret {v : Int64} (hd : decode cc pc = .ok (.lreturn, 1)) (hr : rt = some .long) (h : Φ (some (.long v)) w) : BS sh own cc n rt fr lo Φ pc L [(.long v)] w := by
  intro p l e s m args below meth co D ca ad H locs ls cx hP hD hS hl
  exact W.lret cx.1 cx.2.1 (cx.2.2.2.2.2.1.trans hr) (fun t ht hW => ⟨⟨some (.long v), w, rfl, h, by rw [ht]; exact hP, va_K.moved hW.alike cx.2.2.2.2.2.2.2.1⟩, hS.F ht⟩) hS.2.2 hd cx.2.2.2.2.2.2.1
theorem b_vret (hd : decode cc pc = .ok (.return_, 1)) (hr : rt = none) (h : Φ none w) : BS sh own cc n rt fr lo Φ pc L [] w := by
  intro p l e s m args below meth co D ca ad H locs ls cx hP hD hS hl
  exact W.vret cx.1 cx.2.1 (cx.2.2.2.2.2.1.trans hr) (fun t ht hW => ⟨⟨none, w, rfl, h, by rw [ht]; exact hP, va_K.moved hW.alike cx.2.2.2.2.2.2.2.1⟩, hS.F ht⟩) hS.2.2 hd cx.2.2.2.2.2.2.1
theorem b_aret {v : Value} {C : String} (hd : decode cc pc = .ok (.areturn, 1)) (hr : rt = some (.object C)) (hv : v = .null ∨ ∃ a, v = .ref a) (h : Φ (some v) w) : BS sh own cc n rt fr lo Φ pc L [v] w := by
  intro p l e s m args below meth co D ca ad H locs ls cx hP hD hS hl
  exact W.aret cx.1 cx.2.1 (cx.2.2.2.2.2.1.trans hr) (Or.inl ⟨_, rfl⟩) (by rcases hv with rfl | ⟨a, rfl⟩; exact Or.inl rfl; exact Or.inr ⟨_, rfl⟩) (fun t ht hW => ⟨⟨some v, w, rfl, h, by rw [ht]; exact hP, va_K.moved hW.alike cx.2.2.2.2.2.2.2.1⟩, hS.F ht⟩) hS.2.2 hd cx.2.2.2.2.2.2.1

theorem k_goodIn {z : MethodName} {zc : ByteArray} {zn : Nat} {zr : Option FieldType} (h : Cond.code z zc zn zr ∈ cw) : GoodIn cw (.code z zc zn zr :: cw) := by
  intro v hv
  rcases List.mem_cons.mp hv with e | e
  · subst e
    exact ⟨h, good_of_word (cw_good h)⟩
  · exact ⟨e, good_of_word (cw_good e)⟩
/-- a call's words: entry ix of own's pool is z, z's code, its parameters -/
def k_lkC (own : String) (ix : Nat) (z : MethodName) (zc : ByteArray) (zn : Nat) (zr : Option FieldType) (a : Nat) : Prop := Cond.methodLink own ix z ∈ cw ∧ Cond.initialized z.cls ∈ cw ∧ Cond.code z zc zn zr ∈ cw ∧ z.cls ≠ "java/lang/invoke/MethodHandle" ∧ z.cls ≠ "java/lang/invoke/VarHandle" ∧ (parseMethodDescriptor z.desc).map (fun d => d.parameters.length) = some a
def k_lkV (own : String) (ix : Nat) (z : MethodName) (zc : ByteArray) (zn : Nat) (zr : Option FieldType) (a : Nat) : Prop := k_lkC own ix z zc zn zr a ∧ Cond.instanceMethod z ∈ cw ∧ Cond.selects z.cls z z ∈ cw
def k_lkS (own : String) (ix : Nat) (z : MethodName) (zc : ByteArray) (zn : Nat) (zr : Option FieldType) (a : Nat) : Prop := k_lkC own ix z zc zn zr a ∧ Cond.static z ∈ cw
theorem k_goes {p : Program} {l : Launch} {e : Env} {R : Room} {s : State} {m : MethodId} {args : Array Value} {below : List Frame} {meth : Method} {c : Code} {H H0 : Heap} {locs : List Loc} {Q : State → Prop} {ls : Array Slot} {st0 rest : List Value} {D : va_G} {ca : Nat → ClassId} {ad : Nat → Nat} {Ψ : Option Value → kW → Prop} {a : Array Value}
    (hr : va_Run p l e R s m args below meth c H locs 0 0 0 0 (F0 m pc ls st0) (rest.map (k_v ad)) (k_Qc sh D ca ad H.size Ψ a) (k_A sh ad H.size)) (hS : va_S (k_A sh ad H0.size) H0 H locs)
    (kk : ∀ (r : Option Value) (w' : kW) (H1 : Heap) (locs1 : List Loc), Ψ r w' → va_P D vwCl (k_wd ad ca sh w') H1 → va_S (k_A sh ad H0.size) H0 H1 locs1 → W p l e R s m args below meth c H1 locs1 0 0 Q (F0 m (pc + 3) ls ((r.toList ++ rest).map (k_v ad)))) : W p l e R s m args below meth c H locs 0 0 Q (F0 m pc ls st0) := by
  intro T hT X
  obtain ⟨v, st₀, t, T', L, h0, X', hL, e1, e2, ⟨⟨r, w', hv, hp, hb, hK⟩, hz, hk⟩, st⟩ := hr T hT X
  cases hv
  rw [h0] at hz hk
  have hA : ∀ q, k_A sh ad H.size q → k_A sh ad H0.size q := fun q h => h.elim Or.inl (fun h => Or.inr (Nat.le_trans hS.1 h))
  obtain ⟨t2, a1, b1⟩ := kk r w' T'.heap (locs ++ L) hp (by rw [e1]; exact hb)
    ⟨Nat.le_trans hS.1 (by rw [e1]; exact hz), fun q h1 h2 => by rw [e1, hk q (Nat.lt_of_lt_of_le h1 hS.1) (fun z => h2 (hA q z))]; exact hS.2.1 q h1 h2, fun q hq => by
      rcases List.mem_append.mp hq with h | h
      · exact hS.2.2 q h
      · exact hA _ (hL q h)⟩ T' rfl X'
  refine ⟨t2, st t2 ?_, b1⟩
  have e9 : (r.map (k_v ad)).toList ++ rest.map (k_v ad) = (r.toList ++ rest).map (k_v ad) := by cases r <;> rfl
  rw [e9]
  exact a1
theorem b_callV {z : MethodName} {zc : ByteArray} {zn zf zl ix a b ci : Nat} {zr : Option FieldType} {fs : List kF} {q : vw_C} {As : List Value} {Ψ : Option Value → kW → Prop} (hd : decode cc pc = .ok (.invokevirtual ix, 3)) (hF : k_lkV own ix z zc zn zr a) (hn : As.length = a) (hc : sh[b]? = some (.inl (ci, fs))) (hq : vwCl[ci]? = some q) (hz : q.1 = z.cls) (hR : zf + 1 ≤ fr ∧ 8 + (zn + 11) + zl ≤ lo) (hs : (st.map fun v => v.category).sum ≤ 8) (hM : Spec sh z zc zn zr zf zl (.ref b :: As) w Ψ) (kk : ∀ (r : Option Value) (w' : kW), Ψ r w' → BS sh own cc n rt fr lo Φ (pc + 3) L (r.toList ++ st) w') : BS sh own cc n rt fr lo Φ pc L (As.reverse ++ .ref b :: st) w := by
  intro p l e s m args below meth co D ca ad H locs ls cx hP hD hS hl
  obtain ⟨⟨h1, h2, h3, h4, h5, h6⟩, h7, h8⟩ := hF
  have hts := cx.2.2.2.2.1
  have hK := cx.2.2.2.2.2.2.2
  refine k_goes (va_runV (As := As.map (k_v ad)) (rest := st.map (k_v ad)) (b := ad b) ⟨cx.1, cx.2.1, cx.2.2.1, cx.2.2.2.1, hts⟩ (hM l D ca ad H.size) ⟨callB_of a hts (k_goodIn h3) rfl rfl rfl (hts _ h2) (hts _ h1) ⟨h4, h5, h6⟩ hR, hts _ h7, hts _ h8⟩ ⟨k_blind, ?_, fun U hU hW => ⟨rfl, by rw [hU], by rw [hU]; exact hP, k_K.warm hW hK, k_D_of hD (fun _ _ => trivial)⟩⟩ rfl (by rw [List.length_map]; exact hn) hl.1 (by simp [k_v]) (lv_room (by rw [k_cats]; exact hs)) hd ⟨Nat.le_refl _, Nat.le_refl _⟩) hS (fun r w' H1 locs1 hp hP1 hS1 => kk r w' hp p l e s m args below meth co D ca ad H1 locs1 ls cx hP1 (k_D_self hD) hS1 hl)
  have h9 := va_recv hK.1 hP hq (k_obj hc)
  rw [hz] at h9
  exact h9
theorem b_callS {z : MethodName} {zc : ByteArray} {zn zf zl ix a : Nat} {zr : Option FieldType} {As : List Value} {Ψ : Option Value → kW → Prop} (hd : decode cc pc = .ok (.invokestatic ix, 3)) (hF : k_lkS own ix z zc zn zr a) (hn : As.length = a) (hR : zf + 1 ≤ fr ∧ 8 + (zn + 11) + zl ≤ lo) (hs : (st.map fun v => v.category).sum ≤ 8) (hM : Spec sh z zc zn zr zf zl As w Ψ) (kk : ∀ (r : Option Value) (w' : kW), Ψ r w' → BS sh own cc n rt fr lo Φ (pc + 3) L (r.toList ++ st) w') : BS sh own cc n rt fr lo Φ pc L (As.reverse ++ st) w := by
  intro p l e s m args below meth co D ca ad H locs ls cx hP hD hS hl
  obtain ⟨⟨h1, h2, h3, h4, h5, h6⟩, h7⟩ := hF
  have hts := cx.2.2.2.2.1
  have hK := cx.2.2.2.2.2.2.2
  exact k_goes (va_runS (As := As.map (k_v ad)) (rest := st.map (k_v ad)) ⟨cx.1, cx.2.1, cx.2.2.1, cx.2.2.2.1, hts⟩ (hM l D ca ad H.size) ⟨callB_of a hts (k_goodIn h3) rfl rfl rfl (hts _ h2) (hts _ h1) ⟨h4, h5, h6⟩ hR, hts _ h7⟩ ⟨k_blind, fun U hU hW => ⟨rfl, by rw [hU], by rw [hU]; exact hP, k_K.warm hW hK, k_D_of hD (fun _ _ => trivial)⟩⟩ rfl (by rw [List.length_map]; exact hn) hl.1 (by simp) (lv_room (by rw [k_cats]; exact hs)) hd ⟨Nat.le_refl _, Nat.le_refl _⟩) hS (fun r w' H1 locs1 hp hP1 hS1 => kk r w' hp p l e s m args below meth co D ca ad H1 locs1 ls cx hP1 (k_D_self hD) hS1 hl)
def k_lkN (own : String) (ix : Nat) (z : MethodName) (zc : ByteArray) (zn : Nat) (zr : Option FieldType) (a : Nat) : Prop := ∃ host : String, (own, ix, z, host) ∈ nst ∧ Cond.initialized z.cls ∈ cw ∧ Cond.code z zc zn zr ∈ cw ∧ (z.cls ≠ "java/lang/invoke/MethodHandle" ∧ z.cls ≠ "java/lang/invoke/VarHandle" ∧ (parseMethodDescriptor z.desc).map (fun d => d.parameters.length) = some a) ∧ Cond.static z ∈ cw
theorem b_callSN {z : MethodName} {zc : ByteArray} {zn zf zl ix a : Nat} {zr : Option FieldType} {As : List Value} {Ψ : Option Value → kW → Prop} (hd : decode cc pc = .ok (.invokestatic ix, 3)) (hF : k_lkN own ix z zc zn zr a) (hn : As.length = a) (hR : zf + 1 ≤ fr ∧ 8 + (zn + 11) + zl ≤ lo) (hs : (st.map fun v => v.category).sum ≤ 8) (hM : Spec sh z zc zn zr zf zl As w Ψ) (kk : ∀ (r : Option Value) (w' : kW), Ψ r w' → BS sh own cc n rt fr lo Φ (pc + 3) L (r.toList ++ st) w') : BS sh own cc n rt fr lo Φ pc L (As.reverse ++ st) w := by
  intro p l e s m args below meth co D ca ad H locs ls cx hP hD hS hl
  obtain ⟨host, h1, h2, h3, h4, h7⟩ := hF
  have hts := cx.2.2.2.2.1
  have hK := cx.2.2.2.2.2.2.2
  exact k_goes (va_runSN (As := As.map (k_v ad)) (rest := st.map (k_v ad)) ⟨cx.1, cx.2.1, cx.2.2.1, cx.2.2.2.1, hts⟩ (hM l D ca ad H.size) ⟨va_cnB a hts (k_goodIn h3) rfl rfl rfl (hK.2 _ h1) (hts _ h2) h4 hR, hts _ h7, trivial⟩ ⟨k_blind, fun U hU hW => ⟨rfl, by rw [hU], by rw [hU]; exact hP, k_K.warm hW hK, k_D_of hD (fun _ _ => trivial)⟩⟩ rfl (by rw [List.length_map]; exact hn) hl.1 (by simp) (lv_room (by rw [k_cats]; exact hs)) hd ⟨Nat.le_refl _, Nat.le_refl _⟩) hS (fun r w' H1 locs1 hp hP1 hS1 => kk r w' hp p l e s m args below meth co D ca ad H1 locs1 ls cx hP1 (k_D_self hD) hS1 hl)
theorem b_callV0 {z : MethodName} {zc : ByteArray} {zn zf zl ix b ci : Nat} {zr : Option FieldType} {fs : List kF} {q : vw_C} {Ψ : Option Value → kW → Prop} (hd : decode cc pc = .ok (.invokevirtual ix, 3)) (hF : k_lkV own ix z zc zn zr 0) (hc : sh[b]? = some (.inl (ci, fs))) (hq : vwCl[ci]? = some q) (hz : q.1 = z.cls) (hR : zf + 1 ≤ fr ∧ 8 + (zn + 11) + zl ≤ lo) (hs : (st.map fun v => v.category).sum ≤ 8) (hM : Spec sh z zc zn zr zf zl (.ref b :: []) w Ψ) (kk : ∀ (r : Option Value) (w' : kW), Ψ r w' → BS sh own cc n rt fr lo Φ (pc + 3) L (r.toList ++ st) w') : BS sh own cc n rt fr lo Φ pc L (.ref b :: st) w := b_callV (As := []) hd hF rfl hc hq hz hR hs hM kk
theorem b_callS0 {z : MethodName} {zc : ByteArray} {zn zf zl ix : Nat} {zr : Option FieldType} {Ψ : Option Value → kW → Prop} (hd : decode cc pc = .ok (.invokestatic ix, 3)) (hF : k_lkS own ix z zc zn zr 0) (hR : zf + 1 ≤ fr ∧ 8 + (zn + 11) + zl ≤ lo) (hs : (st.map fun v => v.category).sum ≤ 8) (hM : Spec sh z zc zn zr zf zl [] w Ψ) (kk : ∀ (r : Option Value) (w' : kW), Ψ r w' → BS sh own cc n rt fr lo Φ (pc + 3) L (r.toList ++ st) w') : BS sh own cc n rt fr lo Φ pc L (st) w := b_callS (As := []) hd hF rfl hR hs hM kk
theorem b_callV1 {z : MethodName} {zc : ByteArray} {zn zf zl ix b ci : Nat} {zr : Option FieldType} {fs : List kF} {q : vw_C} {x0 : Value} {Ψ : Option Value → kW → Prop} (hd : decode cc pc = .ok (.invokevirtual ix, 3)) (hF : k_lkV own ix z zc zn zr 1) (hc : sh[b]? = some (.inl (ci, fs))) (hq : vwCl[ci]? = some q) (hz : q.1 = z.cls) (hR : zf + 1 ≤ fr ∧ 8 + (zn + 11) + zl ≤ lo) (hs : (st.map fun v => v.category).sum ≤ 8) (hM : Spec sh z zc zn zr zf zl (.ref b :: [x0]) w Ψ) (kk : ∀ (r : Option Value) (w' : kW), Ψ r w' → BS sh own cc n rt fr lo Φ (pc + 3) L (r.toList ++ st) w') : BS sh own cc n rt fr lo Φ pc L (x0 :: .ref b :: st) w := b_callV (As := [x0]) hd hF rfl hc hq hz hR hs hM kk
theorem b_callSN1 {z : MethodName} {zc : ByteArray} {zn zf zl ix : Nat} {zr : Option FieldType} {x0 : Value} {Ψ : Option Value → kW → Prop} (hd : decode cc pc = .ok (.invokestatic ix, 3)) (hF : k_lkN own ix z zc zn zr 1) (hR : zf + 1 ≤ fr ∧ 8 + (zn + 11) + zl ≤ lo) (hs : (st.map fun v => v.category).sum ≤ 8) (hM : Spec sh z zc zn zr zf zl [x0] w Ψ) (kk : ∀ (r : Option Value) (w' : kW), Ψ r w' → BS sh own cc n rt fr lo Φ (pc + 3) L (r.toList ++ st) w') : BS sh own cc n rt fr lo Φ pc L (x0 :: st) w := b_callSN (As := [x0]) hd hF rfl hR hs hM kk
theorem b_callS1 {z : MethodName} {zc : ByteArray} {zn zf zl ix : Nat} {zr : Option FieldType} {x0 : Value} {Ψ : Option Value → kW → Prop} (hd : decode cc pc = .ok (.invokestatic ix, 3)) (hF : k_lkS own ix z zc zn zr 1) (hR : zf + 1 ≤ fr ∧ 8 + (zn + 11) + zl ≤ lo) (hs : (st.map fun v => v.category).sum ≤ 8) (hM : Spec sh z zc zn zr zf zl [x0] w Ψ) (kk : ∀ (r : Option Value) (w' : kW), Ψ r w' → BS sh own cc n rt fr lo Φ (pc + 3) L (r.toList ++ st) w') : BS sh own cc n rt fr lo Φ pc L (x0 :: st) w := b_callS (As := [x0]) hd hF rfl hR hs hM kk
theorem b_callV2 {z : MethodName} {zc : ByteArray} {zn zf zl ix b ci : Nat} {zr : Option FieldType} {fs : List kF} {q : vw_C} {x0 x1 : Value} {Ψ : Option Value → kW → Prop} (hd : decode cc pc = .ok (.invokevirtual ix, 3)) (hF : k_lkV own ix z zc zn zr 2) (hc : sh[b]? = some (.inl (ci, fs))) (hq : vwCl[ci]? = some q) (hz : q.1 = z.cls) (hR : zf + 1 ≤ fr ∧ 8 + (zn + 11) + zl ≤ lo) (hs : (st.map fun v => v.category).sum ≤ 8) (hM : Spec sh z zc zn zr zf zl (.ref b :: [x0, x1]) w Ψ) (kk : ∀ (r : Option Value) (w' : kW), Ψ r w' → BS sh own cc n rt fr lo Φ (pc + 3) L (r.toList ++ st) w') : BS sh own cc n rt fr lo Φ pc L (x1 :: x0 :: .ref b :: st) w := b_callV (As := [x0, x1]) hd hF rfl hc hq hz hR hs hM kk
theorem b_callSN2 {z : MethodName} {zc : ByteArray} {zn zf zl ix : Nat} {zr : Option FieldType} {x0 x1 : Value} {Ψ : Option Value → kW → Prop} (hd : decode cc pc = .ok (.invokestatic ix, 3)) (hF : k_lkN own ix z zc zn zr 2) (hR : zf + 1 ≤ fr ∧ 8 + (zn + 11) + zl ≤ lo) (hs : (st.map fun v => v.category).sum ≤ 8) (hM : Spec sh z zc zn zr zf zl [x0, x1] w Ψ) (kk : ∀ (r : Option Value) (w' : kW), Ψ r w' → BS sh own cc n rt fr lo Φ (pc + 3) L (r.toList ++ st) w') : BS sh own cc n rt fr lo Φ pc L (x1 :: x0 :: st) w := b_callSN (As := [x0, x1]) hd hF rfl hR hs hM kk
theorem b_callS2 {z : MethodName} {zc : ByteArray} {zn zf zl ix : Nat} {zr : Option FieldType} {x0 x1 : Value} {Ψ : Option Value → kW → Prop} (hd : decode cc pc = .ok (.invokestatic ix, 3)) (hF : k_lkS own ix z zc zn zr 2) (hR : zf + 1 ≤ fr ∧ 8 + (zn + 11) + zl ≤ lo) (hs : (st.map fun v => v.category).sum ≤ 8) (hM : Spec sh z zc zn zr zf zl [x0, x1] w Ψ) (kk : ∀ (r : Option Value) (w' : kW), Ψ r w' → BS sh own cc n rt fr lo Φ (pc + 3) L (r.toList ++ st) w') : BS sh own cc n rt fr lo Φ pc L (x1 :: x0 :: st) w := b_callS (As := [x0, x1]) hd hF rfl hR hs hM kk
theorem b_callV3 {z : MethodName} {zc : ByteArray} {zn zf zl ix b ci : Nat} {zr : Option FieldType} {fs : List kF} {q : vw_C} {x0 x1 x2 : Value} {Ψ : Option Value → kW → Prop} (hd : decode cc pc = .ok (.invokevirtual ix, 3)) (hF : k_lkV own ix z zc zn zr 3) (hc : sh[b]? = some (.inl (ci, fs))) (hq : vwCl[ci]? = some q) (hz : q.1 = z.cls) (hR : zf + 1 ≤ fr ∧ 8 + (zn + 11) + zl ≤ lo) (hs : (st.map fun v => v.category).sum ≤ 8) (hM : Spec sh z zc zn zr zf zl (.ref b :: [x0, x1, x2]) w Ψ) (kk : ∀ (r : Option Value) (w' : kW), Ψ r w' → BS sh own cc n rt fr lo Φ (pc + 3) L (r.toList ++ st) w') : BS sh own cc n rt fr lo Φ pc L (x2 :: x1 :: x0 :: .ref b :: st) w := b_callV (As := [x0, x1, x2]) hd hF rfl hc hq hz hR hs hM kk
theorem b_callS3 {z : MethodName} {zc : ByteArray} {zn zf zl ix : Nat} {zr : Option FieldType} {x0 x1 x2 : Value} {Ψ : Option Value → kW → Prop} (hd : decode cc pc = .ok (.invokestatic ix, 3)) (hF : k_lkS own ix z zc zn zr 3) (hR : zf + 1 ≤ fr ∧ 8 + (zn + 11) + zl ≤ lo) (hs : (st.map fun v => v.category).sum ≤ 8) (hM : Spec sh z zc zn zr zf zl [x0, x1, x2] w Ψ) (kk : ∀ (r : Option Value) (w' : kW), Ψ r w' → BS sh own cc n rt fr lo Φ (pc + 3) L (r.toList ++ st) w') : BS sh own cc n rt fr lo Φ pc L (x2 :: x1 :: x0 :: st) w := b_callS (As := [x0, x1, x2]) hd hF rfl hR hs hM kk
theorem b_callV4 {z : MethodName} {zc : ByteArray} {zn zf zl ix b ci : Nat} {zr : Option FieldType} {fs : List kF} {q : vw_C} {x0 x1 x2 x3 : Value} {Ψ : Option Value → kW → Prop} (hd : decode cc pc = .ok (.invokevirtual ix, 3)) (hF : k_lkV own ix z zc zn zr 4) (hc : sh[b]? = some (.inl (ci, fs))) (hq : vwCl[ci]? = some q) (hz : q.1 = z.cls) (hR : zf + 1 ≤ fr ∧ 8 + (zn + 11) + zl ≤ lo) (hs : (st.map fun v => v.category).sum ≤ 8) (hM : Spec sh z zc zn zr zf zl (.ref b :: [x0, x1, x2, x3]) w Ψ) (kk : ∀ (r : Option Value) (w' : kW), Ψ r w' → BS sh own cc n rt fr lo Φ (pc + 3) L (r.toList ++ st) w') : BS sh own cc n rt fr lo Φ pc L (x3 :: x2 :: x1 :: x0 :: .ref b :: st) w := b_callV (As := [x0, x1, x2, x3]) hd hF rfl hc hq hz hR hs hM kk
theorem b_callS4 {z : MethodName} {zc : ByteArray} {zn zf zl ix : Nat} {zr : Option FieldType} {x0 x1 x2 x3 : Value} {Ψ : Option Value → kW → Prop} (hd : decode cc pc = .ok (.invokestatic ix, 3)) (hF : k_lkS own ix z zc zn zr 4) (hR : zf + 1 ≤ fr ∧ 8 + (zn + 11) + zl ≤ lo) (hs : (st.map fun v => v.category).sum ≤ 8) (hM : Spec sh z zc zn zr zf zl [x0, x1, x2, x3] w Ψ) (kk : ∀ (r : Option Value) (w' : kW), Ψ r w' → BS sh own cc n rt fr lo Φ (pc + 3) L (r.toList ++ st) w') : BS sh own cc n rt fr lo Φ pc L (x3 :: x2 :: x1 :: x0 :: st) w := b_callS (As := [x0, x1, x2, x3]) hd hF rfl hR hs hM kk
theorem b_callV5 {z : MethodName} {zc : ByteArray} {zn zf zl ix b ci : Nat} {zr : Option FieldType} {fs : List kF} {q : vw_C} {x0 x1 x2 x3 x4 : Value} {Ψ : Option Value → kW → Prop} (hd : decode cc pc = .ok (.invokevirtual ix, 3)) (hF : k_lkV own ix z zc zn zr 5) (hc : sh[b]? = some (.inl (ci, fs))) (hq : vwCl[ci]? = some q) (hz : q.1 = z.cls) (hR : zf + 1 ≤ fr ∧ 8 + (zn + 11) + zl ≤ lo) (hs : (st.map fun v => v.category).sum ≤ 8) (hM : Spec sh z zc zn zr zf zl (.ref b :: [x0, x1, x2, x3, x4]) w Ψ) (kk : ∀ (r : Option Value) (w' : kW), Ψ r w' → BS sh own cc n rt fr lo Φ (pc + 3) L (r.toList ++ st) w') : BS sh own cc n rt fr lo Φ pc L (x4 :: x3 :: x2 :: x1 :: x0 :: .ref b :: st) w := b_callV (As := [x0, x1, x2, x3, x4]) hd hF rfl hc hq hz hR hs hM kk
theorem b_callS5 {z : MethodName} {zc : ByteArray} {zn zf zl ix : Nat} {zr : Option FieldType} {x0 x1 x2 x3 x4 : Value} {Ψ : Option Value → kW → Prop} (hd : decode cc pc = .ok (.invokestatic ix, 3)) (hF : k_lkS own ix z zc zn zr 5) (hR : zf + 1 ≤ fr ∧ 8 + (zn + 11) + zl ≤ lo) (hs : (st.map fun v => v.category).sum ≤ 8) (hM : Spec sh z zc zn zr zf zl [x0, x1, x2, x3, x4] w Ψ) (kk : ∀ (r : Option Value) (w' : kW), Ψ r w' → BS sh own cc n rt fr lo Φ (pc + 3) L (r.toList ++ st) w') : BS sh own cc n rt fr lo Φ pc L (x4 :: x3 :: x2 :: x1 :: x0 :: st) w := b_callS (As := [x0, x1, x2, x3, x4]) hd hF rfl hR hs hM kk
theorem b_callV6 {z : MethodName} {zc : ByteArray} {zn zf zl ix b ci : Nat} {zr : Option FieldType} {fs : List kF} {q : vw_C} {x0 x1 x2 x3 x4 x5 : Value} {Ψ : Option Value → kW → Prop} (hd : decode cc pc = .ok (.invokevirtual ix, 3)) (hF : k_lkV own ix z zc zn zr 6) (hc : sh[b]? = some (.inl (ci, fs))) (hq : vwCl[ci]? = some q) (hz : q.1 = z.cls) (hR : zf + 1 ≤ fr ∧ 8 + (zn + 11) + zl ≤ lo) (hs : (st.map fun v => v.category).sum ≤ 8) (hM : Spec sh z zc zn zr zf zl (.ref b :: [x0, x1, x2, x3, x4, x5]) w Ψ) (kk : ∀ (r : Option Value) (w' : kW), Ψ r w' → BS sh own cc n rt fr lo Φ (pc + 3) L (r.toList ++ st) w') : BS sh own cc n rt fr lo Φ pc L (x5 :: x4 :: x3 :: x2 :: x1 :: x0 :: .ref b :: st) w := b_callV (As := [x0, x1, x2, x3, x4, x5]) hd hF rfl hc hq hz hR hs hM kk
theorem b_callS6 {z : MethodName} {zc : ByteArray} {zn zf zl ix : Nat} {zr : Option FieldType} {x0 x1 x2 x3 x4 x5 : Value} {Ψ : Option Value → kW → Prop} (hd : decode cc pc = .ok (.invokestatic ix, 3)) (hF : k_lkS own ix z zc zn zr 6) (hR : zf + 1 ≤ fr ∧ 8 + (zn + 11) + zl ≤ lo) (hs : (st.map fun v => v.category).sum ≤ 8) (hM : Spec sh z zc zn zr zf zl [x0, x1, x2, x3, x4, x5] w Ψ) (kk : ∀ (r : Option Value) (w' : kW), Ψ r w' → BS sh own cc n rt fr lo Φ (pc + 3) L (r.toList ++ st) w') : BS sh own cc n rt fr lo Φ pc L (x5 :: x4 :: x3 :: x2 :: x1 :: x0 :: st) w := b_callS (As := [x0, x1, x2, x3, x4, x5]) hd hF rfl hR hs hM kk
theorem b_callS7 {z : MethodName} {zc : ByteArray} {zn zf zl ix : Nat} {zr : Option FieldType} {x0 x1 x2 x3 x4 x5 x6 : Value} {Ψ : Option Value → kW → Prop} (hd : decode cc pc = .ok (.invokestatic ix, 3)) (hF : k_lkS own ix z zc zn zr 7) (hR : zf + 1 ≤ fr ∧ 8 + (zn + 11) + zl ≤ lo) (hs : (st.map fun v => v.category).sum ≤ 8) (hM : Spec sh z zc zn zr zf zl [x0, x1, x2, x3, x4, x5, x6] w Ψ) (kk : ∀ (r : Option Value) (w' : kW), Ψ r w' → BS sh own cc n rt fr lo Φ (pc + 3) L (r.toList ++ st) w') : BS sh own cc n rt fr lo Φ pc L (x6 :: x5 :: x4 :: x3 :: x2 :: x1 :: x0 :: st) w := b_callS (As := [x0, x1, x2, x3, x4, x5, x6]) hd hF rfl hR hs hM kk
def k_lkM_max (own : String) (ix : Nat) : Prop := Cond.methodLink own ix Lib.Math.max.name ∈ cw ∧ Cond.static Lib.Math.max.name ∈ cw ∧ Cond.initialized "java/lang/Math" ∈ cw ∧ Cond.code Lib.Math.max.name Lib.Math.max.code 2 (some .int) ∈ cw
theorem b_max {ix : Nat} {x y : Int32} (hd : decode cc pc = .ok (.invokestatic ix, 3)) (hF : k_lkM_max own ix) (hR : 1 ≤ fr) (hs : (st.map fun v => v.category).sum + 13 ≤ lo) (kk : BS sh own cc n rt fr lo Φ (pc + 3) L (.int (if x < y then y else x) :: st) w) : BS sh own cc n rt fr lo Φ pc L (.int y :: .int x :: st) w := by
  intro p l e s m args below meth co D ca ad H locs ls cx hP hD hS hl
  obtain ⟨h1, h2, h3, h4⟩ := hF
  have hts := cx.2.2.2.2.1
  exact va_mmax cx.1 cx.2.1 (by rw [cx.2.2.1]; exact hl.1.symm) cx.2.2.2.1 (hts _ h1) (hts _ h2) (hts _ h3) (hts _ h4) hR (by rw [k_cats]; exact hs) (Nat.le_refl _) (Nat.le_refl _) hd (kk p l e s m args below meth co D ca ad H locs ls cx hP hD hS hl)
def k_lkM_min (own : String) (ix : Nat) : Prop := Cond.methodLink own ix Lib.Math.min.name ∈ cw ∧ Cond.static Lib.Math.min.name ∈ cw ∧ Cond.initialized "java/lang/Math" ∈ cw ∧ Cond.code Lib.Math.min.name Lib.Math.min.code 2 (some .int) ∈ cw
theorem b_min {ix : Nat} {x y : Int32} (hd : decode cc pc = .ok (.invokestatic ix, 3)) (hF : k_lkM_min own ix) (hR : 1 ≤ fr) (hs : (st.map fun v => v.category).sum + 13 ≤ lo) (kk : BS sh own cc n rt fr lo Φ (pc + 3) L (.int (if y < x then y else x) :: st) w) : BS sh own cc n rt fr lo Φ pc L (.int y :: .int x :: st) w := by
  intro p l e s m args below meth co D ca ad H locs ls cx hP hD hS hl
  obtain ⟨h1, h2, h3, h4⟩ := hF
  have hts := cx.2.2.2.2.1
  exact va_mmin cx.1 cx.2.1 (by rw [cx.2.2.1]; exact hl.1.symm) cx.2.2.2.1 (hts _ h1) (hts _ h2) (hts _ h3) (hts _ h4) hR (by rw [k_cats]; exact hs) (Nat.le_refl _) (Nat.le_refl _) hd (kk p l e s m args below meth co D ca ad H locs ls cx hP hD hS hl)
def k_lkM_abs (own : String) (ix : Nat) : Prop := Cond.methodLink own ix Lib.Math.abs.name ∈ cw ∧ Cond.static Lib.Math.abs.name ∈ cw ∧ Cond.initialized "java/lang/Math" ∈ cw ∧ Cond.code Lib.Math.abs.name Lib.Math.abs.code 1 (some .int) ∈ cw
theorem b_abs {ix : Nat} {x : Int32} (hd : decode cc pc = .ok (.invokestatic ix, 3)) (hF : k_lkM_abs own ix) (hR : 1 ≤ fr) (hs : (st.map fun v => v.category).sum + 13 ≤ lo) (kk : BS sh own cc n rt fr lo Φ (pc + 3) L (.int (if 0 ≤ x then x else 0 - x) :: st) w) : BS sh own cc n rt fr lo Φ pc L (.int x :: st) w := by
  intro p l e s m args below meth co D ca ad H locs ls cx hP hD hS hl
  obtain ⟨h1, h2, h3, h4⟩ := hF
  have hts := cx.2.2.2.2.1
  exact va_mabs cx.1 cx.2.1 (by rw [cx.2.2.1]; exact hl.1.symm) cx.2.2.2.1 (hts _ h1) (hts _ h2) (hts _ h3) (hts _ h4) hR (by rw [k_cats]; exact hs) (Nat.le_refl _) (Nat.le_refl _) hd (kk p l e s m args below meth co D ca ad H locs ls cx hP hD hS hl)
def k_lkCp (own : String) (ix : Nat) : Prop := Cond.methodLink own ix arraycopyName ∈ cw ∧ Cond.native arraycopyName ∈ cw ∧ Cond.static arraycopyName ∈ cw ∧ Cond.initialized "java/lang/System" ∈ cw
def k_cpy (f : Nat → Nat → Int32) (c0 c1 sp dp n : Nat) : Nat → Nat → Int32 := fun c k => if c = c1 then (if dp ≤ k ∧ k < dp + n then f c0 (sp + (k - dp)) else f c k) else f c k
theorem k_set_c {ad : Nat → Nat} {ca : Nat → ClassId} {c0 c t N sp dp z : Nat} (hc : sh[c]? = some (.inr (.inl (t, N)))) : (k_wd ad ca sh w).set c (ad c, .inl (ca t, N, .inl (va_cpy (w.1 c0) (w.1 c) sp dp z))) = k_wd ad ca sh (k_cpy w.1 c0 c sp dp z, w.2) := by
  refine k_wd_set (w := w) (w' := (k_cpy w.1 c0 c sp dp z, w.2)) hc (fun c' h => by funext j; simp [k_cpy, h]) (fun _ _ => rfl) ?_
  show Sum.inl (ca t, N, Sum.inl _) = Sum.inl (ca t, N, Sum.inl _)
  refine congrArg (fun f => Sum.inl (ca t, N, Sum.inl f)) ?_
  funext j
  simp [va_cpy, k_cpy]
theorem b_copyi {ix c0 c1 N0 N1 : Nat} {sp dp z : Int32} (hd : decode cc pc = .ok (.invokestatic ix, 3)) (hF : k_lkCp own ix) (hc0 : sh[c0]? = some (.inr (.inl (0, N0)))) (hc1 : sh[c1]? = some (.inr (.inl (0, N1)))) (h1 : ¬ sp < 0) (h2 : ¬ dp < 0) (h3 : ¬ z < 0) (h4 : sp.toNatClampNeg + z.toNatClampNeg ≤ N0) (h5 : dp.toNatClampNeg + z.toNatClampNeg ≤ N1) (hR : 1 ≤ fr) (hs : (st.map fun v => v.category).sum + (nativeFrameWords "java/lang/System" "arraycopy" 5 + 11) ≤ lo) (kk : BS sh own cc n rt fr lo Φ (pc + 3) L st (k_cpy w.1 c0 c1 sp.toNatClampNeg dp.toNatClampNeg z.toNatClampNeg, w.2)) : BS sh own cc n rt fr lo Φ pc L (.int z :: .int dp :: .ref c1 :: .int sp :: .ref c0 :: st) w := by
  intro p l e s m args below meth co D ca ad H locs ls cx hP hD hS hl
  obtain ⟨g1, g2, g3, g4⟩ := hF
  have hts := cx.2.2.2.2.1
  refine va_copyi cx.1 cx.2.1 (by rw [cx.2.2.1]; exact hl.1.symm) cx.2.2.2.1 (hts _ g1) (hts _ g2) (hts _ g3) (hts _ g4) cx.2.2.2.2.2.2.2.1 hP hD hS c0 c1 0 0 (k_arr hc0) (k_arr hc1) rfl rfl rfl h1 h2 h3 h4 h5 (fun _ _ => rfl) hR (by rw [k_cats]; exact hs) hd (fun H1 locs1 hP1 hD1 hS1 => ?_)
  have e9 := k_set_c (w := w) (ad := ad) (ca := ca) (c0 := c0) (sp := sp.toNatClampNeg) (dp := dp.toNatClampNeg) (z := z.toNatClampNeg) hc1
  exact kk p l e s m args below meth co D ca ad H1 locs1 ls cx (e9 ▸ hP1) (k_D_self hD) hS1 hl
end KB
end
section
theorem in_X0 : ∀ w ∈ u_ws RX0 TX0 5, w ∈ cw := by
  intro w hw
  obtain ⟨k, hk, rfl⟩ := List.mem_map.mp hw
  have hk := List.mem_range.mp hk
  rcases (show k = 0 ∨ k = 1 ∨ k = 2 ∨ k = 3 ∨ k = 4 by omega) with rfl | rfl | rfl | rfl | rfl
  · exact cw_1 79 rfl rfl
  · exact cw_1 81 rfl rfl
  · exact cw_1 83 rfl rfl
  · exact cw_1 85 rfl rfl
  · exact cw_1 87 rfl rfl
theorem gs_X0_0 : k_fst 0 0 .int := ⟨RX0, TX0, 5, tyX0, rfl, tyX0_ok, nmX0, rfl, rfl⟩
theorem in_X1 : ∀ w ∈ u_ws RX1 TX1 2, w ∈ cw := by
  intro w hw
  obtain ⟨k, hk, rfl⟩ := List.mem_map.mp hw
  have hk := List.mem_range.mp hk
  rcases (show k = 0 ∨ k = 1 by omega) with rfl | rfl
  · exact cw_1 130 rfl rfl
  · exact cw_1 132 rfl rfl
theorem gs_X1_0 : k_fst 1 0 .int := ⟨RX1, TX1, 2, tyX1, rfl, tyX1_ok, nmX1, rfl, rfl⟩
theorem in_X2 : ∀ w ∈ u_ws RX2 TX2 6, w ∈ cw := by
  intro w hw
  obtain ⟨k, hk, rfl⟩ := List.mem_map.mp hw
  have hk := List.mem_range.mp hk
  rcases (show k = 0 ∨ k = 1 ∨ k = 2 ∨ k = 3 ∨ k = 4 ∨ k = 5 by omega) with rfl | rfl | rfl | rfl | rfl | rfl
  · exact cw_1 48 rfl rfl
  · exact cw_1 50 rfl rfl
  · exact cw_1 52 rfl rfl
  · exact cw_1 54 rfl rfl
  · exact cw_1 56 rfl rfl
  · exact cw_1 58 rfl rfl
theorem gs_X2_0 : k_fst 2 0 .int := ⟨RX2, TX2, 6, tyX2, rfl, tyX2_ok, nmX2, rfl, rfl⟩
theorem gs_X2_1 : k_fst 2 1 .int := ⟨RX2, TX2, 6, tyX2, rfl, tyX2_ok, nmX2, rfl, rfl⟩
theorem in_X3 : ∀ w ∈ u_ws RX3 TX3 4, w ∈ cw := by
  intro w hw
  obtain ⟨k, hk, rfl⟩ := List.mem_map.mp hw
  have hk := List.mem_range.mp hk
  rcases (show k = 0 ∨ k = 1 ∨ k = 2 ∨ k = 3 by omega) with rfl | rfl | rfl | rfl
  · exact cw_1 101 rfl rfl
  · exact cw_1 103 rfl rfl
  · exact cw_1 105 rfl rfl
  · exact cw_1 107 rfl rfl
theorem gs_X3_0 : k_fst 3 0 .int := ⟨RX3, TX3, 4, tyX3, rfl, tyX3_ok, nmX3, rfl, rfl⟩
theorem in_X4 : ∀ w ∈ u_ws RX4 TX4 11, w ∈ cw := by
  intro w hw
  obtain ⟨k, hk, rfl⟩ := List.mem_map.mp hw
  have hk := List.mem_range.mp hk
  rcases (show k = 0 ∨ k = 1 ∨ k = 2 ∨ k = 3 ∨ k = 4 ∨ k = 5 ∨ k = 6 ∨ k = 7 ∨ k = 8 ∨ k = 9 ∨ k = 10 by omega) with rfl | rfl | rfl | rfl | rfl | rfl | rfl | rfl | rfl | rfl | rfl
  · exact cw_1 150 rfl rfl
  · exact cw_1 152 rfl rfl
  · exact cw_1 154 rfl rfl
  · exact cw_1 156 rfl rfl
  · exact cw_1 158 rfl rfl
  · exact cw_1 160 rfl rfl
  · exact cw_1 162 rfl rfl
  · exact cw_1 164 rfl rfl
  · exact cw_1 166 rfl rfl
  · exact cw_1 168 rfl rfl
  · exact cw_1 170 rfl rfl
theorem gs_X4_1 : k_fst 4 1 .int := ⟨RX4, TX4, 11, tyX4, rfl, tyX4_ok, nmX4, rfl, rfl⟩
theorem gs_X4_5 : k_fst 4 5 .int := ⟨RX4, TX4, 11, tyX4, rfl, tyX4_ok, nmX4, rfl, rfl⟩
theorem gs_X4_7 : k_fst 4 7 .int := ⟨RX4, TX4, 11, tyX4, rfl, tyX4_ok, nmX4, rfl, rfl⟩
theorem gs_X4_8 : k_fst 4 8 .long := ⟨RX4, TX4, 11, tyX4, rfl, tyX4_ok, nmX4, rfl, rfl⟩
theorem gs_X4_9 : k_fst 4 9 .int := ⟨RX4, TX4, 11, tyX4, rfl, tyX4_ok, nmX4, rfl, rfl⟩
theorem gs_X4_10 : k_fst 4 10 .int := ⟨RX4, TX4, 11, tyX4, rfl, tyX4_ok, nmX4, rfl, rfl⟩
theorem in_X5 : ∀ w ∈ u_ws RX5 TX5 4, w ∈ cw := by
  intro w hw
  obtain ⟨k, hk, rfl⟩ := List.mem_map.mp hw
  have hk := List.mem_range.mp hk
  rcases (show k = 0 ∨ k = 1 ∨ k = 2 ∨ k = 3 by omega) with rfl | rfl | rfl | rfl
  · exact cw_1 187 rfl rfl
  · exact cw_1 189 rfl rfl
  · exact cw_1 191 rfl rfl
  · exact cw_1 193 rfl rfl
theorem gs_X5_0 : k_fst 5 0 .boolean := ⟨RX5, TX5, 4, tyX5, rfl, tyX5_ok, nmX5, rfl, rfl⟩
theorem gs_X5_1 : k_fst 5 1 .int := ⟨RX5, TX5, 4, tyX5, rfl, tyX5_ok, nmX5, rfl, rfl⟩
theorem gs_X5_2 : k_fst 5 2 .int := ⟨RX5, TX5, 4, tyX5, rfl, tyX5_ok, nmX5, rfl, rfl⟩
theorem in_X7 : ∀ w ∈ u_ws RX7 TX7 7, w ∈ cw := by
  intro w hw
  obtain ⟨k, hk, rfl⟩ := List.mem_map.mp hw
  have hk := List.mem_range.mp hk
  rcases (show k = 0 ∨ k = 1 ∨ k = 2 ∨ k = 3 ∨ k = 4 ∨ k = 5 ∨ k = 6 by omega) with rfl | rfl | rfl | rfl | rfl | rfl | rfl
  · exact cw_1 203 rfl rfl
  · exact cw_1 205 rfl rfl
  · exact cw_1 207 rfl rfl
  · exact cw_1 209 rfl rfl
  · exact cw_1 211 rfl rfl
  · exact cw_1 213 rfl rfl
  · exact cw_1 215 rfl rfl
theorem gs_X7_5 : k_fst 6 5 .int := ⟨RX7, TX7, 7, tyX7, rfl, tyX7_ok, nmX7, rfl, rfl⟩
theorem gs_X7_6 : k_fst 6 6 .int := ⟨RX7, TX7, 7, tyX7, rfl, tyX7_ok, nmX7, rfl, rfl⟩
theorem in_X8 : ∀ w ∈ u_ws RX8 TX8 39, w ∈ cw := by
  intro w hw
  obtain ⟨k, hk, rfl⟩ := List.mem_map.mp hw
  have hk := List.mem_range.mp hk
  rcases (show k = 0 ∨ k = 1 ∨ k = 2 ∨ k = 3 ∨ k = 4 ∨ k = 5 ∨ k = 6 ∨ k = 7 ∨ k = 8 ∨ k = 9 ∨ k = 10 ∨ k = 11 ∨ k = 12 ∨ k = 13 ∨ k = 14 ∨ k = 15 ∨ k = 16 ∨ k = 17 ∨ k = 18 ∨ k = 19 ∨ k = 20 ∨ k = 21 ∨ k = 22 ∨ k = 23 ∨ k = 24 ∨ k = 25 ∨ k = 26 ∨ k = 27 ∨ k = 28 ∨ k = 29 ∨ k = 30 ∨ k = 31 ∨ k = 32 ∨ k = 33 ∨ k = 34 ∨ k = 35 ∨ k = 36 ∨ k = 37 ∨ k = 38 by omega) with rfl | rfl | rfl | rfl | rfl | rfl | rfl | rfl | rfl | rfl | rfl | rfl | rfl | rfl | rfl | rfl | rfl | rfl | rfl | rfl | rfl | rfl | rfl | rfl | rfl | rfl | rfl | rfl | rfl | rfl | rfl | rfl | rfl | rfl | rfl | rfl | rfl | rfl | rfl
  · exact cw_3 100 rfl rfl
  · exact cw_3 102 rfl rfl
  · exact cw_3 104 rfl rfl
  · exact cw_3 106 rfl rfl
  · exact cw_3 108 rfl rfl
  · exact cw_3 110 rfl rfl
  · exact cw_3 112 rfl rfl
  · exact cw_3 114 rfl rfl
  · exact cw_3 116 rfl rfl
  · exact cw_3 118 rfl rfl
  · exact cw_3 120 rfl rfl
  · exact cw_3 122 rfl rfl
  · exact cw_3 124 rfl rfl
  · exact cw_3 126 rfl rfl
  · exact cw_3 128 rfl rfl
  · exact cw_3 130 rfl rfl
  · exact cw_3 132 rfl rfl
  · exact cw_3 134 rfl rfl
  · exact cw_3 136 rfl rfl
  · exact cw_3 138 rfl rfl
  · exact cw_3 140 rfl rfl
  · exact cw_3 142 rfl rfl
  · exact cw_3 144 rfl rfl
  · exact cw_3 146 rfl rfl
  · exact cw_3 148 rfl rfl
  · exact cw_3 150 rfl rfl
  · exact cw_3 152 rfl rfl
  · exact cw_3 154 rfl rfl
  · exact cw_3 156 rfl rfl
  · exact cw_3 158 rfl rfl
  · exact cw_3 160 rfl rfl
  · exact cw_3 162 rfl rfl
  · exact cw_3 164 rfl rfl
  · exact cw_3 166 rfl rfl
  · exact cw_3 168 rfl rfl
  · exact cw_3 170 rfl rfl
  · exact cw_3 172 rfl rfl
  · exact cw_3 174 rfl rfl
  · exact cw_3 176 rfl rfl
theorem gs_X8_0 : k_fst 7 0 .int := ⟨RX8, TX8, 39, tyX8, rfl, tyX8_ok, nmX8, rfl, rfl⟩
theorem gs_X8_1 : k_fst 7 1 .int := ⟨RX8, TX8, 39, tyX8, rfl, tyX8_ok, nmX8, rfl, rfl⟩
theorem gs_X8_5 : k_fst 7 5 .int := ⟨RX8, TX8, 39, tyX8, rfl, tyX8_ok, nmX8, rfl, rfl⟩
theorem gs_X8_10 : k_fst 7 10 .int := ⟨RX8, TX8, 39, tyX8, rfl, tyX8_ok, nmX8, rfl, rfl⟩
theorem gs_X8_11 : k_fst 7 11 .int := ⟨RX8, TX8, 39, tyX8, rfl, tyX8_ok, nmX8, rfl, rfl⟩
theorem gs_X8_15 : k_fst 7 15 .int := ⟨RX8, TX8, 39, tyX8, rfl, tyX8_ok, nmX8, rfl, rfl⟩
theorem gs_X8_20 : k_fst 7 20 .int := ⟨RX8, TX8, 39, tyX8, rfl, tyX8_ok, nmX8, rfl, rfl⟩
theorem gs_X8_22 : k_fst 7 22 .int := ⟨RX8, TX8, 39, tyX8, rfl, tyX8_ok, nmX8, rfl, rfl⟩
theorem gs_X8_23 : k_fst 7 23 .int := ⟨RX8, TX8, 39, tyX8, rfl, tyX8_ok, nmX8, rfl, rfl⟩
theorem gs_X8_28 : k_fst 7 28 .int := ⟨RX8, TX8, 39, tyX8, rfl, tyX8_ok, nmX8, rfl, rfl⟩
theorem gs_X8_35 : k_fst 7 35 .int := ⟨RX8, TX8, 39, tyX8, rfl, tyX8_ok, nmX8, rfl, rfl⟩
theorem gf_X2_24 : k_fld RX2 24 2 0 := ⟨RX2, TX2, 6, rfl, in_X2, by decide, cw_1 28 rfl rfl⟩
theorem gf_X7_84 : k_fld RX7 84 2 0 := ⟨RX2, TX2, 6, rfl, in_X2, by decide, cw_1 29 rfl rfl⟩
theorem gf_X4_90 : k_fld RX4 90 2 0 := ⟨RX2, TX2, 6, rfl, in_X2, by decide, cw_1 30 rfl rfl⟩
theorem gf_X6_36 : k_fld RX6 36 2 0 := ⟨RX2, TX2, 6, rfl, in_X2, by decide, cw_1 31 rfl rfl⟩
theorem gf_X7_104 : k_fld RX7 104 2 1 := ⟨RX2, TX2, 6, rfl, in_X2, by decide, cw_1 32 rfl rfl⟩
theorem gf_X6_42 : k_fld RX6 42 2 1 := ⟨RX2, TX2, 6, rfl, in_X2, by decide, cw_1 33 rfl rfl⟩
theorem gf_X2_9 : k_fld RX2 9 2 2 := ⟨RX2, TX2, 6, rfl, in_X2, by decide, cw_1 34 rfl rfl⟩
theorem gf_X7_88 : k_fld RX7 88 2 2 := ⟨RX2, TX2, 6, rfl, in_X2, by decide, cw_1 35 rfl rfl⟩
theorem gf_X6_45 : k_fld RX6 45 2 2 := ⟨RX2, TX2, 6, rfl, in_X2, by decide, cw_1 36 rfl rfl⟩
theorem gf_X2_15 : k_fld RX2 15 2 3 := ⟨RX2, TX2, 6, rfl, in_X2, by decide, cw_1 37 rfl rfl⟩
theorem gf_X7_92 : k_fld RX7 92 2 3 := ⟨RX2, TX2, 6, rfl, in_X2, by decide, cw_1 38 rfl rfl⟩
theorem gf_X6_49 : k_fld RX6 49 2 3 := ⟨RX2, TX2, 6, rfl, in_X2, by decide, cw_1 39 rfl rfl⟩
theorem gf_X4_120 : k_fld RX4 120 2 3 := ⟨RX2, TX2, 6, rfl, in_X2, by decide, cw_1 40 rfl rfl⟩
theorem gf_X2_18 : k_fld RX2 18 2 4 := ⟨RX2, TX2, 6, rfl, in_X2, by decide, cw_1 41 rfl rfl⟩
theorem gf_X7_95 : k_fld RX7 95 2 4 := ⟨RX2, TX2, 6, rfl, in_X2, by decide, cw_1 42 rfl rfl⟩
theorem gf_X6_52 : k_fld RX6 52 2 4 := ⟨RX2, TX2, 6, rfl, in_X2, by decide, cw_1 43 rfl rfl⟩
theorem gf_X4_128 : k_fld RX4 128 2 4 := ⟨RX2, TX2, 6, rfl, in_X2, by decide, cw_1 44 rfl rfl⟩
theorem gf_X2_21 : k_fld RX2 21 2 5 := ⟨RX2, TX2, 6, rfl, in_X2, by decide, cw_1 45 rfl rfl⟩
theorem gf_X7_98 : k_fld RX7 98 2 5 := ⟨RX2, TX2, 6, rfl, in_X2, by decide, cw_1 46 rfl rfl⟩
theorem gf_X6_55 : k_fld RX6 55 2 5 := ⟨RX2, TX2, 6, rfl, in_X2, by decide, cw_1 47 rfl rfl⟩
theorem gf_X0_22 : k_fld RX0 22 0 0 := ⟨RX0, TX0, 5, rfl, in_X0, by decide, cw_1 68 rfl rfl⟩
theorem gf_X7_80 : k_fld RX7 80 0 0 := ⟨RX0, TX0, 5, rfl, in_X0, by decide, cw_1 69 rfl rfl⟩
theorem gf_X4_56 : k_fld RX4 56 0 0 := ⟨RX0, TX0, 5, rfl, in_X0, by decide, cw_1 70 rfl rfl⟩
theorem gf_X0_7 : k_fld RX0 7 0 1 := ⟨RX0, TX0, 5, rfl, in_X0, by decide, cw_1 71 rfl rfl⟩
theorem gf_X4_96 : k_fld RX4 96 0 1 := ⟨RX0, TX0, 5, rfl, in_X0, by decide, cw_1 72 rfl rfl⟩
theorem gf_X0_13 : k_fld RX0 13 0 2 := ⟨RX0, TX0, 5, rfl, in_X0, by decide, cw_1 73 rfl rfl⟩
theorem gf_X4_99 : k_fld RX4 99 0 2 := ⟨RX0, TX0, 5, rfl, in_X0, by decide, cw_1 74 rfl rfl⟩
theorem gf_X0_16 : k_fld RX0 16 0 3 := ⟨RX0, TX0, 5, rfl, in_X0, by decide, cw_1 75 rfl rfl⟩
theorem gf_X4_63 : k_fld RX4 63 0 3 := ⟨RX0, TX0, 5, rfl, in_X0, by decide, cw_1 76 rfl rfl⟩
theorem gf_X0_19 : k_fld RX0 19 0 4 := ⟨RX0, TX0, 5, rfl, in_X0, by decide, cw_1 77 rfl rfl⟩
theorem gf_X4_102 : k_fld RX4 102 0 4 := ⟨RX0, TX0, 5, rfl, in_X0, by decide, cw_1 78 rfl rfl⟩
theorem gf_X3_22 : k_fld RX3 22 3 0 := ⟨RX3, TX3, 4, rfl, in_X3, by decide, cw_1 96 rfl rfl⟩
theorem gf_X7_83 : k_fld RX7 83 3 0 := ⟨RX3, TX3, 4, rfl, in_X3, by decide, cw_1 97 rfl rfl⟩
theorem gf_X3_9 : k_fld RX3 9 3 1 := ⟨RX3, TX3, 4, rfl, in_X3, by decide, cw_1 98 rfl rfl⟩
theorem gf_X3_15 : k_fld RX3 15 3 2 := ⟨RX3, TX3, 4, rfl, in_X3, by decide, cw_1 99 rfl rfl⟩
theorem gf_X3_18 : k_fld RX3 18 3 3 := ⟨RX3, TX3, 4, rfl, in_X3, by decide, cw_1 100 rfl rfl⟩
theorem gf_X1_16 : k_fld RX1 16 1 0 := ⟨RX1, TX1, 2, rfl, in_X1, by decide, cw_1 125 rfl rfl⟩
theorem gf_X4_66 : k_fld RX4 66 1 0 := ⟨RX1, TX1, 2, rfl, in_X1, by decide, cw_1 126 rfl rfl⟩
theorem gf_X7_139 : k_fld RX7 139 1 0 := ⟨RX1, TX1, 2, rfl, in_X1, by decide, cw_1 127 rfl rfl⟩
theorem gf_X1_11 : k_fld RX1 11 1 1 := ⟨RX1, TX1, 2, rfl, in_X1, by decide, cw_1 128 rfl rfl⟩
theorem gf_X7_142 : k_fld RX7 142 1 1 := ⟨RX1, TX1, 2, rfl, in_X1, by decide, cw_1 129 rfl rfl⟩
theorem gf_X4_12 : k_fld RX4 12 4 0 := ⟨RX4, TX4, 11, rfl, in_X4, by decide, cw_1 137 rfl rfl⟩
theorem gf_X7_135 : k_fld RX7 135 4 0 := ⟨RX4, TX4, 11, rfl, in_X4, by decide, cw_1 138 rfl rfl⟩
theorem gf_X4_70 : k_fld RX4 70 4 1 := ⟨RX4, TX4, 11, rfl, in_X4, by decide, cw_1 139 rfl rfl⟩
theorem gf_X7_167 : k_fld RX7 167 4 1 := ⟨RX4, TX4, 11, rfl, in_X4, by decide, cw_1 140 rfl rfl⟩
theorem gf_X4_31 : k_fld RX4 31 4 2 := ⟨RX4, TX4, 11, rfl, in_X4, by decide, cw_1 141 rfl rfl⟩
theorem gf_X4_35 : k_fld RX4 35 4 3 := ⟨RX4, TX4, 11, rfl, in_X4, by decide, cw_1 142 rfl rfl⟩
theorem gf_X4_23 : k_fld RX4 23 4 4 := ⟨RX4, TX4, 11, rfl, in_X4, by decide, cw_1 143 rfl rfl⟩
theorem gf_X4_67 : k_fld RX4 67 4 5 := ⟨RX4, TX4, 11, rfl, in_X4, by decide, cw_1 144 rfl rfl⟩
theorem gf_X4_27 : k_fld RX4 27 4 6 := ⟨RX4, TX4, 11, rfl, in_X4, by decide, cw_1 145 rfl rfl⟩
theorem gf_X4_45 : k_fld RX4 45 4 7 := ⟨RX4, TX4, 11, rfl, in_X4, by decide, cw_1 146 rfl rfl⟩
theorem gf_X4_52 : k_fld RX4 52 4 8 := ⟨RX4, TX4, 11, rfl, in_X4, by decide, cw_1 147 rfl rfl⟩
theorem gf_X4_49 : k_fld RX4 49 4 9 := ⟨RX4, TX4, 11, rfl, in_X4, by decide, cw_1 148 rfl rfl⟩
theorem gf_X4_83 : k_fld RX4 83 4 10 := ⟨RX4, TX4, 11, rfl, in_X4, by decide, cw_1 149 rfl rfl⟩
theorem gf_X5_15 : k_fld RX5 15 5 0 := ⟨RX5, TX5, 4, rfl, in_X5, by decide, cw_1 180 rfl rfl⟩
theorem gf_X7_193 : k_fld RX7 193 5 0 := ⟨RX5, TX5, 4, rfl, in_X5, by decide, cw_1 181 rfl rfl⟩
theorem gf_X5_19 : k_fld RX5 19 5 1 := ⟨RX5, TX5, 4, rfl, in_X5, by decide, cw_1 182 rfl rfl⟩
theorem gf_X7_203 : k_fld RX7 203 5 1 := ⟨RX5, TX5, 4, rfl, in_X5, by decide, cw_1 183 rfl rfl⟩
theorem gf_X5_32 : k_fld RX5 32 5 2 := ⟨RX5, TX5, 4, rfl, in_X5, by decide, cw_1 184 rfl rfl⟩
theorem gf_X5_9 : k_fld RX5 9 5 3 := ⟨RX5, TX5, 4, rfl, in_X5, by decide, cw_1 185 rfl rfl⟩
theorem gf_X7_200 : k_fld RX7 200 5 3 := ⟨RX5, TX5, 4, rfl, in_X5, by decide, cw_1 186 rfl rfl⟩
theorem gf_X7_14 : k_fld RX7 14 6 0 := ⟨RX7, TX7, 7, rfl, in_X7, by decide, cw_1 196 rfl rfl⟩
theorem gf_X7_23 : k_fld RX7 23 6 1 := ⟨RX7, TX7, 7, rfl, in_X7, by decide, cw_1 197 rfl rfl⟩
theorem gf_X7_30 : k_fld RX7 30 6 2 := ⟨RX7, TX7, 7, rfl, in_X7, by decide, cw_1 198 rfl rfl⟩
theorem gf_X7_39 : k_fld RX7 39 6 3 := ⟨RX7, TX7, 7, rfl, in_X7, by decide, cw_1 199 rfl rfl⟩
theorem gf_X7_45 : k_fld RX7 45 6 4 := ⟨RX7, TX7, 7, rfl, in_X7, by decide, cw_1 200 rfl rfl⟩
theorem gf_X7_231 : k_fld RX7 231 6 5 := ⟨RX7, TX7, 7, rfl, in_X7, by decide, cw_1 201 rfl rfl⟩
theorem gf_X7_50 : k_fld RX7 50 6 6 := ⟨RX7, TX7, 7, rfl, in_X7, by decide, cw_1 202 rfl rfl⟩
theorem gf_X8_95 : k_fld RX8 95 7 0 := ⟨RX8, TX8, 39, rfl, in_X8, by decide, cw_3 61 rfl rfl⟩
theorem gf_X8_233 : k_fld RX8 233 7 1 := ⟨RX8, TX8, 39, rfl, in_X8, by decide, cw_3 62 rfl rfl⟩
theorem gf_X8_9 : k_fld RX8 9 7 2 := ⟨RX8, TX8, 39, rfl, in_X8, by decide, cw_3 63 rfl rfl⟩
theorem gf_X8_13 : k_fld RX8 13 7 3 := ⟨RX8, TX8, 39, rfl, in_X8, by decide, cw_3 64 rfl rfl⟩
theorem gf_X8_16 : k_fld RX8 16 7 4 := ⟨RX8, TX8, 39, rfl, in_X8, by decide, cw_3 65 rfl rfl⟩
theorem gf_X8_105 : k_fld RX8 105 7 5 := ⟨RX8, TX8, 39, rfl, in_X8, by decide, cw_3 66 rfl rfl⟩
theorem gf_X8_19 : k_fld RX8 19 7 6 := ⟨RX8, TX8, 39, rfl, in_X8, by decide, cw_3 67 rfl rfl⟩
theorem gf_X8_22 : k_fld RX8 22 7 7 := ⟨RX8, TX8, 39, rfl, in_X8, by decide, cw_3 68 rfl rfl⟩
theorem gf_X8_25 : k_fld RX8 25 7 8 := ⟨RX8, TX8, 39, rfl, in_X8, by decide, cw_3 69 rfl rfl⟩
theorem gf_X8_28 : k_fld RX8 28 7 9 := ⟨RX8, TX8, 39, rfl, in_X8, by decide, cw_3 70 rfl rfl⟩
theorem gf_X8_108 : k_fld RX8 108 7 10 := ⟨RX8, TX8, 39, rfl, in_X8, by decide, cw_3 71 rfl rfl⟩
theorem gf_X8_129 : k_fld RX8 129 7 11 := ⟨RX8, TX8, 39, rfl, in_X8, by decide, cw_3 72 rfl rfl⟩
theorem gf_X8_32 : k_fld RX8 32 7 12 := ⟨RX8, TX8, 39, rfl, in_X8, by decide, cw_3 73 rfl rfl⟩
theorem gf_X8_35 : k_fld RX8 35 7 13 := ⟨RX8, TX8, 39, rfl, in_X8, by decide, cw_3 74 rfl rfl⟩
theorem gf_X8_38 : k_fld RX8 38 7 14 := ⟨RX8, TX8, 39, rfl, in_X8, by decide, cw_3 75 rfl rfl⟩
theorem gf_X8_132 : k_fld RX8 132 7 15 := ⟨RX8, TX8, 39, rfl, in_X8, by decide, cw_3 76 rfl rfl⟩
theorem gf_X8_41 : k_fld RX8 41 7 16 := ⟨RX8, TX8, 39, rfl, in_X8, by decide, cw_3 77 rfl rfl⟩
theorem gf_X8_44 : k_fld RX8 44 7 17 := ⟨RX8, TX8, 39, rfl, in_X8, by decide, cw_3 78 rfl rfl⟩
theorem gf_X8_47 : k_fld RX8 47 7 18 := ⟨RX8, TX8, 39, rfl, in_X8, by decide, cw_3 79 rfl rfl⟩
theorem gf_X8_50 : k_fld RX8 50 7 19 := ⟨RX8, TX8, 39, rfl, in_X8, by decide, cw_3 80 rfl rfl⟩
theorem gf_X8_181 : k_fld RX8 181 7 20 := ⟨RX8, TX8, 39, rfl, in_X8, by decide, cw_3 81 rfl rfl⟩
theorem gf_X8_53 : k_fld RX8 53 7 21 := ⟨RX8, TX8, 39, rfl, in_X8, by decide, cw_3 82 rfl rfl⟩
theorem gf_X8_155 : k_fld RX8 155 7 22 := ⟨RX8, TX8, 39, rfl, in_X8, by decide, cw_3 83 rfl rfl⟩
theorem gf_X8_172 : k_fld RX8 172 7 23 := ⟨RX8, TX8, 39, rfl, in_X8, by decide, cw_3 84 rfl rfl⟩
theorem gf_X8_56 : k_fld RX8 56 7 24 := ⟨RX8, TX8, 39, rfl, in_X8, by decide, cw_3 85 rfl rfl⟩
theorem gf_X8_59 : k_fld RX8 59 7 25 := ⟨RX8, TX8, 39, rfl, in_X8, by decide, cw_3 86 rfl rfl⟩
theorem gf_X8_62 : k_fld RX8 62 7 26 := ⟨RX8, TX8, 39, rfl, in_X8, by decide, cw_3 87 rfl rfl⟩
theorem gf_X8_65 : k_fld RX8 65 7 27 := ⟨RX8, TX8, 39, rfl, in_X8, by decide, cw_3 88 rfl rfl⟩
theorem gf_X8_165 : k_fld RX8 165 7 28 := ⟨RX8, TX8, 39, rfl, in_X8, by decide, cw_3 89 rfl rfl⟩
theorem gf_X8_68 : k_fld RX8 68 7 29 := ⟨RX8, TX8, 39, rfl, in_X8, by decide, cw_3 90 rfl rfl⟩
theorem gf_X8_71 : k_fld RX8 71 7 30 := ⟨RX8, TX8, 39, rfl, in_X8, by decide, cw_3 91 rfl rfl⟩
theorem gf_X8_74 : k_fld RX8 74 7 31 := ⟨RX8, TX8, 39, rfl, in_X8, by decide, cw_3 92 rfl rfl⟩
theorem gf_X8_77 : k_fld RX8 77 7 32 := ⟨RX8, TX8, 39, rfl, in_X8, by decide, cw_3 93 rfl rfl⟩
theorem gf_X8_80 : k_fld RX8 80 7 33 := ⟨RX8, TX8, 39, rfl, in_X8, by decide, cw_3 94 rfl rfl⟩
theorem gf_X8_83 : k_fld RX8 83 7 34 := ⟨RX8, TX8, 39, rfl, in_X8, by decide, cw_3 95 rfl rfl⟩
theorem gf_X8_135 : k_fld RX8 135 7 35 := ⟨RX8, TX8, 39, rfl, in_X8, by decide, cw_3 96 rfl rfl⟩
theorem gf_X8_86 : k_fld RX8 86 7 36 := ⟨RX8, TX8, 39, rfl, in_X8, by decide, cw_3 97 rfl rfl⟩
theorem gf_X8_89 : k_fld RX8 89 7 37 := ⟨RX8, TX8, 39, rfl, in_X8, by decide, cw_3 98 rfl rfl⟩
theorem gf_X8_92 : k_fld RX8 92 7 38 := ⟨RX8, TX8, 39, rfl, in_X8, by decide, cw_3 99 rfl rfl⟩
theorem lk_L_13 : k_lkV RL 13 yX7_coast cX7_coast 8 (some .int) 4 := ⟨⟨cw_1 218 rfl rfl, cw_1 1 rfl rfl, cw_1 221 rfl rfl, by decide +kernel, by decide +kernel, by decide +kernel⟩, cw_1 219 rfl rfl, cw_1 220 rfl rfl⟩
theorem lk_X7_54 : k_lkV RX7 54 yX7_sheetOf cX7_sheetOf 2 (some (.object "DuelSeconds$Sheet")) 1 := ⟨⟨cw_1 222 rfl rfl, cw_1 1 rfl rfl, cw_1 225 rfl rfl, by decide +kernel, by decide +kernel, by decide +kernel⟩, cw_1 224 rfl rfl, cw_0 0 rfl rfl⟩
theorem lk_X7_58 : k_lkS RX7 58 yX7_isLane cX7_isLane 1 (some .boolean) 1 := ⟨⟨cw_1 226 rfl rfl, cw_1 1 rfl rfl, cw_1 228 rfl rfl, by decide +kernel, by decide +kernel, by decide +kernel⟩, cw_1 227 rfl rfl⟩
theorem lk_X7_62 : k_lkV RX7 62 yX5_faultOfTaking cX5_faultOfTaking 4 (some .int) 3 := ⟨⟨cw_1 229 rfl rfl, cw_1 7 rfl rfl, cw_1 232 rfl rfl, by decide +kernel, by decide +kernel, by decide +kernel⟩, cw_1 230 rfl rfl, cw_1 231 rfl rfl⟩
theorem lk_X5_41 : k_lkV RX5 41 yX5_holds cX5_holds 3 (some .boolean) 2 := ⟨⟨cw_1 233 rfl rfl, cw_1 7 rfl rfl, cw_1 236 rfl rfl, by decide +kernel, by decide +kernel, by decide +kernel⟩, cw_1 234 rfl rfl, cw_1 235 rfl rfl⟩
theorem lk_X7_66 : k_lkV RX7 66 yX7_faulted cX7_faulted 2 (some .int) 1 := ⟨⟨cw_1 237 rfl rfl, cw_1 1 rfl rfl, cw_2 0 rfl rfl, by decide +kernel, by decide +kernel, by decide +kernel⟩, cw_1 239 rfl rfl, cw_0 1 rfl rfl⟩
theorem lk_X7_70 : k_lkS RX7 70 yX6_firstFault cX6_firstFault 4 (some .int) 3 := ⟨⟨cw_2 1 rfl rfl, cw_1 9 rfl rfl, cw_2 3 rfl rfl, by decide +kernel, by decide +kernel, by decide +kernel⟩, cw_2 2 rfl rfl⟩
theorem lk_X6_9 : k_lkS RX6 9 yX6_goesOn cX6_goesOn 6 (some .boolean) 3 := ⟨⟨cw_2 4 rfl rfl, cw_1 9 rfl rfl, cw_2 6 rfl rfl, by decide +kernel, by decide +kernel, by decide +kernel⟩, cw_2 5 rfl rfl⟩
theorem lk_X6_15 : k_lkV RX6 15 yX5_at cX5_at 2 (some .int) 1 := ⟨⟨cw_2 7 rfl rfl, cw_1 7 rfl rfl, cw_2 10 rfl rfl, by decide +kernel, by decide +kernel, by decide +kernel⟩, cw_2 8 rfl rfl, cw_2 9 rfl rfl⟩
theorem lk_X6_21 : k_lkS RX6 21 yX6_digit cX6_digit 1 (some .int) 1 := ⟨⟨cw_2 11 rfl rfl, cw_1 9 rfl rfl, cw_2 13 rfl rfl, by decide +kernel, by decide +kernel, by decide +kernel⟩, cw_2 12 rfl rfl⟩
theorem lk_X6_24 : k_lkS RX6 24 yX6_kindOf cX6_kindOf 1 (some .int) 1 := ⟨⟨cw_2 14 rfl rfl, cw_1 9 rfl rfl, cw_2 16 rfl rfl, by decide +kernel, by decide +kernel, by decide +kernel⟩, cw_2 15 rfl rfl⟩
theorem lk_X7_76 : k_lkS RX7 76 yX6_read cX6_read 5 none 3 := ⟨⟨cw_2 17 rfl rfl, cw_1 9 rfl rfl, cw_2 19 rfl rfl, by decide +kernel, by decide +kernel, by decide +kernel⟩, cw_2 18 rfl rfl⟩
theorem lk_X6_27 : k_lkM_min RX6 27 := ⟨cw_2 20 rfl rfl, cw_2 21 rfl rfl, cw_1 10 rfl rfl, cw_2 22 rfl rfl⟩
theorem lk_X6_33 : k_lkM_max RX6 33 := ⟨cw_2 23 rfl rfl, cw_2 24 rfl rfl, cw_1 10 rfl rfl, cw_2 25 rfl rfl⟩
theorem lk_L_18 : k_lkV RL 18 yX7_ofPerson cX7_ofPerson 3 (some .int) 2 := ⟨⟨cw_2 26 rfl rfl, cw_1 1 rfl rfl, cw_2 29 rfl rfl, by decide +kernel, by decide +kernel, by decide +kernel⟩, cw_2 27 rfl rfl, cw_2 28 rfl rfl⟩
theorem lk_X7_85 : k_lkV RX7 85 yX2_has cX2_has 2 (some .boolean) 1 := ⟨⟨cw_2 30 rfl rfl, cw_1 2 rfl rfl, cw_2 33 rfl rfl, by decide +kernel, by decide +kernel, by decide +kernel⟩, cw_2 31 rfl rfl, cw_2 32 rfl rfl⟩
theorem lk_X7_101 : k_lkV RX7 101 yX2_touchiness cX2_touchiness 4 (some .int) 1 := ⟨⟨cw_2 34 rfl rfl, cw_1 2 rfl rfl, cw_2 37 rfl rfl, by decide +kernel, by decide +kernel, by decide +kernel⟩, cw_2 35 rfl rfl, cw_2 36 rfl rfl⟩
theorem lk_X2_32 : k_lkM_max RX2 32 := ⟨cw_2 38 rfl rfl, cw_2 24 rfl rfl, cw_1 10 rfl rfl, cw_2 25 rfl rfl⟩
theorem lk_X7_107 : k_lkS RX7 107 yX7_in cX7_in 2 (some .boolean) 2 := ⟨⟨cw_2 39 rfl rfl, cw_1 1 rfl rfl, cw_2 41 rfl rfl, by decide +kernel, by decide +kernel, by decide +kernel⟩, cw_2 40 rfl rfl⟩
theorem lk_L_23 : k_lkV RL 23 yX7_insult cX7_insult 5 (some .int) 4 := ⟨⟨cw_2 42 rfl rfl, cw_1 1 rfl rfl, cw_2 45 rfl rfl, by decide +kernel, by decide +kernel, by decide +kernel⟩, cw_2 43 rfl rfl, cw_2 44 rfl rfl⟩
theorem lk_X7_111 : k_lkV RX7 111 yX2_hasTwo cX2_hasTwo 3 (some .boolean) 2 := ⟨⟨cw_2 46 rfl rfl, cw_1 2 rfl rfl, cw_2 49 rfl rfl, by decide +kernel, by decide +kernel, by decide +kernel⟩, cw_2 47 rfl rfl, cw_2 48 rfl rfl⟩
theorem lk_X2_28 : k_lkV RX2 28 yX2_has cX2_has 2 (some .boolean) 1 := ⟨⟨cw_2 50 rfl rfl, cw_1 2 rfl rfl, cw_2 33 rfl rfl, by decide +kernel, by decide +kernel, by decide +kernel⟩, cw_2 31 rfl rfl, cw_2 32 rfl rfl⟩
theorem lk_X7_114 : k_lkS RX7 114 yX7_isDay cX7_isDay 1 (some .boolean) 1 := ⟨⟨cw_2 51 rfl rfl, cw_1 1 rfl rfl, cw_2 53 rfl rfl, by decide +kernel, by decide +kernel, by decide +kernel⟩, cw_2 52 rfl rfl⟩
theorem lk_X7_117 : k_lkV RX7 117 yX0_add cX0_add 5 none 4 := ⟨⟨cw_2 54 rfl rfl, cw_1 3 rfl rfl, cw_2 57 rfl rfl, by decide +kernel, by decide +kernel, by decide +kernel⟩, cw_2 55 rfl rfl, cw_2 56 rfl rfl⟩
theorem lk_L_27 : k_lkV RL 27 yX7_sorry cX7_sorry 2 (some .int) 1 := ⟨⟨cw_2 58 rfl rfl, cw_1 1 rfl rfl, cw_2 61 rfl rfl, by decide +kernel, by decide +kernel, by decide +kernel⟩, cw_2 59 rfl rfl, cw_2 60 rfl rfl⟩
theorem lk_L_32 : k_lkV RL 32 yX7_arrest cX7_arrest 3 (some .int) 2 := ⟨⟨cw_2 62 rfl rfl, cw_1 1 rfl rfl, cw_2 65 rfl rfl, by decide +kernel, by decide +kernel, by decide +kernel⟩, cw_2 63 rfl rfl, cw_2 64 rfl rfl⟩
theorem lk_X7_121 : k_lkS RX7 121 yX7_bit cX7_bit 1 (some .int) 1 := ⟨⟨cw_2 66 rfl rfl, cw_1 1 rfl rfl, cw_2 68 rfl rfl, by decide +kernel, by decide +kernel, by decide +kernel⟩, cw_2 67 rfl rfl⟩
theorem lk_L_37 : k_lkV RL 37 yX7_meetings cX7_meetings 2 (some .int) 1 := ⟨⟨cw_2 69 rfl rfl, cw_1 1 rfl rfl, cw_2 72 rfl rfl, by decide +kernel, by decide +kernel, by decide +kernel⟩, cw_2 70 rfl rfl, cw_2 71 rfl rfl⟩
theorem lk_X7_124 : k_lkS RX7 124 yX7_isDawn cX7_isDawn 1 (some .boolean) 1 := ⟨⟨cw_2 73 rfl rfl, cw_1 1 rfl rfl, cw_2 75 rfl rfl, by decide +kernel, by decide +kernel, by decide +kernel⟩, cw_2 74 rfl rfl⟩
theorem lk_X7_127 : k_lkV RX7 127 yX7_isEmpty cX7_isEmpty 1 (some .boolean) 0 := ⟨⟨cw_2 76 rfl rfl, cw_1 1 rfl rfl, cw_2 79 rfl rfl, by decide +kernel, by decide +kernel, by decide +kernel⟩, cw_2 78 rfl rfl, cw_0 2 rfl rfl⟩
theorem lk_X7_131 : k_lkV RX7 131 yX4_live cX4_live 5 none 3 := ⟨⟨cw_2 80 rfl rfl, cw_1 5 rfl rfl, cw_2 83 rfl rfl, by decide +kernel, by decide +kernel, by decide +kernel⟩, cw_2 81 rfl rfl, cw_2 82 rfl rfl⟩
theorem lk_X4_38 : k_lkV RX4 38 yX4_begin cX4_begin 4 none 2 := ⟨⟨cw_2 84 rfl rfl, cw_1 5 rfl rfl, cw_2 87 rfl rfl, by decide +kernel, by decide +kernel, by decide +kernel⟩, cw_2 85 rfl rfl, cw_2 86 rfl rfl⟩
theorem lk_X4_73 : k_lkS RX4 73 yJ7_fill_53178 cJ7_fill_53178 4 none 2 := ⟨⟨cw_2 89 rfl rfl, cw_1 11 rfl rfl, cw_2 91 rfl rfl, by decide +kernel, by decide +kernel, by decide +kernel⟩, cw_2 90 rfl rfl⟩
theorem lk_X4_42 : k_lkV RX4 42 yX4_pass cX4_pass 5 none 1 := ⟨⟨cw_2 92 rfl rfl, cw_1 5 rfl rfl, cw_2 95 rfl rfl, by decide +kernel, by decide +kernel, by decide +kernel⟩, cw_2 93 rfl rfl, cw_2 94 rfl rfl⟩
theorem lk_X4_79 : k_lkV RX4 79 yX4_freeAhead cX4_freeAhead 4 (some .int) 1 := ⟨⟨cw_2 96 rfl rfl, cw_1 5 rfl rfl, cw_2 99 rfl rfl, by decide +kernel, by decide +kernel, by decide +kernel⟩, cw_2 97 rfl rfl, cw_2 98 rfl rfl⟩
theorem lk_X4_86 : k_lkV RX4 86 yX4_answer cX4_answer 10 none 3 := ⟨⟨cw_2 101 rfl rfl, cw_1 5 rfl rfl, cw_2 104 rfl rfl, by decide +kernel, by decide +kernel, by decide +kernel⟩, cw_2 103 rfl rfl, cw_0 3 rfl rfl⟩
theorem lk_X4_105 : k_lkV RX4 105 yX2_touchiness cX2_touchiness 4 (some .int) 1 := ⟨⟨cw_2 105 rfl rfl, cw_1 2 rfl rfl, cw_2 37 rfl rfl, by decide +kernel, by decide +kernel, by decide +kernel⟩, cw_2 35 rfl rfl, cw_2 36 rfl rfl⟩
theorem lk_X4_108 : k_lkV RX4 108 yX2_secondAmong cX2_secondAmong 5 (some .int) 2 := ⟨⟨cw_2 106 rfl rfl, cw_1 2 rfl rfl, cw_2 109 rfl rfl, by decide +kernel, by decide +kernel, by decide +kernel⟩, cw_2 107 rfl rfl, cw_2 108 rfl rfl⟩
theorem lk_X4_112 : k_lkV RX4 112 yX4_shoot cX4_shoot 9 (some .int) 3 := ⟨⟨cw_2 111 rfl rfl, cw_1 5 rfl rfl, cw_2 114 rfl rfl, by decide +kernel, by decide +kernel, by decide +kernel⟩, cw_2 113 rfl rfl, cw_0 4 rfl rfl⟩
theorem lk_X4_123 : k_lkM_abs RX4 123 := ⟨cw_2 115 rfl rfl, cw_2 116 rfl rfl, cw_1 10 rfl rfl, cw_2 117 rfl rfl⟩
theorem lk_X4_131 : k_lkV RX4 131 yX0_add cX0_add 5 none 4 := ⟨⟨cw_2 118 rfl rfl, cw_1 3 rfl rfl, cw_2 57 rfl rfl, by decide +kernel, by decide +kernel, by decide +kernel⟩, cw_2 55 rfl rfl, cw_2 56 rfl rfl⟩
theorem lk_X4_116 : k_lkV RX4 116 yX1_add cX1_add 7 none 6 := ⟨⟨cw_2 119 rfl rfl, cw_1 6 rfl rfl, cw_2 122 rfl rfl, by decide +kernel, by decide +kernel, by decide +kernel⟩, cw_2 120 rfl rfl, cw_2 121 rfl rfl⟩
theorem lk_L_41 : k_lkV RL 41 yX7_met cX7_met 3 (some .int) 2 := ⟨⟨cw_2 123 rfl rfl, cw_1 1 rfl rfl, cw_2 126 rfl rfl, by decide +kernel, by decide +kernel, by decide +kernel⟩, cw_2 124 rfl rfl, cw_2 125 rfl rfl⟩
theorem lk_L_45 : k_lkV RL 45 yX7_free cX7_free 3 (some .int) 2 := ⟨⟨cw_2 127 rfl rfl, cw_1 1 rfl rfl, cw_2 130 rfl rfl, by decide +kernel, by decide +kernel, by decide +kernel⟩, cw_2 128 rfl rfl, cw_2 129 rfl rfl⟩
theorem lk_X7_146 : k_lkV RX7 146 yX4_freeAhead cX4_freeAhead 4 (some .int) 1 := ⟨⟨cw_2 131 rfl rfl, cw_1 5 rfl rfl, cw_2 99 rfl rfl, by decide +kernel, by decide +kernel, by decide +kernel⟩, cw_2 97 rfl rfl, cw_2 98 rfl rfl⟩
theorem lk_L_49 : k_lkV RL 49 yX7_second cX7_second 4 (some .int) 3 := ⟨⟨cw_2 132 rfl rfl, cw_1 1 rfl rfl, cw_2 135 rfl rfl, by decide +kernel, by decide +kernel, by decide +kernel⟩, cw_2 133 rfl rfl, cw_2 134 rfl rfl⟩
theorem lk_X7_149 : k_lkV RX7 149 yX2_secondAmong cX2_secondAmong 5 (some .int) 2 := ⟨⟨cw_2 136 rfl rfl, cw_1 2 rfl rfl, cw_2 109 rfl rfl, by decide +kernel, by decide +kernel, by decide +kernel⟩, cw_2 107 rfl rfl, cw_2 108 rfl rfl⟩
theorem lk_L_54 : k_lkV RL 54 yX7_worth cX7_worth 3 (some .int) 1 := ⟨⟨cw_2 137 rfl rfl, cw_1 1 rfl rfl, cw_2 140 rfl rfl, by decide +kernel, by decide +kernel, by decide +kernel⟩, cw_2 138 rfl rfl, cw_2 139 rfl rfl⟩
theorem lk_L_58 : k_lkV RL 58 yX7_arrests cX7_arrests 4 (some .int) 1 := ⟨⟨cw_2 141 rfl rfl, cw_1 1 rfl rfl, cw_2 144 rfl rfl, by decide +kernel, by decide +kernel, by decide +kernel⟩, cw_2 142 rfl rfl, cw_2 143 rfl rfl⟩
theorem lk_X7_153 : k_lkS RX7 153 yJ6_bitCount_0f7a4 cJ6_bitCount_0f7a4 1 (some .int) 1 := ⟨⟨cw_2 145 rfl rfl, cw_1 12 rfl rfl, cw_2 147 rfl rfl, by decide +kernel, by decide +kernel, by decide +kernel⟩, cw_2 146 rfl rfl⟩
theorem lk_L_62 : k_lkV RL 62 yX7_provoked cX7_provoked 7 (some .int) 3 := ⟨⟨cw_2 151 rfl rfl, cw_1 1 rfl rfl, cw_2 154 rfl rfl, by decide +kernel, by decide +kernel, by decide +kernel⟩, cw_2 152 rfl rfl, cw_2 153 rfl rfl⟩
theorem lk_X7_158 : k_lkV RX7 158 yX7_provokingDegree cX7_provokingDegree 6 (some .int) 4 := ⟨⟨cw_2 155 rfl rfl, cw_1 1 rfl rfl, cw_2 158 rfl rfl, by decide +kernel, by decide +kernel, by decide +kernel⟩, cw_2 157 rfl rfl, cw_0 5 rfl rfl⟩
theorem lk_X7_162 : k_lkV RX7 162 yX1_pairMetBehind cX1_pairMetBehind 4 (some .boolean) 2 := ⟨⟨cw_2 159 rfl rfl, cw_1 6 rfl rfl, cw_2 162 rfl rfl, by decide +kernel, by decide +kernel, by decide +kernel⟩, cw_2 160 rfl rfl, cw_2 161 rfl rfl⟩
theorem lk_X1_24 : k_lkV RX1 24 yX1_pairOf cX1_pairOf 2 (some .int) 1 := ⟨⟨cw_2 163 rfl rfl, cw_1 6 rfl rfl, cw_2 166 rfl rfl, by decide +kernel, by decide +kernel, by decide +kernel⟩, cw_2 165 rfl rfl, cw_0 6 rfl rfl⟩
theorem lk_L_66 : k_lkV RL 66 yX7_odds cX7_odds 7 (some .long) 3 := ⟨⟨cw_2 168 rfl rfl, cw_1 1 rfl rfl, cw_2 171 rfl rfl, by decide +kernel, by decide +kernel, by decide +kernel⟩, cw_2 169 rfl rfl, cw_2 170 rfl rfl⟩
theorem lk_L_71 : k_lkV RL 71 yX7_reading cX7_reading 4 (some .int) 3 := ⟨⟨cw_2 173 rfl rfl, cw_1 1 rfl rfl, cw_2 176 rfl rfl, by decide +kernel, by decide +kernel, by decide +kernel⟩, cw_2 174 rfl rfl, cw_2 175 rfl rfl⟩
theorem lk_X7_170 : k_lkV RX7 170 yX3_add cX3_add 4 none 3 := ⟨⟨cw_2 177 rfl rfl, cw_1 4 rfl rfl, cw_2 180 rfl rfl, by decide +kernel, by decide +kernel, by decide +kernel⟩, cw_2 178 rfl rfl, cw_2 179 rfl rfl⟩
theorem lk_L_76 : k_lkV RL 76 yX7_back cX7_back 2 (some .int) 1 := ⟨⟨cw_2 181 rfl rfl, cw_1 1 rfl rfl, cw_2 184 rfl rfl, by decide +kernel, by decide +kernel, by decide +kernel⟩, cw_2 182 rfl rfl, cw_2 183 rfl rfl⟩
theorem lk_L_80 : k_lkV RL 80 yX7_never cX7_never 3 (some .int) 0 := ⟨⟨cw_2 185 rfl rfl, cw_1 1 rfl rfl, cw_2 188 rfl rfl, by decide +kernel, by decide +kernel, by decide +kernel⟩, cw_2 186 rfl rfl, cw_2 187 rfl rfl⟩
theorem lk_X7_173 : k_lkV RX7 173 yX3_areSo cX3_areSo 3 (some .boolean) 1 := ⟨⟨cw_2 189 rfl rfl, cw_1 4 rfl rfl, cw_2 192 rfl rfl, by decide +kernel, by decide +kernel, by decide +kernel⟩, cw_2 190 rfl rfl, cw_2 191 rfl rfl⟩
theorem lk_X3_26 : k_lkV RX3 26 yX1_wasThere cX1_wasThere 4 (some .boolean) 2 := ⟨⟨cw_2 193 rfl rfl, cw_1 6 rfl rfl, cw_2 196 rfl rfl, by decide +kernel, by decide +kernel, by decide +kernel⟩, cw_2 194 rfl rfl, cw_2 195 rfl rfl⟩
theorem lk_L_85 : k_lkV RL 85 yX7_caught cX7_caught 3 (some .int) 0 := ⟨⟨cw_2 198 rfl rfl, cw_1 1 rfl rfl, cw_2 201 rfl rfl, by decide +kernel, by decide +kernel, by decide +kernel⟩, cw_2 199 rfl rfl, cw_2 200 rfl rfl⟩
theorem lk_L_89 : k_lkV RL 89 yX7_row cX7_row 8 (some .int) 4 := ⟨⟨cw_2 202 rfl rfl, cw_1 1 rfl rfl, cw_2 205 rfl rfl, by decide +kernel, by decide +kernel, by decide +kernel⟩, cw_2 203 rfl rfl, cw_2 204 rfl rfl⟩
theorem lk_X7_177 : k_lkV RX7 177 yX5_at cX5_at 2 (some .int) 1 := ⟨⟨cw_2 206 rfl rfl, cw_1 7 rfl rfl, cw_2 10 rfl rfl, by decide +kernel, by decide +kernel, by decide +kernel⟩, cw_2 8 rfl rfl, cw_2 9 rfl rfl⟩
theorem lk_X7_180 : k_lkV RX7 180 yX7_freeInTurn cX7_freeInTurn 5 (some .int) 3 := ⟨⟨cw_2 207 rfl rfl, cw_1 1 rfl rfl, cw_2 210 rfl rfl, by decide +kernel, by decide +kernel, by decide +kernel⟩, cw_2 209 rfl rfl, cw_0 7 rfl rfl⟩
theorem lk_X7_183 : k_lkV RX7 183 yX4_begin cX4_begin 4 none 2 := ⟨⟨cw_2 211 rfl rfl, cw_1 5 rfl rfl, cw_2 87 rfl rfl, by decide +kernel, by decide +kernel, by decide +kernel⟩, cw_2 85 rfl rfl, cw_2 86 rfl rfl⟩
theorem lk_X7_187 : k_lkV RX7 187 yX4_pass cX4_pass 5 none 1 := ⟨⟨cw_2 212 rfl rfl, cw_1 5 rfl rfl, cw_2 95 rfl rfl, by decide +kernel, by decide +kernel, by decide +kernel⟩, cw_2 93 rfl rfl, cw_2 94 rfl rfl⟩
theorem lk_L_93 : k_lkV RL 93 yX7_sheet cX7_sheet 5 (some .int) 3 := ⟨⟨cw_2 213 rfl rfl, cw_1 1 rfl rfl, cw_2 216 rfl rfl, by decide +kernel, by decide +kernel, by decide +kernel⟩, cw_2 214 rfl rfl, cw_2 215 rfl rfl⟩
theorem lk_X7_190 : k_lkV RX7 190 yX5_renew cX5_renew 3 none 2 := ⟨⟨cw_2 217 rfl rfl, cw_1 7 rfl rfl, cw_2 220 rfl rfl, by decide +kernel, by decide +kernel, by decide +kernel⟩, cw_2 218 rfl rfl, cw_2 219 rfl rfl⟩
theorem lk_X5_23 : k_lkM_min RX5 23 := ⟨cw_2 221 rfl rfl, cw_2 21 rfl rfl, cw_1 10 rfl rfl, cw_2 22 rfl rfl⟩
theorem lk_X5_29 : k_lkM_max RX5 29 := ⟨cw_2 222 rfl rfl, cw_2 24 rfl rfl, cw_1 10 rfl rfl, cw_2 25 rfl rfl⟩
theorem lk_X5_35 : k_lkS RX5 35 yJ7_fill_53178 cJ7_fill_53178 4 none 2 := ⟨⟨cw_2 223 rfl rfl, cw_1 11 rfl rfl, cw_2 91 rfl rfl, by decide +kernel, by decide +kernel, by decide +kernel⟩, cw_2 90 rfl rfl⟩
theorem lk_L_97 : k_lkV RL 97 yX7_lose cX7_lose 3 (some .int) 1 := ⟨⟨cw_2 224 rfl rfl, cw_1 1 rfl rfl, cw_2 227 rfl rfl, by decide +kernel, by decide +kernel, by decide +kernel⟩, cw_2 225 rfl rfl, cw_2 226 rfl rfl⟩
theorem lk_L_101 : k_lkV RL 101 yX7_put cX7_put 5 (some .int) 3 := ⟨⟨cw_2 228 rfl rfl, cw_1 1 rfl rfl, cw_2 231 rfl rfl, by decide +kernel, by decide +kernel, by decide +kernel⟩, cw_2 229 rfl rfl, cw_2 230 rfl rfl⟩
theorem lk_X7_197 : k_lkV RX7 197 yX5_holds cX5_holds 3 (some .boolean) 2 := ⟨⟨cw_2 232 rfl rfl, cw_1 7 rfl rfl, cw_1 236 rfl rfl, by decide +kernel, by decide +kernel, by decide +kernel⟩, cw_1 234 rfl rfl, cw_1 235 rfl rfl⟩
theorem lk_X7_206 : k_lkS RX7 206 yX7_cut cX7_cut 2 (some .int) 2 := ⟨⟨cw_2 233 rfl rfl, cw_1 1 rfl rfl, cw_2 235 rfl rfl, by decide +kernel, by decide +kernel, by decide +kernel⟩, cw_2 234 rfl rfl⟩
theorem lk_L_105 : k_lkV RL 105 yX7_cell cX7_cell 6 (some .long) 3 := ⟨⟨cw_2 236 rfl rfl, cw_1 1 rfl rfl, cw_2 239 rfl rfl, by decide +kernel, by decide +kernel, by decide +kernel⟩, cw_2 237 rfl rfl, cw_2 238 rfl rfl⟩
theorem lk_L_109 : k_lkV RL 109 yX7_copy cX7_copy 8 (some .int) 5 := ⟨⟨cw_3 0 rfl rfl, cw_1 1 rfl rfl, cw_3 3 rfl rfl, by decide +kernel, by decide +kernel, by decide +kernel⟩, cw_3 1 rfl rfl, cw_3 2 rfl rfl⟩
theorem lk_X7_209 : k_lkCp RX7 209 := ⟨cw_3 4 rfl rfl, cw_3 6 rfl rfl, cw_3 5 rfl rfl, cw_1 13 rfl rfl⟩
theorem lk_L_114 : k_lkV RL 114 yX7_tell cX7_tell 2 (some .int) 1 := ⟨⟨cw_3 7 rfl rfl, cw_1 1 rfl rfl, cw_3 10 rfl rfl, by decide +kernel, by decide +kernel, by decide +kernel⟩, cw_3 8 rfl rfl, cw_3 9 rfl rfl⟩
theorem lk_X7_215 : k_lkV RX7 215 yX7_tellOfficer cX7_tellOfficer 3 (some .int) 1 := ⟨⟨cw_3 11 rfl rfl, cw_1 1 rfl rfl, cw_3 14 rfl rfl, by decide +kernel, by decide +kernel, by decide +kernel⟩, cw_3 13 rfl rfl, cw_0 8 rfl rfl⟩
theorem lk_X7_234 : k_lkV RX7 234 yX7_leave cX7_leave 2 none 1 := ⟨⟨cw_3 15 rfl rfl, cw_1 1 rfl rfl, cw_3 18 rfl rfl, by decide +kernel, by decide +kernel, by decide +kernel⟩, cw_3 17 rfl rfl, cw_0 9 rfl rfl⟩
theorem lk_X7_218 : k_lkV RX7 218 yX7_tellHothead cX7_tellHothead 2 (some .int) 1 := ⟨⟨cw_3 19 rfl rfl, cw_1 1 rfl rfl, cw_3 22 rfl rfl, by decide +kernel, by decide +kernel, by decide +kernel⟩, cw_3 21 rfl rfl, cw_0 10 rfl rfl⟩
theorem lk_X7_221 : k_lkV RX7 221 yX7_tellGentleman cX7_tellGentleman 2 (some .int) 1 := ⟨⟨cw_3 23 rfl rfl, cw_1 1 rfl rfl, cw_3 26 rfl rfl, by decide +kernel, by decide +kernel, by decide +kernel⟩, cw_3 25 rfl rfl, cw_0 11 rfl rfl⟩
theorem lk_L_118 : k_lkV RL 118 yX7_salute cX7_salute 2 (some .int) 1 := ⟨⟨cw_3 27 rfl rfl, cw_1 1 rfl rfl, cw_3 30 rfl rfl, by decide +kernel, by decide +kernel, by decide +kernel⟩, cw_3 28 rfl rfl, cw_3 29 rfl rfl⟩
theorem lk_X7_224 : k_lkV RX7 224 yX7_saluteOfficer cX7_saluteOfficer 1 (some .int) 0 := ⟨⟨cw_3 31 rfl rfl, cw_1 1 rfl rfl, cw_3 34 rfl rfl, by decide +kernel, by decide +kernel, by decide +kernel⟩, cw_3 33 rfl rfl, cw_0 12 rfl rfl⟩
theorem lk_X7_228 : k_lkV RX7 228 yX7_saluteByLentBody cX7_saluteByLentBody 2 (some .int) 1 := ⟨⟨cw_3 35 rfl rfl, cw_1 1 rfl rfl, cw_3 38 rfl rfl, by decide +kernel, by decide +kernel, by decide +kernel⟩, cw_3 37 rfl rfl, cw_0 13 rfl rfl⟩
theorem lk_L_122 : k_lkV RL 122 yX7_as cX7_as 3 (some .int) 2 := ⟨⟨cw_3 39 rfl rfl, cw_1 1 rfl rfl, cw_3 42 rfl rfl, by decide +kernel, by decide +kernel, by decide +kernel⟩, cw_3 40 rfl rfl, cw_3 41 rfl rfl⟩
theorem lk_L_126 : k_lkV RL 126 yX7_trace cX7_trace 1 (some .int) 0 := ⟨⟨cw_3 43 rfl rfl, cw_1 1 rfl rfl, cw_3 46 rfl rfl, by decide +kernel, by decide +kernel, by decide +kernel⟩, cw_3 44 rfl rfl, cw_3 45 rfl rfl⟩
theorem lk_L_130 : k_lkV RL 130 yX7_fault cX7_fault 1 (some .int) 0 := ⟨⟨cw_3 47 rfl rfl, cw_1 1 rfl rfl, cw_3 50 rfl rfl, by decide +kernel, by decide +kernel, by decide +kernel⟩, cw_3 48 rfl rfl, cw_3 49 rfl rfl⟩
theorem lk_L_134 : k_lkV RL 134 yX7_many cX7_many 2 (some .int) 1 := ⟨⟨cw_3 51 rfl rfl, cw_1 1 rfl rfl, cw_3 54 rfl rfl, by decide +kernel, by decide +kernel, by decide +kernel⟩, cw_3 52 rfl rfl, cw_3 53 rfl rfl⟩
theorem lk_L_17 : k_lkV RL 17 yX8_coast cX8_coast 8 (some .int) 4 := ⟨⟨cw_3 179 rfl rfl, cw_1 8 rfl rfl, cw_3 182 rfl rfl, by decide +kernel, by decide +kernel, by decide +kernel⟩, cw_3 180 rfl rfl, cw_3 181 rfl rfl⟩
theorem lk_X8_111 : k_lkS RX8 111 yX8_isSheet cX8_isSheet 1 (some .boolean) 1 := ⟨⟨cw_3 183 rfl rfl, cw_1 8 rfl rfl, cw_3 185 rfl rfl, by decide +kernel, by decide +kernel, by decide +kernel⟩, cw_3 184 rfl rfl⟩
theorem lk_X8_101 : k_lkS RX8 101 yX8_within cX8_within 3 (some .boolean) 3 := ⟨⟨cw_3 186 rfl rfl, cw_1 8 rfl rfl, cw_3 188 rfl rfl, by decide +kernel, by decide +kernel, by decide +kernel⟩, cw_3 187 rfl rfl⟩
theorem lk_X8_115 : k_lkS RX8 115 yX8_isSort cX8_isSort 1 (some .boolean) 1 := ⟨⟨cw_3 189 rfl rfl, cw_1 8 rfl rfl, cw_3 191 rfl rfl, by decide +kernel, by decide +kernel, by decide +kernel⟩, cw_3 190 rfl rfl⟩
theorem lk_X8_118 : k_lkV RX8 118 yX8_against cX8_against 5 (some .int) 4 := ⟨⟨cw_3 192 rfl rfl, cw_1 8 rfl rfl, cw_3 195 rfl rfl, by decide +kernel, by decide +kernel, by decide +kernel⟩, cw_3 194 rfl rfl, cw_0 14 rfl rfl⟩
theorem lk_X8_122 : k_lkV RX8 122 yX8_fails cX8_fails 2 (some .int) 1 := ⟨⟨cw_3 196 rfl rfl, cw_1 8 rfl rfl, cw_3 199 rfl rfl, by decide +kernel, by decide +kernel, by decide +kernel⟩, cw_3 198 rfl rfl, cw_0 15 rfl rfl⟩
theorem lk_X8_126 : k_lkV RX8 126 yX8_readCoast cX8_readCoast 3 (some .boolean) 1 := ⟨⟨cw_3 200 rfl rfl, cw_1 8 rfl rfl, cw_3 203 rfl rfl, by decide +kernel, by decide +kernel, by decide +kernel⟩, cw_3 202 rfl rfl, cw_0 16 rfl rfl⟩
theorem lk_X8_138 : k_lkV RX8 138 yX8_digit cX8_digit 4 (some .int) 3 := ⟨⟨cw_3 204 rfl rfl, cw_1 8 rfl rfl, cw_3 207 rfl rfl, by decide +kernel, by decide +kernel, by decide +kernel⟩, cw_3 206 rfl rfl, cw_0 17 rfl rfl⟩
theorem lk_X8_142 : k_lkV RX8 142 yX8_readPerson cX8_readPerson 6 (some .boolean) 2 := ⟨⟨cw_3 208 rfl rfl, cw_1 8 rfl rfl, cw_3 211 rfl rfl, by decide +kernel, by decide +kernel, by decide +kernel⟩, cw_3 210 rfl rfl, cw_0 18 rfl rfl⟩
theorem lk_L_22 : k_lkV RL 22 yX8_ofPerson cX8_ofPerson 3 (some .int) 2 := ⟨⟨cw_3 212 rfl rfl, cw_1 8 rfl rfl, cw_3 215 rfl rfl, by decide +kernel, by decide +kernel, by decide +kernel⟩, cw_3 213 rfl rfl, cw_3 214 rfl rfl⟩
theorem lk_X8_145 : k_lkV RX8 145 yX8_isPerson cX8_isPerson 2 (some .boolean) 1 := ⟨⟨cw_3 216 rfl rfl, cw_1 8 rfl rfl, cw_3 219 rfl rfl, by decide +kernel, by decide +kernel, by decide +kernel⟩, cw_3 218 rfl rfl, cw_0 19 rfl rfl⟩
theorem lk_X8_148 : k_lkV RX8 148 yX8_touchy cX8_touchy 3 (some .int) 1 := ⟨⟨cw_3 220 rfl rfl, cw_1 8 rfl rfl, cw_3 223 rfl rfl, by decide +kernel, by decide +kernel, by decide +kernel⟩, cw_3 222 rfl rfl, cw_0 20 rfl rfl⟩
theorem lk_L_26 : k_lkV RL 26 yX8_insult cX8_insult 5 (some .int) 4 := ⟨⟨cw_3 224 rfl rfl, cw_1 8 rfl rfl, cw_3 227 rfl rfl, by decide +kernel, by decide +kernel, by decide +kernel⟩, cw_3 225 rfl rfl, cw_3 226 rfl rfl⟩
theorem lk_X8_151 : k_lkV RX8 151 yX8_lay cX8_lay 6 none 5 := ⟨⟨cw_3 228 rfl rfl, cw_1 8 rfl rfl, cw_3 231 rfl rfl, by decide +kernel, by decide +kernel, by decide +kernel⟩, cw_3 230 rfl rfl, cw_0 21 rfl rfl⟩
theorem lk_L_31 : k_lkV RL 31 yX8_sorry cX8_sorry 2 (some .int) 1 := ⟨⟨cw_3 232 rfl rfl, cw_1 8 rfl rfl, cw_3 235 rfl rfl, by decide +kernel, by decide +kernel, by decide +kernel⟩, cw_3 233 rfl rfl, cw_3 234 rfl rfl⟩
theorem lk_L_36 : k_lkV RL 36 yX8_arrest cX8_arrest 4 (some .int) 2 := ⟨⟨cw_3 236 rfl rfl, cw_1 8 rfl rfl, cw_3 239 rfl rfl, by decide +kernel, by decide +kernel, by decide +kernel⟩, cw_3 237 rfl rfl, cw_3 238 rfl rfl⟩
theorem lk_L_40 : k_lkV RL 40 yX8_meetings cX8_meetings 2 (some .int) 1 := ⟨⟨cw_4 0 rfl rfl, cw_1 8 rfl rfl, cw_4 3 rfl rfl, by decide +kernel, by decide +kernel, by decide +kernel⟩, cw_4 1 rfl rfl, cw_4 2 rfl rfl⟩
theorem lk_X8_195 : k_lkS RX8 195 yX8_isDawn cX8_isDawn 1 (some .boolean) 1 := ⟨⟨cw_4 4 rfl rfl, cw_1 8 rfl rfl, cw_4 6 rfl rfl, by decide +kernel, by decide +kernel, by decide +kernel⟩, cw_4 5 rfl rfl⟩
theorem lk_X8_198 : k_lkV RX8 198 yX8_goAhead cX8_goAhead 3 none 1 := ⟨⟨cw_4 7 rfl rfl, cw_1 8 rfl rfl, cw_4 10 rfl rfl, by decide +kernel, by decide +kernel, by decide +kernel⟩, cw_4 9 rfl rfl, cw_0 22 rfl rfl⟩
theorem lk_X8_188 : k_lkV RX8 188 yX8_begin cX8_begin 2 none 0 := ⟨⟨cw_4 11 rfl rfl, cw_1 8 rfl rfl, cw_4 14 rfl rfl, by decide +kernel, by decide +kernel, by decide +kernel⟩, cw_4 13 rfl rfl, cw_0 23 rfl rfl⟩
theorem lk_X8_191 : k_lkV RX8 191 yX8_goDawn cX8_goDawn 4 none 1 := ⟨⟨cw_4 15 rfl rfl, cw_1 8 rfl rfl, cw_4 18 rfl rfl, by decide +kernel, by decide +kernel, by decide +kernel⟩, cw_4 17 rfl rfl, cw_0 24 rfl rfl⟩
theorem lk_X8_184 : k_lkV RX8 184 yX8_answer cX8_answer 7 none 4 := ⟨⟨cw_4 19 rfl rfl, cw_1 8 rfl rfl, cw_4 22 rfl rfl, by decide +kernel, by decide +kernel, by decide +kernel⟩, cw_4 21 rfl rfl, cw_0 25 rfl rfl⟩
theorem lk_X8_175 : k_lkV RX8 175 yX8_secondOf cX8_secondOf 9 (some .int) 4 := ⟨⟨cw_4 23 rfl rfl, cw_1 8 rfl rfl, cw_4 26 rfl rfl, by decide +kernel, by decide +kernel, by decide +kernel⟩, cw_4 25 rfl rfl, cw_0 26 rfl rfl⟩
theorem lk_X8_161 : k_lkV RX8 161 yX8_maySecond cX8_maySecond 6 (some .boolean) 5 := ⟨⟨cw_4 27 rfl rfl, cw_1 8 rfl rfl, cw_4 30 rfl rfl, by decide +kernel, by decide +kernel, by decide +kernel⟩, cw_4 29 rfl rfl, cw_0 27 rfl rfl⟩
theorem lk_X8_158 : k_lkV RX8 158 yX8_isFree cX8_isFree 3 (some .boolean) 2 := ⟨⟨cw_4 31 rfl rfl, cw_1 8 rfl rfl, cw_4 34 rfl rfl, by decide +kernel, by decide +kernel, by decide +kernel⟩, cw_4 33 rfl rfl, cw_0 28 rfl rfl⟩
theorem lk_X8_178 : k_lkV RX8 178 yX8_meet cX8_meet 7 none 5 := ⟨⟨cw_4 35 rfl rfl, cw_1 8 rfl rfl, cw_4 38 rfl rfl, by decide +kernel, by decide +kernel, by decide +kernel⟩, cw_4 37 rfl rfl, cw_0 29 rfl rfl⟩
theorem lk_X8_168 : k_lkV RX8 168 yX8_hurt cX8_hurt 5 none 3 := ⟨⟨cw_4 39 rfl rfl, cw_1 8 rfl rfl, cw_4 42 rfl rfl, by decide +kernel, by decide +kernel, by decide +kernel⟩, cw_4 41 rfl rfl, cw_0 30 rfl rfl⟩
theorem lk_L_44 : k_lkV RL 44 yX8_met cX8_met 3 (some .int) 2 := ⟨⟨cw_4 43 rfl rfl, cw_1 8 rfl rfl, cw_4 46 rfl rfl, by decide +kernel, by decide +kernel, by decide +kernel⟩, cw_4 44 rfl rfl, cw_4 45 rfl rfl⟩
theorem lk_L_48 : k_lkV RL 48 yX8_free cX8_free 3 (some .int) 2 := ⟨⟨cw_4 47 rfl rfl, cw_1 8 rfl rfl, cw_4 50 rfl rfl, by decide +kernel, by decide +kernel, by decide +kernel⟩, cw_4 48 rfl rfl, cw_4 49 rfl rfl⟩
theorem lk_L_53 : k_lkV RL 53 yX8_second cX8_second 4 (some .int) 3 := ⟨⟨cw_4 51 rfl rfl, cw_1 8 rfl rfl, cw_4 54 rfl rfl, by decide +kernel, by decide +kernel, by decide +kernel⟩, cw_4 52 rfl rfl, cw_4 53 rfl rfl⟩
theorem lk_L_57 : k_lkV RL 57 yX8_worth cX8_worth 3 (some .int) 1 := ⟨⟨cw_4 55 rfl rfl, cw_1 8 rfl rfl, cw_4 58 rfl rfl, by decide +kernel, by decide +kernel, by decide +kernel⟩, cw_4 56 rfl rfl, cw_4 57 rfl rfl⟩
theorem lk_L_61 : k_lkV RL 61 yX8_arrests cX8_arrests 5 (some .int) 1 := ⟨⟨cw_4 59 rfl rfl, cw_1 8 rfl rfl, cw_4 62 rfl rfl, by decide +kernel, by decide +kernel, by decide +kernel⟩, cw_4 60 rfl rfl, cw_4 61 rfl rfl⟩
theorem lk_X8_201 : k_lkS RX8 201 yX8_size cX8_size 3 (some .int) 1 := ⟨⟨cw_4 63 rfl rfl, cw_1 8 rfl rfl, cw_4 65 rfl rfl, by decide +kernel, by decide +kernel, by decide +kernel⟩, cw_4 64 rfl rfl⟩
theorem lk_X8_204 : k_lkV RX8 204 yX8_arrestAll cX8_arrestAll 4 none 2 := ⟨⟨cw_4 66 rfl rfl, cw_1 8 rfl rfl, cw_4 69 rfl rfl, by decide +kernel, by decide +kernel, by decide +kernel⟩, cw_4 68 rfl rfl, cw_0 31 rfl rfl⟩
theorem lk_L_65 : k_lkV RL 65 yX8_provoked cX8_provoked 7 (some .int) 3 := ⟨⟨cw_4 70 rfl rfl, cw_1 8 rfl rfl, cw_4 73 rfl rfl, by decide +kernel, by decide +kernel, by decide +kernel⟩, cw_4 71 rfl rfl, cw_4 72 rfl rfl⟩
theorem lk_X8_211 : k_lkV RX8 211 yX8_doesProvoke cX8_doesProvoke 7 (some .boolean) 6 := ⟨⟨cw_4 74 rfl rfl, cw_1 8 rfl rfl, cw_4 77 rfl rfl, by decide +kernel, by decide +kernel, by decide +kernel⟩, cw_4 76 rfl rfl, cw_0 32 rfl rfl⟩
theorem lk_X8_208 : k_lkV RX8 208 yX8_didMeet cX8_didMeet 6 (some .boolean) 3 := ⟨⟨cw_4 78 rfl rfl, cw_1 8 rfl rfl, cw_4 81 rfl rfl, by decide +kernel, by decide +kernel, by decide +kernel⟩, cw_4 80 rfl rfl, cw_0 33 rfl rfl⟩
theorem lk_L_70 : k_lkV RL 70 yX8_odds cX8_odds 6 (some .long) 3 := ⟨⟨cw_4 82 rfl rfl, cw_1 8 rfl rfl, cw_4 85 rfl rfl, by decide +kernel, by decide +kernel, by decide +kernel⟩, cw_4 83 rfl rfl, cw_4 84 rfl rfl⟩
theorem lk_X8_215 : k_lkV RX8 215 yX8_wasHurt cX8_wasHurt 3 (some .boolean) 1 := ⟨⟨cw_4 87 rfl rfl, cw_1 8 rfl rfl, cw_4 90 rfl rfl, by decide +kernel, by decide +kernel, by decide +kernel⟩, cw_4 89 rfl rfl, cw_0 34 rfl rfl⟩
theorem lk_X8_218 : k_lkS RX8 218 yX8_inLeastTerms cX8_inLeastTerms 11 (some .long) 3 := ⟨⟨cw_4 91 rfl rfl, cw_1 8 rfl rfl, cw_4 93 rfl rfl, by decide +kernel, by decide +kernel, by decide +kernel⟩, cw_4 92 rfl rfl⟩
theorem lk_L_75 : k_lkV RL 75 yX8_reading cX8_reading 4 (some .int) 3 := ⟨⟨cw_4 94 rfl rfl, cw_1 8 rfl rfl, cw_4 97 rfl rfl, by decide +kernel, by decide +kernel, by decide +kernel⟩, cw_4 95 rfl rfl, cw_4 96 rfl rfl⟩
theorem lk_L_79 : k_lkV RL 79 yX8_back cX8_back 2 (some .int) 1 := ⟨⟨cw_4 98 rfl rfl, cw_1 8 rfl rfl, cw_4 101 rfl rfl, by decide +kernel, by decide +kernel, by decide +kernel⟩, cw_4 99 rfl rfl, cw_4 100 rfl rfl⟩
theorem lk_L_84 : k_lkV RL 84 yX8_never cX8_never 3 (some .int) 0 := ⟨⟨cw_4 102 rfl rfl, cw_1 8 rfl rfl, cw_4 105 rfl rfl, by decide +kernel, by decide +kernel, by decide +kernel⟩, cw_4 103 rfl rfl, cw_4 104 rfl rfl⟩
theorem lk_X8_225 : k_lkV RX8 225 yX8_areSo cX8_areSo 2 (some .boolean) 0 := ⟨⟨cw_4 106 rfl rfl, cw_1 8 rfl rfl, cw_4 109 rfl rfl, by decide +kernel, by decide +kernel, by decide +kernel⟩, cw_4 108 rfl rfl, cw_0 35 rfl rfl⟩
theorem lk_X8_222 : k_lkV RX8 222 yX8_wasIn cX8_wasIn 4 (some .boolean) 2 := ⟨⟨cw_4 110 rfl rfl, cw_1 8 rfl rfl, cw_4 113 rfl rfl, by decide +kernel, by decide +kernel, by decide +kernel⟩, cw_4 112 rfl rfl, cw_0 36 rfl rfl⟩
theorem lk_L_88 : k_lkV RL 88 yX8_caught cX8_caught 4 (some .int) 0 := ⟨⟨cw_4 114 rfl rfl, cw_1 8 rfl rfl, cw_4 117 rfl rfl, by decide +kernel, by decide +kernel, by decide +kernel⟩, cw_4 115 rfl rfl, cw_4 116 rfl rfl⟩
theorem lk_L_92 : k_lkV RL 92 yX8_row cX8_row 8 (some .int) 4 := ⟨⟨cw_4 118 rfl rfl, cw_1 8 rfl rfl, cw_4 121 rfl rfl, by decide +kernel, by decide +kernel, by decide +kernel⟩, cw_4 119 rfl rfl, cw_4 120 rfl rfl⟩
theorem lk_L_96 : k_lkV RL 96 yX8_sheet cX8_sheet 5 (some .int) 3 := ⟨⟨cw_4 122 rfl rfl, cw_1 8 rfl rfl, cw_4 125 rfl rfl, by decide +kernel, by decide +kernel, by decide +kernel⟩, cw_4 123 rfl rfl, cw_4 124 rfl rfl⟩
theorem lk_L_100 : k_lkV RL 100 yX8_lose cX8_lose 3 (some .int) 1 := ⟨⟨cw_4 126 rfl rfl, cw_1 8 rfl rfl, cw_4 129 rfl rfl, by decide +kernel, by decide +kernel, by decide +kernel⟩, cw_4 127 rfl rfl, cw_4 128 rfl rfl⟩
theorem lk_L_104 : k_lkV RL 104 yX8_put cX8_put 4 (some .int) 3 := ⟨⟨cw_4 130 rfl rfl, cw_1 8 rfl rfl, cw_4 133 rfl rfl, by decide +kernel, by decide +kernel, by decide +kernel⟩, cw_4 131 rfl rfl, cw_4 132 rfl rfl⟩
theorem lk_L_108 : k_lkV RL 108 yX8_cell cX8_cell 4 (some .long) 3 := ⟨⟨cw_4 134 rfl rfl, cw_1 8 rfl rfl, cw_4 137 rfl rfl, by decide +kernel, by decide +kernel, by decide +kernel⟩, cw_4 135 rfl rfl, cw_4 136 rfl rfl⟩
theorem lk_X8_229 : k_lkV RX8 229 yX8_lost cX8_lost 2 (some .long) 1 := ⟨⟨cw_4 138 rfl rfl, cw_1 8 rfl rfl, cw_4 141 rfl rfl, by decide +kernel, by decide +kernel, by decide +kernel⟩, cw_4 140 rfl rfl, cw_0 37 rfl rfl⟩
theorem lk_L_113 : k_lkV RL 113 yX8_copy cX8_copy 10 (some .int) 5 := ⟨⟨cw_4 142 rfl rfl, cw_1 8 rfl rfl, cw_4 145 rfl rfl, by decide +kernel, by decide +kernel, by decide +kernel⟩, cw_4 143 rfl rfl, cw_4 144 rfl rfl⟩
theorem lk_L_117 : k_lkV RL 117 yX8_tell cX8_tell 3 (some .int) 1 := ⟨⟨cw_4 146 rfl rfl, cw_1 8 rfl rfl, cw_4 149 rfl rfl, by decide +kernel, by decide +kernel, by decide +kernel⟩, cw_4 147 rfl rfl, cw_4 148 rfl rfl⟩
theorem lk_X8_236 : k_lkV RX8 236 yX8_begins cX8_begins 2 none 1 := ⟨⟨cw_4 150 rfl rfl, cw_1 8 rfl rfl, cw_4 153 rfl rfl, by decide +kernel, by decide +kernel, by decide +kernel⟩, cw_4 152 rfl rfl, cw_0 38 rfl rfl⟩
theorem lk_L_121 : k_lkV RL 121 yX8_salute cX8_salute 2 (some .int) 1 := ⟨⟨cw_4 154 rfl rfl, cw_1 8 rfl rfl, cw_4 157 rfl rfl, by decide +kernel, by decide +kernel, by decide +kernel⟩, cw_4 155 rfl rfl, cw_4 156 rfl rfl⟩
theorem lk_L_125 : k_lkV RL 125 yX8_as cX8_as 3 (some .int) 2 := ⟨⟨cw_4 158 rfl rfl, cw_1 8 rfl rfl, cw_4 161 rfl rfl, by decide +kernel, by decide +kernel, by decide +kernel⟩, cw_4 159 rfl rfl, cw_4 160 rfl rfl⟩
theorem lk_L_129 : k_lkV RL 129 yX8_trace cX8_trace 1 (some .int) 0 := ⟨⟨cw_4 162 rfl rfl, cw_1 8 rfl rfl, cw_4 165 rfl rfl, by decide +kernel, by decide +kernel, by decide +kernel⟩, cw_4 163 rfl rfl, cw_4 164 rfl rfl⟩
theorem lk_L_133 : k_lkV RL 133 yX8_fault cX8_fault 1 (some .int) 0 := ⟨⟨cw_4 166 rfl rfl, cw_1 8 rfl rfl, cw_4 169 rfl rfl, by decide +kernel, by decide +kernel, by decide +kernel⟩, cw_4 167 rfl rfl, cw_4 168 rfl rfl⟩
theorem lk_L_137 : k_lkV RL 137 yX8_many cX8_many 2 (some .int) 1 := ⟨⟨cw_4 170 rfl rfl, cw_1 8 rfl rfl, cw_4 173 rfl rfl, by decide +kernel, by decide +kernel, by decide +kernel⟩, cw_4 171 rfl rfl, cw_4 172 rfl rfl⟩
theorem lk_X4_59 : k_lkN RX4 59 yX7_in cX7_in 2 (some .boolean) 2 := ⟨RX7, List.mem_of_getElem? (i := 4) rfl, cw_1 1 rfl rfl, cw_2 41 rfl rfl, ⟨by decide +kernel, by decide +kernel, by decide +kernel⟩, cw_2 40 rfl rfl⟩
theorem lk_X4_93 : k_lkN RX4 93 yX7_bit cX7_bit 1 (some .int) 1 := ⟨RX7, List.mem_of_getElem? (i := 5) rfl, cw_1 1 rfl rfl, cw_2 68 rfl rfl, ⟨by decide +kernel, by decide +kernel, by decide +kernel⟩, cw_2 67 rfl rfl⟩
theorem lk_X2_38 : k_lkN RX2 38 yX7_in cX7_in 2 (some .boolean) 2 := ⟨RX7, List.mem_of_getElem? (i := 6) rfl, cw_1 1 rfl rfl, cw_2 41 rfl rfl, ⟨by decide +kernel, by decide +kernel, by decide +kernel⟩, cw_2 40 rfl rfl⟩
theorem lk_X1_20 : k_lkN RX1 20 yX7_bit cX7_bit 1 (some .int) 1 := ⟨RX7, List.mem_of_getElem? (i := 7) rfl, cw_1 1 rfl rfl, cw_2 68 rfl rfl, ⟨by decide +kernel, by decide +kernel, by decide +kernel⟩, cw_2 67 rfl rfl⟩
theorem lk_X1_27 : k_lkN RX1 27 yX7_in cX7_in 2 (some .boolean) 2 := ⟨RX7, List.mem_of_getElem? (i := 8) rfl, cw_1 1 rfl rfl, cw_2 41 rfl rfl, ⟨by decide +kernel, by decide +kernel, by decide +kernel⟩, cw_2 40 rfl rfl⟩
theorem lc_J6_265 : Cond.constant RJ6 265 (1431655765) ∈ cw := cw_2 148 rfl rfl
theorem lc_J6_266 : Cond.constant RJ6 266 (858993459) ∈ cw := cw_2 149 rfl rfl
theorem lc_J6_267 : Cond.constant RJ6 267 (252645135) ∈ cw := cw_2 150 rfl rfl
theorem lc_X7_165 : Cond.constantLong RX7 165 (-9223372036854775808) ∈ cw := cw_2 172 rfl rfl
theorem lc_X8_99 : Cond.constantLong RX8 99 (-9223372036854775808) ∈ cw := cw_4 86 rfl rfl
def shC : List kE := [
  .inl (6, [some (some 1), some (some 6), some (some 11), some (some 15), some (some 30), none, none]),
  .inl (2, [none, none, some (some 2), some (some 3), some (some 4), some (some 5)]),
  .inr (.inl (0, 6)),
  .inr (.inl (0, 6)),
  .inr (.inl (0, 6)),
  .inr (.inl (0, 6)),
  .inl (0, [none, some (some 7), some (some 8), some (some 9), some (some 10)]),
  .inr (.inl (0, 9)),
  .inr (.inl (0, 9)),
  .inr (.inl (0, 9)),
  .inr (.inl (0, 9)),
  .inl (3, [none, some (some 12), some (some 13), some (some 14)]),
  .inr (.inl (0, 8)),
  .inr (.inl (0, 8)),
  .inr (.inl (1, 8)),
  .inl (4, [some (some 16), none, some (some 1), some (some 6), some (some 24), none, some (some 29), none, some none, none, none]),
  .inl (1, [none, some (some 17)]),
  .inr (.inr (3, 6, fun i => if i < 6 then some (18 + i) else none)),
  .inr (.inl (0, 180)),
  .inr (.inl (0, 180)),
  .inr (.inl (0, 180)),
  .inr (.inl (0, 180)),
  .inr (.inl (0, 180)),
  .inr (.inl (0, 180)),
  .inl (0, [none, some (some 25), some (some 26), some (some 27), some (some 28)]),
  .inr (.inl (0, 180)),
  .inr (.inl (0, 180)),
  .inr (.inl (0, 180)),
  .inr (.inl (0, 180)),
  .inr (.inl (0, 6)),
  .inr (.inr (2, 4, fun i => if i < 4 then some (31 + i) else none)),
  .inl (5, [none, none, none, some (some 35)]),
  .inl (5, [none, none, none, some (some 36)]),
  .inl (5, [none, none, none, some (some 37)]),
  .inl (5, [none, none, none, some (some 38)]),
  .inr (.inl (0, 50)),
  .inr (.inl (0, 50)),
  .inr (.inl (0, 50)),
  .inr (.inl (0, 50))]
def shM : List kE := [
  .inl (7, [none, none, some (some 1), some (some 2), some (some 3), none, some (some 4), some (some 5), some (some 6), some (some 7), none, none, some (some 8), some (some 9), some (some 10), none, some (some 11), some (some 12), some (some 13), some (some 14), none, some (some 15), none, none, some (some 16), some (some 17), some (some 18), some (some 19), none, some (some 20), some (some 21), some (some 22), some (some 23), some (some 24), some (some 25), none, some (some 26), some (some 27), some (some 28)]),
  .inr (.inl (0, 4)),
  .inr (.inl (0, 4)),
  .inr (.inl (0, 200)),
  .inr (.inl (0, 6)),
  .inr (.inl (0, 6)),
  .inr (.inl (0, 12)),
  .inr (.inl (1, 6)),
  .inr (.inl (0, 6)),
  .inr (.inl (0, 6)),
  .inr (.inl (0, 12)),
  .inr (.inl (0, 9)),
  .inr (.inl (0, 9)),
  .inr (.inl (0, 9)),
  .inr (.inl (0, 9)),
  .inr (.inl (0, 6)),
  .inr (.inl (0, 200)),
  .inr (.inl (0, 200)),
  .inr (.inl (0, 200)),
  .inr (.inl (0, 200)),
  .inr (.inl (0, 200)),
  .inr (.inl (0, 200)),
  .inr (.inl (0, 200)),
  .inr (.inl (0, 200)),
  .inr (.inl (0, 200)),
  .inr (.inl (0, 200)),
  .inr (.inl (0, 8)),
  .inr (.inl (0, 8)),
  .inr (.inl (1, 8))]
end
section
theorem pn_X0 : plainName RX0 = true := by decide +kernel
theorem pn_X1 : plainName RX1 = true := by decide +kernel
theorem pn_X2 : plainName RX2 = true := by decide +kernel
theorem pn_X3 : plainName RX3 = true := by decide +kernel
theorem pn_X4 : plainName RX4 = true := by decide +kernel
theorem pn_X5 : plainName RX5 = true := by decide +kernel
theorem pn_X6 : plainName RX6 = true := by decide +kernel
theorem pn_X7 : plainName RX7 = true := by decide +kernel
theorem pn_X8 : plainName RX8 = true := by decide +kernel
theorem pn_J6 : plainName RJ6 = true := by decide +kernel
theorem pn_J7 : plainName RJ7 = true := by decide +kernel
theorem nI_lit (n : Nat) : Int32.ofNat n = nI n := rfl
theorem nI_inj {a b : Nat} (ha : a < 2 ^ 31) (hb : b < 2 ^ 31) (h : nI a = nI b) : a = b := (nI_eq ha hb).mp h
theorem nI_mul (a b : Nat) : nI a * nI b = nI (a * b) := by
  unfold nI
  exact (Int32.ofNat_mul a b).symm
theorem nI_sub {a b : Nat} (h : b ≤ a) : nI a - nI b = nI (a - b) := by
  have e : nI (a - b) + nI b = nI a := by rw [nI_add, Nat.sub_add_cancel h]
  rw [← e, Int32.add_sub_cancel]
theorem nI_two (j : Nat) : 2 * nI j = nI (2 * j) := nI_mul 2 j
/-- an int between two bounds is a number -/
theorem nI_between {x : Int32} {N : Nat} (h0 : ¬ x < 0) (h1 : x < nI N) (hN : N < 2 ^ 31) : ∃ j, j < N ∧ x = nI j := by
  obtain ⟨j, hj, rfl⟩ := nI_of h0
  exact ⟨j, (nI_ltI hj hN).mp h1, rfl⟩
section KN
variable {sh : List kE} {own : String} {cc : ByteArray} {n : Nat} {rt : Option FieldType} {fr lo : Nat} {Φ : Option Value → kW → Prop} {pc : Nat} {L : List (Nat × Value)} {st : List Value} {w : kW}
theorem b_topi {x y : Int32} (h : x = y) (kk : BS sh own cc n rt fr lo Φ pc L (.int y :: st) w) : BS sh own cc n rt fr lo Φ pc L (.int x :: st) w := h ▸ kk
theorem b_topl {x y : Int64} (h : x = y) (kk : BS sh own cc n rt fr lo Φ pc L (.long y :: st) w) : BS sh own cc n rt fr lo Φ pc L (.long x :: st) w := h ▸ kk
theorem b_wd {w' : kW} (h : w = w') (kk : BS sh own cc n rt fr lo Φ pc L st w') : BS sh own cc n rt fr lo Φ pc L st w := h ▸ kk
theorem b_sub {L' : List (Nat × Value)} (ks : List Nat) (h : lv_pick L ks = L') (kk : BS sh own cc n rt fr lo Φ pc L' st w) : BS sh own cc n rt fr lo Φ pc L st w := by
  intro p l e s m args below meth co D ca ad H locs ls cx hP hD hS hl
  refine kk p l e s m args below meth co D ca ad H locs ls cx hP hD hS (lv_sub hl ks ?_)
  subst h
  simp only [lv_pick, k_L, List.getElem?_map, List.map_filterMap]
theorem vp_nI {j N : Nat} (h : j < N ∧ N ≤ 1000) : vp_in (nI j) N := by
  rintro (h1 | h1)
  · exact nI_pos (by omega) h1
  · rw [nI_clamp (by omega)] at h1
    omega
theorem b_ialdN {c N j : Nat} (hd : decode cc pc = .ok (.iaload, 1)) (hc : sh[c]? = some (.inr (.inl (0, N)))) (hi : j < N ∧ N ≤ 1000) (kk : BS sh own cc n rt fr lo Φ (pc + 1) L (.int (w.1 c j) :: st) w) : BS sh own cc n rt fr lo Φ pc L (.int (nI j) :: .ref c :: st) w := by
  refine b_iald hd hc (vp_nI hi) ?_
  rw [nI_clamp (by omega)]
  exact kk
theorem b_zaldN {c N j : Nat} (hd : decode cc pc = .ok (.baload, 1)) (hc : sh[c]? = some (.inr (.inl (1, N)))) (hi : j < N ∧ N ≤ 1000) (kk : BS sh own cc n rt fr lo Φ (pc + 1) L (.int (w.1 c j) :: st) w) : BS sh own cc n rt fr lo Φ pc L (.int (nI j) :: .ref c :: st) w := by
  refine b_zald hd hc (vp_nI hi) ?_
  rw [nI_clamp (by omega)]
  exact kk
theorem b_iastN {c N j : Nat} {x : Int32} (hd : decode cc pc = .ok (.iastore, 1)) (hc : sh[c]? = some (.inr (.inl (0, N)))) (hi : j < N ∧ N ≤ 1000) (kk : BS sh own cc n rt fr lo Φ (pc + 1) L st (k_up w.1 c j x, w.2)) : BS sh own cc n rt fr lo Φ pc L (.int x :: .int (nI j) :: .ref c :: st) w := by
  refine b_iast hd hc (vp_nI hi) ?_
  rw [nI_clamp (by omega)]
  exact kk
theorem k_narz {x : Int32} (h : x = 0 ∨ x = 1) : vp_nar .boolean x = x := by
  rcases h with rfl | rfl <;> decide
theorem b_zastN {c N j : Nat} {x : Int32} (hd : decode cc pc = .ok (.bastore, 1)) (hc : sh[c]? = some (.inr (.inl (1, N)))) (hi : j < N ∧ N ≤ 1000) (hx : x = 0 ∨ x = 1) (kk : BS sh own cc n rt fr lo Φ (pc + 1) L st (k_up w.1 c j x, w.2)) : BS sh own cc n rt fr lo Φ pc L (.int x :: .int (nI j) :: .ref c :: st) w := by
  refine b_zast hd hc (vp_nI hi) (k_narz hx) ?_
  rw [nI_clamp (by omega)]
  exact kk
end KN

set_option maxRecDepth 100000 in
set_option maxHeartbeats 4000000 in
theorem s_X8_within {w : kW} {v a b : Int32} : Spec shM yX8_within cX8_within 3 (some .boolean) 0 0 [.int v, .int a, .int b] w (fun r w' => w = w' ∧ ((r = some (.int 1) ∧ (a ≤ v ∧ v ≤ b)) ∨ (r = some (.int 0) ∧ ¬ (a ≤ v ∧ v ≤ b)))) := by
  refine k_enter pn_X8 (Nat.le_of_ble_eq_true rfl) ?_
  refine b_iload_n dX8_within_0 rfl ?_
  refine b_iload_n dX8_within_1 rfl ?_
  refine b_icmp_lt (tgt := 14) dX8_within_2 (by decide) (fun h2 => ?_) (fun h2 => ?_)
  · refine b_iconst (v := 0) dX8_within_14 (by decide) ?_
    refine b_zret (Or.inl rfl) dX8_within_15 rfl ⟨rfl, Or.inr ⟨rfl, ?_⟩⟩
    (simp only [Int32.lt_iff_toInt_lt, Int32.le_iff_toInt_le, ← Int32.toInt_inj] at * <;> omega)
  · refine b_iload_n dX8_within_5 rfl ?_
    refine b_iload_n dX8_within_6 rfl ?_
    refine b_icmp_gt (tgt := 14) dX8_within_7 (by decide) (fun h7 => ?_) (fun h7 => ?_)
    · refine b_iconst (v := 0) dX8_within_14 (by decide) ?_
      refine b_zret (Or.inl rfl) dX8_within_15 rfl ⟨rfl, Or.inr ⟨rfl, ?_⟩⟩
      (simp only [Int32.lt_iff_toInt_lt, Int32.le_iff_toInt_le, ← Int32.toInt_inj] at * <;> omega)
    · refine b_iconst (v := 1) dX8_within_10 (by decide) ?_
      refine b_goto (tgt := 15) dX8_within_11 (by decide) ?_
      refine b_zret (Or.inr rfl) dX8_within_15 rfl ⟨rfl, Or.inl ⟨rfl, ?_⟩⟩
      (simp only [Int32.lt_iff_toInt_lt, Int32.le_iff_toInt_le, ← Int32.toInt_inj] at * <;> omega)

set_option maxRecDepth 100000 in
set_option maxHeartbeats 4000000 in
theorem s_X8_fails {w : kW} {k : Int32} : Spec shM yX8_fails cX8_fails 2 (some .int) 0 0 [.ref 0, .int k] w (fun r w' => r = some (.int (-10 - k)) ∧ (k_up w.1 0 0 k, w.2) = w') := by
  refine k_enter pn_X8 (Nat.le_of_ble_eq_true rfl) ?_
  refine b_aload_n dX8_fails_0 rfl ?_
  refine b_iload_n dX8_fails_1 rfl ?_
  refine b_puti dX8_fails_2 gf_X8_95 gs_X8_0 rfl rfl ?_
  refine b_bipush (v := (-10)) dX8_fails_5 (by decide) ?_
  refine b_iload_n dX8_fails_7 rfl ?_
  refine b_isub dX8_fails_8 ?_
  refine b_iret dX8_fails_9 rfl ⟨?_, ?_⟩
  · rfl
  · rfl

set_option maxRecDepth 100000 in
set_option maxHeartbeats 4000000 in
theorem s_X8_lost {w : kW} {k : Int32} : Spec shM yX8_lost cX8_lost 2 (some .long) 0 0 [.ref 0, .int k] w (fun r w' => r = some (.long (-9223372036854775808)) ∧ (k_up w.1 0 0 k, w.2) = w') := by
  refine k_enter pn_X8 (Nat.le_of_ble_eq_true rfl) ?_
  refine b_aload_n dX8_lost_0 rfl ?_
  refine b_iload_n dX8_lost_1 rfl ?_
  refine b_puti dX8_lost_2 gf_X8_95 gs_X8_0 rfl rfl ?_
  refine b_ldc2 dX8_lost_5 lc_X8_99 ?_
  exact b_lret dX8_lost_8 rfl ⟨rfl, rfl⟩

set_option maxRecDepth 100000 in
set_option maxHeartbeats 4000000 in
theorem s_X8_isSheet {w : kW} {k : Int32} : Spec shM yX8_isSheet cX8_isSheet 1 (some .boolean) 1 22 [.int k] w (fun r w' => w = w' ∧ ((r = some (.int 1) ∧ (0 ≤ k ∧ k ≤ 3)) ∨ (r = some (.int 0) ∧ ¬ (0 ≤ k ∧ k ≤ 3)))) := by
  refine k_enter pn_X8 (Nat.le_of_ble_eq_true rfl) ?_
  refine b_iload_n dX8_isSheet_0 rfl ?_
  refine b_iconst (v := 0) dX8_isSheet_1 (by decide) ?_
  refine b_iconst (v := 3) dX8_isSheet_2 (by decide) ?_
  refine b_callS3 dX8_isSheet_3 lk_X8_101 ⟨Nat.le_of_ble_eq_true rfl, Nat.le_of_ble_eq_true rfl⟩ (Nat.le_of_ble_eq_true rfl) (s_X8_within) (fun r w3 h3 => ?_)
  obtain ⟨rfl, h3⟩ := h3
  rcases h3 with ⟨rfl, h3⟩ | ⟨rfl, h3⟩
  · refine b_zret (Or.inr rfl) dX8_isSheet_6 rfl ⟨rfl, Or.inl ⟨rfl, ?_⟩⟩
    assumption
  · refine b_zret (Or.inl rfl) dX8_isSheet_6 rfl ⟨rfl, Or.inr ⟨rfl, ?_⟩⟩
    assumption

set_option maxRecDepth 100000 in
set_option maxHeartbeats 4000000 in
theorem s_X8_isSort {w : kW} {k : Int32} : Spec shM yX8_isSort cX8_isSort 1 (some .boolean) 1 22 [.int k] w (fun r w' => w = w' ∧ ((r = some (.int 1) ∧ (0 ≤ k ∧ k ≤ 2)) ∨ (r = some (.int 0) ∧ ¬ (0 ≤ k ∧ k ≤ 2)))) := by
  refine k_enter pn_X8 (Nat.le_of_ble_eq_true rfl) ?_
  refine b_iload_n dX8_isSort_0 rfl ?_
  refine b_iconst (v := 0) dX8_isSort_1 (by decide) ?_
  refine b_iconst (v := 2) dX8_isSort_2 (by decide) ?_
  refine b_callS3 dX8_isSort_3 lk_X8_101 ⟨Nat.le_of_ble_eq_true rfl, Nat.le_of_ble_eq_true rfl⟩ (Nat.le_of_ble_eq_true rfl) (s_X8_within) (fun r w3 h3 => ?_)
  obtain ⟨rfl, h3⟩ := h3
  rcases h3 with ⟨rfl, h3⟩ | ⟨rfl, h3⟩
  · refine b_zret (Or.inr rfl) dX8_isSort_6 rfl ⟨rfl, Or.inl ⟨rfl, ?_⟩⟩
    assumption
  · refine b_zret (Or.inl rfl) dX8_isSort_6 rfl ⟨rfl, Or.inr ⟨rfl, ?_⟩⟩
    assumption

set_option maxRecDepth 100000 in
set_option maxHeartbeats 4000000 in
theorem s_X8_isDawn {w : kW} {k : Int32} : Spec shM yX8_isDawn cX8_isDawn 1 (some .boolean) 1 22 [.int k] w (fun r w' => w = w' ∧ ((r = some (.int 1) ∧ (0 ≤ k ∧ k ≤ 59)) ∨ (r = some (.int 0) ∧ ¬ (0 ≤ k ∧ k ≤ 59)))) := by
  refine k_enter pn_X8 (Nat.le_of_ble_eq_true rfl) ?_
  refine b_iload_n dX8_isDawn_0 rfl ?_
  refine b_iconst (v := 0) dX8_isDawn_1 (by decide) ?_
  refine b_bipush (v := 59) dX8_isDawn_2 (by decide) ?_
  refine b_callS3 dX8_isDawn_4 lk_X8_101 ⟨Nat.le_of_ble_eq_true rfl, Nat.le_of_ble_eq_true rfl⟩ (Nat.le_of_ble_eq_true rfl) (s_X8_within) (fun r w4 h4 => ?_)
  obtain ⟨rfl, h4⟩ := h4
  rcases h4 with ⟨rfl, h4⟩ | ⟨rfl, h4⟩
  · refine b_zret (Or.inr rfl) dX8_isDawn_7 rfl ⟨rfl, Or.inl ⟨rfl, ?_⟩⟩
    assumption
  · refine b_zret (Or.inl rfl) dX8_isDawn_7 rfl ⟨rfl, Or.inr ⟨rfl, ?_⟩⟩
    assumption

set_option maxRecDepth 100000 in
set_option maxHeartbeats 4000000 in
theorem s_X8_isPerson {w : kW} {k : Int32} : Spec shM yX8_isPerson cX8_isPerson 2 (some .boolean) 0 0 [.ref 0, .int k] w (fun r w' => w = w' ∧ ((r = some (.int 1) ∧ (¬ k < 0 ∧ k < w.1 0 5)) ∨ (r = some (.int 0) ∧ ¬ (¬ k < 0 ∧ k < w.1 0 5)))) := by
  refine k_enter pn_X8 (Nat.le_of_ble_eq_true rfl) ?_
  refine b_iload_n dX8_isPerson_0 rfl ?_
  refine b_if_lt (tgt := 16) dX8_isPerson_1 (by decide) (fun h1 => ?_) (fun h1 => ?_)
  · refine b_iconst (v := 0) dX8_isPerson_16 (by decide) ?_
    refine b_zret (Or.inl rfl) dX8_isPerson_17 rfl ⟨rfl, Or.inr ⟨rfl, ?_⟩⟩
    (simp only [Int32.lt_iff_toInt_lt, Int32.le_iff_toInt_le, ← Int32.toInt_inj] at * <;> omega)
  · refine b_iload_n dX8_isPerson_4 rfl ?_
    refine b_aload_n dX8_isPerson_5 rfl ?_
    refine b_geti dX8_isPerson_6 gf_X8_105 rfl rfl ?_
    refine b_icmp_ge (tgt := 16) dX8_isPerson_9 (by decide) (fun h9 => ?_) (fun h9 => ?_)
    · refine b_iconst (v := 0) dX8_isPerson_16 (by decide) ?_
      refine b_zret (Or.inl rfl) dX8_isPerson_17 rfl ⟨rfl, Or.inr ⟨rfl, ?_⟩⟩
      (simp only [Int32.lt_iff_toInt_lt, Int32.le_iff_toInt_le, ← Int32.toInt_inj] at * <;> omega)
    · refine b_iconst (v := 1) dX8_isPerson_12 (by decide) ?_
      refine b_goto (tgt := 17) dX8_isPerson_13 (by decide) ?_
      refine b_zret (Or.inr rfl) dX8_isPerson_17 rfl ⟨rfl, Or.inl ⟨rfl, ?_⟩⟩
      (simp only [Int32.lt_iff_toInt_lt, Int32.le_iff_toInt_le, ← Int32.toInt_inj] at * <;> omega)
end
section
def bt (x : Int32) (i : Nat) : Bool := x.toBitVec.getLsbD i
theorem b_ext {x y : Int32} (h : ∀ i, i < 32 → bt x i = bt y i) : x = y := Int32.toBitVec_inj.mp (BitVec.eq_of_getLsbD_eq (fun i hi => h i hi))
theorem b_or (x y : Int32) (i : Nat) : bt (x ||| y) i = (bt x i || bt y i) := by unfold bt; rw [Int32.toBitVec_or, BitVec.getLsbD_or]
theorem b_and (x y : Int32) (i : Nat) : bt (x &&& y) i = (bt x i && bt y i) := by unfold bt; rw [Int32.toBitVec_and, BitVec.getLsbD_and]
theorem b_xor (x y : Int32) (i : Nat) : bt (x ^^^ y) i = (bt x i ^^ bt y i) := by unfold bt; rw [Int32.toBitVec_xor, BitVec.getLsbD_xor]
theorem b_big {x : Int32} {i : Nat} (h : 32 ≤ i) : bt x i = false := BitVec.getLsbD_of_ge _ _ h
theorem b_m1 : ∀ i, i < 32 → bt (-1) i = true := by decide +kernel
theorem b_0 (i : Nat) : bt 0 i = false := BitVec.getLsbD_zero
theorem s_l : ∀ n, n < 32 → ((nI n &&& 31).toBitVec.smod 32).toNat = n := by decide +kernel
theorem b_shl (n : Nat) (hn : n < 32) (x : Int32) {i : Nat} (hi : i < 32) : bt (x <<< (nI n &&& 31)) i = (decide (n ≤ i) && bt x (i - n)) := by
  unfold bt
  rw [Int32.toBitVec_shiftLeft]
  show (x.toBitVec <<< ((nI n &&& 31).toBitVec.smod 32).toNat).getLsbD i = _
  rw [s_l n hn, BitVec.getLsbD_shiftLeft]
  rcases Nat.lt_or_ge i n with h | h
  · simp [h, Nat.not_le.mpr h]
  · simp [hi, h, Nat.not_lt.mpr h]
theorem b_sshr (n : Nat) (hn : n < 32) (x : Int32) {i : Nat} (hi : i < 32) : bt (x >>> (nI n &&& 31)) i = if n + i < 32 then bt x (n + i) else bt x 31 := by
  unfold bt
  rw [Int32.toBitVec_shiftRight]
  show (x.toBitVec.sshiftRight ((nI n &&& 31).toBitVec.smod 32).toNat).getLsbD i = _
  rw [s_l n hn, BitVec.getLsbD_sshiftRight, BitVec.msb_eq_getLsbD_last]
  simp [hi]
theorem b_shl8 (x : Int32) {i : Nat} (hi : i < 32) : bt (x <<< ((8 : Int32) &&& 31)) i = (decide (8 ≤ i) && bt x (i - 8)) := b_shl 8 (by omega) x hi
/-- one bit, asked for -/
theorem bit_1 (x : Int32) {k : Nat} (hk : k < 32) : (x >>> (nI k &&& 31)) &&& 1 = 1 ↔ bt x k = true := by
  have e : ∀ i, i < 32 → bt ((x >>> (nI k &&& 31)) &&& 1) i = (decide (i = 0) && bt x k) := by
    intro i hi
    rw [b_and, b_sshr k hk x hi]
    by_cases h : i = 0
    · subst h
      simp [hk, show bt 1 0 = true from by decide]
    · have h1 : bt 1 i = false := by
        have : ∀ i, i < 32 → i ≠ 0 → bt 1 i = false := by decide +kernel
        exact this i hi h
      simp [h, h1]
  constructor
  · intro h
    have h0 := e 0 (by omega)
    rw [h] at h0
    simpa [show bt 1 0 = true from by decide] using h0.symm
  · intro h
    apply b_ext
    intro i hi
    rw [e i hi, h]
    have : ∀ i, i < 32 → (decide (i = 0) && true) = bt 1 i := by decide +kernel
    exact this i hi
theorem bit_0 (x : Int32) {k : Nat} (hk : k < 32) : (x >>> (nI k &&& 31)) &&& 1 = 0 ↔ bt x k = false := by
  have e : ∀ i, i < 32 → bt ((x >>> (nI k &&& 31)) &&& 1) i = (decide (i = 0) && bt x k) := by
    intro i hi
    rw [b_and, b_sshr k hk x hi]
    by_cases h : i = 0
    · subst h
      simp [hk, show bt 1 0 = true from by decide]
    · have h1 : bt 1 i = false := by
        have : ∀ i, i < 32 → i ≠ 0 → bt 1 i = false := by decide +kernel
        exact this i hi h
      simp [h, h1]
  constructor
  · intro h
    have h0 := e 0 (by omega)
    rw [h] at h0
    simpa [show bt 0 0 = false from by decide] using h0.symm
  · intro h
    apply b_ext
    intro i hi
    rw [e i hi, h, b_0]
    simp
theorem bit_n1 (x : Int32) {k : Nat} (hk : k < 32) : ¬ (x >>> (nI k &&& 31)) &&& 1 = 0 ↔ bt x k = true := by
  rw [bit_0 x hk]; simp
theorem bit_n0 (x : Int32) {k : Nat} (hk : k < 32) : ¬ (x >>> (nI k &&& 31)) &&& 1 = 1 ↔ bt x k = false := by
  rw [bit_1 x hk]; simp
theorem bit_one {k : Nat} (hk : k < 32) {i : Nat} (hi : i < 32) : bt (1 <<< (nI k &&& 31)) i = decide (i = k) := by
  rw [b_shl k hk 1 hi]
  have : ∀ j, j < 32 → bt 1 j = decide (j = 0) := by decide +kernel
  rw [this (i - k) (by omega)]
  by_cases h : k ≤ i
  · simp only [h, decide_true, Bool.true_and]
    by_cases h2 : i = k
    · simp [h2]
    · simp [h2]; omega
  · simp [h]; omega
theorem bt_nI {s i : Nat} (hi : i < 32) : bt (nI s) i = s.testBit i := by
  show (BitVec.ofNat 32 s).getLsbD i = _
  rw [BitVec.getLsbD_ofNat, decide_eq_true hi, Bool.true_and]
/-- cells after a store -/
def kset (w : kW) (c k : Nat) (v : Int32) : kW := (k_up w.1 c k v, w.2)
theorem kset_1 (w : kW) (c k : Nat) (v : Int32) (c' k' : Nat) : (kset w c k v).1 c' k' = if c' = c then (if k' = k then v else w.1 c' k') else w.1 c' k' := rfl
theorem kset_2 (w : kW) (c k : Nat) (v : Int32) : (kset w c k v).2 = w.2 := rfl
theorem kset_row (w : kW) (c k : Nat) (v : Int32) {c' : Nat} (h : c' ≠ c) : (kset w c k v).1 c' = w.1 c' := by
  funext j
  rw [kset_1, if_neg h]
theorem kset_ne (w : kW) {c k c' k' : Nat} (v : Int32) (h : c' ≠ c ∨ k' ≠ k) : (kset w c k v).1 c' k' = w.1 c' k' := by
  rw [kset_1]
  rcases h with h | h <;> simp [h]
theorem kset_eq (w : kW) (c k : Nat) (v : Int32) : (kset w c k v).1 c k = v := by rw [kset_1, if_pos rfl, if_pos rfl]
/-! ===== the reference's season, as functions of its cells ===== -/
def fr (w : kW) (k : Nat) : Nat := (w.1 6 k).toNatClampNeg
/-- the persons: how many, what is told of them -/
def Pn (n : Nat) (w : kW) : Prop := w.1 0 5 = nI n ∧ n ≤ 6 ∧ (∀ p, p < n → ∃ h, 1 ≤ h ∧ h ≤ 9 ∧ w.1 5 p = nI h) ∧ (∀ k, k < 2 * n → fr w k < n ∧ w.1 6 k = nI (fr w k)) ∧ (∀ p, p < n → w.1 7 p = 0 ∨ w.1 7 p = 1) ∧ (∀ p, p < n → ∃ k, k ≤ 2 ∧ w.1 4 p = nI k)
def mTc (kd h : Int32) : Int32 :=
  let x0 := 10 - h
  let x1 := if kd ≤ 0 then x0 else (if x0 ≤ 3 then 1 else x0 - 2)
  if kd = 2 then (if x1 ≤ 2 then 1 else x1 - 1) else x1
def mTouch (w : kW) (p : Nat) : Int32 :=
  let x0 := 10 - w.1 5 p
  let x1 := if w.1 4 p ≤ 0 then x0 else (if x0 ≤ 3 then 1 else x0 - 2)
  if w.1 4 p = 2 then (if x1 ≤ 2 then 1 else x1 - 1) else x1
abbrev mFree (w : kW) (x : Nat) (dawn : Int32) : Prop := w.1 7 x = 0 ∧ w.1 15 x ≤ dawn ∧ bt (w.1 0 22) x = false
abbrev mMay (w : kW) (x : Nat) (p other no dawn : Int32) : Prop := ¬ nI x = p ∧ ¬ nI x = other ∧ ¬ nI x = no ∧ mFree w x dawn
def oI (o : Option Nat) : Int32 := match o with
  | none => -9
  | some x => nI x
def mCh (w : kW) (p : Nat) : List Nat := [fr w (2 * p), fr w (2 * p + 1), fr w (2 * fr w (2 * p)), fr w (2 * fr w (2 * p) + 1), fr w (2 * fr w (2 * p + 1)), fr w (2 * fr w (2 * p + 1) + 1)]
def mSec (w : kW) (p : Nat) (other no dawn : Int32) : Option Nat := (mCh w p).find? (fun x => decide (mMay w x (nI p) other no dawn))
def mHurtF (w : kW) (hu y : Nat) (dawn : Int32) : kW :=
  let w1 := kset w 15 hu (dawn + (w.1 5 y - w.1 5 hu) + 2)
  if w.1 6 (2 * hu) = nI y then w1 else
    let t := (w.1 0 23).toNatClampNeg
    kset (kset (kset (kset (kset w1 16 t (nI y)) 17 t (w.1 6 (2 * hu))) 18 t (w.1 5 y - w.1 5 hu)) 19 t dawn) 0 23 (w.1 0 23 + 1)
def mMeet0 (w : kW) (a b : Nat) (insd insr dawn : Int32) : kW :=
  let m := (w.1 0 28).toNatClampNeg
  kset (kset (kset (kset (kset (kset (kset w 0 22 (w.1 0 22 ||| (1 <<< (nI a &&& 31) ||| 1 <<< (nI b &&& 31)))) 20 m dawn) 21 m (nI a)) 22 m (nI b)) 23 m insd) 24 m insr) 25 m (-9)
def mMeet (w : kW) (a b : Nat) (insd insr dawn : Int32) : kW :=
  let m := (w.1 0 28).toNatClampNeg
  let w1 := mMeet0 w a b insd insr dawn
  let w2 := if w.1 5 a = w.1 5 b then w1 else if w.1 5 b ≤ w.1 5 a then kset (mHurtF w1 b a dawn) 25 m (nI b) else kset (mHurtF w1 a b dawn) 25 m (nI a)
  kset w2 0 28 (w2.1 0 28 + 1)
def mAnswer (w : kW) (i j : Nat) (deg dawn : Int32) : kW :=
  if mTouch w j ≤ deg then
    match mSec w j (nI i) (-9) dawn with
    | none => w
    | some a => match mSec w i (nI j) (nI a) dawn with
      | none => w
      | some b => mMeet w a b (nI j) (nI i) dawn
  else w
def mZero (w : kW) : Nat → kW
  | 0 => kset (kset w 0 28 0) 0 23 0
  | k + 1 => kset (mZero w k) 15 k 0
def mBegin (n : Nat) (w : kW) : kW := kset (mZero w n) 0 22 0
def mTold (w : kW) (d : Nat) : Nat → kW
  | 0 => kset w 0 22 0
  | k + 1 =>
    let v := mTold w d k
    if v.1 13 k = nI d - 1 ∧ bt (v.1 0 20) k = false then mAnswer v (v.1 11 k).toNatClampNeg (v.1 12 k).toNatClampNeg (v.1 14 k) (nI d) else v
def mTk (w : kW) (d : Nat) : Nat → kW
  | 0 => w
  | k + 1 =>
    let v := mTk w d k
    if v.1 19 k = nI d - 1 then mAnswer v (v.1 16 k).toNatClampNeg (v.1 17 k).toNatClampNeg (v.1 18 k) (nI d) else v
def mDawn (c : Nat) (w : kW) (d : Nat) : kW := mTk (mTold w d c) d (w.1 0 23).toNatClampNeg
def mAhead (n c : Nat) (w : kW) : Nat → kW
  | 0 => mBegin n w
  | d + 1 => mDawn c (mAhead n c w d) d
def mGo (n c : Nat) (w : kW) (d : Nat) : kW := kset (mAhead n c w d) 0 22 0
theorem nI_inc (k : Nat) : nI k + Int32.ofInt 1 = nI (k + 1) := nI_1 k
theorem nI_ne9 {a : Nat} (h : a < 2 ^ 31) : ¬ nI a = -9 := by
  intro e
  have h1 := nI_toInt h
  rw [e] at h1
  have : (-9 : Int32).toInt = -9 := by decide
  omega
theorem cl_of {x : Int32} {m : Nat} (h : x = nI m) (hm : m < 2 ^ 31) : x.toNatClampNeg = m := by rw [h, nI_clamp hm]
end
section
set_option maxRecDepth 100000 in
set_option maxHeartbeats 4000000 in
theorem s_X8_isFree {w : kW} {x : Nat} {dawn : Int32} (hx : x < 6) : Spec shM yX8_isFree cX8_isFree 3 (some .boolean) 0 0 [.ref 0, .int (nI x), .int dawn] w (fun r w' => w = w' ∧ ((r = some (.int 1) ∧ (mFree w x dawn)) ∨ (r = some (.int 0) ∧ ¬ (mFree w x dawn)))) := by
  refine k_enter pn_X8 (Nat.le_of_ble_eq_true rfl) ?_
  refine b_aload_n dX8_isFree_0 rfl ?_
  refine b_getr dX8_isFree_1 gf_X8_28 rfl rfl ?_
  refine b_iload_n dX8_isFree_4 rfl ?_
  refine b_zaldN dX8_isFree_5 rfl ⟨by omega, by decide⟩ ?_
  refine b_if_ne (tgt := 34) dX8_isFree_6 (by decide) (fun h6 => ?_) (fun h6 => ?_)
  · refine b_iconst (v := 0) dX8_isFree_34 (by decide) ?_
    refine b_zret (Or.inl rfl) dX8_isFree_35 rfl ⟨rfl, Or.inr ⟨rfl, ?_⟩⟩
    exact fun h => by first | exact h6 h.1 | exact absurd h.2.1 (Int32.not_le.mpr h16) | exact h27 ((bit_0 _ (by omega)).mpr h.2.2)
  · refine b_aload_n dX8_isFree_9 rfl ?_
    refine b_getr dX8_isFree_10 gf_X8_53 rfl rfl ?_
    refine b_iload_n dX8_isFree_13 rfl ?_
    refine b_ialdN dX8_isFree_14 rfl ⟨by omega, by decide⟩ ?_
    refine b_iload_n dX8_isFree_15 rfl ?_
    refine b_icmp_gt (tgt := 34) dX8_isFree_16 (by decide) (fun h16 => ?_) (fun h16 => ?_)
    · refine b_iconst (v := 0) dX8_isFree_34 (by decide) ?_
      refine b_zret (Or.inl rfl) dX8_isFree_35 rfl ⟨rfl, Or.inr ⟨rfl, ?_⟩⟩
      exact fun h => by first | exact h6 h.1 | exact absurd h.2.1 (Int32.not_le.mpr h16) | exact h27 ((bit_0 _ (by omega)).mpr h.2.2)
    · refine b_aload_n dX8_isFree_19 rfl ?_
      refine b_geti dX8_isFree_20 gf_X8_155 rfl rfl ?_
      refine b_iload_n dX8_isFree_23 rfl ?_
      refine b_ishr dX8_isFree_24 ?_
      refine b_iconst (v := 1) dX8_isFree_25 (by decide) ?_
      refine b_iand dX8_isFree_26 ?_
      refine b_if_ne (tgt := 34) dX8_isFree_27 (by decide) (fun h27 => ?_) (fun h27 => ?_)
      · refine b_iconst (v := 0) dX8_isFree_34 (by decide) ?_
        refine b_zret (Or.inl rfl) dX8_isFree_35 rfl ⟨rfl, Or.inr ⟨rfl, ?_⟩⟩
        exact fun h => by first | exact h6 h.1 | exact absurd h.2.1 (Int32.not_le.mpr h16) | exact h27 ((bit_0 _ (by omega)).mpr h.2.2)
      · refine b_iconst (v := 1) dX8_isFree_30 (by decide) ?_
        refine b_goto (tgt := 35) dX8_isFree_31 (by decide) ?_
        refine b_zret (Or.inr rfl) dX8_isFree_35 rfl ⟨rfl, Or.inl ⟨rfl, ?_⟩⟩
        exact ⟨h6, Int32.not_lt.mp h16, (bit_0 _ (by omega)).mp h27⟩

set_option maxRecDepth 100000 in
set_option maxHeartbeats 4000000 in
theorem s_X8_maySecond {w : kW} {x : Nat} {p other no dawn : Int32} (hx : x < 6) : Spec shM yX8_maySecond cX8_maySecond 6 (some .boolean) 1 22 [.ref 0, .int (nI x), .int p, .int other, .int no, .int dawn] w (fun r w' => w = w' ∧ ((r = some (.int 1) ∧ (mMay w x p other no dawn)) ∨ (r = some (.int 0) ∧ ¬ (mMay w x p other no dawn)))) := by
  refine k_enter pn_X8 (Nat.le_of_ble_eq_true rfl) ?_
  refine b_iload_n dX8_maySecond_0 rfl ?_
  refine b_iload_n dX8_maySecond_1 rfl ?_
  refine b_icmp_eq (tgt := 30) dX8_maySecond_2 (by decide) (fun h2 => ?_) (fun h2 => ?_)
  · refine b_iconst (v := 0) dX8_maySecond_30 (by decide) ?_
    refine b_zret (Or.inl rfl) dX8_maySecond_31 rfl ⟨rfl, Or.inr ⟨rfl, ?_⟩⟩
    exact fun h => by first | exact h.1 h2 | exact h.2.1 h7 | exact h.2.2.1 h13 | exact h20 h.2.2.2
  · refine b_iload_n dX8_maySecond_5 rfl ?_
    refine b_iload_n dX8_maySecond_6 rfl ?_
    refine b_icmp_eq (tgt := 30) dX8_maySecond_7 (by decide) (fun h7 => ?_) (fun h7 => ?_)
    · refine b_iconst (v := 0) dX8_maySecond_30 (by decide) ?_
      refine b_zret (Or.inl rfl) dX8_maySecond_31 rfl ⟨rfl, Or.inr ⟨rfl, ?_⟩⟩
      exact fun h => by first | exact h.1 h2 | exact h.2.1 h7 | exact h.2.2.1 h13 | exact h20 h.2.2.2
    · refine b_iload_n dX8_maySecond_10 rfl ?_
      refine b_iload dX8_maySecond_11 rfl ?_
      refine b_icmp_eq (tgt := 30) dX8_maySecond_13 (by decide) (fun h13 => ?_) (fun h13 => ?_)
      · refine b_iconst (v := 0) dX8_maySecond_30 (by decide) ?_
        refine b_zret (Or.inl rfl) dX8_maySecond_31 rfl ⟨rfl, Or.inr ⟨rfl, ?_⟩⟩
        exact fun h => by first | exact h.1 h2 | exact h.2.1 h7 | exact h.2.2.1 h13 | exact h20 h.2.2.2
      · refine b_aload_n dX8_maySecond_16 rfl ?_
        refine b_iload_n dX8_maySecond_17 rfl ?_
        refine b_iload dX8_maySecond_18 rfl ?_
        refine b_callV2 dX8_maySecond_20 lk_X8_158 rfl rfl rfl ⟨Nat.le_of_ble_eq_true rfl, Nat.le_of_ble_eq_true rfl⟩ (Nat.le_of_ble_eq_true rfl) (s_X8_isFree hx) (fun r w20 h20 => ?_)
        obtain ⟨rfl, h20⟩ := h20
        rcases h20 with ⟨rfl, h20⟩ | ⟨rfl, h20⟩
        · refine b_if_eq (tgt := 30) dX8_maySecond_23 (by decide) (fun h23 => absurd h23 (by decide)) (fun h23 => ?_)
          refine b_iconst (v := 1) dX8_maySecond_26 (by decide) ?_
          refine b_goto (tgt := 31) dX8_maySecond_27 (by decide) ?_
          refine b_zret (Or.inr rfl) dX8_maySecond_31 rfl ⟨rfl, Or.inl ⟨rfl, ?_⟩⟩
          exact ⟨h2, h7, h13, h20⟩
        · refine b_if_eq (tgt := 30) dX8_maySecond_23 (by decide) (fun h23 => ?_) (fun h23 => absurd h23 (by decide))
          refine b_iconst (v := 0) dX8_maySecond_30 (by decide) ?_
          refine b_zret (Or.inl rfl) dX8_maySecond_31 rfl ⟨rfl, Or.inr ⟨rfl, ?_⟩⟩
          exact fun h => by first | exact h.1 h2 | exact h.2.1 h7 | exact h.2.2.1 h13 | exact h20 h.2.2.2

set_option maxRecDepth 100000 in
set_option maxHeartbeats 4000000 in
theorem s_X8_touchy {w : kW} {p : Nat} (hp : p < 6) : Spec shM yX8_touchy cX8_touchy 3 (some .int) 0 0 [.ref 0, .int (nI p)] w (fun r w' => r = some (.int (mTouch w p)) ∧ w = w') := by
  refine k_enter pn_X8 (Nat.le_of_ble_eq_true rfl) ?_
  refine b_bipush (v := 10) dX8_touchy_0 (by decide) ?_
  refine b_aload_n dX8_touchy_2 rfl ?_
  refine b_getr dX8_touchy_3 gf_X8_22 rfl rfl ?_
  refine b_iload_n dX8_touchy_6 rfl ?_
  refine b_ialdN dX8_touchy_7 rfl ⟨by omega, by decide⟩ ?_
  refine b_isub dX8_touchy_8 ?_
  refine b_istore_n dX8_touchy_9 (by decide) ?_
  refine b_aload_n dX8_touchy_10 rfl ?_
  refine b_getr dX8_touchy_11 gf_X8_19 rfl rfl ?_
  refine b_iload_n dX8_touchy_14 rfl ?_
  refine b_ialdN dX8_touchy_15 rfl ⟨by omega, by decide⟩ ?_
  refine b_if_le (tgt := 32) dX8_touchy_16 (by decide) (fun h16 => ?_) (fun h16 => ?_)
  · refine b_aload_n dX8_touchy_32 rfl ?_
    refine b_getr dX8_touchy_33 gf_X8_19 rfl rfl ?_
    refine b_iload_n dX8_touchy_36 rfl ?_
    refine b_ialdN dX8_touchy_37 rfl ⟨by omega, by decide⟩ ?_
    refine b_iconst (v := 2) dX8_touchy_38 (by decide) ?_
    refine b_icmp_ne (tgt := 55) dX8_touchy_39 (by decide) (fun h39 => ?_) (fun h39 => ?_)
    · refine b_iload_n dX8_touchy_55 rfl ?_
      refine b_iret dX8_touchy_56 rfl ⟨?_, ?_⟩
      · simp only [mTouch, if_pos h16, if_neg h39] <;> rfl
      · rfl
    · refine b_iload_n dX8_touchy_42 rfl ?_
      refine b_iconst (v := 2) dX8_touchy_43 (by decide) ?_
      refine b_icmp_le (tgt := 53) dX8_touchy_44 (by decide) (fun h44 => ?_) (fun h44 => ?_)
      · refine b_iconst (v := 1) dX8_touchy_53 (by decide) ?_
        refine b_istore_n dX8_touchy_54 (by decide) ?_
        refine b_iload_n dX8_touchy_55 rfl ?_
        refine b_iret dX8_touchy_56 rfl ⟨?_, ?_⟩
        · simp only [mTouch, if_pos h16, if_pos h39, if_pos h44] <;> rfl
        · rfl
      · refine b_iload_n dX8_touchy_47 rfl ?_
        refine b_iconst (v := 1) dX8_touchy_48 (by decide) ?_
        refine b_isub dX8_touchy_49 ?_
        refine b_goto (tgt := 54) dX8_touchy_50 (by decide) ?_
        refine b_istore_n dX8_touchy_54 (by decide) ?_
        refine b_iload_n dX8_touchy_55 rfl ?_
        refine b_iret dX8_touchy_56 rfl ⟨?_, ?_⟩
        · simp only [mTouch, if_pos h16, if_pos h39, if_neg h44] <;> rfl
        · rfl
  · refine b_iload_n dX8_touchy_19 rfl ?_
    refine b_iconst (v := 3) dX8_touchy_20 (by decide) ?_
    refine b_icmp_le (tgt := 30) dX8_touchy_21 (by decide) (fun h21 => ?_) (fun h21 => ?_)
    · refine b_iconst (v := 1) dX8_touchy_30 (by decide) ?_
      refine b_istore_n dX8_touchy_31 (by decide) ?_
      refine b_aload_n dX8_touchy_32 rfl ?_
      refine b_getr dX8_touchy_33 gf_X8_19 rfl rfl ?_
      refine b_iload_n dX8_touchy_36 rfl ?_
      refine b_ialdN dX8_touchy_37 rfl ⟨by omega, by decide⟩ ?_
      refine b_iconst (v := 2) dX8_touchy_38 (by decide) ?_
      refine b_icmp_ne (tgt := 55) dX8_touchy_39 (by decide) (fun h39 => ?_) (fun h39 => ?_)
      · refine b_iload_n dX8_touchy_55 rfl ?_
        refine b_iret dX8_touchy_56 rfl ⟨?_, ?_⟩
        · simp only [mTouch, if_neg h16, if_pos h21, if_neg h39] <;> rfl
        · rfl
      · refine b_iload_n dX8_touchy_42 rfl ?_
        refine b_iconst (v := 2) dX8_touchy_43 (by decide) ?_
        refine b_icmp_le (tgt := 53) dX8_touchy_44 (by decide) (fun h44 => ?_) (fun h44 => ?_)
        · refine b_iconst (v := 1) dX8_touchy_53 (by decide) ?_
          refine b_istore_n dX8_touchy_54 (by decide) ?_
          refine b_iload_n dX8_touchy_55 rfl ?_
          refine b_iret dX8_touchy_56 rfl ⟨?_, ?_⟩
          · simp only [mTouch, if_neg h16, if_pos h21, if_pos h39, if_pos h44] <;> rfl
          · rfl
        · refine b_iload_n dX8_touchy_47 rfl ?_
          refine b_iconst (v := 1) dX8_touchy_48 (by decide) ?_
          refine b_isub dX8_touchy_49 ?_
          refine b_goto (tgt := 54) dX8_touchy_50 (by decide) ?_
          refine b_istore_n dX8_touchy_54 (by decide) ?_
          refine b_iload_n dX8_touchy_55 rfl ?_
          refine b_iret dX8_touchy_56 rfl ⟨?_, ?_⟩
          · simp only [mTouch, if_neg h16, if_pos h21, if_pos h39, if_neg h44] <;> rfl
          · rfl
    · refine b_iload_n dX8_touchy_24 rfl ?_
      refine b_iconst (v := 2) dX8_touchy_25 (by decide) ?_
      refine b_isub dX8_touchy_26 ?_
      refine b_goto (tgt := 31) dX8_touchy_27 (by decide) ?_
      refine b_istore_n dX8_touchy_31 (by decide) ?_
      refine b_aload_n dX8_touchy_32 rfl ?_
      refine b_getr dX8_touchy_33 gf_X8_19 rfl rfl ?_
      refine b_iload_n dX8_touchy_36 rfl ?_
      refine b_ialdN dX8_touchy_37 rfl ⟨by omega, by decide⟩ ?_
      refine b_iconst (v := 2) dX8_touchy_38 (by decide) ?_
      refine b_icmp_ne (tgt := 55) dX8_touchy_39 (by decide) (fun h39 => ?_) (fun h39 => ?_)
      · refine b_iload_n dX8_touchy_55 rfl ?_
        refine b_iret dX8_touchy_56 rfl ⟨?_, ?_⟩
        · simp only [mTouch, if_neg h16, if_neg h21, if_neg h39] <;> rfl
        · rfl
      · refine b_iload_n dX8_touchy_42 rfl ?_
        refine b_iconst (v := 2) dX8_touchy_43 (by decide) ?_
        refine b_icmp_le (tgt := 53) dX8_touchy_44 (by decide) (fun h44 => ?_) (fun h44 => ?_)
        · refine b_iconst (v := 1) dX8_touchy_53 (by decide) ?_
          refine b_istore_n dX8_touchy_54 (by decide) ?_
          refine b_iload_n dX8_touchy_55 rfl ?_
          refine b_iret dX8_touchy_56 rfl ⟨?_, ?_⟩
          · simp only [mTouch, if_neg h16, if_neg h21, if_pos h39, if_pos h44] <;> rfl
          · rfl
        · refine b_iload_n dX8_touchy_47 rfl ?_
          refine b_iconst (v := 1) dX8_touchy_48 (by decide) ?_
          refine b_isub dX8_touchy_49 ?_
          refine b_goto (tgt := 54) dX8_touchy_50 (by decide) ?_
          refine b_istore_n dX8_touchy_54 (by decide) ?_
          refine b_iload_n dX8_touchy_55 rfl ?_
          refine b_iret dX8_touchy_56 rfl ⟨?_, ?_⟩
          · simp only [mTouch, if_neg h16, if_neg h21, if_pos h39, if_neg h44] <;> rfl
          · rfl

theorem Pn.frd {w : kW} {n k : Nat} (h : Pn n w) (hk : k < 2 * n) : fr w k < n ∧ w.1 6 k = nI (fr w k) := h.2.2.2.1 k hk
theorem Pn.le {w : kW} {n : Nat} (h : Pn n w) : n ≤ 6 := h.2.1
theorem fr_step {l : List Nat} {x : Nat} {q : Nat → Bool} (h : q x = false) : (x :: l).find? q = l.find? q := List.find?_cons_of_neg (by simp [h])
theorem fr_stop {l : List Nat} {x : Nat} {q : Nat → Bool} (h : q x = true) : (x :: l).find? q = some x := List.find?_cons_of_pos h

set_option maxRecDepth 100000 in
set_option maxHeartbeats 4000000 in
theorem s_X8_secondOf_4 {w : kW} {n p : Nat} {other no dawn : Int32} (hP : Pn n w) (hp : p < n) (hl : mSec w p other no dawn = List.find? (fun x => decide (mMay w x (nI p) other no dawn)) []) : BS shM RX8 cX8_secondOf 9 (some .int) 2 47 (fun r w' => r = some (.int (oI (mSec w p other no dawn))) ∧ w = w') 59 [(0, .ref 0), (1, .int (nI p)), (2, .int other), (3, .int no), (4, .int dawn), (5, .int (nI (fr w (2 * p)))), (6, .int (nI (fr w (2 * p + 1)))), (7, .int 4)] [] w := by
  have hn := hP.le
  have h1 := (hP.frd (k := 2 * p) (by omega)).1
  have h2 := (hP.frd (k := 2 * p + 1) (by omega)).1
  refine b_iload dX8_secondOf_59 rfl ?_
  refine b_iconst (v := 4) dX8_secondOf_61 (by decide) ?_
  refine b_icmp_ge (tgt := 115) dX8_secondOf_62 (by decide) (fun h62 => ?_) (fun h62 => ?_)
  · refine b_bipush (v := (-9)) dX8_secondOf_115 (by decide) ?_
    exact b_iret dX8_secondOf_117 rfl ⟨by rw [hl]; rfl, rfl⟩
  · exact absurd h62 (by decide)

set_option maxRecDepth 100000 in
set_option maxHeartbeats 4000000 in
theorem s_X8_secondOf_3 {w : kW} {n p : Nat} {other no dawn : Int32} (hP : Pn n w) (hp : p < n) (hl : mSec w p other no dawn = List.find? (fun x => decide (mMay w x (nI p) other no dawn)) [fr w (2 * fr w (2 * p + 1) + 1)]) : BS shM RX8 cX8_secondOf 9 (some .int) 2 47 (fun r w' => r = some (.int (oI (mSec w p other no dawn))) ∧ w = w') 59 [(0, .ref 0), (1, .int (nI p)), (2, .int other), (3, .int no), (4, .int dawn), (5, .int (nI (fr w (2 * p)))), (6, .int (nI (fr w (2 * p + 1)))), (7, .int 3)] [] w := by
  have hn := hP.le
  have h1 := (hP.frd (k := 2 * p) (by omega)).1
  have h2 := (hP.frd (k := 2 * p + 1) (by omega)).1
  have h3 := hP.frd (k := (2 * fr w (2 * p + 1) + 1)) (by omega)
  refine b_iload dX8_secondOf_59 rfl ?_
  refine b_iconst (v := 4) dX8_secondOf_61 (by decide) ?_
  refine b_icmp_ge (tgt := 115) dX8_secondOf_62 (by decide) (fun h62 => ?_) (fun h62 => ?_)
  · exact absurd h62 (by decide)
  · refine b_aload_n dX8_secondOf_65 rfl ?_
    refine b_getr dX8_secondOf_66 gf_X8_25 rfl rfl ?_
    refine b_iconst (v := 2) dX8_secondOf_69 (by decide) ?_
    refine b_iload dX8_secondOf_70 rfl ?_
    refine b_iconst (v := 2) dX8_secondOf_72 (by decide) ?_
    refine b_icmp_ge (tgt := 81) dX8_secondOf_73 (by decide) (fun h73 => ?_) (fun h73 => ?_)
    · refine b_iload dX8_secondOf_81 rfl ?_
      refine b_imul dX8_secondOf_83 ?_
      refine b_topi (y := nI (2 * fr w (2 * p + 1))) (nI_two _) ?_
      refine b_iload dX8_secondOf_84 rfl ?_
      refine b_iconst (v := 2) dX8_secondOf_86 (by decide) ?_
      refine b_irem dX8_secondOf_87 (by decide) ?_
      refine b_topi (y := 1) (by decide) ?_
      refine b_iadd dX8_secondOf_88 ?_
      refine b_topi (y := nI (2 * fr w (2 * p + 1) + 1)) (by first | exact nI_add _ 0 | exact nI_add _ 1) ?_
      refine b_ialdN dX8_secondOf_89 rfl ⟨by omega, by decide⟩ ?_
      rw [h3.2]
      refine b_istore dX8_secondOf_90 (by decide) ?_
      refine b_aload_n dX8_secondOf_92 rfl ?_
      refine b_iload dX8_secondOf_93 rfl ?_
      refine b_iload_n dX8_secondOf_95 rfl ?_
      refine b_iload_n dX8_secondOf_96 rfl ?_
      refine b_iload_n dX8_secondOf_97 rfl ?_
      refine b_iload dX8_secondOf_98 rfl ?_
      refine b_callV5 dX8_secondOf_100 lk_X8_161 rfl rfl rfl ⟨Nat.le_of_ble_eq_true rfl, Nat.le_of_ble_eq_true rfl⟩ (Nat.le_of_ble_eq_true rfl) (s_X8_maySecond (by omega)) (fun r w100 h100 => ?_)
      obtain ⟨rfl, h100⟩ := h100
      rcases h100 with ⟨rfl, h100⟩ | ⟨rfl, h100⟩
      · refine b_if_eq (tgt := 109) dX8_secondOf_103 (by decide) (fun h103 => absurd h103 (by decide)) (fun h103 => ?_)
        refine b_iload dX8_secondOf_106 rfl ?_
        exact b_iret dX8_secondOf_108 rfl ⟨by rw [hl, fr_stop (decide_eq_true h100)]; rfl, rfl⟩
      · refine b_if_eq (tgt := 109) dX8_secondOf_103 (by decide) (fun h103 => ?_) (fun h103 => absurd h103 (by decide))
        refine b_iinc dX8_secondOf_109 rfl rfl (by decide) ?_
        refine b_goto (tgt := 59) dX8_secondOf_112 (by decide) ?_
        refine b_sub [2, 3, 4, 5, 6, 7, 8, 0] rfl ?_
        exact s_X8_secondOf_4 hP hp (by rw [hl]; exact fr_step (decide_eq_false h100))
    · exact absurd h73 (by decide)

set_option maxRecDepth 100000 in
set_option maxHeartbeats 4000000 in
theorem s_X8_secondOf_2 {w : kW} {n p : Nat} {other no dawn : Int32} (hP : Pn n w) (hp : p < n) (hl : mSec w p other no dawn = List.find? (fun x => decide (mMay w x (nI p) other no dawn)) [fr w (2 * fr w (2 * p + 1)), fr w (2 * fr w (2 * p + 1) + 1)]) : BS shM RX8 cX8_secondOf 9 (some .int) 2 47 (fun r w' => r = some (.int (oI (mSec w p other no dawn))) ∧ w = w') 59 [(0, .ref 0), (1, .int (nI p)), (2, .int other), (3, .int no), (4, .int dawn), (5, .int (nI (fr w (2 * p)))), (6, .int (nI (fr w (2 * p + 1)))), (7, .int 2)] [] w := by
  have hn := hP.le
  have h1 := (hP.frd (k := 2 * p) (by omega)).1
  have h2 := (hP.frd (k := 2 * p + 1) (by omega)).1
  have h3 := hP.frd (k := (2 * fr w (2 * p + 1))) (by omega)
  refine b_iload dX8_secondOf_59 rfl ?_
  refine b_iconst (v := 4) dX8_secondOf_61 (by decide) ?_
  refine b_icmp_ge (tgt := 115) dX8_secondOf_62 (by decide) (fun h62 => ?_) (fun h62 => ?_)
  · exact absurd h62 (by decide)
  · refine b_aload_n dX8_secondOf_65 rfl ?_
    refine b_getr dX8_secondOf_66 gf_X8_25 rfl rfl ?_
    refine b_iconst (v := 2) dX8_secondOf_69 (by decide) ?_
    refine b_iload dX8_secondOf_70 rfl ?_
    refine b_iconst (v := 2) dX8_secondOf_72 (by decide) ?_
    refine b_icmp_ge (tgt := 81) dX8_secondOf_73 (by decide) (fun h73 => ?_) (fun h73 => ?_)
    · refine b_iload dX8_secondOf_81 rfl ?_
      refine b_imul dX8_secondOf_83 ?_
      refine b_topi (y := nI (2 * fr w (2 * p + 1))) (nI_two _) ?_
      refine b_iload dX8_secondOf_84 rfl ?_
      refine b_iconst (v := 2) dX8_secondOf_86 (by decide) ?_
      refine b_irem dX8_secondOf_87 (by decide) ?_
      refine b_topi (y := 0) (by decide) ?_
      refine b_iadd dX8_secondOf_88 ?_
      refine b_topi (y := nI (2 * fr w (2 * p + 1))) (by first | exact nI_add _ 0 | exact nI_add _ 1) ?_
      refine b_ialdN dX8_secondOf_89 rfl ⟨by omega, by decide⟩ ?_
      rw [h3.2]
      refine b_istore dX8_secondOf_90 (by decide) ?_
      refine b_aload_n dX8_secondOf_92 rfl ?_
      refine b_iload dX8_secondOf_93 rfl ?_
      refine b_iload_n dX8_secondOf_95 rfl ?_
      refine b_iload_n dX8_secondOf_96 rfl ?_
      refine b_iload_n dX8_secondOf_97 rfl ?_
      refine b_iload dX8_secondOf_98 rfl ?_
      refine b_callV5 dX8_secondOf_100 lk_X8_161 rfl rfl rfl ⟨Nat.le_of_ble_eq_true rfl, Nat.le_of_ble_eq_true rfl⟩ (Nat.le_of_ble_eq_true rfl) (s_X8_maySecond (by omega)) (fun r w100 h100 => ?_)
      obtain ⟨rfl, h100⟩ := h100
      rcases h100 with ⟨rfl, h100⟩ | ⟨rfl, h100⟩
      · refine b_if_eq (tgt := 109) dX8_secondOf_103 (by decide) (fun h103 => absurd h103 (by decide)) (fun h103 => ?_)
        refine b_iload dX8_secondOf_106 rfl ?_
        exact b_iret dX8_secondOf_108 rfl ⟨by rw [hl, fr_stop (decide_eq_true h100)]; rfl, rfl⟩
      · refine b_if_eq (tgt := 109) dX8_secondOf_103 (by decide) (fun h103 => ?_) (fun h103 => absurd h103 (by decide))
        refine b_iinc dX8_secondOf_109 rfl rfl (by decide) ?_
        refine b_goto (tgt := 59) dX8_secondOf_112 (by decide) ?_
        refine b_sub [2, 3, 4, 5, 6, 7, 8, 0] rfl ?_
        exact s_X8_secondOf_3 hP hp (by rw [hl]; exact fr_step (decide_eq_false h100))
    · exact absurd h73 (by decide)

set_option maxRecDepth 100000 in
set_option maxHeartbeats 4000000 in
theorem s_X8_secondOf_1 {w : kW} {n p : Nat} {other no dawn : Int32} (hP : Pn n w) (hp : p < n) (hl : mSec w p other no dawn = List.find? (fun x => decide (mMay w x (nI p) other no dawn)) [fr w (2 * fr w (2 * p) + 1), fr w (2 * fr w (2 * p + 1)), fr w (2 * fr w (2 * p + 1) + 1)]) : BS shM RX8 cX8_secondOf 9 (some .int) 2 47 (fun r w' => r = some (.int (oI (mSec w p other no dawn))) ∧ w = w') 59 [(0, .ref 0), (1, .int (nI p)), (2, .int other), (3, .int no), (4, .int dawn), (5, .int (nI (fr w (2 * p)))), (6, .int (nI (fr w (2 * p + 1)))), (7, .int 1)] [] w := by
  have hn := hP.le
  have h1 := (hP.frd (k := 2 * p) (by omega)).1
  have h2 := (hP.frd (k := 2 * p + 1) (by omega)).1
  have h3 := hP.frd (k := (2 * fr w (2 * p) + 1)) (by omega)
  refine b_iload dX8_secondOf_59 rfl ?_
  refine b_iconst (v := 4) dX8_secondOf_61 (by decide) ?_
  refine b_icmp_ge (tgt := 115) dX8_secondOf_62 (by decide) (fun h62 => ?_) (fun h62 => ?_)
  · exact absurd h62 (by decide)
  · refine b_aload_n dX8_secondOf_65 rfl ?_
    refine b_getr dX8_secondOf_66 gf_X8_25 rfl rfl ?_
    refine b_iconst (v := 2) dX8_secondOf_69 (by decide) ?_
    refine b_iload dX8_secondOf_70 rfl ?_
    refine b_iconst (v := 2) dX8_secondOf_72 (by decide) ?_
    refine b_icmp_ge (tgt := 81) dX8_secondOf_73 (by decide) (fun h73 => ?_) (fun h73 => ?_)
    · exact absurd h73 (by decide)
    · refine b_iload dX8_secondOf_76 rfl ?_
      refine b_goto (tgt := 83) dX8_secondOf_78 (by decide) ?_
      refine b_imul dX8_secondOf_83 ?_
      refine b_topi (y := nI (2 * fr w (2 * p))) (nI_two _) ?_
      refine b_iload dX8_secondOf_84 rfl ?_
      refine b_iconst (v := 2) dX8_secondOf_86 (by decide) ?_
      refine b_irem dX8_secondOf_87 (by decide) ?_
      refine b_topi (y := 1) (by decide) ?_
      refine b_iadd dX8_secondOf_88 ?_
      refine b_topi (y := nI (2 * fr w (2 * p) + 1)) (by first | exact nI_add _ 0 | exact nI_add _ 1) ?_
      refine b_ialdN dX8_secondOf_89 rfl ⟨by omega, by decide⟩ ?_
      rw [h3.2]
      refine b_istore dX8_secondOf_90 (by decide) ?_
      refine b_aload_n dX8_secondOf_92 rfl ?_
      refine b_iload dX8_secondOf_93 rfl ?_
      refine b_iload_n dX8_secondOf_95 rfl ?_
      refine b_iload_n dX8_secondOf_96 rfl ?_
      refine b_iload_n dX8_secondOf_97 rfl ?_
      refine b_iload dX8_secondOf_98 rfl ?_
      refine b_callV5 dX8_secondOf_100 lk_X8_161 rfl rfl rfl ⟨Nat.le_of_ble_eq_true rfl, Nat.le_of_ble_eq_true rfl⟩ (Nat.le_of_ble_eq_true rfl) (s_X8_maySecond (by omega)) (fun r w100 h100 => ?_)
      obtain ⟨rfl, h100⟩ := h100
      rcases h100 with ⟨rfl, h100⟩ | ⟨rfl, h100⟩
      · refine b_if_eq (tgt := 109) dX8_secondOf_103 (by decide) (fun h103 => absurd h103 (by decide)) (fun h103 => ?_)
        refine b_iload dX8_secondOf_106 rfl ?_
        exact b_iret dX8_secondOf_108 rfl ⟨by rw [hl, fr_stop (decide_eq_true h100)]; rfl, rfl⟩
      · refine b_if_eq (tgt := 109) dX8_secondOf_103 (by decide) (fun h103 => ?_) (fun h103 => absurd h103 (by decide))
        refine b_iinc dX8_secondOf_109 rfl rfl (by decide) ?_
        refine b_goto (tgt := 59) dX8_secondOf_112 (by decide) ?_
        refine b_sub [2, 3, 4, 5, 6, 7, 8, 0] rfl ?_
        exact s_X8_secondOf_2 hP hp (by rw [hl]; exact fr_step (decide_eq_false h100))

set_option maxRecDepth 100000 in
set_option maxHeartbeats 4000000 in
theorem s_X8_secondOf_0 {w : kW} {n p : Nat} {other no dawn : Int32} (hP : Pn n w) (hp : p < n) (hl : mSec w p other no dawn = List.find? (fun x => decide (mMay w x (nI p) other no dawn)) [fr w (2 * fr w (2 * p)), fr w (2 * fr w (2 * p) + 1), fr w (2 * fr w (2 * p + 1)), fr w (2 * fr w (2 * p + 1) + 1)]) : BS shM RX8 cX8_secondOf 9 (some .int) 2 47 (fun r w' => r = some (.int (oI (mSec w p other no dawn))) ∧ w = w') 59 [(0, .ref 0), (1, .int (nI p)), (2, .int other), (3, .int no), (4, .int dawn), (5, .int (nI (fr w (2 * p)))), (6, .int (nI (fr w (2 * p + 1)))), (7, .int 0)] [] w := by
  have hn := hP.le
  have h1 := (hP.frd (k := 2 * p) (by omega)).1
  have h2 := (hP.frd (k := 2 * p + 1) (by omega)).1
  have h3 := hP.frd (k := (2 * fr w (2 * p))) (by omega)
  refine b_iload dX8_secondOf_59 rfl ?_
  refine b_iconst (v := 4) dX8_secondOf_61 (by decide) ?_
  refine b_icmp_ge (tgt := 115) dX8_secondOf_62 (by decide) (fun h62 => ?_) (fun h62 => ?_)
  · exact absurd h62 (by decide)
  · refine b_aload_n dX8_secondOf_65 rfl ?_
    refine b_getr dX8_secondOf_66 gf_X8_25 rfl rfl ?_
    refine b_iconst (v := 2) dX8_secondOf_69 (by decide) ?_
    refine b_iload dX8_secondOf_70 rfl ?_
    refine b_iconst (v := 2) dX8_secondOf_72 (by decide) ?_
    refine b_icmp_ge (tgt := 81) dX8_secondOf_73 (by decide) (fun h73 => ?_) (fun h73 => ?_)
    · exact absurd h73 (by decide)
    · refine b_iload dX8_secondOf_76 rfl ?_
      refine b_goto (tgt := 83) dX8_secondOf_78 (by decide) ?_
      refine b_imul dX8_secondOf_83 ?_
      refine b_topi (y := nI (2 * fr w (2 * p))) (nI_two _) ?_
      refine b_iload dX8_secondOf_84 rfl ?_
      refine b_iconst (v := 2) dX8_secondOf_86 (by decide) ?_
      refine b_irem dX8_secondOf_87 (by decide) ?_
      refine b_topi (y := 0) (by decide) ?_
      refine b_iadd dX8_secondOf_88 ?_
      refine b_topi (y := nI (2 * fr w (2 * p))) (by first | exact nI_add _ 0 | exact nI_add _ 1) ?_
      refine b_ialdN dX8_secondOf_89 rfl ⟨by omega, by decide⟩ ?_
      rw [h3.2]
      refine b_istore dX8_secondOf_90 (by decide) ?_
      refine b_aload_n dX8_secondOf_92 rfl ?_
      refine b_iload dX8_secondOf_93 rfl ?_
      refine b_iload_n dX8_secondOf_95 rfl ?_
      refine b_iload_n dX8_secondOf_96 rfl ?_
      refine b_iload_n dX8_secondOf_97 rfl ?_
      refine b_iload dX8_secondOf_98 rfl ?_
      refine b_callV5 dX8_secondOf_100 lk_X8_161 rfl rfl rfl ⟨Nat.le_of_ble_eq_true rfl, Nat.le_of_ble_eq_true rfl⟩ (Nat.le_of_ble_eq_true rfl) (s_X8_maySecond (by omega)) (fun r w100 h100 => ?_)
      obtain ⟨rfl, h100⟩ := h100
      rcases h100 with ⟨rfl, h100⟩ | ⟨rfl, h100⟩
      · refine b_if_eq (tgt := 109) dX8_secondOf_103 (by decide) (fun h103 => absurd h103 (by decide)) (fun h103 => ?_)
        refine b_iload dX8_secondOf_106 rfl ?_
        exact b_iret dX8_secondOf_108 rfl ⟨by rw [hl, fr_stop (decide_eq_true h100)]; rfl, rfl⟩
      · refine b_if_eq (tgt := 109) dX8_secondOf_103 (by decide) (fun h103 => ?_) (fun h103 => absurd h103 (by decide))
        refine b_iinc dX8_secondOf_109 rfl rfl (by decide) ?_
        refine b_goto (tgt := 59) dX8_secondOf_112 (by decide) ?_
        refine b_sub [2, 3, 4, 5, 6, 7, 8, 0] rfl ?_
        exact s_X8_secondOf_1 hP hp (by rw [hl]; exact fr_step (decide_eq_false h100))

set_option maxRecDepth 100000 in
set_option maxHeartbeats 4000000 in
theorem s_X8_secondOf {w : kW} {n p : Nat} {other no dawn : Int32} (hP : Pn n w) (hp : p < n) : Spec shM yX8_secondOf cX8_secondOf 9 (some .int) 2 47 [.ref 0, .int (nI p), .int other, .int no, .int dawn] w (fun r w' => r = some (.int (oI (mSec w p other no dawn))) ∧ w = w') := by
  have hn := hP.le
  have h1 := (hP.frd (k := 2 * p) (by omega))
  have h2 := (hP.frd (k := 2 * p + 1) (by omega))
  refine k_enter pn_X8 (Nat.le_of_ble_eq_true rfl) ?_
  refine b_aload_n dX8_secondOf_0 rfl ?_
  refine b_getr dX8_secondOf_1 gf_X8_25 rfl rfl ?_
  refine b_iconst (v := 2) dX8_secondOf_4 (by decide) ?_
  refine b_iload_n dX8_secondOf_5 rfl ?_
  refine b_imul dX8_secondOf_6 ?_
  refine b_topi (y := nI (2 * p)) (nI_two _) ?_
  refine b_ialdN dX8_secondOf_7 rfl ⟨by omega, by decide⟩ ?_
  rw [h1.2]
  refine b_istore dX8_secondOf_8 (by decide) ?_
  refine b_aload_n dX8_secondOf_10 rfl ?_
  refine b_getr dX8_secondOf_11 gf_X8_25 rfl rfl ?_
  refine b_iconst (v := 2) dX8_secondOf_14 (by decide) ?_
  refine b_iload_n dX8_secondOf_15 rfl ?_
  refine b_imul dX8_secondOf_16 ?_
  refine b_topi (y := nI (2 * p)) (nI_two _) ?_
  refine b_iconst (v := 1) dX8_secondOf_17 (by decide) ?_
  refine b_iadd dX8_secondOf_18 ?_
  refine b_topi (y := nI (2 * p + 1)) (nI_add _ 1) ?_
  refine b_ialdN dX8_secondOf_19 rfl ⟨by omega, by decide⟩ ?_
  rw [h2.2]
  refine b_istore dX8_secondOf_20 (by decide) ?_
  refine b_aload_n dX8_secondOf_22 rfl ?_
  refine b_iload dX8_secondOf_23 rfl ?_
  refine b_iload_n dX8_secondOf_25 rfl ?_
  refine b_iload_n dX8_secondOf_26 rfl ?_
  refine b_iload_n dX8_secondOf_27 rfl ?_
  refine b_iload dX8_secondOf_28 rfl ?_
  refine b_callV5 dX8_secondOf_30 lk_X8_161 rfl rfl rfl ⟨Nat.le_of_ble_eq_true rfl, Nat.le_of_ble_eq_true rfl⟩ (Nat.le_of_ble_eq_true rfl) (s_X8_maySecond (by omega)) (fun r w30 h30 => ?_)
  obtain ⟨rfl, h30⟩ := h30
  rcases h30 with ⟨rfl, h30⟩ | ⟨rfl, h30⟩
  · refine b_if_eq (tgt := 39) dX8_secondOf_33 (by decide) (fun h33 => absurd h33 (by decide)) (fun h33 => ?_)
    refine b_iload dX8_secondOf_36 rfl ?_
    exact b_iret dX8_secondOf_38 rfl ⟨by unfold mSec mCh; rw [fr_stop (decide_eq_true h30)]; rfl, rfl⟩
  · refine b_if_eq (tgt := 39) dX8_secondOf_33 (by decide) (fun h33 => ?_) (fun h33 => absurd h33 (by decide))
    refine b_aload_n dX8_secondOf_39 rfl ?_
    refine b_iload dX8_secondOf_40 rfl ?_
    refine b_iload_n dX8_secondOf_42 rfl ?_
    refine b_iload_n dX8_secondOf_43 rfl ?_
    refine b_iload_n dX8_secondOf_44 rfl ?_
    refine b_iload dX8_secondOf_45 rfl ?_
    refine b_callV5 dX8_secondOf_47 lk_X8_161 rfl rfl rfl ⟨Nat.le_of_ble_eq_true rfl, Nat.le_of_ble_eq_true rfl⟩ (Nat.le_of_ble_eq_true rfl) (s_X8_maySecond (by omega)) (fun r w47 h47 => ?_)
    obtain ⟨rfl, h47⟩ := h47
    rcases h47 with ⟨rfl, h47⟩ | ⟨rfl, h47⟩
    · refine b_if_eq (tgt := 56) dX8_secondOf_50 (by decide) (fun h50 => absurd h50 (by decide)) (fun h50 => ?_)
      refine b_iload dX8_secondOf_53 rfl ?_
      exact b_iret dX8_secondOf_55 rfl ⟨by unfold mSec mCh; rw [fr_step (decide_eq_false h30), fr_stop (decide_eq_true h47)]; rfl, rfl⟩
    · refine b_if_eq (tgt := 56) dX8_secondOf_50 (by decide) (fun h50 => ?_) (fun h50 => absurd h50 (by decide))
      refine b_iconst (v := 0) dX8_secondOf_56 (by decide) ?_
      refine b_istore dX8_secondOf_57 (by decide) ?_
      refine b_sub [3, 4, 5, 6, 7, 2, 1, 0] rfl ?_
      exact s_X8_secondOf_0 hP hp (by unfold mSec mCh; rw [fr_step (decide_eq_false h30), fr_step (decide_eq_false h47)])
end
section
theorem mSec_some {w : kW} {n p a : Nat} {other no dawn : Int32} (hP : Pn n w) (hp : p < n) (h : mSec w p other no dawn = some a) : a < n ∧ mMay w a (nI p) other no dawn := by
  have h1 := List.mem_of_find?_eq_some h
  have h2 := List.find?_some h
  refine ⟨?_, of_decide_eq_true h2⟩
  have hn := hP.le
  have g1 := (hP.frd (k := 2 * p) (by omega)).1
  have g2 := (hP.frd (k := 2 * p + 1) (by omega)).1
  simp only [mCh, List.mem_cons, List.not_mem_nil, or_false] at h1
  rcases h1 with rfl | rfl | rfl | rfl | rfl | rfl
  · exact g1
  · exact g2
  · exact (hP.frd (by omega)).1
  · exact (hP.frd (by omega)).1
  · exact (hP.frd (by omega)).1
  · exact (hP.frd (by omega)).1
theorem mHurtF_met (w : kW) (hu y : Nat) (dawn : Int32) : (mHurtF w hu y dawn).1 0 28 = w.1 0 28 := by
  simp only [mHurtF]
  split <;> rfl

set_option maxRecDepth 100000 in
set_option maxHeartbeats 4000000 in
theorem s_X8_hurt {w : kW} {hu y t : Nat} {dawn : Int32} (hh : hu < 6) (hy : y < 6) (ht : w.1 0 23 = nI t) (ht2 : t < 200) : Spec shM yX8_hurt cX8_hurt 5 none 0 0 [.ref 0, .int (nI hu), .int (nI y), .int dawn] w (fun r w' => r = none ∧ mHurtF w hu y dawn = w') := by
  have ht3 := cl_of ht (by omega)
  refine k_enter pn_X8 (Nat.le_of_ble_eq_true rfl) ?_
  refine b_aload_n dX8_hurt_0 rfl ?_
  refine b_getr dX8_hurt_1 gf_X8_22 rfl rfl ?_
  refine b_iload_n dX8_hurt_4 rfl ?_
  refine b_ialdN dX8_hurt_5 rfl ⟨by omega, by decide⟩ ?_
  refine b_aload_n dX8_hurt_6 rfl ?_
  refine b_getr dX8_hurt_7 gf_X8_22 rfl rfl ?_
  refine b_iload_n dX8_hurt_10 rfl ?_
  refine b_ialdN dX8_hurt_11 rfl ⟨by omega, by decide⟩ ?_
  refine b_isub dX8_hurt_12 ?_
  refine b_istore dX8_hurt_13 (by decide) ?_
  refine b_aload_n dX8_hurt_15 rfl ?_
  refine b_getr dX8_hurt_16 gf_X8_53 rfl rfl ?_
  refine b_iload_n dX8_hurt_19 rfl ?_
  refine b_iload_n dX8_hurt_20 rfl ?_
  refine b_iload dX8_hurt_21 rfl ?_
  refine b_iadd dX8_hurt_23 ?_
  refine b_iconst (v := 2) dX8_hurt_24 (by decide) ?_
  refine b_iadd dX8_hurt_25 ?_
  refine b_iastN dX8_hurt_26 rfl ⟨by omega, by decide⟩ ?_
  refine b_aload_n dX8_hurt_27 rfl ?_
  refine b_getr dX8_hurt_28 gf_X8_25 rfl rfl ?_
  refine b_iconst (v := 2) dX8_hurt_31 (by decide) ?_
  refine b_iload_n dX8_hurt_32 rfl ?_
  refine b_imul dX8_hurt_33 ?_
  refine b_topi (y := nI (2 * hu)) (nI_two _) ?_
  refine b_ialdN dX8_hurt_34 rfl ⟨by omega, by decide⟩ ?_
  refine b_topi (y := w.1 6 (2 * hu)) rfl ?_
  refine b_iload_n dX8_hurt_35 rfl ?_
  refine b_icmp_eq (tgt := 97) dX8_hurt_36 (by decide) (fun h36 => ?_) (fun h36 => ?_)
  · refine b_vret dX8_hurt_97 rfl ⟨rfl, ?_⟩
    simp only [mHurtF, ht3, if_pos h36] <;> rfl
  · refine b_aload_n dX8_hurt_39 rfl ?_
    refine b_getr dX8_hurt_40 gf_X8_56 rfl rfl ?_
    refine b_aload_n dX8_hurt_43 rfl ?_
    refine b_geti dX8_hurt_44 gf_X8_172 rfl rfl ?_
    refine b_topi (y := nI t) ht ?_
    refine b_iload_n dX8_hurt_47 rfl ?_
    refine b_iastN dX8_hurt_48 rfl ⟨by omega, by decide⟩ ?_
    refine b_aload_n dX8_hurt_49 rfl ?_
    refine b_getr dX8_hurt_50 gf_X8_59 rfl rfl ?_
    refine b_aload_n dX8_hurt_53 rfl ?_
    refine b_geti dX8_hurt_54 gf_X8_172 rfl rfl ?_
    refine b_topi (y := nI t) ht ?_
    refine b_aload_n dX8_hurt_57 rfl ?_
    refine b_getr dX8_hurt_58 gf_X8_25 rfl rfl ?_
    refine b_iconst (v := 2) dX8_hurt_61 (by decide) ?_
    refine b_iload_n dX8_hurt_62 rfl ?_
    refine b_imul dX8_hurt_63 ?_
    refine b_topi (y := nI (2 * hu)) (nI_two _) ?_
    refine b_ialdN dX8_hurt_64 rfl ⟨by omega, by decide⟩ ?_
    refine b_iastN dX8_hurt_65 rfl ⟨by omega, by decide⟩ ?_
    refine b_aload_n dX8_hurt_66 rfl ?_
    refine b_getr dX8_hurt_67 gf_X8_62 rfl rfl ?_
    refine b_aload_n dX8_hurt_70 rfl ?_
    refine b_geti dX8_hurt_71 gf_X8_172 rfl rfl ?_
    refine b_topi (y := nI t) ht ?_
    refine b_iload dX8_hurt_74 rfl ?_
    refine b_iastN dX8_hurt_76 rfl ⟨by omega, by decide⟩ ?_
    refine b_aload_n dX8_hurt_77 rfl ?_
    refine b_getr dX8_hurt_78 gf_X8_65 rfl rfl ?_
    refine b_aload_n dX8_hurt_81 rfl ?_
    refine b_geti dX8_hurt_82 gf_X8_172 rfl rfl ?_
    refine b_topi (y := nI t) ht ?_
    refine b_iload_n dX8_hurt_85 rfl ?_
    refine b_iastN dX8_hurt_86 rfl ⟨by omega, by decide⟩ ?_
    refine b_aload_n dX8_hurt_87 rfl ?_
    refine b_dup dX8_hurt_88 rfl ?_
    refine b_geti dX8_hurt_89 gf_X8_172 rfl rfl ?_
    refine b_iconst (v := 1) dX8_hurt_92 (by decide) ?_
    refine b_iadd dX8_hurt_93 ?_
    refine b_puti dX8_hurt_94 gf_X8_172 gs_X8_23 rfl rfl ?_
    refine b_vret dX8_hurt_97 rfl ⟨rfl, ?_⟩
    simp only [mHurtF, ht3, if_neg h36] <;> rfl

set_option maxRecDepth 100000 in
set_option maxHeartbeats 4000000 in
theorem s_X8_meet {w : kW} {a b t m : Nat} {insd insr dawn : Int32} (ha : a < 6) (hb : b < 6) (hab : a ≠ b) (hm : w.1 0 28 = nI m) (hm2 : m < 200) (ht : w.1 0 23 = nI t) (ht2 : t < 200) : Spec shM yX8_meet cX8_meet 7 none 1 24 [.ref 0, .int (nI a), .int (nI b), .int insd, .int insr, .int dawn] w (fun r w' => r = none ∧ mMeet w a b insd insr dawn = w') := by
  have hm3 := cl_of hm (by omega)
  refine k_enter pn_X8 (Nat.le_of_ble_eq_true rfl) ?_
  refine b_aload_n dX8_meet_0 rfl ?_
  refine b_dup dX8_meet_1 rfl ?_
  refine b_geti dX8_meet_2 gf_X8_155 rfl rfl ?_
  refine b_iconst (v := 1) dX8_meet_5 (by decide) ?_
  refine b_iload_n dX8_meet_6 rfl ?_
  refine b_ishl dX8_meet_7 ?_
  refine b_iconst (v := 1) dX8_meet_8 (by decide) ?_
  refine b_iload_n dX8_meet_9 rfl ?_
  refine b_ishl dX8_meet_10 ?_
  refine b_ior dX8_meet_11 ?_
  refine b_ior dX8_meet_12 ?_
  refine b_puti dX8_meet_13 gf_X8_155 gs_X8_22 rfl rfl ?_
  refine b_aload_n dX8_meet_16 rfl ?_
  refine b_getr dX8_meet_17 gf_X8_68 rfl rfl ?_
  refine b_aload_n dX8_meet_20 rfl ?_
  refine b_geti dX8_meet_21 gf_X8_165 rfl rfl ?_
  refine b_topi (y := nI m) hm ?_
  refine b_iload dX8_meet_24 rfl ?_
  refine b_iastN dX8_meet_26 rfl ⟨by omega, by decide⟩ ?_
  refine b_aload_n dX8_meet_27 rfl ?_
  refine b_getr dX8_meet_28 gf_X8_71 rfl rfl ?_
  refine b_aload_n dX8_meet_31 rfl ?_
  refine b_geti dX8_meet_32 gf_X8_165 rfl rfl ?_
  refine b_topi (y := nI m) hm ?_
  refine b_iload_n dX8_meet_35 rfl ?_
  refine b_iastN dX8_meet_36 rfl ⟨by omega, by decide⟩ ?_
  refine b_aload_n dX8_meet_37 rfl ?_
  refine b_getr dX8_meet_38 gf_X8_74 rfl rfl ?_
  refine b_aload_n dX8_meet_41 rfl ?_
  refine b_geti dX8_meet_42 gf_X8_165 rfl rfl ?_
  refine b_topi (y := nI m) hm ?_
  refine b_iload_n dX8_meet_45 rfl ?_
  refine b_iastN dX8_meet_46 rfl ⟨by omega, by decide⟩ ?_
  refine b_aload_n dX8_meet_47 rfl ?_
  refine b_getr dX8_meet_48 gf_X8_77 rfl rfl ?_
  refine b_aload_n dX8_meet_51 rfl ?_
  refine b_geti dX8_meet_52 gf_X8_165 rfl rfl ?_
  refine b_topi (y := nI m) hm ?_
  refine b_iload_n dX8_meet_55 rfl ?_
  refine b_iastN dX8_meet_56 rfl ⟨by omega, by decide⟩ ?_
  refine b_aload_n dX8_meet_57 rfl ?_
  refine b_getr dX8_meet_58 gf_X8_80 rfl rfl ?_
  refine b_aload_n dX8_meet_61 rfl ?_
  refine b_geti dX8_meet_62 gf_X8_165 rfl rfl ?_
  refine b_topi (y := nI m) hm ?_
  refine b_iload dX8_meet_65 rfl ?_
  refine b_iastN dX8_meet_67 rfl ⟨by omega, by decide⟩ ?_
  refine b_aload_n dX8_meet_68 rfl ?_
  refine b_getr dX8_meet_69 gf_X8_83 rfl rfl ?_
  refine b_aload_n dX8_meet_72 rfl ?_
  refine b_geti dX8_meet_73 gf_X8_165 rfl rfl ?_
  refine b_topi (y := nI m) hm ?_
  refine b_bipush (v := (-9)) dX8_meet_76 (by decide) ?_
  refine b_iastN dX8_meet_78 rfl ⟨by omega, by decide⟩ ?_
  refine b_aload_n dX8_meet_79 rfl ?_
  refine b_getr dX8_meet_80 gf_X8_22 rfl rfl ?_
  refine b_iload_n dX8_meet_83 rfl ?_
  refine b_ialdN dX8_meet_84 rfl ⟨by omega, by decide⟩ ?_
  refine b_topi (y := w.1 5 a) rfl ?_
  refine b_aload_n dX8_meet_85 rfl ?_
  refine b_getr dX8_meet_86 gf_X8_22 rfl rfl ?_
  refine b_iload_n dX8_meet_89 rfl ?_
  refine b_ialdN dX8_meet_90 rfl ⟨by omega, by decide⟩ ?_
  refine b_topi (y := w.1 5 b) rfl ?_
  refine b_icmp_eq (tgt := 146) dX8_meet_91 (by decide) (fun h91 => ?_) (fun h91 => ?_)
  · refine b_aload_n dX8_meet_146 rfl ?_
    refine b_dup dX8_meet_147 rfl ?_
    refine b_geti dX8_meet_148 gf_X8_165 rfl rfl ?_
    refine b_iconst (v := 1) dX8_meet_151 (by decide) ?_
    refine b_iadd dX8_meet_152 ?_
    refine b_puti dX8_meet_153 gf_X8_165 gs_X8_28 rfl rfl ?_
    refine b_vret dX8_meet_156 rfl ⟨rfl, ?_⟩
    simp only [mMeet, mMeet0, hm3, if_pos h91] <;> rfl
  · refine b_aload_n dX8_meet_94 rfl ?_
    refine b_getr dX8_meet_95 gf_X8_22 rfl rfl ?_
    refine b_iload_n dX8_meet_98 rfl ?_
    refine b_ialdN dX8_meet_99 rfl ⟨by omega, by decide⟩ ?_
    refine b_topi (y := w.1 5 a) rfl ?_
    refine b_aload_n dX8_meet_100 rfl ?_
    refine b_getr dX8_meet_101 gf_X8_22 rfl rfl ?_
    refine b_iload_n dX8_meet_104 rfl ?_
    refine b_ialdN dX8_meet_105 rfl ⟨by omega, by decide⟩ ?_
    refine b_topi (y := w.1 5 b) rfl ?_
    refine b_icmp_ge (tgt := 113) dX8_meet_106 (by decide) (fun h106 => ?_) (fun h106 => ?_)
    · refine b_iload_n dX8_meet_113 rfl ?_
      refine b_istore dX8_meet_114 (by decide) ?_
      refine b_aload_n dX8_meet_116 rfl ?_
      refine b_iload dX8_meet_117 rfl ?_
      refine b_iload dX8_meet_119 rfl ?_
      refine b_iload_n dX8_meet_121 rfl ?_
      refine b_icmp_ne (tgt := 129) dX8_meet_122 (by decide) (fun h122 => ?_) (fun h122 => ?_)
      · refine b_iload_n dX8_meet_129 rfl ?_
        refine b_iload dX8_meet_130 rfl ?_
        refine b_callV3 dX8_meet_132 lk_X8_168 rfl rfl rfl ⟨Nat.le_of_ble_eq_true rfl, Nat.le_of_ble_eq_true rfl⟩ (Nat.le_of_ble_eq_true rfl) (s_X8_hurt (t := t) (by omega) (by omega) ht ht2) (fun r w132 h132 => ?_)
        obtain ⟨rfl, rfl⟩ := h132
        refine b_aload_n dX8_meet_135 rfl ?_
        refine b_getr dX8_meet_136 gf_X8_83 rfl rfl ?_
        refine b_aload_n dX8_meet_139 rfl ?_
        refine b_geti dX8_meet_140 gf_X8_165 rfl rfl ?_
        refine b_topi (y := nI m) ((mHurtF_met _ _ _ _).trans hm) ?_
        refine b_iload dX8_meet_143 rfl ?_
        refine b_iastN dX8_meet_145 rfl ⟨by omega, by decide⟩ ?_
        refine b_aload_n dX8_meet_146 rfl ?_
        refine b_dup dX8_meet_147 rfl ?_
        refine b_geti dX8_meet_148 gf_X8_165 rfl rfl ?_
        refine b_iconst (v := 1) dX8_meet_151 (by decide) ?_
        refine b_iadd dX8_meet_152 ?_
        refine b_puti dX8_meet_153 gf_X8_165 gs_X8_28 rfl rfl ?_
        refine b_vret dX8_meet_156 rfl ⟨rfl, ?_⟩
        simp only [mMeet, mMeet0, hm3, if_neg h91, if_pos h106] <;> rfl
      · exact absurd (nI_inj (by omega) (by omega) h122) (by omega)
    · refine b_iload_n dX8_meet_109 rfl ?_
      refine b_goto (tgt := 114) dX8_meet_110 (by decide) ?_
      refine b_istore dX8_meet_114 (by decide) ?_
      refine b_aload_n dX8_meet_116 rfl ?_
      refine b_iload dX8_meet_117 rfl ?_
      refine b_iload dX8_meet_119 rfl ?_
      refine b_iload_n dX8_meet_121 rfl ?_
      refine b_icmp_ne (tgt := 129) dX8_meet_122 (by decide) (fun h122 => ?_) (fun h122 => ?_)
      · exact absurd rfl h122
      · refine b_iload_n dX8_meet_125 rfl ?_
        refine b_goto (tgt := 130) dX8_meet_126 (by decide) ?_
        refine b_iload dX8_meet_130 rfl ?_
        refine b_callV3 dX8_meet_132 lk_X8_168 rfl rfl rfl ⟨Nat.le_of_ble_eq_true rfl, Nat.le_of_ble_eq_true rfl⟩ (Nat.le_of_ble_eq_true rfl) (s_X8_hurt (t := t) (by omega) (by omega) ht ht2) (fun r w132 h132 => ?_)
        obtain ⟨rfl, rfl⟩ := h132
        refine b_aload_n dX8_meet_135 rfl ?_
        refine b_getr dX8_meet_136 gf_X8_83 rfl rfl ?_
        refine b_aload_n dX8_meet_139 rfl ?_
        refine b_geti dX8_meet_140 gf_X8_165 rfl rfl ?_
        refine b_topi (y := nI m) ((mHurtF_met _ _ _ _).trans hm) ?_
        refine b_iload dX8_meet_143 rfl ?_
        refine b_iastN dX8_meet_145 rfl ⟨by omega, by decide⟩ ?_
        refine b_aload_n dX8_meet_146 rfl ?_
        refine b_dup dX8_meet_147 rfl ?_
        refine b_geti dX8_meet_148 gf_X8_165 rfl rfl ?_
        refine b_iconst (v := 1) dX8_meet_151 (by decide) ?_
        refine b_iadd dX8_meet_152 ?_
        refine b_puti dX8_meet_153 gf_X8_165 gs_X8_28 rfl rfl ?_
        refine b_vret dX8_meet_156 rfl ⟨rfl, ?_⟩
        simp only [mMeet, mMeet0, hm3, if_neg h91, if_neg h106] <;> rfl
end
section
set_option maxRecDepth 100000 in
set_option maxHeartbeats 4000000 in
theorem s_X8_answer {w : kW} {n i j t m : Nat} {deg dawn : Int32} (hP : Pn n w) (hi : i < n) (hj : j < n) (hm : w.1 0 28 = nI m) (hm2 : m < 200) (ht : w.1 0 23 = nI t) (ht2 : t < 200) : Spec shM yX8_answer cX8_answer 7 none 3 75 [.ref 0, .int (nI i), .int (nI j), .int deg, .int dawn] w (fun r w' => r = none ∧ mAnswer w i j deg dawn = w') := by
  have hn := hP.le
  refine k_enter pn_X8 (Nat.le_of_ble_eq_true rfl) ?_
  refine b_iload_n dX8_answer_0 rfl ?_
  refine b_aload_n dX8_answer_1 rfl ?_
  refine b_iload_n dX8_answer_2 rfl ?_
  refine b_callV1 dX8_answer_3 lk_X8_148 rfl rfl rfl ⟨Nat.le_of_ble_eq_true rfl, Nat.le_of_ble_eq_true rfl⟩ (Nat.le_of_ble_eq_true rfl) (s_X8_touchy (by omega)) (fun r w3 h3 => ?_)
  obtain ⟨rfl, rfl⟩ := h3
  refine b_icmp_ge (tgt := 10) dX8_answer_6 (by decide) (fun h6 => ?_) (fun h6 => ?_)
  · refine b_aload_n dX8_answer_10 rfl ?_
    refine b_iload_n dX8_answer_11 rfl ?_
    refine b_iload_n dX8_answer_12 rfl ?_
    refine b_bipush (v := (-9)) dX8_answer_13 (by decide) ?_
    refine b_iload dX8_answer_15 rfl ?_
    refine b_callV4 dX8_answer_17 lk_X8_175 rfl rfl rfl ⟨Nat.le_of_ble_eq_true rfl, Nat.le_of_ble_eq_true rfl⟩ (Nat.le_of_ble_eq_true rfl) (s_X8_secondOf hP hj) (fun r w17 h17 => ?_)
    obtain ⟨rfl, rfl⟩ := h17
    rcases hs17 : mSec w j (nI i) (-9) dawn with _ | a
    · refine b_topi (y := -9) rfl ?_
      refine b_istore dX8_answer_20 (by decide) ?_
      refine b_iload dX8_answer_22 rfl ?_
      refine b_bipush (v := (-9)) dX8_answer_24 (by decide) ?_
      refine b_icmp_ne (tgt := 30) dX8_answer_26 (by decide) (fun h26 => ?_) (fun h26 => ?_)
      · exact absurd rfl h26
      · refine b_vret dX8_answer_29 rfl ⟨rfl, ?_⟩
        simp only [mAnswer, if_pos h6, hs17] <;> rfl
    · have hs17b := mSec_some hP hj hs17
      refine b_topi (y := nI a) rfl ?_
      refine b_istore dX8_answer_20 (by decide) ?_
      refine b_iload dX8_answer_22 rfl ?_
      refine b_bipush (v := (-9)) dX8_answer_24 (by decide) ?_
      refine b_icmp_ne (tgt := 30) dX8_answer_26 (by decide) (fun h26 => ?_) (fun h26 => ?_)
      · refine b_aload_n dX8_answer_30 rfl ?_
        refine b_iload_n dX8_answer_31 rfl ?_
        refine b_iload_n dX8_answer_32 rfl ?_
        refine b_iload dX8_answer_33 rfl ?_
        refine b_iload dX8_answer_35 rfl ?_
        refine b_callV4 dX8_answer_37 lk_X8_175 rfl rfl rfl ⟨Nat.le_of_ble_eq_true rfl, Nat.le_of_ble_eq_true rfl⟩ (Nat.le_of_ble_eq_true rfl) (s_X8_secondOf hP hi) (fun r w37 h37 => ?_)
        obtain ⟨rfl, rfl⟩ := h37
        rcases hs37 : mSec w i (nI j) (nI a) dawn with _ | b
        · refine b_topi (y := -9) rfl ?_
          refine b_istore dX8_answer_40 (by decide) ?_
          refine b_iload dX8_answer_42 rfl ?_
          refine b_bipush (v := (-9)) dX8_answer_44 (by decide) ?_
          refine b_icmp_eq (tgt := 61) dX8_answer_46 (by decide) (fun h46 => ?_) (fun h46 => ?_)
          · refine b_vret dX8_answer_61 rfl ⟨rfl, ?_⟩
            simp only [mAnswer, if_pos h6, hs17, hs37] <;> rfl
          · exact absurd rfl h46
        · have hs37b := mSec_some hP hi hs37
          refine b_topi (y := nI b) rfl ?_
          refine b_istore dX8_answer_40 (by decide) ?_
          refine b_iload dX8_answer_42 rfl ?_
          refine b_bipush (v := (-9)) dX8_answer_44 (by decide) ?_
          refine b_icmp_eq (tgt := 61) dX8_answer_46 (by decide) (fun h46 => ?_) (fun h46 => ?_)
          · exact absurd h46 (nI_ne9 (by omega))
          · refine b_aload_n dX8_answer_49 rfl ?_
            refine b_iload dX8_answer_50 rfl ?_
            refine b_iload dX8_answer_52 rfl ?_
            refine b_iload_n dX8_answer_54 rfl ?_
            refine b_iload_n dX8_answer_55 rfl ?_
            refine b_iload dX8_answer_56 rfl ?_
            refine b_callV5 dX8_answer_58 lk_X8_178 rfl rfl rfl ⟨Nat.le_of_ble_eq_true rfl, Nat.le_of_ble_eq_true rfl⟩ (Nat.le_of_ble_eq_true rfl) (s_X8_meet (t := t) (m := m) (by omega) (by omega) (fun e => hs37b.2.2.2.1 (by rw [e])) hm hm2 ht ht2) (fun r w58 h58 => ?_)
            obtain ⟨rfl, rfl⟩ := h58
            refine b_vret dX8_answer_61 rfl ⟨rfl, ?_⟩
            simp only [mAnswer, if_pos h6, hs17, hs37] <;> rfl
      · exact absurd h26 (nI_ne9 (by omega))
  · refine b_vret dX8_answer_9 rfl ⟨rfl, ?_⟩
    simp only [mAnswer, if_neg h6] <;> rfl

theorem mZero_1 (w : kW) (k : Nat) {c : Nat} (h : c ≠ 0 ∧ c ≠ 15) : (mZero w k).1 c = w.1 c := by
  induction k with
  | zero => rw [mZero, kset_row _ _ _ _ h.1, kset_row _ _ _ _ h.1]
  | succ k ih => rw [mZero, kset_row _ _ _ _ h.2, ih]
theorem mZero_0 (w : kW) (k j : Nat) (h : j ≠ 28 ∧ j ≠ 23) : (mZero w k).1 0 j = w.1 0 j := by
  induction k with
  | zero => rw [mZero, kset_ne _ _ (Or.inr h.2), kset_ne _ _ (Or.inr h.1)]
  | succ k ih => rw [mZero, kset_ne _ _ (Or.inl (by decide)), ih]

set_option maxRecDepth 100000 in
set_option maxHeartbeats 4000000 in
theorem s_X8_begin_lp {w : kW} {n : Nat} (hP : Pn n w) : ∀ q k, k + q = n → BS shM RX8 cX8_begin 2 none 0 0 (fun r w' => r = none ∧ mBegin n w = w') 12 [(0, .ref 0), (1, .int (nI k))] [] (mZero w k) := by
  intro q
  have hn := hP.le
  induction q with
  | zero =>
    intro k hk
    refine b_iload_n dX8_begin_12 rfl ?_
    refine b_aload_n dX8_begin_13 rfl ?_
    refine b_geti dX8_begin_14 gf_X8_105 rfl rfl ?_
    refine b_topi (y := nI n) ((mZero_0 _ _ _ (by decide)).trans hP.1) ?_
    refine b_icmp_ge (tgt := 33) dX8_begin_17 (by decide) (fun h17 => ?_) (fun h17 => ?_)
    · refine b_aload_n dX8_begin_33 rfl ?_
      refine b_iconst (v := 0) dX8_begin_34 (by decide) ?_
      refine b_puti dX8_begin_35 gf_X8_155 gs_X8_22 rfl rfl ?_
      refine b_vret dX8_begin_38 rfl ⟨rfl, ?_⟩
      (have e : k = n := by omega); subst e; rfl
    · exact absurd (nI_le (by omega) (by omega)) h17
  | succ q ih =>
    intro k hk
    refine b_iload_n dX8_begin_12 rfl ?_
    refine b_aload_n dX8_begin_13 rfl ?_
    refine b_geti dX8_begin_14 gf_X8_105 rfl rfl ?_
    refine b_topi (y := nI n) ((mZero_0 _ _ _ (by decide)).trans hP.1) ?_
    refine b_icmp_ge (tgt := 33) dX8_begin_17 (by decide) (fun h17 => ?_) (fun h17 => ?_)
    · exact absurd h17 (nI_ge (by omega) (by omega))
    · refine b_aload_n dX8_begin_20 rfl ?_
      refine b_getr dX8_begin_21 gf_X8_53 rfl rfl ?_
      refine b_iload_n dX8_begin_24 rfl ?_
      refine b_iconst (v := 0) dX8_begin_25 (by decide) ?_
      refine b_iastN dX8_begin_26 rfl ⟨by omega, by decide⟩ ?_
      refine b_iinc dX8_begin_27 rfl (nI_inc k) (by decide) ?_
      refine b_goto (tgt := 12) dX8_begin_30 (by decide) ?_
      refine b_sub [1, 0] rfl ?_
      exact ih (k + 1) (by omega)

set_option maxRecDepth 100000 in
set_option maxHeartbeats 4000000 in
theorem s_X8_begin {w : kW} {n : Nat} (hP : Pn n w) : Spec shM yX8_begin cX8_begin 2 none 0 0 [.ref 0] w (fun r w' => r = none ∧ mBegin n w = w') := by
  refine k_enter pn_X8 (Nat.le_of_ble_eq_true rfl) ?_
  refine b_aload_n dX8_begin_0 rfl ?_
  refine b_iconst (v := 0) dX8_begin_1 (by decide) ?_
  refine b_puti dX8_begin_2 gf_X8_165 gs_X8_28 rfl rfl ?_
  refine b_aload_n dX8_begin_5 rfl ?_
  refine b_iconst (v := 0) dX8_begin_6 (by decide) ?_
  refine b_puti dX8_begin_7 gf_X8_172 gs_X8_23 rfl rfl ?_
  refine b_iconst (v := 0) dX8_begin_10 (by decide) ?_
  refine b_istore_n dX8_begin_11 (by decide) ?_
  refine b_sub [1, 0] rfl ?_
  exact s_X8_begin_lp hP n 0 (by omega)
end
section
/-- what a season leaves as it was -/
def sKeep (w w' : kW) : Prop := (∀ c, c ≠ 0 → (c < 15 ∨ 25 < c) → w'.1 c = w.1 c) ∧ (∀ j, j ≠ 22 → j ≠ 23 → j ≠ 28 → w'.1 0 j = w.1 0 j) ∧ w'.2 = w.2
theorem sKeep.rf {w : kW} : sKeep w w := ⟨fun _ _ _ => rfl, fun _ _ _ _ => rfl, rfl⟩
theorem sKeep.tr {w v u : kW} (h1 : sKeep w v) (h2 : sKeep v u) : sKeep w u := ⟨fun c a b => (h2.1 c a b).trans (h1.1 c a b), fun j a b c => (h2.2.1 j a b c).trans (h1.2.1 j a b c), h2.2.2.trans h1.2.2⟩
theorem sKeep.row {w v : kW} {c k : Nat} {x : Int32} (h : sKeep w v) (hc : 15 ≤ c ∧ c ≤ 25) : sKeep w (kset v c k x) := by
  refine h.tr ⟨fun c' h1 h2 => kset_row _ _ _ _ (by omega), fun j _ _ _ => kset_ne _ _ (Or.inl (by omega)), rfl⟩
theorem sKeep.num {w v : kW} {k : Nat} {x : Int32} (h : sKeep w v) (hc : k = 22 ∨ k = 23 ∨ k = 28) : sKeep w (kset v 0 k x) := by
  refine h.tr ⟨fun c' h1 h2 => kset_row _ _ _ _ (by omega), fun j _ _ _ => kset_ne _ _ (Or.inr (by omega)), rfl⟩
theorem mHurtF_keep (w : kW) (hu y : Nat) (dawn : Int32) : sKeep w (mHurtF w hu y dawn) := by
  simp only [mHurtF]
  split
  · exact sKeep.rf.row (by decide)
  · exact (((((sKeep.rf.row (by decide)).row (by decide)).row (by decide)).row (by decide)).row (by decide)).num (by decide)
theorem mMeet0_keep (w : kW) (a b : Nat) (x y dawn : Int32) : sKeep w (mMeet0 w a b x y dawn) := by
  simp only [mMeet0]
  exact ((((((sKeep.rf.num (by decide)).row (by decide)).row (by decide)).row (by decide)).row (by decide)).row (by decide)).row (by decide)
theorem mMeet_keep (w : kW) (a b : Nat) (x y dawn : Int32) : sKeep w (mMeet w a b x y dawn) := by
  simp only [mMeet]
  refine sKeep.num ?_ (by decide)
  split
  · exact mMeet0_keep ..
  · split
    · exact ((mMeet0_keep ..).tr (mHurtF_keep ..)).row (by decide)
    · exact ((mMeet0_keep ..).tr (mHurtF_keep ..)).row (by decide)
theorem mAnswer_keep (w : kW) (i j : Nat) (deg dawn : Int32) : sKeep w (mAnswer w i j deg dawn) := by
  simp only [mAnswer]
  split
  · split
    · exact sKeep.rf
    · split
      · exact sKeep.rf
      · exact mMeet_keep ..
  · exact sKeep.rf
theorem Pn.keep {w v : kW} {n : Nat} (h : Pn n w) (hk : sKeep w v) : Pn n v := by
  have e4 := hk.1 4 (by decide) (by decide)
  have e5 := hk.1 5 (by decide) (by decide)
  have e6 := hk.1 6 (by decide) (by decide)
  have e7 := hk.1 7 (by decide) (by decide)
  have e0 := hk.2.1 5 (by decide) (by decide) (by decide)
  unfold Pn fr at *
  rw [e4, e5, e6, e7, e0]
  exact h
/-- the insults: how many, what is told of them -/
def Ins (n c : Nat) (w : kW) : Prop := w.1 0 15 = nI c ∧ c ≤ 9 ∧ ∀ k, k < c → ∃ a b d g, a < n ∧ b < n ∧ a ≠ b ∧ d < 30 ∧ 1 ≤ g ∧ g ≤ 9 ∧ w.1 11 k = nI a ∧ w.1 12 k = nI b ∧ w.1 13 k = nI d ∧ w.1 14 k = nI g
theorem Ins.keep {w v : kW} {n c : Nat} (h : Ins n c w) (hk : sKeep w v) : Ins n c v := by
  have e4 := hk.1 11 (by decide) (by decide)
  have e5 := hk.1 12 (by decide) (by decide)
  have e6 := hk.1 13 (by decide) (by decide)
  have e7 := hk.1 14 (by decide) (by decide)
  have e0 := hk.2.1 15 (by decide) (by decide) (by decide)
  unfold Ins at *
  rw [e4, e5, e6, e7, e0]
  exact h
def bs6 (x : Int32) : Nat := (bt x 0).toNat + (bt x 1).toNat + (bt x 2).toNat + (bt x 3).toNat + (bt x 4).toNat + (bt x 5).toNat
theorem bs6_le (x : Int32) : bs6 x ≤ 6 := by
  have h : ∀ b : Bool, b.toNat ≤ 1 := by decide
  have := h (bt x 0); have := h (bt x 1); have := h (bt x 2); have := h (bt x 3); have := h (bt x 4); have := h (bt x 5)
  unfold bs6
  omega
theorem bs6_0 : bs6 0 = 0 := by decide
theorem bt_two (x : Int32) {a b k : Nat} (ha : a < 6) (hb : b < 6) (hk : k < 6) : bt (x ||| (1 <<< (nI a &&& 31) ||| 1 <<< (nI b &&& 31))) k = (bt x k || (decide (k = a) || decide (k = b))) := by
  rw [b_or, b_or, bit_one (by omega) (by omega), bit_one (by omega) (by omega)]
theorem bs6_two {x : Int32} {a b : Nat} (ha : a < 6) (hb : b < 6) (hab : a ≠ b) (h1 : bt x a = false) (h2 : bt x b = false) : bs6 (x ||| (1 <<< (nI a &&& 31) ||| 1 <<< (nI b &&& 31))) = bs6 x + 2 := by
  unfold bs6
  rw [bt_two x ha hb (by decide), bt_two x ha hb (by decide), bt_two x ha hb (by decide), bt_two x ha hb (by decide), bt_two x ha hb (by decide), bt_two x ha hb (by decide)]
  rcases (show (a = 0 ∨ a = 1 ∨ a = 2 ∨ a = 3 ∨ a = 4 ∨ a = 5) by omega) with rfl | rfl | rfl | rfl | rfl | rfl <;> rcases (show (b = 0 ∨ b = 1 ∨ b = 2 ∨ b = 3 ∨ b = 4 ∨ b = 5) by omega) with rfl | rfl | rfl | rfl | rfl | rfl <;> first | exact absurd rfl hab | (simp [h1, h2]; try omega)
/-- the takings' rows -/
def TkOk (n t : Nat) (w : kW) : Prop := ∀ k, k < t → ∃ a b, a < n ∧ b < n ∧ w.1 16 k = nI a ∧ w.1 17 k = nI b
def SInv (n m0 : Nat) (w : kW) : Prop := Pn n w ∧ ∃ m t, w.1 0 28 = nI m ∧ w.1 0 23 = nI t ∧ t ≤ m ∧ 2 * m = 2 * m0 + bs6 (w.1 0 22) ∧ TkOk n t w
theorem mHurtF_tk {w : kW} {n t hu y : Nat} {dawn : Int32} (hP : Pn n w) (hh : hu < n) (hy : y < n) (ht : w.1 0 23 = nI t) (ht2 : t < 200) (hT : TkOk n t w) : ∃ t', t ≤ t' ∧ t' ≤ t + 1 ∧ (mHurtF w hu y dawn).1 0 23 = nI t' ∧ TkOk n t' (mHurtF w hu y dawn) ∧ (mHurtF w hu y dawn).1 0 22 = w.1 0 22 := by
  simp only [mHurtF]
  split
  · refine ⟨t, Nat.le_refl _, by omega, ht, fun k hk => ?_, rfl⟩
    obtain ⟨a, b, h1, h2, h3, h4⟩ := hT k hk
    exact ⟨a, b, h1, h2, h3, h4⟩
  · refine ⟨t + 1, by omega, Nat.le_refl _, ?_, fun k hk => ?_, rfl⟩
    · rw [kset_eq, ht, nI_1]
    · rw [cl_of ht (by omega)]
      have hf := hP.frd (k := 2 * hu) (by omega)
      by_cases e : k = t
      · subst e
        exact ⟨y, fr w (2 * hu), hy, hf.1, by simp [kset_1], by simp [kset_1, hf.2]⟩
      · obtain ⟨a, b, h1, h2, h3, h4⟩ := hT k (by omega)
        exact ⟨a, b, h1, h2, by simp [kset_1, e, h3], by simp [kset_1, e, h4]⟩
theorem TkOk.of {w v : kW} {n t : Nat} (h : TkOk n t w) (h1 : v.1 16 = w.1 16) (h2 : v.1 17 = w.1 17) : TkOk n t v := by
  unfold TkOk at *
  rw [h1, h2]
  exact h
theorem mMeet_inv {w : kW} {n m0 a b : Nat} {x y dawn : Int32} (h : SInv n m0 w) (hm0 : m0 ≤ 177) (ha : a < n) (hb : b < n) (hab : a ≠ b) (h1 : bt (w.1 0 22) a = false) (h2 : bt (w.1 0 22) b = false) : SInv n m0 (mMeet w a b x y dawn) := by
  obtain ⟨hP, m, t, hm, ht, htm, hmm, hT⟩ := h
  have hn := hP.le
  have hb6 := bs6_le (w.1 0 22)
  have k0 := mMeet0_keep w a b x y dawn
  have hP0 := hP.keep k0
  have ht0 : (mMeet0 w a b x y dawn).1 0 23 = nI t := ht
  have hT0 : TkOk n t (mMeet0 w a b x y dawn) := hT.of rfl rfl
  have hbit : (mMeet0 w a b x y dawn).1 0 22 = w.1 0 22 ||| (1 <<< (nI a &&& 31) ||| 1 <<< (nI b &&& 31)) := rfl
  have e2 := bs6_two (by omega) (by omega) hab h1 h2
  refine ⟨hP.keep (mMeet_keep ..), ?_⟩
  simp only [mMeet]
  split
  · exact ⟨m + 1, t, by rw [kset_eq, ← nI_1, ← hm]; rfl, ht, by omega, by rw [kset_ne _ _ (by decide), hbit, e2]; omega, hT.of rfl rfl⟩
  · split
    · obtain ⟨t', g1, g2, g3, g4, g5⟩ := mHurtF_tk (dawn := dawn) hP0 hb ha ht0 (by omega) hT0
      refine ⟨m + 1, t', ?_, by rw [kset_ne _ _ (by decide), kset_ne _ _ (Or.inl (by decide)), g3], by omega, ?_, g4.of rfl rfl⟩
      · rw [kset_eq, kset_ne _ _ (Or.inl (by decide)), mHurtF_met, ← nI_1, ← hm]; rfl
      · rw [kset_ne _ _ (by decide), kset_ne _ _ (Or.inl (by decide)), g5, hbit, e2]; omega
    · obtain ⟨t', g1, g2, g3, g4, g5⟩ := mHurtF_tk (dawn := dawn) hP0 ha hb ht0 (by omega) hT0
      refine ⟨m + 1, t', ?_, by rw [kset_ne _ _ (by decide), kset_ne _ _ (Or.inl (by decide)), g3], by omega, ?_, g4.of rfl rfl⟩
      · rw [kset_eq, kset_ne _ _ (Or.inl (by decide)), mHurtF_met, ← nI_1, ← hm]; rfl
      · rw [kset_ne _ _ (by decide), kset_ne _ _ (Or.inl (by decide)), g5, hbit, e2]; omega
theorem mAnswer_inv {w : kW} {n m0 i j : Nat} {deg dawn : Int32} (h : SInv n m0 w) (hm0 : m0 ≤ 177) (hi : i < n) (hj : j < n) : SInv n m0 (mAnswer w i j deg dawn) := by
  simp only [mAnswer]
  split
  · split
    · exact h
    · rename_i a ha
      have g1 := mSec_some h.1 hj ha
      split
      · exact h
      · rename_i b hb
        have g2 := mSec_some h.1 hi hb
        exact mMeet_inv h hm0 g1.1 g2.1 (fun e => g2.2.2.2.1 (by rw [e])) g1.2.2.2.2.2.2 g2.2.2.2.2.2.2
  · exact h
theorem mTold_inv {w : kW} {n c m0 d : Nat} (h : SInv n m0 (kset w 0 22 0)) (hI : Ins n c w) (hm0 : m0 ≤ 177) : ∀ k, k ≤ c → SInv n m0 (mTold w d k) ∧ sKeep w (mTold w d k) := by
  intro k
  induction k with
  | zero => intro _; exact ⟨h, sKeep.rf.num (by decide)⟩
  | succ k ih =>
    intro hk
    obtain ⟨g1, g2⟩ := ih (by omega)
    simp only [mTold]
    split
    · obtain ⟨a, b, dd, g, h1, h2, h3, h4, h5, h6, h7, h8, h9, h10⟩ := (hI.keep g2).2.2 k (by omega)
      have hn := g1.1.le
      rw [cl_of h7 (by omega), cl_of h8 (by omega)]
      exact ⟨mAnswer_inv g1 hm0 h1 h2, g2.tr (mAnswer_keep ..)⟩
    · exact ⟨g1, g2⟩
theorem mTk_t {w : kW} {n m0 : Nat} (h : SInv n m0 w) (hm0 : m0 ≤ 177) : ∃ m t, w.1 0 28 = nI m ∧ m < 200 ∧ w.1 0 23 = nI t ∧ t < 200 ∧ TkOk n t w := by
  obtain ⟨hP, m, t, hm, ht, htm, hmm, hT⟩ := h
  have hb6 := bs6_le (w.1 0 22)
  exact ⟨m, t, hm, by omega, ht, by omega, hT⟩
/-- the takings of the answers so far stay -/
def TkMore (w v : kW) : Prop := ∀ t, t < 200 → w.1 0 23 = nI t → ∃ t', t ≤ t' ∧ v.1 0 23 = nI t' ∧ ∀ k, k < t → v.1 16 k = w.1 16 k ∧ v.1 17 k = w.1 17 k ∧ v.1 18 k = w.1 18 k ∧ v.1 19 k = w.1 19 k
end
section
/-- t takings in w, t' in v, the first t as they were -/
def TkExt (t t' : Nat) (w v : kW) : Prop := t ≤ t' ∧ v.1 0 23 = nI t' ∧ ∀ k, k < t → v.1 16 k = w.1 16 k ∧ v.1 17 k = w.1 17 k ∧ v.1 18 k = w.1 18 k ∧ v.1 19 k = w.1 19 k
theorem TkExt.rf {t : Nat} {w : kW} (h : w.1 0 23 = nI t) : TkExt t t w w := ⟨Nat.le_refl _, h, fun _ _ => ⟨rfl, rfl, rfl, rfl⟩⟩
theorem TkExt.tr {t t' t'' : Nat} {w v u : kW} (h1 : TkExt t t' w v) (h2 : TkExt t' t'' v u) : TkExt t t'' w u := ⟨Nat.le_trans h1.1 h2.1, h2.2.1, fun k hk => by
  obtain ⟨a1, a2, a3, a4⟩ := h1.2.2 k hk
  obtain ⟨b1, b2, b3, b4⟩ := h2.2.2 k (Nat.lt_of_lt_of_le hk h1.1)
  exact ⟨b1.trans a1, b2.trans a2, b3.trans a3, b4.trans a4⟩⟩
theorem mHurtF_ext {w : kW} {t hu y : Nat} {dawn : Int32} (ht : w.1 0 23 = nI t) (ht2 : t < 200) : ∃ t', t' ≤ t + 1 ∧ TkExt t t' w (mHurtF w hu y dawn) := by
  simp only [mHurtF]
  split
  · exact ⟨t, by omega, Nat.le_refl _, ht, fun k hk => ⟨rfl, rfl, rfl, rfl⟩⟩
  · refine ⟨t + 1, Nat.le_refl _, by omega, by rw [kset_eq, ht, nI_1], fun k hk => ?_⟩
    rw [cl_of ht (by omega)]
    have e : ¬ k = t := by omega
    exact ⟨by simp [kset_1, e], by simp [kset_1, e], by simp [kset_1, e], by simp [kset_1, e]⟩
theorem TkExt.row {t t' c k : Nat} {x : Int32} {w v : kW} (h : TkExt t t' w v) (hc : c = 0 ∧ k ≠ 23 ∨ 20 ≤ c) : TkExt t t' w (kset v c k x) := by
  refine ⟨h.1, by rw [kset_ne _ _ (by omega)]; exact h.2.1, fun j hj => ?_⟩
  rw [kset_ne _ _ (by omega), kset_ne _ _ (by omega), kset_ne _ _ (by omega), kset_ne _ _ (by omega)]
  exact h.2.2 j hj
theorem mMeet_ext {w : kW} {t a b : Nat} {x y dawn : Int32} (ht : w.1 0 23 = nI t) (ht2 : t < 200) : ∃ t', t' ≤ t + 1 ∧ TkExt t t' w (mMeet w a b x y dawn) := by
  have h0 : TkExt t t w (mMeet0 w a b x y dawn) := by
    simp only [mMeet0]
    exact (((((((TkExt.rf ht).row (by omega)).row (by omega)).row (by omega)).row (by omega)).row (by omega)).row (by omega)).row (by omega)
  simp only [mMeet]
  split
  · exact ⟨t, by omega, h0.row (by omega)⟩
  · split
    · obtain ⟨t', h1, h2⟩ := mHurtF_ext (hu := b) (y := a) (dawn := dawn) h0.2.1 ht2
      exact ⟨t', h1, ((h0.tr h2).row (by omega)).row (by omega)⟩
    · obtain ⟨t', h1, h2⟩ := mHurtF_ext (hu := a) (y := b) (dawn := dawn) h0.2.1 ht2
      exact ⟨t', h1, ((h0.tr h2).row (by omega)).row (by omega)⟩
theorem mAnswer_ext {w : kW} {t i j : Nat} {deg dawn : Int32} (ht : w.1 0 23 = nI t) (ht2 : t < 200) : ∃ t', t' ≤ t + 1 ∧ TkExt t t' w (mAnswer w i j deg dawn) := by
  simp only [mAnswer]
  split
  · split
    · exact ⟨t, by omega, TkExt.rf ht⟩
    · split
      · exact ⟨t, by omega, TkExt.rf ht⟩
      · exact mMeet_ext ht ht2
  · exact ⟨t, by omega, TkExt.rf ht⟩
theorem SInv.t {w : kW} {n m0 : Nat} (h : SInv n m0 w) (hm0 : m0 ≤ 177) : ∃ t, w.1 0 23 = nI t ∧ t < 200 := by
  obtain ⟨m, t, h1, h2, h3, h4, h5⟩ := mTk_t h hm0
  exact ⟨t, h3, h4⟩
theorem mAnswer_ext2 {w : kW} {n m0 t i j : Nat} {deg dawn : Int32} (h : SInv n m0 w) (hm0 : m0 ≤ 177) (hi : i < n) (hj : j < n) (ht : w.1 0 23 = nI t) (ht2 : t < 200) : ∃ t', t' < 200 ∧ TkExt t t' w (mAnswer w i j deg dawn) := by
  obtain ⟨t', h1, h2⟩ := mAnswer_ext (i := i) (j := j) (deg := deg) (dawn := dawn) ht ht2
  obtain ⟨t2, e1, e2⟩ := (mAnswer_inv (deg := deg) (dawn := dawn) h hm0 hi hj).t hm0
  have e3 := nI_inj (by omega) (by omega) (e1.symm.trans h2.2.1)
  subst e3
  exact ⟨t2, e2, h2⟩
theorem mTold_ext {w : kW} {n c m0 d t : Nat} (h : SInv n m0 (kset w 0 22 0)) (hI : Ins n c w) (hm0 : m0 ≤ 177) (ht : w.1 0 23 = nI t) (ht2 : t < 200) : ∀ k, k ≤ c → ∃ t', t' < 200 ∧ TkExt t t' w (mTold w d k) := by
  intro k
  induction k with
  | zero => intro _; exact ⟨t, ht2, (TkExt.rf ht).row (by omega)⟩
  | succ k ih =>
    intro hk
    obtain ⟨t', g1, g2⟩ := ih (by omega)
    obtain ⟨v1, v2⟩ := mTold_inv (d := d) h hI hm0 k (by omega)
    simp only [mTold]
    split
    · obtain ⟨a, b, dd, g, h1, h2, h3, h4, h5, h6, h7, h8, h9, h10⟩ := (hI.keep v2).2.2 k (by omega)
      have hn := v1.1.le
      rw [cl_of h7 (by omega), cl_of h8 (by omega)]
      obtain ⟨t'', e1, e2⟩ := mAnswer_ext2 (deg := (mTold w d k).1 14 k) (dawn := nI d) v1 hm0 h1 h2 g2.2.1 g1
      exact ⟨t'', e1, g2.tr e2⟩
    · exact ⟨t', g1, g2⟩
theorem mTk_inv {w : kW} {n m0 d t b : Nat} (h : SInv n m0 w) (hm0 : m0 ≤ 177) (ht : w.1 0 23 = nI t) (ht2 : t < 200) (hb : b ≤ t) : ∀ k, k ≤ b → SInv n m0 (mTk w d k) ∧ sKeep w (mTk w d k) ∧ ∃ t', t' < 200 ∧ TkExt t t' w (mTk w d k) := by
  intro k
  induction k with
  | zero => intro _; exact ⟨h, sKeep.rf, t, ht2, TkExt.rf ht⟩
  | succ k ih =>
    intro hk
    obtain ⟨v1, v2, t', g1, g2⟩ := ih (by omega)
    simp only [mTk]
    split
    · obtain ⟨hP, m, t2, c1, c2, c3, c4, c5⟩ := id h
      have e3 := nI_inj (by have := bs6_le (w.1 0 22); omega) (by omega) (c2.symm.trans ht)
      subst e3
      obtain ⟨a, b', h1, h2, h3, h4⟩ := c5 k (by omega)
      obtain ⟨r1, r2, r3, r4⟩ := g2.2.2 k (by omega)
      have hn := v1.1.le
      rw [cl_of (r1.trans h3) (by omega), cl_of (r2.trans h4) (by omega)]
      obtain ⟨t'', e1, e2⟩ := mAnswer_ext2 (deg := (mTk w d k).1 18 k) (dawn := nI d) v1 hm0 h1 h2 g2.2.1 g1
      exact ⟨mAnswer_inv v1 hm0 h1 h2, v2.tr (mAnswer_keep ..), t'', e1, g2.tr e2⟩
    · exact ⟨v1, v2, t', g1, g2⟩
/-- between two dawns: at most M meetings -/
def DInv (n M : Nat) (w : kW) : Prop := Pn n w ∧ ∃ m t, w.1 0 28 = nI m ∧ m ≤ M ∧ w.1 0 23 = nI t ∧ t ≤ m ∧ TkOk n t w
theorem DInv.start {w : kW} {n M : Nat} (h : DInv n M w) : ∃ m, m ≤ M ∧ SInv n m (kset w 0 22 0) := by
  obtain ⟨hP, m, t, h1, h2, h3, h4, h5⟩ := h
  exact ⟨m, h2, hP.keep (sKeep.rf.num (by decide)), m, t, h1, h3, h4, by rw [kset_eq, bs6_0, Nat.add_zero], h5.of rfl rfl⟩
theorem DInv.t {w : kW} {n M : Nat} (h : DInv n M w) (hM : M ≤ 177) : ∃ t, t < 178 ∧ w.1 0 23 = nI t := by
  obtain ⟨hP, m, t, h1, h2, h3, h4, h5⟩ := h
  exact ⟨t, by omega, h3⟩
theorem SInv.stop {w : kW} {n m0 : Nat} (h : SInv n m0 w) : DInv n (m0 + 3) w := by
  obtain ⟨hP, m, t, h1, h2, h3, h4, h5⟩ := h
  have := bs6_le (w.1 0 22)
  exact ⟨hP, m, t, h1, by omega, h2, h3, h5⟩
theorem DInv.mono {w : kW} {n M M' : Nat} (h : DInv n M w) (hm : M ≤ M') : DInv n M' w := by
  obtain ⟨hP, m, t, h1, h2, h3, h4, h5⟩ := h
  exact ⟨hP, m, t, h1, by omega, h3, h4, h5⟩
theorem mDawn_inv {w : kW} {n c M d : Nat} (h : DInv n M w) (hM : M ≤ 177) (hI : Ins n c w) : DInv n (M + 3) (mDawn c w d) ∧ sKeep w (mDawn c w d) := by
  obtain ⟨m0, hm0, hS⟩ := h.start
  obtain ⟨b, hb, eb⟩ := h.t hM
  obtain ⟨g1, g2⟩ := mTold_inv (d := d) hS hI (by omega) c (Nat.le_refl _)
  obtain ⟨t', e1, e2⟩ := mTold_ext (d := d) hS hI (by omega) eb (by omega) c (Nat.le_refl _)
  obtain ⟨f1, f2, f3⟩ := mTk_inv (d := d) g1 (by omega) e2.2.1 e1 e2.1 b (Nat.le_refl _)
  unfold mDawn
  rw [cl_of eb (by omega)]
  exact ⟨f1.stop.mono (by omega), g2.tr f2⟩
theorem mZero_keep (w : kW) (k : Nat) : sKeep w (mZero w k) := by
  induction k with
  | zero => exact (sKeep.rf.num (by decide)).num (by decide)
  | succ k ih => exact ih.row (by decide)
theorem mZero_23 (w : kW) (k : Nat) : (mZero w k).1 0 23 = 0 ∧ (mZero w k).1 0 28 = 0 := by
  induction k with
  | zero => exact ⟨rfl, rfl⟩
  | succ k ih => exact ih
theorem mBegin_inv {w : kW} {n : Nat} (h : Pn n w) : DInv n 0 (mBegin n w) ∧ sKeep w (mBegin n w) := by
  have hk : sKeep w (mBegin n w) := (mZero_keep w n).num (by decide)
  exact ⟨⟨h.keep hk, 0, 0, (mZero_23 w n).2, Nat.le_refl _, (mZero_23 w n).1, Nat.le_refl _, fun k hk => absurd hk (Nat.not_lt_zero _)⟩, hk⟩
theorem mAhead_inv {w : kW} {n c : Nat} (h : Pn n w) (hI : Ins n c w) : ∀ d, d ≤ 60 → DInv n (3 * d) (mAhead n c w d) ∧ sKeep w (mAhead n c w d) := by
  intro d
  induction d with
  | zero => intro _; exact mBegin_inv h
  | succ d ih =>
    intro hd
    obtain ⟨g1, g2⟩ := ih (by omega)
    obtain ⟨f1, f2⟩ := mDawn_inv (d := d) g1 (by omega) (hI.keep g2)
    exact ⟨f1, g2.tr f2⟩
theorem mGo_keep {w : kW} {n c d : Nat} (h : Pn n w) (hI : Ins n c w) (hd : d ≤ 60) : sKeep w (mGo n c w d) := (mAhead_inv h hI d hd).2.num (by decide)
theorem mGo_inv {w : kW} {n c d : Nat} (h : Pn n w) (hI : Ins n c w) (hd : d ≤ 60) : DInv n (3 * d) (mGo n c w d) := by
  obtain ⟨⟨hP, m, t, h1, h2, h3, h4, h5⟩, hk⟩ := mAhead_inv h hI d hd
  exact ⟨hP.keep (sKeep.rf.num (by decide)), m, t, h1, h2, h3, h4, h5.of rfl rfl⟩
theorem mTold_yes {w : kW} {d k a b : Nat} (h1 : (mTold w d k).1 13 k = nI d - 1) (h2 : bt ((mTold w d k).1 0 20) k = false) (ha : (mTold w d k).1 11 k = nI a) (hb : (mTold w d k).1 12 k = nI b) (ha2 : a < 6) (hb2 : b < 6) : mAnswer (mTold w d k) a b ((mTold w d k).1 14 k) (nI d) = mTold w d (k + 1) := by
  simp only [mTold]
  rw [if_pos ⟨h1, h2⟩, cl_of ha (by omega), cl_of hb (by omega)]
theorem mTold_no {w : kW} {d k : Nat} (h : ¬ ((mTold w d k).1 13 k = nI d - 1 ∧ bt ((mTold w d k).1 0 20) k = false)) : mTold w d k = mTold w d (k + 1) := by
  simp only [mTold]
  rw [if_neg h]
theorem mTk_yes {w : kW} {d k a b : Nat} (h1 : (mTk w d k).1 19 k = nI d - 1) (ha : (mTk w d k).1 16 k = nI a) (hb : (mTk w d k).1 17 k = nI b) (ha2 : a < 6) (hb2 : b < 6) : mAnswer (mTk w d k) a b ((mTk w d k).1 18 k) (nI d) = mTk w d (k + 1) := by
  simp only [mTk]
  rw [if_pos h1, cl_of ha (by omega), cl_of hb (by omega)]
theorem mTk_no {w : kW} {d k : Nat} (h : ¬ (mTk w d k).1 19 k = nI d - 1) : mTk w d k = mTk w d (k + 1) := by
  simp only [mTk]
  rw [if_neg h]

set_option maxRecDepth 100000 in
set_option maxHeartbeats 4000000 in
theorem s_X8_goDawn_l2 {w u : kW} {n c m0 d b t : Nat} (hS : SInv n m0 u) (hm0 : m0 ≤ 177) (ht : u.1 0 23 = nI t) (ht2 : t < 200) (hb : b ≤ t) (he : mTk u d b = mDawn c w d) (hd : d < 60) : ∀ q k, k + q = b → BS shM RX8 cX8_goDawn 4 none 4 101 (fun r w' => r = none ∧ mDawn c w d = w') 74 [(0, .ref 0), (1, .int (nI d)), (2, .int (nI b)), (3, .int (nI k))] [] (mTk u d k) := by
  intro q
  have hn := hS.1.le
  induction q with
  | zero =>
    intro k hk
    refine b_iload_n dX8_goDawn_74 rfl ?_
    refine b_iload_n dX8_goDawn_75 rfl ?_
    refine b_icmp_ge (tgt := 120) dX8_goDawn_76 (by decide) (fun h76 => ?_) (fun h76 => ?_)
    · refine b_vret dX8_goDawn_120 rfl ⟨rfl, ?_⟩
      (have e : k = b := by omega); subst e; exact he.symm
    · exact absurd (nI_le (by omega) (by omega)) h76
  | succ q ih =>
    intro k hk
    obtain ⟨v1, v2, t2, g1, g2⟩ := mTk_inv (d := d) hS hm0 ht ht2 hb k (by omega)
    obtain ⟨m, t3, g5, g6, g7, g8, g9⟩ := mTk_t v1 hm0
    obtain ⟨hP, mm, t4, c1, c2, c3, c4, c5⟩ := id hS
    have e3 := nI_inj (by have := bs6_le (u.1 0 22); omega) (by omega) (c2.symm.trans ht)
    subst e3
    obtain ⟨a, b2, h1, h2, h3, h4⟩ := c5 k (by omega)
    obtain ⟨r1, r2, r3, r4⟩ := g2.2.2 k (by omega)
    refine b_iload_n dX8_goDawn_74 rfl ?_
    refine b_iload_n dX8_goDawn_75 rfl ?_
    refine b_icmp_ge (tgt := 120) dX8_goDawn_76 (by decide) (fun h76 => ?_) (fun h76 => ?_)
    · exact absurd h76 (nI_ge (by omega) (by omega))
    · refine b_aload_n dX8_goDawn_79 rfl ?_
      refine b_getr dX8_goDawn_80 gf_X8_65 rfl rfl ?_
      refine b_iload_n dX8_goDawn_83 rfl ?_
      refine b_ialdN dX8_goDawn_84 rfl ⟨by omega, by decide⟩ ?_
      refine b_iload_n dX8_goDawn_85 rfl ?_
      refine b_iconst (v := 1) dX8_goDawn_86 (by decide) ?_
      refine b_isub dX8_goDawn_87 ?_
      refine b_icmp_ne (tgt := 114) dX8_goDawn_88 (by decide) (fun h88 => ?_) (fun h88 => ?_)
      · refine b_iinc dX8_goDawn_114 rfl (nI_inc k) (by decide) ?_
        refine b_goto (tgt := 74) dX8_goDawn_117 (by decide) ?_
        refine b_sub [1, 2, 3, 0] rfl ?_
        refine b_wd (mTk_no h88) (ih (k + 1) (by omega))
      · refine b_aload_n dX8_goDawn_91 rfl ?_
        refine b_aload_n dX8_goDawn_92 rfl ?_
        refine b_getr dX8_goDawn_93 gf_X8_56 rfl rfl ?_
        refine b_iload_n dX8_goDawn_96 rfl ?_
        refine b_ialdN dX8_goDawn_97 rfl ⟨by omega, by decide⟩ ?_
        refine b_topi (y := nI a) (r1.trans h3) ?_
        refine b_aload_n dX8_goDawn_98 rfl ?_
        refine b_getr dX8_goDawn_99 gf_X8_59 rfl rfl ?_
        refine b_iload_n dX8_goDawn_102 rfl ?_
        refine b_ialdN dX8_goDawn_103 rfl ⟨by omega, by decide⟩ ?_
        refine b_topi (y := nI b2) (r2.trans h4) ?_
        refine b_aload_n dX8_goDawn_104 rfl ?_
        refine b_getr dX8_goDawn_105 gf_X8_62 rfl rfl ?_
        refine b_iload_n dX8_goDawn_108 rfl ?_
        refine b_ialdN dX8_goDawn_109 rfl ⟨by omega, by decide⟩ ?_
        refine b_iload_n dX8_goDawn_110 rfl ?_
        refine b_callV4 dX8_goDawn_111 lk_X8_184 rfl rfl rfl ⟨Nat.le_of_ble_eq_true rfl, Nat.le_of_ble_eq_true rfl⟩ (Nat.le_of_ble_eq_true rfl) (s_X8_answer v1.1 h1 h2 g5 g6 g2.2.1 g1) (fun r w111 h111 => ?_)
        obtain ⟨rfl, rfl⟩ := h111
        refine b_iinc dX8_goDawn_114 rfl (nI_inc k) (by decide) ?_
        refine b_goto (tgt := 74) dX8_goDawn_117 (by decide) ?_
        refine b_sub [1, 2, 3, 0] rfl ?_
        refine b_wd (mTk_yes h88 (r1.trans h3) (r2.trans h4) (by omega) (by omega)) (ih (k + 1) (by omega))

set_option maxRecDepth 100000 in
set_option maxHeartbeats 4000000 in
theorem s_X8_goDawn_l1 {w : kW} {n c m0 d b : Nat} (hS : SInv n m0 (kset w 0 22 0)) (hI : Ins n c w) (hm0 : m0 ≤ 177) (eb : w.1 0 23 = nI b) (hb : b < 200) (hd : d < 60) : ∀ q k, k + q = c → BS shM RX8 cX8_goDawn 4 none 4 101 (fun r w' => r = none ∧ mDawn c w d = w') 12 [(0, .ref 0), (1, .int (nI d)), (2, .int (nI b)), (3, .int (nI k))] [] (mTold w d k) := by
  intro q
  induction q with
  | zero =>
    intro k hk
    obtain ⟨v1, v2⟩ := mTold_inv (d := d) hS hI hm0 k (by omega)
    have hn := v1.1.le
    have hc := hI.2.1
    refine b_iload_n dX8_goDawn_12 rfl ?_
    refine b_aload_n dX8_goDawn_13 rfl ?_
    refine b_geti dX8_goDawn_14 gf_X8_132 rfl rfl ?_
    refine b_topi (y := nI c) (hI.keep v2).1 ?_
    refine b_icmp_ge (tgt := 72) dX8_goDawn_17 (by decide) (fun h17 => ?_) (fun h17 => ?_)
    · refine b_iconst (v := 0) dX8_goDawn_72 (by decide) ?_
      refine b_istore_n dX8_goDawn_73 (by decide) ?_
      refine b_sub [1, 2, 3, 0] rfl ?_
      have e : k = c := by omega
      subst e
      obtain ⟨t2, q1, q2⟩ := mTold_ext (d := d) hS hI hm0 eb hb k (Nat.le_refl _)
      exact s_X8_goDawn_l2 v1 hm0 q2.2.1 q1 q2.1 (by unfold mDawn; rw [cl_of eb (by omega)]) hd b 0 (by omega)
    · exact absurd (nI_le (by omega) (by omega)) h17
  | succ q ih =>
    intro k hk
    obtain ⟨v1, v2⟩ := mTold_inv (d := d) hS hI hm0 k (by omega)
    have hn := v1.1.le
    have hc := hI.2.1
    obtain ⟨m, t3, g5, g6, g7, g8, g9⟩ := mTk_t v1 hm0
    obtain ⟨a, b2, dd, g, h1, h2, h3, h4, h5, h6, h7, h8, h9, h10⟩ := (hI.keep v2).2.2 k (by omega)
    refine b_iload_n dX8_goDawn_12 rfl ?_
    refine b_aload_n dX8_goDawn_13 rfl ?_
    refine b_geti dX8_goDawn_14 gf_X8_132 rfl rfl ?_
    refine b_topi (y := nI c) (hI.keep v2).1 ?_
    refine b_icmp_ge (tgt := 72) dX8_goDawn_17 (by decide) (fun h17 => ?_) (fun h17 => ?_)
    · exact absurd h17 (nI_ge (by omega) (by omega))
    · refine b_aload_n dX8_goDawn_20 rfl ?_
      refine b_getr dX8_goDawn_21 gf_X8_47 rfl rfl ?_
      refine b_iload_n dX8_goDawn_24 rfl ?_
      refine b_ialdN dX8_goDawn_25 rfl ⟨by omega, by decide⟩ ?_
      refine b_iload_n dX8_goDawn_26 rfl ?_
      refine b_iconst (v := 1) dX8_goDawn_27 (by decide) ?_
      refine b_isub dX8_goDawn_28 ?_
      refine b_icmp_ne (tgt := 66) dX8_goDawn_29 (by decide) (fun h29 => ?_) (fun h29 => ?_)
      · refine b_iinc dX8_goDawn_66 rfl (nI_inc k) (by decide) ?_
        refine b_goto (tgt := 12) dX8_goDawn_69 (by decide) ?_
        refine b_sub [1, 2, 3, 0] rfl ?_
        refine b_wd (mTold_no (fun h => h29 h.1)) (ih (k + 1) (by omega))
      · refine b_aload_n dX8_goDawn_32 rfl ?_
        refine b_geti dX8_goDawn_33 gf_X8_181 rfl rfl ?_
        refine b_iload_n dX8_goDawn_36 rfl ?_
        refine b_ishr dX8_goDawn_37 ?_
        refine b_iconst (v := 1) dX8_goDawn_38 (by decide) ?_
        refine b_iand dX8_goDawn_39 ?_
        refine b_if_ne (tgt := 66) dX8_goDawn_40 (by decide) (fun h40 => ?_) (fun h40 => ?_)
        · refine b_iinc dX8_goDawn_66 rfl (nI_inc k) (by decide) ?_
          refine b_goto (tgt := 12) dX8_goDawn_69 (by decide) ?_
          refine b_sub [1, 2, 3, 0] rfl ?_
          refine b_wd (mTold_no (fun h => h40 ((bit_0 _ (by omega)).mpr h.2))) (ih (k + 1) (by omega))
        · refine b_aload_n dX8_goDawn_43 rfl ?_
          refine b_aload_n dX8_goDawn_44 rfl ?_
          refine b_getr dX8_goDawn_45 gf_X8_41 rfl rfl ?_
          refine b_iload_n dX8_goDawn_48 rfl ?_
          refine b_ialdN dX8_goDawn_49 rfl ⟨by omega, by decide⟩ ?_
          refine b_topi (y := nI a) h7 ?_
          refine b_aload_n dX8_goDawn_50 rfl ?_
          refine b_getr dX8_goDawn_51 gf_X8_44 rfl rfl ?_
          refine b_iload_n dX8_goDawn_54 rfl ?_
          refine b_ialdN dX8_goDawn_55 rfl ⟨by omega, by decide⟩ ?_
          refine b_topi (y := nI b2) h8 ?_
          refine b_aload_n dX8_goDawn_56 rfl ?_
          refine b_getr dX8_goDawn_57 gf_X8_50 rfl rfl ?_
          refine b_iload_n dX8_goDawn_60 rfl ?_
          refine b_ialdN dX8_goDawn_61 rfl ⟨by omega, by decide⟩ ?_
          refine b_iload_n dX8_goDawn_62 rfl ?_
          refine b_callV4 dX8_goDawn_63 lk_X8_184 rfl rfl rfl ⟨Nat.le_of_ble_eq_true rfl, Nat.le_of_ble_eq_true rfl⟩ (Nat.le_of_ble_eq_true rfl) (s_X8_answer v1.1 h1 h2 g5 g6 g7 g8) (fun r w63 h63 => ?_)
          obtain ⟨rfl, rfl⟩ := h63
          refine b_iinc dX8_goDawn_66 rfl (nI_inc k) (by decide) ?_
          refine b_goto (tgt := 12) dX8_goDawn_69 (by decide) ?_
          refine b_sub [1, 2, 3, 0] rfl ?_
          refine b_wd (mTold_yes h29 ((bit_0 _ (by omega)).mp h40) h7 h8 (by omega) (by omega)) (ih (k + 1) (by omega))

set_option maxRecDepth 100000 in
set_option maxHeartbeats 4000000 in
theorem s_X8_goDawn {w : kW} {n c M d : Nat} (h : DInv n M w) (hM : M ≤ 177) (hI : Ins n c w) (hd : d < 60) : Spec shM yX8_goDawn cX8_goDawn 4 none 4 101 [.ref 0, .int (nI d)] w (fun r w' => r = none ∧ mDawn c w d = w') := by
  obtain ⟨m0, hm0, hS⟩ := h.start
  obtain ⟨b, hb, eb⟩ := h.t hM
  refine k_enter pn_X8 (Nat.le_of_ble_eq_true rfl) ?_
  refine b_aload_n dX8_goDawn_0 rfl ?_
  refine b_iconst (v := 0) dX8_goDawn_1 (by decide) ?_
  refine b_puti dX8_goDawn_2 gf_X8_155 gs_X8_22 rfl rfl ?_
  refine b_aload_n dX8_goDawn_5 rfl ?_
  refine b_geti dX8_goDawn_6 gf_X8_172 rfl rfl ?_
  refine b_topi (y := nI b) eb ?_
  refine b_istore_n dX8_goDawn_9 (by decide) ?_
  refine b_iconst (v := 0) dX8_goDawn_10 (by decide) ?_
  refine b_istore_n dX8_goDawn_11 (by decide) ?_
  refine b_sub [2, 3, 1, 0] rfl ?_
  exact s_X8_goDawn_l1 hS hI (by omega) eb (by omega) hd c 0 (by omega)

set_option maxRecDepth 100000 in
set_option maxHeartbeats 4000000 in
theorem s_X8_goAhead_lp {w : kW} {n c D : Nat} (hP : Pn n w) (hI : Ins n c w) (hD : D ≤ 60) : ∀ q k, k + q = D → BS shM RX8 cX8_goAhead 3 none 5 124 (fun r w' => r = none ∧ mGo n c w D = w') 6 [(0, .ref 0), (1, .int (nI D)), (2, .int (nI k))] [] (mAhead n c w k) := by
  intro q
  induction q with
  | zero =>
    intro k hk
    refine b_iload_n dX8_goAhead_6 rfl ?_
    refine b_iload_n dX8_goAhead_7 rfl ?_
    refine b_icmp_ge (tgt := 22) dX8_goAhead_8 (by decide) (fun h8 => ?_) (fun h8 => ?_)
    · refine b_aload_n dX8_goAhead_22 rfl ?_
      refine b_iconst (v := 0) dX8_goAhead_23 (by decide) ?_
      refine b_puti dX8_goAhead_24 gf_X8_155 gs_X8_22 rfl rfl ?_
      refine b_vret dX8_goAhead_27 rfl ⟨rfl, ?_⟩
      (have e : k = D := by omega); subst e; rfl
    · exact absurd (nI_le (by omega) (by omega)) h8
  | succ q ih =>
    intro k hk
    obtain ⟨g1, g2⟩ := mAhead_inv hP hI k (by omega)
    refine b_iload_n dX8_goAhead_6 rfl ?_
    refine b_iload_n dX8_goAhead_7 rfl ?_
    refine b_icmp_ge (tgt := 22) dX8_goAhead_8 (by decide) (fun h8 => ?_) (fun h8 => ?_)
    · exact absurd h8 (nI_ge (by omega) (by omega))
    · refine b_aload_n dX8_goAhead_11 rfl ?_
      refine b_iload_n dX8_goAhead_12 rfl ?_
      refine b_callV1 dX8_goAhead_13 lk_X8_191 rfl rfl rfl ⟨Nat.le_of_ble_eq_true rfl, Nat.le_of_ble_eq_true rfl⟩ (Nat.le_of_ble_eq_true rfl) (s_X8_goDawn g1 (by omega) (hI.keep g2) (by omega)) (fun r w13 h13 => ?_)
      obtain ⟨rfl, rfl⟩ := h13
      refine b_iinc dX8_goAhead_16 rfl (nI_inc k) (by decide) ?_
      refine b_goto (tgt := 6) dX8_goAhead_19 (by decide) ?_
      refine b_sub [1, 2, 0] rfl ?_
      exact ih (k + 1) (by omega)

set_option maxRecDepth 100000 in
set_option maxHeartbeats 4000000 in
theorem s_X8_goAhead {w : kW} {n c D : Nat} (hP : Pn n w) (hI : Ins n c w) (hD : D ≤ 60) : Spec shM yX8_goAhead cX8_goAhead 3 none 5 124 [.ref 0, .int (nI D)] w (fun r w' => r = none ∧ mGo n c w D = w') := by
  refine k_enter pn_X8 (Nat.le_of_ble_eq_true rfl) ?_
  refine b_aload_n dX8_goAhead_0 rfl ?_
  refine b_callV0 dX8_goAhead_1 lk_X8_188 rfl rfl rfl ⟨Nat.le_of_ble_eq_true rfl, Nat.le_of_ble_eq_true rfl⟩ (Nat.le_of_ble_eq_true rfl) (s_X8_begin hP) (fun r w1 h1 => ?_)
  obtain ⟨rfl, rfl⟩ := h1
  refine b_iconst (v := 0) dX8_goAhead_4 (by decide) ?_
  refine b_istore_n dX8_goAhead_5 (by decide) ?_
  refine b_sub [1, 2, 0] rfl ?_
  exact s_X8_goAhead_lp hP hI hD D 0 (by omega)
end
section
/-! ===== a season depends on what is told alone, not on what an earlier one left ===== -/
def PEq (c : Nat) (w v : kW) : Prop := (∀ j, 4 ≤ j → j ≤ 7 → v.1 j = w.1 j) ∧ (∀ j k, 11 ≤ j → j ≤ 14 → k < c → v.1 j k = w.1 j k) ∧ v.1 0 5 = w.1 0 5 ∧ v.1 0 15 = w.1 0 15 ∧ (∀ k, k < c → bt (v.1 0 20) k = bt (w.1 0 20) k)
theorem PEq.keep {c : Nat} {w v w' v' : kW} (h : PEq c w v) (h1 : sKeep w w') (h2 : sKeep v v') : PEq c w' v' := by
  refine ⟨fun j a b => ?_, fun j k a b hk => ?_, ?_, ?_, fun k hk => ?_⟩
  · rw [h1.1 j (by omega) (by omega), h2.1 j (by omega) (by omega)]; exact h.1 j a b
  · rw [h1.1 j (by omega) (by omega), h2.1 j (by omega) (by omega)]; exact h.2.1 j k a b hk
  · rw [h1.2.1 5 (by decide) (by decide) (by decide), h2.2.1 5 (by decide) (by decide) (by decide)]; exact h.2.2.1
  · rw [h1.2.1 15 (by decide) (by decide) (by decide), h2.2.1 15 (by decide) (by decide) (by decide)]; exact h.2.2.2.1
  · rw [h1.2.1 20 (by decide) (by decide) (by decide), h2.2.1 20 (by decide) (by decide) (by decide)]; exact h.2.2.2.2 k hk
theorem PEq.rf {c : Nat} {w : kW} : PEq c w w := ⟨fun _ _ _ => rfl, fun _ _ _ _ _ => rfl, rfl, rfl, fun _ _ => rfl⟩
theorem PEq.pn {c n : Nat} {w v : kW} (h : PEq c w v) (hP : Pn n w) : Pn n v := by
  have e4 := h.1 4 (by decide) (by decide)
  have e5 := h.1 5 (by decide) (by decide)
  have e6 := h.1 6 (by decide) (by decide)
  have e7 := h.1 7 (by decide) (by decide)
  unfold Pn fr at *
  rw [e4, e5, e6, e7, h.2.2.1]
  exact hP
theorem PEq.ins {c n : Nat} {w v : kW} (h : PEq c w v) (hI : Ins n c w) : Ins n c v := by
  refine ⟨h.2.2.2.1.trans hI.1, hI.2.1, fun k hk => ?_⟩
  rw [h.2.1 11 k (by decide) (by decide) hk, h.2.1 12 k (by decide) (by decide) hk, h.2.1 13 k (by decide) (by decide) hk, h.2.1 14 k (by decide) (by decide) hk]
  exact hI.2.2 k hk
theorem mTouch_eq {c : Nat} {w v : kW} (h : PEq c w v) (p : Nat) : mTouch v p = mTouch w p := by
  unfold mTouch
  rw [h.1 4 (by decide) (by decide), h.1 5 (by decide) (by decide)]
theorem f_cg {p q : Nat → Bool} : ∀ {l : List Nat}, (∀ x ∈ l, p x = q x) → l.find? p = l.find? q
  | [], _ => rfl
  | x :: l, h => by
    have hx := h x List.mem_cons_self
    have hl := f_cg (fun y hy => h y (List.mem_cons_of_mem _ hy))
    rw [List.find?_cons, List.find?_cons, hx, hl]
theorem mCh_lt {w : kW} {n p x : Nat} (hP : Pn n w) (hp : p < n) (h : x ∈ mCh w p) : x < n := by
  have hn := hP.le
  have g1 := (hP.frd (k := 2 * p) (by omega)).1
  have g2 := (hP.frd (k := 2 * p + 1) (by omega)).1
  simp only [mCh, List.mem_cons, List.not_mem_nil, or_false] at h
  rcases h with rfl | rfl | rfl | rfl | rfl | rfl
  · exact g1
  · exact g2
  · exact (hP.frd (by omega)).1
  · exact (hP.frd (by omega)).1
  · exact (hP.frd (by omega)).1
  · exact (hP.frd (by omega)).1
theorem mSec_eq {c n p : Nat} {w v : kW} {o no dawn : Int32} (hP : Pn n w) (hp : p < n) (h : PEq c w v) (h1 : v.1 0 22 = w.1 0 22) (h2 : ∀ p, p < n → v.1 15 p = w.1 15 p) : mSec v p o no dawn = mSec w p o no dawn := by
  have e : mCh v p = mCh w p := by
    unfold mCh fr
    rw [h.1 6 (by decide) (by decide)]
  unfold mSec
  rw [e]
  apply f_cg
  intro x hx
  have hl := mCh_lt hP hp hx
  have e : mMay v x (nI p) o no dawn ↔ mMay w x (nI p) o no dawn := by
    unfold mMay mFree
    rw [h.1 7 (by decide) (by decide), h1, h2 x hl]
  exact decide_eq_decide.mpr e
def SQb (n t m : Nat) (w v : kW) : Prop := v.1 0 22 = w.1 0 22 ∧ (∀ p, p < n → v.1 15 p = w.1 15 p) ∧ (∀ j k, 16 ≤ j → j ≤ 19 → k < t → v.1 j k = w.1 j k) ∧ (∀ j k, 20 ≤ j → j ≤ 25 → k < m → v.1 j k = w.1 j k)
theorem kset_cg {w v : kW} {c k c' k' : Nat} {x : Int32} (h : v.1 c' k' = w.1 c' k') : (kset v c k x).1 c' k' = (kset w c k x).1 c' k' := by
  rw [kset_1, kset_1, h]
theorem SQb.kset {n t m c k : Nat} {w v : kW} {x : Int32} (h : SQb n t m w v) : SQb n t m (kset w c k x) (kset v c k x) :=
  ⟨kset_cg h.1, fun p hp => kset_cg (h.2.1 p hp), fun j k' a b hk => kset_cg (h.2.2.1 j k' a b hk), fun j k' a b hk => kset_cg (h.2.2.2 j k' a b hk)⟩
theorem SQb.upt {n t m : Nat} {w v : kW} (h : SQb n t m w v) (he : ∀ j, 16 ≤ j → j ≤ 19 → v.1 j t = w.1 j t) : SQb n (t + 1) m w v :=
  ⟨h.1, h.2.1, fun j k a b hk => by
    by_cases e : k = t
    · subst e; exact he j a b
    · exact h.2.2.1 j k a b (by omega), h.2.2.2⟩
theorem SQb.upm {n t m : Nat} {w v : kW} (h : SQb n t m w v) (he : ∀ j, 20 ≤ j → j ≤ 25 → v.1 j m = w.1 j m) : SQb n t (m + 1) w v :=
  ⟨h.1, h.2.1, h.2.2.1, fun j k a b hk => by
    by_cases e : k = m
    · subst e; exact he j a b
    · exact h.2.2.2 j k a b (by omega)⟩
theorem mHurtF_sq {w v : kW} {n t m hu y : Nat} {dawn : Int32} (e5 : v.1 5 = w.1 5) (e6 : v.1 6 = w.1 6) (hw : w.1 0 23 = nI t) (hv : v.1 0 23 = nI t) (ht : t < 200) (h : SQb n t m w v) : ∃ t', t' ≤ t + 1 ∧ (mHurtF w hu y dawn).1 0 23 = nI t' ∧ (mHurtF v hu y dawn).1 0 23 = nI t' ∧ SQb n t' m (mHurtF w hu y dawn) (mHurtF v hu y dawn) := by
  simp only [mHurtF, e5, e6, cl_of hw (show t < 2 ^ 31 by omega), cl_of hv (show t < 2 ^ 31 by omega)]
  split
  · exact ⟨t, by omega, hw, hv, h.kset⟩
  · refine ⟨t + 1, Nat.le_refl _, by rw [kset_eq, hw, nI_1], by rw [kset_eq, hv, nI_1], ?_⟩
    rw [hw, hv]
    refine SQb.kset (SQb.upt h.kset.kset.kset.kset.kset (fun j h1 h2 => ?_))
    rcases (show j = 16 ∨ j = 17 ∨ j = 18 ∨ j = 19 by omega) with rfl | rfl | rfl | rfl <;> simp [kset_1]
def SQ (n : Nat) (w v : kW) : Prop := ∃ t m, t < 200 ∧ m < 200 ∧ w.1 0 28 = nI m ∧ v.1 0 28 = nI m ∧ w.1 0 23 = nI t ∧ v.1 0 23 = nI t ∧ SQb n t m w v
theorem mMeet0_sq {w v : kW} {n t m a b : Nat} {x y dawn : Int32} (hw : w.1 0 28 = nI m) (hv : v.1 0 28 = nI m) (hm : m < 200) (h : SQb n t m w v) : SQb n t (m + 1) (mMeet0 w a b x y dawn) (mMeet0 v a b x y dawn) := by
  simp only [mMeet0, cl_of hw (show m < 2 ^ 31 by omega), cl_of hv (show m < 2 ^ 31 by omega), h.1]
  refine SQb.upm h.kset.kset.kset.kset.kset.kset.kset (fun j h1 h2 => ?_)
  rcases (show j = 20 ∨ j = 21 ∨ j = 22 ∨ j = 23 ∨ j = 24 ∨ j = 25 by omega) with rfl | rfl | rfl | rfl | rfl | rfl <;> simp [kset_1]
theorem mMeet_sq {w v : kW} {n t m a b : Nat} {x y dawn : Int32} (e5 : v.1 5 = w.1 5) (e6 : v.1 6 = w.1 6) (hw : w.1 0 28 = nI m) (hv : v.1 0 28 = nI m) (hm : m < 200) (tw : w.1 0 23 = nI t) (tv : v.1 0 23 = nI t) (ht : t < 200) (h : SQb n t m w v) : ∃ t', t' ≤ t + 1 ∧ (mMeet w a b x y dawn).1 0 28 = nI (m + 1) ∧ (mMeet v a b x y dawn).1 0 28 = nI (m + 1) ∧ (mMeet w a b x y dawn).1 0 23 = nI t' ∧ (mMeet v a b x y dawn).1 0 23 = nI t' ∧ SQb n t' (m + 1) (mMeet w a b x y dawn) (mMeet v a b x y dawn) := by
  have h0 := mMeet0_sq (a := a) (b := b) (x := x) (y := y) (dawn := dawn) hw hv hm h
  have kw : (mMeet0 w a b x y dawn).1 0 28 = nI m := hw
  have kv : (mMeet0 v a b x y dawn).1 0 28 = nI m := hv
  have k5 : (mMeet0 v a b x y dawn).1 5 = (mMeet0 w a b x y dawn).1 5 := e5
  have k6 : (mMeet0 v a b x y dawn).1 6 = (mMeet0 w a b x y dawn).1 6 := e6
  have tw0 : (mMeet0 w a b x y dawn).1 0 23 = nI t := tw
  have tv0 : (mMeet0 v a b x y dawn).1 0 23 = nI t := tv
  simp only [mMeet, e5, cl_of hw (show m < 2 ^ 31 by omega), cl_of hv (show m < 2 ^ 31 by omega)]
  split
  · refine ⟨t, by omega, by rw [kset_eq, kw, nI_1], by rw [kset_eq, kv, nI_1], tw, tv, ?_⟩
    rw [kw, kv]
    exact h0.kset
  · split
    · obtain ⟨t', g1, g2, g3, g4⟩ := mHurtF_sq (hu := b) (y := a) (dawn := dawn) k5 k6 tw0 tv0 ht h0
      refine ⟨t', g1, ?_, ?_, ?_, ?_, ?_⟩
      · rw [kset_eq, kset_ne _ _ (Or.inl (by decide)), mHurtF_met, kw, nI_1]
      · rw [kset_eq, kset_ne _ _ (Or.inl (by decide)), mHurtF_met, kv, nI_1]
      · rw [kset_ne _ _ (Or.inr (by decide)), kset_ne _ _ (Or.inl (by decide)), g2]
      · rw [kset_ne _ _ (Or.inr (by decide)), kset_ne _ _ (Or.inl (by decide)), g3]
      · rw [kset_ne _ _ (Or.inl (by decide)), kset_ne _ _ (Or.inl (by decide)), mHurtF_met, mHurtF_met, kw, kv]
        exact g4.kset.kset
    · obtain ⟨t', g1, g2, g3, g4⟩ := mHurtF_sq (hu := a) (y := b) (dawn := dawn) k5 k6 tw0 tv0 ht h0
      refine ⟨t', g1, ?_, ?_, ?_, ?_, ?_⟩
      · rw [kset_eq, kset_ne _ _ (Or.inl (by decide)), mHurtF_met, kw, nI_1]
      · rw [kset_eq, kset_ne _ _ (Or.inl (by decide)), mHurtF_met, kv, nI_1]
      · rw [kset_ne _ _ (Or.inr (by decide)), kset_ne _ _ (Or.inl (by decide)), g2]
      · rw [kset_ne _ _ (Or.inr (by decide)), kset_ne _ _ (Or.inl (by decide)), g3]
      · rw [kset_ne _ _ (Or.inl (by decide)), kset_ne _ _ (Or.inl (by decide)), mHurtF_met, mHurtF_met, kw, kv]
        exact g4.kset.kset
theorem SInv.m {w : kW} {n m0 : Nat} (h : SInv n m0 w) (hm0 : m0 ≤ 177) : ∃ m, w.1 0 28 = nI m ∧ m < 200 := by
  obtain ⟨m, t, h1, h2, h3, h4, h5⟩ := mTk_t h hm0
  exact ⟨m, h1, h2⟩
theorem mAnswer_sq {c : Nat} {w v : kW} {n m0 i j : Nat} {deg dawn : Int32} (hS : SInv n m0 w) (hm0 : m0 ≤ 177) (hi : i < n) (hj : j < n) (hp : PEq c w v) (hq : SQ n w v) : SQ n (mAnswer w i j deg dawn) (mAnswer v i j deg dawn) := by
  obtain ⟨t, m, h1, h2, h3, h4, h5, h6, h7⟩ := id hq
  have hS' := mAnswer_inv (deg := deg) (dawn := dawn) hS hm0 hi hj
  obtain ⟨t2, u1, u2⟩ := hS'.t hm0
  obtain ⟨m2, u3, u4⟩ := hS'.m hm0
  revert u1 u3
  simp only [mAnswer, mTouch_eq hp, mSec_eq hS.1 hj hp h7.1 h7.2.1, mSec_eq hS.1 hi hp h7.1 h7.2.1]
  split
  · split
    · exact fun _ _ => hq
    · rename_i a ha
      split
      · exact fun _ _ => hq
      · rename_i b hb
        intro u1 u3
        obtain ⟨t', g1, g2, g3, g4, g5, g6⟩ := mMeet_sq (a := a) (b := b) (x := nI j) (y := nI i) (dawn := dawn) (hp.1 5 (by decide) (by decide)) (hp.1 6 (by decide) (by decide)) h3 h4 h2 h5 h6 h1 h7
        have q1 := nI_inj (by omega) (by omega) (u1.symm.trans g4)
        have q2 := nI_inj (by omega) (by omega) (u3.symm.trans g2)
        exact ⟨t', m + 1, by omega, by omega, g2, g3, g4, g5, g6⟩
  · exact fun _ _ => hq
theorem mTold_sq {c : Nat} {w v : kW} {n m0 d : Nat} (hS : SInv n m0 (kset w 0 22 0)) (hI : Ins n c w) (hm0 : m0 ≤ 177) (hp : PEq c w v) (hq : SQ n (kset w 0 22 0) (kset v 0 22 0)) : ∀ k, k ≤ c → SQ n (mTold w d k) (mTold v d k) ∧ sKeep v (mTold v d k) := by
  intro k
  induction k with
  | zero => exact fun _ => ⟨hq, sKeep.rf.num (by decide)⟩
  | succ k ih =>
    intro hk
    obtain ⟨g1, g2⟩ := ih (by omega)
    obtain ⟨v1, v2⟩ := mTold_inv (d := d) hS hI hm0 k (by omega)
    have hp' := hp.keep v2 g2
    obtain ⟨a, b, dd, g, h1, h2, h3, h4, h5, h6, h7, h8, h9, h10⟩ := (hI.keep v2).2.2 k (by omega)
    have hn := v1.1.le
    simp only [mTold, hp'.2.1 11 k (by decide) (by decide) (by omega), hp'.2.1 12 k (by decide) (by decide) (by omega), hp'.2.1 13 k (by decide) (by decide) (by omega), hp'.2.1 14 k (by decide) (by decide) (by omega), hp'.2.2.2.2 k (by omega), cl_of h7 (show a < 2 ^ 31 by omega), cl_of h8 (show b < 2 ^ 31 by omega)]
    split
    · exact ⟨mAnswer_sq v1 hm0 h1 h2 hp' g1, g2.tr (mAnswer_keep ..)⟩
    · exact ⟨g1, g2⟩
theorem mTk_sq {c : Nat} {w v : kW} {n m0 d t b : Nat} (hS : SInv n m0 w) (hm0 : m0 ≤ 177) (ht : w.1 0 23 = nI t) (ht2 : t < 200) (hb : b ≤ t) (hp : PEq c w v) (hq : SQ n w v) : ∀ k, k ≤ b → SQ n (mTk w d k) (mTk v d k) ∧ sKeep v (mTk v d k) := by
  intro k
  induction k with
  | zero => exact fun _ => ⟨hq, sKeep.rf⟩
  | succ k ih =>
    intro hk
    obtain ⟨g1, g2⟩ := ih (by omega)
    obtain ⟨v1, v2, t', e1, e2⟩ := mTk_inv (d := d) hS hm0 ht ht2 hb k (by omega)
    have hp' := hp.keep v2 g2
    obtain ⟨hP, m, t2, c1, c2, c3, c4, c5⟩ := id hS
    have e3 := nI_inj (by have := bs6_le (w.1 0 22); omega) (by omega) (c2.symm.trans ht)
    subst e3
    obtain ⟨a, b', h1, h2, h3, h4⟩ := c5 k (by omega)
    obtain ⟨r1, r2, r3, r4⟩ := e2.2.2 k (by omega)
    have hn := v1.1.le
    obtain ⟨t3, m3, q1, q2, q3, q4, q5, q6, q7⟩ := id g1
    have e4 := nI_inj (by omega) (by omega) (q5.symm.trans e2.2.1)
    subst e4
    have hk' : k < t3 := by have := e2.1; omega
    simp only [mTk, q7.2.2.1 16 k (by decide) (by decide) hk', q7.2.2.1 17 k (by decide) (by decide) hk', q7.2.2.1 18 k (by decide) (by decide) hk', q7.2.2.1 19 k (by decide) (by decide) hk', cl_of (r1.trans h3) (show a < 2 ^ 31 by omega), cl_of (r2.trans h4) (show b' < 2 ^ 31 by omega)]
    split
    · exact ⟨mAnswer_sq v1 hm0 h1 h2 hp' g1, g2.tr (mAnswer_keep ..)⟩
    · exact ⟨g1, g2⟩
theorem SQ.zero {n : Nat} {w v : kW} (h : SQ n w v) : SQ n (kset w 0 22 0) (kset v 0 22 0) := by
  obtain ⟨t, m, h1, h2, h3, h4, h5, h6, h7⟩ := h
  exact ⟨t, m, h1, h2, h3, h4, h5, h6, h7.kset⟩
theorem mDawn_sq {c : Nat} {w v : kW} {n M d : Nat} (h : DInv n M w) (hM : M ≤ 177) (hI : Ins n c w) (hp : PEq c w v) (hq : SQ n w v) : SQ n (mDawn c w d) (mDawn c v d) ∧ sKeep v (mDawn c v d) := by
  obtain ⟨m0, hm0, hS⟩ := h.start
  obtain ⟨b, hb, eb⟩ := h.t hM
  obtain ⟨g1, g2⟩ := mTold_inv (d := d) hS hI (by omega) c (Nat.le_refl _)
  obtain ⟨t', e1, e2⟩ := mTold_ext (d := d) hS hI (by omega) eb (by omega) c (Nat.le_refl _)
  obtain ⟨f1, f2⟩ := mTold_sq (d := d) hS hI (by omega) hp hq.zero c (Nat.le_refl _)
  obtain ⟨t, m, h1, h2, h3, h4, h5, h6, h7⟩ := id hq
  have e3 := nI_inj (by omega) (by omega) (h5.symm.trans eb)
  subst e3
  obtain ⟨k1, k2⟩ := mTk_sq (d := d) g1 (by omega) e2.2.1 e1 e2.1 (hp.keep g2 f2) f1 t (Nat.le_refl _)
  unfold mDawn
  rw [cl_of h5 (by omega), cl_of h6 (by omega)]
  exact ⟨k1, f2.tr k2⟩
theorem mZero_15 (w : kW) : ∀ n p, p < n → (mZero w n).1 15 p = 0 := by
  intro n
  induction n with
  | zero => intro p h; omega
  | succ n ih =>
    intro p h
    rw [mZero, kset_1, if_pos rfl]
    by_cases e : p = n
    · rw [if_pos e]
    · rw [if_neg e]; exact ih p (by omega)
theorem mBegin_sq {w v : kW} {n : Nat} : SQ n (mBegin n w) (mBegin n v) := by
  refine ⟨0, 0, by decide, by decide, (mZero_23 w n).2, (mZero_23 v n).2, (mZero_23 w n).1, (mZero_23 v n).1, rfl, fun p hp => ?_, fun _ _ _ _ h => absurd h (Nat.not_lt_zero _), fun _ _ _ _ h => absurd h (Nat.not_lt_zero _)⟩
  show (mZero v n).1 15 p = (mZero w n).1 15 p
  rw [mZero_15 v n p hp, mZero_15 w n p hp]
theorem mAhead_sq {c : Nat} {w v : kW} {n : Nat} (hP : Pn n w) (hI : Ins n c w) (hp : PEq c w v) : ∀ d, d ≤ 60 → SQ n (mAhead n c w d) (mAhead n c v d) := by
  intro d
  induction d with
  | zero => exact fun _ => mBegin_sq
  | succ d ih =>
    intro hd
    obtain ⟨g1, g2⟩ := mAhead_inv hP hI d (by omega)
    exact (mDawn_sq g1 (by omega) (hI.keep g2) (hp.keep g2 (mAhead_inv (hp.pn hP) (hp.ins hI) d (by omega)).2) (ih (by omega))).1
theorem mGo_sq {c : Nat} {w v : kW} {n d : Nat} (hP : Pn n w) (hI : Ins n c w) (hp : PEq c w v) (hd : d ≤ 60) : SQ n (mGo n c w d) (mGo n c v d) := (mAhead_sq hP hI hp d hd).zero
end
section
theorem mTouch_c (w : kW) (p : Nat) : mTouch w p = mTc (w.1 4 p) (w.1 5 p) := rfl
set_option maxRecDepth 100000 in
set_option maxHeartbeats 4000000 in
theorem s_X7_bit {w : kW} {x : Int32} : Spec shC yX7_bit cX7_bit 1 (some .int) 0 0 [.int x] w (fun r w' => r = some (.int (1 <<< (x &&& 31))) ∧ w = w') := by
  refine k_enter pn_X7 (Nat.le_of_ble_eq_true rfl) ?_
  refine b_iconst (v := 1) dX7_bit_0 (by decide) ?_
  refine b_iload_n dX7_bit_1 rfl ?_
  refine b_ishl dX7_bit_2 ?_
  refine b_iret dX7_bit_3 rfl ⟨?_, ?_⟩
  · rfl
  · rfl

set_option maxRecDepth 100000 in
set_option maxHeartbeats 4000000 in
theorem s_X7_in {w : kW} {s : Int32} {k : Nat} (hk : k < 32) : Spec shC yX7_in cX7_in 2 (some .boolean) 0 0 [.int s, .int (nI k)] w (fun r w' => w = w' ∧ ((r = some (.int 1) ∧ (bt s k = true)) ∨ (r = some (.int 0) ∧ ¬ (bt s k = true)))) := by
  refine k_enter pn_X7 (Nat.le_of_ble_eq_true rfl) ?_
  refine b_iload_n dX7_in_0 rfl ?_
  refine b_iload_n dX7_in_1 rfl ?_
  refine b_ishr dX7_in_2 ?_
  refine b_iconst (v := 1) dX7_in_3 (by decide) ?_
  refine b_iand dX7_in_4 ?_
  refine b_iconst (v := 1) dX7_in_5 (by decide) ?_
  refine b_icmp_ne (tgt := 13) dX7_in_6 (by decide) (fun h6 => ?_) (fun h6 => ?_)
  · refine b_iconst (v := 0) dX7_in_13 (by decide) ?_
    refine b_zret (Or.inl rfl) dX7_in_14 rfl ⟨rfl, Or.inr ⟨rfl, ?_⟩⟩
    exact fun h => h6 ((bit_1 _ hk).mpr h)
  · refine b_iconst (v := 1) dX7_in_9 (by decide) ?_
    refine b_goto (tgt := 14) dX7_in_10 (by decide) ?_
    refine b_zret (Or.inr rfl) dX7_in_14 rfl ⟨rfl, Or.inl ⟨rfl, ?_⟩⟩
    exact (bit_1 _ hk).mp h6

set_option maxRecDepth 100000 in
set_option maxHeartbeats 4000000 in
theorem s_X1_pairOf {w : kW} {k : Nat} (hk : k < 180) : Spec shC yX1_pairOf cX1_pairOf 2 (some .int) 1 20 [.ref 16, .int (nI k)] w (fun r w' => r = some (.int (1 <<< (w.1 19 k &&& 31) ||| 1 <<< (w.1 20 k &&& 31))) ∧ w = w') := by
  refine k_enter pn_X1 (Nat.le_of_ble_eq_true rfl) ?_
  refine b_aload_n dX1_pairOf_0 rfl ?_
  refine b_getr dX1_pairOf_1 gf_X1_11 rfl rfl ?_
  refine b_iconst (v := 1) dX1_pairOf_4 (by decide) ?_
  refine b_aald (r := 19) dX1_pairOf_5 rfl (by decide) (by unfold vp_in; decide) rfl ?_
  refine b_iload_n dX1_pairOf_6 rfl ?_
  refine b_ialdN dX1_pairOf_7 rfl ⟨by omega, by decide⟩ ?_
  refine b_callSN1 dX1_pairOf_8 lk_X1_20 ⟨Nat.le_of_ble_eq_true rfl, Nat.le_of_ble_eq_true rfl⟩ (Nat.le_of_ble_eq_true rfl) (s_X7_bit) (fun r w8 h8 => ?_)
  obtain ⟨rfl, rfl⟩ := h8
  refine b_aload_n dX1_pairOf_11 rfl ?_
  refine b_getr dX1_pairOf_12 gf_X1_11 rfl rfl ?_
  refine b_iconst (v := 2) dX1_pairOf_15 (by decide) ?_
  refine b_aald (r := 20) dX1_pairOf_16 rfl (by decide) (by unfold vp_in; decide) rfl ?_
  refine b_iload_n dX1_pairOf_17 rfl ?_
  refine b_ialdN dX1_pairOf_18 rfl ⟨by omega, by decide⟩ ?_
  refine b_callSN1 dX1_pairOf_19 lk_X1_20 ⟨Nat.le_of_ble_eq_true rfl, Nat.le_of_ble_eq_true rfl⟩ (Nat.le_of_ble_eq_true rfl) (s_X7_bit) (fun r w19 h19 => ?_)
  obtain ⟨rfl, rfl⟩ := h19
  refine b_ior dX1_pairOf_22 ?_
  refine b_iret dX1_pairOf_23 rfl ⟨?_, ?_⟩
  · rfl
  · rfl

set_option maxRecDepth 100000 in
set_option maxHeartbeats 4000000 in
theorem s_X1_add {w : kW} {m : Nat} {d a b x y h : Int32} (hm : w.1 16 0 = nI m) (hm2 : m < 180) : Spec shC yX1_add cX1_add 7 none 0 0 [.ref 16, .int d, .int a, .int b, .int x, .int y, .int h] w (fun r w' => r = none ∧ (kset (kset (kset (kset (kset (kset (kset w 18 m d) 19 m a) 20 m b) 21 m x) 22 m y) 23 m h) 16 0 (nI m + 1)) = w') := by
  refine k_enter pn_X1 (Nat.le_of_ble_eq_true rfl) ?_
  refine b_aload_n dX1_add_0 rfl ?_
  refine b_geti dX1_add_1 gf_X1_16 rfl rfl ?_
  refine b_topi (y := nI m) hm ?_
  refine b_sipush (v := 180) dX1_add_4 (by decide) ?_
  refine b_icmp_ge (tgt := 95) dX1_add_7 (by decide) (fun h7 => ?_) (fun h7 => ?_)
  · exact absurd h7 (nI_ge (b := 180) hm2 (by decide))
  · refine b_aload_n dX1_add_10 rfl ?_
    refine b_getr dX1_add_11 gf_X1_11 rfl rfl ?_
    refine b_iconst (v := 0) dX1_add_14 (by decide) ?_
    refine b_aald (r := 18) dX1_add_15 rfl (by decide) (by unfold vp_in; decide) rfl ?_
    refine b_aload_n dX1_add_16 rfl ?_
    refine b_geti dX1_add_17 gf_X1_16 rfl rfl ?_
    refine b_topi (y := nI m) hm ?_
    refine b_iload_n dX1_add_20 rfl ?_
    refine b_iastN dX1_add_21 rfl ⟨by omega, by decide⟩ ?_
    refine b_aload_n dX1_add_22 rfl ?_
    refine b_getr dX1_add_23 gf_X1_11 rfl rfl ?_
    refine b_iconst (v := 1) dX1_add_26 (by decide) ?_
    refine b_aald (r := 19) dX1_add_27 rfl (by decide) (by unfold vp_in; decide) rfl ?_
    refine b_aload_n dX1_add_28 rfl ?_
    refine b_geti dX1_add_29 gf_X1_16 rfl rfl ?_
    refine b_topi (y := nI m) hm ?_
    refine b_iload_n dX1_add_32 rfl ?_
    refine b_iastN dX1_add_33 rfl ⟨by omega, by decide⟩ ?_
    refine b_aload_n dX1_add_34 rfl ?_
    refine b_getr dX1_add_35 gf_X1_11 rfl rfl ?_
    refine b_iconst (v := 2) dX1_add_38 (by decide) ?_
    refine b_aald (r := 20) dX1_add_39 rfl (by decide) (by unfold vp_in; decide) rfl ?_
    refine b_aload_n dX1_add_40 rfl ?_
    refine b_geti dX1_add_41 gf_X1_16 rfl rfl ?_
    refine b_topi (y := nI m) hm ?_
    refine b_iload_n dX1_add_44 rfl ?_
    refine b_iastN dX1_add_45 rfl ⟨by omega, by decide⟩ ?_
    refine b_aload_n dX1_add_46 rfl ?_
    refine b_getr dX1_add_47 gf_X1_11 rfl rfl ?_
    refine b_iconst (v := 3) dX1_add_50 (by decide) ?_
    refine b_aald (r := 21) dX1_add_51 rfl (by decide) (by unfold vp_in; decide) rfl ?_
    refine b_aload_n dX1_add_52 rfl ?_
    refine b_geti dX1_add_53 gf_X1_16 rfl rfl ?_
    refine b_topi (y := nI m) hm ?_
    refine b_iload dX1_add_56 rfl ?_
    refine b_iastN dX1_add_58 rfl ⟨by omega, by decide⟩ ?_
    refine b_aload_n dX1_add_59 rfl ?_
    refine b_getr dX1_add_60 gf_X1_11 rfl rfl ?_
    refine b_iconst (v := 4) dX1_add_63 (by decide) ?_
    refine b_aald (r := 22) dX1_add_64 rfl (by decide) (by unfold vp_in; decide) rfl ?_
    refine b_aload_n dX1_add_65 rfl ?_
    refine b_geti dX1_add_66 gf_X1_16 rfl rfl ?_
    refine b_topi (y := nI m) hm ?_
    refine b_iload dX1_add_69 rfl ?_
    refine b_iastN dX1_add_71 rfl ⟨by omega, by decide⟩ ?_
    refine b_aload_n dX1_add_72 rfl ?_
    refine b_getr dX1_add_73 gf_X1_11 rfl rfl ?_
    refine b_iconst (v := 5) dX1_add_76 (by decide) ?_
    refine b_aald (r := 23) dX1_add_77 rfl (by decide) (by unfold vp_in; decide) rfl ?_
    refine b_aload_n dX1_add_78 rfl ?_
    refine b_geti dX1_add_79 gf_X1_16 rfl rfl ?_
    refine b_topi (y := nI m) hm ?_
    refine b_iload dX1_add_82 rfl ?_
    refine b_iastN dX1_add_84 rfl ⟨by omega, by decide⟩ ?_
    refine b_aload_n dX1_add_85 rfl ?_
    refine b_dup dX1_add_86 rfl ?_
    refine b_geti dX1_add_87 gf_X1_16 rfl rfl ?_
    refine b_topi (y := nI m) hm ?_
    refine b_iconst (v := 1) dX1_add_90 (by decide) ?_
    refine b_iadd dX1_add_91 ?_
    refine b_puti dX1_add_92 gf_X1_16 gs_X1_0 rfl rfl ?_
    refine b_vret dX1_add_95 rfl ⟨rfl, ?_⟩
    rfl

set_option maxRecDepth 100000 in
set_option maxHeartbeats 4000000 in
theorem s_X0_add_6 {w : kW} {m : Nat} {a b d g : Int32} (hm : w.1 6 0 = nI m) (hm2 : m < 9) : Spec shC yX0_add cX0_add 5 none 0 0 [.ref 6, .int a, .int b, .int d, .int g] w (fun r w' => r = none ∧ (kset (kset (kset (kset (kset w 7 m a) 8 m b) 9 m d) 10 m g) 6 0 (nI m + 1)) = w') := by
  refine k_enter pn_X0 (Nat.le_of_ble_eq_true rfl) ?_
  refine b_aload_n dX0_add_0 rfl ?_
  refine b_geti dX0_add_1 gf_X0_22 rfl rfl ?_
  refine b_topi (y := nI m) hm ?_
  refine b_aload_n dX0_add_4 rfl ?_
  refine b_getr dX0_add_5 gf_X0_7 rfl rfl ?_
  refine b_alen dX0_add_8 rfl (by decide) rfl ?_
  refine b_icmp_ge (tgt := 63) dX0_add_9 (by decide) (fun h9 => ?_) (fun h9 => ?_)
  · exact absurd h9 (nI_ge (b := 9) hm2 (by decide))
  · refine b_aload_n dX0_add_12 rfl ?_
    refine b_getr dX0_add_13 gf_X0_7 rfl rfl ?_
    refine b_aload_n dX0_add_16 rfl ?_
    refine b_geti dX0_add_17 gf_X0_22 rfl rfl ?_
    refine b_topi (y := nI m) hm ?_
    refine b_iload_n dX0_add_20 rfl ?_
    refine b_iastN dX0_add_21 rfl ⟨by omega, by decide⟩ ?_
    refine b_aload_n dX0_add_22 rfl ?_
    refine b_getr dX0_add_23 gf_X0_13 rfl rfl ?_
    refine b_aload_n dX0_add_26 rfl ?_
    refine b_geti dX0_add_27 gf_X0_22 rfl rfl ?_
    refine b_topi (y := nI m) hm ?_
    refine b_iload_n dX0_add_30 rfl ?_
    refine b_iastN dX0_add_31 rfl ⟨by omega, by decide⟩ ?_
    refine b_aload_n dX0_add_32 rfl ?_
    refine b_getr dX0_add_33 gf_X0_16 rfl rfl ?_
    refine b_aload_n dX0_add_36 rfl ?_
    refine b_geti dX0_add_37 gf_X0_22 rfl rfl ?_
    refine b_topi (y := nI m) hm ?_
    refine b_iload_n dX0_add_40 rfl ?_
    refine b_iastN dX0_add_41 rfl ⟨by omega, by decide⟩ ?_
    refine b_aload_n dX0_add_42 rfl ?_
    refine b_getr dX0_add_43 gf_X0_19 rfl rfl ?_
    refine b_aload_n dX0_add_46 rfl ?_
    refine b_geti dX0_add_47 gf_X0_22 rfl rfl ?_
    refine b_topi (y := nI m) hm ?_
    refine b_iload dX0_add_50 rfl ?_
    refine b_iastN dX0_add_52 rfl ⟨by omega, by decide⟩ ?_
    refine b_aload_n dX0_add_53 rfl ?_
    refine b_dup dX0_add_54 rfl ?_
    refine b_geti dX0_add_55 gf_X0_22 rfl rfl ?_
    refine b_topi (y := nI m) hm ?_
    refine b_iconst (v := 1) dX0_add_58 (by decide) ?_
    refine b_iadd dX0_add_59 ?_
    refine b_puti dX0_add_60 gf_X0_22 gs_X0_0 rfl rfl ?_
    refine b_vret dX0_add_63 rfl ⟨rfl, ?_⟩
    rfl

set_option maxRecDepth 100000 in
set_option maxHeartbeats 4000000 in
theorem s_X0_add_24 {w : kW} {m : Nat} {a b d g : Int32} (hm : w.1 24 0 = nI m) (hm2 : m < 180) : Spec shC yX0_add cX0_add 5 none 0 0 [.ref 24, .int a, .int b, .int d, .int g] w (fun r w' => r = none ∧ (kset (kset (kset (kset (kset w 25 m a) 26 m b) 27 m d) 28 m g) 24 0 (nI m + 1)) = w') := by
  refine k_enter pn_X0 (Nat.le_of_ble_eq_true rfl) ?_
  refine b_aload_n dX0_add_0 rfl ?_
  refine b_geti dX0_add_1 gf_X0_22 rfl rfl ?_
  refine b_topi (y := nI m) hm ?_
  refine b_aload_n dX0_add_4 rfl ?_
  refine b_getr dX0_add_5 gf_X0_7 rfl rfl ?_
  refine b_alen dX0_add_8 rfl (by decide) rfl ?_
  refine b_icmp_ge (tgt := 63) dX0_add_9 (by decide) (fun h9 => ?_) (fun h9 => ?_)
  · exact absurd h9 (nI_ge (b := 180) hm2 (by decide))
  · refine b_aload_n dX0_add_12 rfl ?_
    refine b_getr dX0_add_13 gf_X0_7 rfl rfl ?_
    refine b_aload_n dX0_add_16 rfl ?_
    refine b_geti dX0_add_17 gf_X0_22 rfl rfl ?_
    refine b_topi (y := nI m) hm ?_
    refine b_iload_n dX0_add_20 rfl ?_
    refine b_iastN dX0_add_21 rfl ⟨by omega, by decide⟩ ?_
    refine b_aload_n dX0_add_22 rfl ?_
    refine b_getr dX0_add_23 gf_X0_13 rfl rfl ?_
    refine b_aload_n dX0_add_26 rfl ?_
    refine b_geti dX0_add_27 gf_X0_22 rfl rfl ?_
    refine b_topi (y := nI m) hm ?_
    refine b_iload_n dX0_add_30 rfl ?_
    refine b_iastN dX0_add_31 rfl ⟨by omega, by decide⟩ ?_
    refine b_aload_n dX0_add_32 rfl ?_
    refine b_getr dX0_add_33 gf_X0_16 rfl rfl ?_
    refine b_aload_n dX0_add_36 rfl ?_
    refine b_geti dX0_add_37 gf_X0_22 rfl rfl ?_
    refine b_topi (y := nI m) hm ?_
    refine b_iload_n dX0_add_40 rfl ?_
    refine b_iastN dX0_add_41 rfl ⟨by omega, by decide⟩ ?_
    refine b_aload_n dX0_add_42 rfl ?_
    refine b_getr dX0_add_43 gf_X0_19 rfl rfl ?_
    refine b_aload_n dX0_add_46 rfl ?_
    refine b_geti dX0_add_47 gf_X0_22 rfl rfl ?_
    refine b_topi (y := nI m) hm ?_
    refine b_iload dX0_add_50 rfl ?_
    refine b_iastN dX0_add_52 rfl ⟨by omega, by decide⟩ ?_
    refine b_aload_n dX0_add_53 rfl ?_
    refine b_dup dX0_add_54 rfl ?_
    refine b_geti dX0_add_55 gf_X0_22 rfl rfl ?_
    refine b_topi (y := nI m) hm ?_
    refine b_iconst (v := 1) dX0_add_58 (by decide) ?_
    refine b_iadd dX0_add_59 ?_
    refine b_puti dX0_add_60 gf_X0_22 gs_X0_0 rfl rfl ?_
    refine b_vret dX0_add_63 rfl ⟨rfl, ?_⟩
    rfl

set_option maxRecDepth 100000 in
set_option maxHeartbeats 4000000 in
theorem s_X2_has {w : kW} {p : Int32} : Spec shC yX2_has cX2_has 2 (some .boolean) 0 0 [.ref 1, .int p] w (fun r w' => w = w' ∧ ((r = some (.int 1) ∧ (¬ p < 0 ∧ p < w.1 1 0)) ∨ (r = some (.int 0) ∧ ¬ (¬ p < 0 ∧ p < w.1 1 0)))) := by
  refine k_enter pn_X2 (Nat.le_of_ble_eq_true rfl) ?_
  refine b_iload_n dX2_has_0 rfl ?_
  refine b_if_lt (tgt := 16) dX2_has_1 (by decide) (fun h1 => ?_) (fun h1 => ?_)
  · refine b_iconst (v := 0) dX2_has_16 (by decide) ?_
    refine b_zret (Or.inl rfl) dX2_has_17 rfl ⟨rfl, Or.inr ⟨rfl, ?_⟩⟩
    exact fun h => by first | exact h.1 h1 | exact absurd h.2 (Int32.not_lt.mpr h9)
  · refine b_iload_n dX2_has_4 rfl ?_
    refine b_aload_n dX2_has_5 rfl ?_
    refine b_geti dX2_has_6 gf_X2_24 rfl rfl ?_
    refine b_icmp_ge (tgt := 16) dX2_has_9 (by decide) (fun h9 => ?_) (fun h9 => ?_)
    · refine b_iconst (v := 0) dX2_has_16 (by decide) ?_
      refine b_zret (Or.inl rfl) dX2_has_17 rfl ⟨rfl, Or.inr ⟨rfl, ?_⟩⟩
      exact fun h => by first | exact h.1 h1 | exact absurd h.2 (Int32.not_lt.mpr h9)
    · refine b_iconst (v := 1) dX2_has_12 (by decide) ?_
      refine b_goto (tgt := 17) dX2_has_13 (by decide) ?_
      refine b_zret (Or.inr rfl) dX2_has_17 rfl ⟨rfl, Or.inl ⟨rfl, ?_⟩⟩
      exact ⟨h1, Int32.not_le.mp h9⟩

set_option maxRecDepth 100000 in
set_option maxHeartbeats 4000000 in
theorem s_X2_hasTwo {w : kW} {p q : Int32} : Spec shC yX2_hasTwo cX2_hasTwo 3 (some .boolean) 1 21 [.ref 1, .int p, .int q] w (fun r w' => w = w' ∧ ((r = some (.int 1) ∧ ((¬ p < 0 ∧ p < w.1 1 0) ∧ (¬ q < 0 ∧ q < w.1 1 0) ∧ ¬ p = q)) ∨ (r = some (.int 0) ∧ ¬ ((¬ p < 0 ∧ p < w.1 1 0) ∧ (¬ q < 0 ∧ q < w.1 1 0) ∧ ¬ p = q)))) := by
  refine k_enter pn_X2 (Nat.le_of_ble_eq_true rfl) ?_
  refine b_aload_n dX2_hasTwo_0 rfl ?_
  refine b_iload_n dX2_hasTwo_1 rfl ?_
  refine b_callV1 dX2_hasTwo_2 lk_X2_28 rfl rfl rfl ⟨Nat.le_of_ble_eq_true rfl, Nat.le_of_ble_eq_true rfl⟩ (Nat.le_of_ble_eq_true rfl) (s_X2_has) (fun r w2 h2 => ?_)
  obtain ⟨rfl, h2⟩ := h2
  rcases h2 with ⟨rfl, h2⟩ | ⟨rfl, h2⟩
  · refine b_if_eq (tgt := 25) dX2_hasTwo_5 (by decide) (fun h5 => absurd h5 (by decide)) (fun h5 => ?_)
    refine b_aload_n dX2_hasTwo_8 rfl ?_
    refine b_iload_n dX2_hasTwo_9 rfl ?_
    refine b_callV1 dX2_hasTwo_10 lk_X2_28 rfl rfl rfl ⟨Nat.le_of_ble_eq_true rfl, Nat.le_of_ble_eq_true rfl⟩ (Nat.le_of_ble_eq_true rfl) (s_X2_has) (fun r w10 h10 => ?_)
    obtain ⟨rfl, h10⟩ := h10
    rcases h10 with ⟨rfl, h10⟩ | ⟨rfl, h10⟩
    · refine b_if_eq (tgt := 25) dX2_hasTwo_13 (by decide) (fun h13 => absurd h13 (by decide)) (fun h13 => ?_)
      refine b_iload_n dX2_hasTwo_16 rfl ?_
      refine b_iload_n dX2_hasTwo_17 rfl ?_
      refine b_icmp_eq (tgt := 25) dX2_hasTwo_18 (by decide) (fun h18 => ?_) (fun h18 => ?_)
      · refine b_iconst (v := 0) dX2_hasTwo_25 (by decide) ?_
        refine b_zret (Or.inl rfl) dX2_hasTwo_26 rfl ⟨rfl, Or.inr ⟨rfl, ?_⟩⟩
        exact fun h => by first | exact h2 h.1 | exact h10 h.2.1 | exact h.2.2 h18
      · refine b_iconst (v := 1) dX2_hasTwo_21 (by decide) ?_
        refine b_goto (tgt := 26) dX2_hasTwo_22 (by decide) ?_
        refine b_zret (Or.inr rfl) dX2_hasTwo_26 rfl ⟨rfl, Or.inl ⟨rfl, ?_⟩⟩
        exact ⟨h2, h10, h18⟩
    · refine b_if_eq (tgt := 25) dX2_hasTwo_13 (by decide) (fun h13 => ?_) (fun h13 => absurd h13 (by decide))
      refine b_iconst (v := 0) dX2_hasTwo_25 (by decide) ?_
      refine b_zret (Or.inl rfl) dX2_hasTwo_26 rfl ⟨rfl, Or.inr ⟨rfl, ?_⟩⟩
      exact fun h => by first | exact h2 h.1 | exact h10 h.2.1 | exact h.2.2 h18
  · refine b_if_eq (tgt := 25) dX2_hasTwo_5 (by decide) (fun h5 => ?_) (fun h5 => absurd h5 (by decide))
    refine b_iconst (v := 0) dX2_hasTwo_25 (by decide) ?_
    refine b_zret (Or.inl rfl) dX2_hasTwo_26 rfl ⟨rfl, Or.inr ⟨rfl, ?_⟩⟩
    exact fun h => by first | exact h2 h.1 | exact h10 h.2.1 | exact h.2.2 h18

set_option maxRecDepth 100000 in
set_option maxHeartbeats 4000000 in
theorem s_X2_touchiness {w : kW} {p h kd : Nat} (hp : p < 6) (h1 : 1 ≤ h) (h9 : h ≤ 9) (hk : kd ≤ 2) (eh : w.1 3 p = nI h) (ek : w.1 2 p = nI kd) : Spec shC yX2_touchiness cX2_touchiness 4 (some .int) 1 21 [.ref 1, .int (nI p)] w (fun r w' => r = some (.int (mTc (nI kd) (nI h))) ∧ w = w') := by
  refine k_enter pn_X2 (Nat.le_of_ble_eq_true rfl) ?_
  refine b_bipush (v := 10) dX2_touchiness_0 (by decide) ?_
  refine b_aload_n dX2_touchiness_2 rfl ?_
  refine b_getr dX2_touchiness_3 gf_X2_15 rfl rfl ?_
  refine b_iload_n dX2_touchiness_6 rfl ?_
  refine b_ialdN dX2_touchiness_7 rfl ⟨by omega, by decide⟩ ?_
  refine b_topi (y := nI h) eh ?_
  refine b_isub dX2_touchiness_8 ?_
  refine b_istore_n dX2_touchiness_9 (by decide) ?_
  refine b_iconst (v := 1) dX2_touchiness_10 (by decide) ?_
  refine b_iload_n dX2_touchiness_11 rfl ?_
  refine b_iconst (v := 2) dX2_touchiness_12 (by decide) ?_
  refine b_isub dX2_touchiness_13 ?_
  refine b_max dX2_touchiness_14 lk_X2_32 (Nat.le_of_ble_eq_true rfl) (Nat.le_of_ble_eq_true rfl) ?_
  refine b_istore_n dX2_touchiness_17 (by decide) ?_
  refine b_aload_n dX2_touchiness_18 rfl ?_
  refine b_getr dX2_touchiness_19 gf_X2_9 rfl rfl ?_
  refine b_iload_n dX2_touchiness_22 rfl ?_
  refine b_ialdN dX2_touchiness_23 rfl ⟨by omega, by decide⟩ ?_
  refine b_topi (y := nI kd) ek ?_
  rcases (show kd = 0 ∨ kd = 1 ∨ kd = 2 by omega) with rfl | rfl | rfl
  · refine b_lsw (off := 38) (tgt := 62) dX2_touchiness_24 (by decide) (by decide) (by decide) ?_
    refine b_iload_n dX2_touchiness_62 rfl ?_
    refine b_iret dX2_touchiness_63 rfl ⟨?_, ?_⟩
    · rcases (show h = 1 ∨ h = 2 ∨ h = 3 ∨ h = 4 ∨ h = 5 ∨ h = 6 ∨ h = 7 ∨ h = 8 ∨ h = 9 by omega) with rfl | rfl | rfl | rfl | rfl | rfl | rfl | rfl | rfl <;> rfl
    · rfl
  · refine b_lsw (off := 36) (tgt := 60) dX2_touchiness_24 (by decide) (by decide) (by decide) ?_
    refine b_iload_n dX2_touchiness_60 rfl ?_
    refine b_iret dX2_touchiness_61 rfl ⟨?_, ?_⟩
    · rcases (show h = 1 ∨ h = 2 ∨ h = 3 ∨ h = 4 ∨ h = 5 ∨ h = 6 ∨ h = 7 ∨ h = 8 ∨ h = 9 by omega) with rfl | rfl | rfl | rfl | rfl | rfl | rfl | rfl | rfl <;> rfl
    · rfl
  · refine b_lsw (off := 28) (tgt := 52) dX2_touchiness_24 (by decide) (by decide) (by decide) ?_
    refine b_iconst (v := 1) dX2_touchiness_52 (by decide) ?_
    refine b_iload_n dX2_touchiness_53 rfl ?_
    refine b_iconst (v := 1) dX2_touchiness_54 (by decide) ?_
    refine b_isub dX2_touchiness_55 ?_
    refine b_max dX2_touchiness_56 lk_X2_32 (Nat.le_of_ble_eq_true rfl) (Nat.le_of_ble_eq_true rfl) ?_
    refine b_iret dX2_touchiness_59 rfl ⟨?_, ?_⟩
    · rcases (show h = 1 ∨ h = 2 ∨ h = 3 ∨ h = 4 ∨ h = 5 ∨ h = 6 ∨ h = 7 ∨ h = 8 ∨ h = 9 by omega) with rfl | rfl | rfl | rfl | rfl | rfl | rfl | rfl | rfl <;> rfl
    · rfl

/-- the persons of both sides -/
def RP (n : Nat) (w g : kW) : Prop := Pn n g ∧ w.1 1 0 = nI n ∧ ∀ p, p < n → w.1 2 p = g.1 4 p ∧ w.1 3 p = g.1 5 p ∧ w.1 4 p = g.1 6 (2 * p) ∧ w.1 5 p = g.1 6 (2 * p + 1)
theorem RP.f1 {n p : Nat} {w g : kW} (h : RP n w g) (hp : p < n) : w.1 4 p = nI (fr g (2 * p)) ∧ fr g (2 * p) < n := by
  have h1 := h.1.frd (k := 2 * p) (by omega)
  exact ⟨(h.2.2 p hp).2.2.1.trans h1.2, h1.1⟩
theorem RP.f2 {n p : Nat} {w g : kW} (h : RP n w g) (hp : p < n) : w.1 5 p = nI (fr g (2 * p + 1)) ∧ fr g (2 * p + 1) < n := by
  have h1 := h.1.frd (k := 2 * p + 1) (by omega)
  exact ⟨(h.2.2 p hp).2.2.2.trans h1.2, h1.1⟩
theorem b_f {b : Bool} (h : ¬ b = true) : b = false := by simpa using h

set_option maxRecDepth 100000 in
set_option maxHeartbeats 4000000 in
theorem s_X2_secondAmong {w g : kW} {n p : Nat} {o : Int32} (hR : RP n w g) (hp : p < n) : Spec shC yX2_secondAmong cX2_secondAmong 5 (some .int) 1 21 [.ref 1, .int (nI p), .int o] w (fun r w' => r = some (.int (oI ((mCh g p).find? (fun x => bt o x)))) ∧ w = w') := by
  have hn := hR.1.le
  have a1 := hR.f1 hp
  have a2 := hR.f2 hp
  have a3 := hR.f1 a1.2
  have a4 := hR.f2 a1.2
  have a5 := hR.f1 a2.2
  have a6 := hR.f2 a2.2
  refine k_enter pn_X2 (Nat.le_of_ble_eq_true rfl) ?_
  refine b_aload_n dX2_secondAmong_0 rfl ?_
  refine b_getr dX2_secondAmong_1 gf_X2_18 rfl rfl ?_
  refine b_iload_n dX2_secondAmong_4 rfl ?_
  refine b_ialdN dX2_secondAmong_5 rfl ⟨by omega, by decide⟩ ?_
  refine b_topi (y := nI (fr g (2 * p))) a1.1 ?_
  refine b_istore_n dX2_secondAmong_6 (by decide) ?_
  refine b_aload_n dX2_secondAmong_7 rfl ?_
  refine b_getr dX2_secondAmong_8 gf_X2_21 rfl rfl ?_
  refine b_iload_n dX2_secondAmong_11 rfl ?_
  refine b_ialdN dX2_secondAmong_12 rfl ⟨by omega, by decide⟩ ?_
  refine b_topi (y := nI (fr g (2 * p + 1))) a2.1 ?_
  refine b_istore dX2_secondAmong_13 (by decide) ?_
  refine b_iload_n dX2_secondAmong_15 rfl ?_
  refine b_iload_n dX2_secondAmong_16 rfl ?_
  refine b_callSN2 dX2_secondAmong_17 lk_X2_38 ⟨Nat.le_of_ble_eq_true rfl, Nat.le_of_ble_eq_true rfl⟩ (Nat.le_of_ble_eq_true rfl) (s_X7_in (by omega)) (fun r w17 h17 => ?_)
  obtain ⟨rfl, h17⟩ := h17
  rcases h17 with ⟨rfl, h17⟩ | ⟨rfl, h17⟩
  · refine b_if_eq (tgt := 25) dX2_secondAmong_20 (by decide) (fun h20 => absurd h20 (by decide)) (fun h20 => ?_)
    refine b_iload_n dX2_secondAmong_23 rfl ?_
    exact b_iret dX2_secondAmong_24 rfl ⟨by unfold mCh; rw [fr_stop h17]; rfl, rfl⟩
  · refine b_if_eq (tgt := 25) dX2_secondAmong_20 (by decide) (fun h20 => ?_) (fun h20 => absurd h20 (by decide))
    refine b_iload_n dX2_secondAmong_25 rfl ?_
    refine b_iload dX2_secondAmong_26 rfl ?_
    refine b_callSN2 dX2_secondAmong_28 lk_X2_38 ⟨Nat.le_of_ble_eq_true rfl, Nat.le_of_ble_eq_true rfl⟩ (Nat.le_of_ble_eq_true rfl) (s_X7_in (by omega)) (fun r w28 h28 => ?_)
    obtain ⟨rfl, h28⟩ := h28
    rcases h28 with ⟨rfl, h28⟩ | ⟨rfl, h28⟩
    · refine b_if_eq (tgt := 37) dX2_secondAmong_31 (by decide) (fun h31 => absurd h31 (by decide)) (fun h31 => ?_)
      refine b_iload dX2_secondAmong_34 rfl ?_
      exact b_iret dX2_secondAmong_36 rfl ⟨by unfold mCh; rw [fr_step (b_f h17), fr_stop h28]; rfl, rfl⟩
    · refine b_if_eq (tgt := 37) dX2_secondAmong_31 (by decide) (fun h31 => ?_) (fun h31 => absurd h31 (by decide))
      refine b_iload_n dX2_secondAmong_37 rfl ?_
      refine b_aload_n dX2_secondAmong_38 rfl ?_
      refine b_getr dX2_secondAmong_39 gf_X2_18 rfl rfl ?_
      refine b_iload_n dX2_secondAmong_42 rfl ?_
      refine b_ialdN dX2_secondAmong_43 rfl ⟨by omega, by decide⟩ ?_
      refine b_topi (y := nI (fr g (2 * fr g (2 * p)))) a3.1 ?_
      refine b_callSN2 dX2_secondAmong_44 lk_X2_38 ⟨Nat.le_of_ble_eq_true rfl, Nat.le_of_ble_eq_true rfl⟩ (Nat.le_of_ble_eq_true rfl) (s_X7_in (by omega)) (fun r w44 h44 => ?_)
      obtain ⟨rfl, h44⟩ := h44
      rcases h44 with ⟨rfl, h44⟩ | ⟨rfl, h44⟩
      · refine b_if_eq (tgt := 57) dX2_secondAmong_47 (by decide) (fun h47 => absurd h47 (by decide)) (fun h47 => ?_)
        refine b_aload_n dX2_secondAmong_50 rfl ?_
        refine b_getr dX2_secondAmong_51 gf_X2_18 rfl rfl ?_
        refine b_iload_n dX2_secondAmong_54 rfl ?_
        refine b_ialdN dX2_secondAmong_55 rfl ⟨by omega, by decide⟩ ?_
        refine b_topi (y := nI (fr g (2 * fr g (2 * p)))) a3.1 ?_
        exact b_iret dX2_secondAmong_56 rfl ⟨by unfold mCh; rw [fr_step (b_f h17), fr_step (b_f h28), fr_stop h44]; rfl, rfl⟩
      · refine b_if_eq (tgt := 57) dX2_secondAmong_47 (by decide) (fun h47 => ?_) (fun h47 => absurd h47 (by decide))
        refine b_iload_n dX2_secondAmong_57 rfl ?_
        refine b_aload_n dX2_secondAmong_58 rfl ?_
        refine b_getr dX2_secondAmong_59 gf_X2_21 rfl rfl ?_
        refine b_iload_n dX2_secondAmong_62 rfl ?_
        refine b_ialdN dX2_secondAmong_63 rfl ⟨by omega, by decide⟩ ?_
        refine b_topi (y := nI (fr g (2 * fr g (2 * p) + 1))) a4.1 ?_
        refine b_callSN2 dX2_secondAmong_64 lk_X2_38 ⟨Nat.le_of_ble_eq_true rfl, Nat.le_of_ble_eq_true rfl⟩ (Nat.le_of_ble_eq_true rfl) (s_X7_in (by omega)) (fun r w64 h64 => ?_)
        obtain ⟨rfl, h64⟩ := h64
        rcases h64 with ⟨rfl, h64⟩ | ⟨rfl, h64⟩
        · refine b_if_eq (tgt := 77) dX2_secondAmong_67 (by decide) (fun h67 => absurd h67 (by decide)) (fun h67 => ?_)
          refine b_aload_n dX2_secondAmong_70 rfl ?_
          refine b_getr dX2_secondAmong_71 gf_X2_21 rfl rfl ?_
          refine b_iload_n dX2_secondAmong_74 rfl ?_
          refine b_ialdN dX2_secondAmong_75 rfl ⟨by omega, by decide⟩ ?_
          refine b_topi (y := nI (fr g (2 * fr g (2 * p) + 1))) a4.1 ?_
          exact b_iret dX2_secondAmong_76 rfl ⟨by unfold mCh; rw [fr_step (b_f h17), fr_step (b_f h28), fr_step (b_f h44), fr_stop h64]; rfl, rfl⟩
        · refine b_if_eq (tgt := 77) dX2_secondAmong_67 (by decide) (fun h67 => ?_) (fun h67 => absurd h67 (by decide))
          refine b_iload_n dX2_secondAmong_77 rfl ?_
          refine b_aload_n dX2_secondAmong_78 rfl ?_
          refine b_getr dX2_secondAmong_79 gf_X2_18 rfl rfl ?_
          refine b_iload dX2_secondAmong_82 rfl ?_
          refine b_ialdN dX2_secondAmong_84 rfl ⟨by omega, by decide⟩ ?_
          refine b_topi (y := nI (fr g (2 * fr g (2 * p + 1)))) a5.1 ?_
          refine b_callSN2 dX2_secondAmong_85 lk_X2_38 ⟨Nat.le_of_ble_eq_true rfl, Nat.le_of_ble_eq_true rfl⟩ (Nat.le_of_ble_eq_true rfl) (s_X7_in (by omega)) (fun r w85 h85 => ?_)
          obtain ⟨rfl, h85⟩ := h85
          rcases h85 with ⟨rfl, h85⟩ | ⟨rfl, h85⟩
          · refine b_if_eq (tgt := 99) dX2_secondAmong_88 (by decide) (fun h88 => absurd h88 (by decide)) (fun h88 => ?_)
            refine b_aload_n dX2_secondAmong_91 rfl ?_
            refine b_getr dX2_secondAmong_92 gf_X2_18 rfl rfl ?_
            refine b_iload dX2_secondAmong_95 rfl ?_
            refine b_ialdN dX2_secondAmong_97 rfl ⟨by omega, by decide⟩ ?_
            refine b_topi (y := nI (fr g (2 * fr g (2 * p + 1)))) a5.1 ?_
            exact b_iret dX2_secondAmong_98 rfl ⟨by unfold mCh; rw [fr_step (b_f h17), fr_step (b_f h28), fr_step (b_f h44), fr_step (b_f h64), fr_stop h85]; rfl, rfl⟩
          · refine b_if_eq (tgt := 99) dX2_secondAmong_88 (by decide) (fun h88 => ?_) (fun h88 => absurd h88 (by decide))
            refine b_iload_n dX2_secondAmong_99 rfl ?_
            refine b_aload_n dX2_secondAmong_100 rfl ?_
            refine b_getr dX2_secondAmong_101 gf_X2_21 rfl rfl ?_
            refine b_iload dX2_secondAmong_104 rfl ?_
            refine b_ialdN dX2_secondAmong_106 rfl ⟨by omega, by decide⟩ ?_
            refine b_topi (y := nI (fr g (2 * fr g (2 * p + 1) + 1))) a6.1 ?_
            refine b_callSN2 dX2_secondAmong_107 lk_X2_38 ⟨Nat.le_of_ble_eq_true rfl, Nat.le_of_ble_eq_true rfl⟩ (Nat.le_of_ble_eq_true rfl) (s_X7_in (by omega)) (fun r w107 h107 => ?_)
            obtain ⟨rfl, h107⟩ := h107
            rcases h107 with ⟨rfl, h107⟩ | ⟨rfl, h107⟩
            · refine b_if_eq (tgt := 123) dX2_secondAmong_110 (by decide) (fun h110 => absurd h110 (by decide)) (fun h110 => ?_)
              refine b_aload_n dX2_secondAmong_113 rfl ?_
              refine b_getr dX2_secondAmong_114 gf_X2_21 rfl rfl ?_
              refine b_iload dX2_secondAmong_117 rfl ?_
              refine b_ialdN dX2_secondAmong_119 rfl ⟨by omega, by decide⟩ ?_
              refine b_topi (y := nI (fr g (2 * fr g (2 * p + 1) + 1))) a6.1 ?_
              refine b_goto (tgt := 125) dX2_secondAmong_120 (by decide) ?_
              exact b_iret dX2_secondAmong_125 rfl ⟨by unfold mCh; rw [fr_step (b_f h17), fr_step (b_f h28), fr_step (b_f h44), fr_step (b_f h64), fr_step (b_f h85), fr_stop h107]; rfl, rfl⟩
            · refine b_if_eq (tgt := 123) dX2_secondAmong_110 (by decide) (fun h110 => ?_) (fun h110 => absurd h110 (by decide))
              refine b_bipush (v := (-9)) dX2_secondAmong_123 (by decide) ?_
              exact b_iret dX2_secondAmong_125 rfl ⟨by unfold mCh; rw [fr_step (b_f h17), fr_step (b_f h28), fr_step (b_f h44), fr_step (b_f h64), fr_step (b_f h85), fr_step (b_f h107)]; rfl, rfl⟩

def fillF (w : kW) (c : Nat) (v : Int32) : Nat → kW
  | 0 => w
  | k + 1 => kset (fillF w c v k) c k v
theorem fillF_row {w : kW} {c : Nat} {v : Int32} {c' : Nat} (h : c' ≠ c) : ∀ k, (fillF w c v k).1 c' = w.1 c'
  | 0 => rfl
  | k + 1 => by rw [fillF, kset_row _ _ _ _ h, fillF_row h k]
theorem fillF_2 {w : kW} {c : Nat} {v : Int32} : ∀ k, (fillF w c v k).2 = w.2
  | 0 => rfl
  | k + 1 => by rw [fillF, kset_2, fillF_2 k]
theorem fillF_in {w : kW} {c : Nat} {v : Int32} : ∀ k j, j < k → (fillF w c v k).1 c j = v
  | 0, j, h => by omega
  | k + 1, j, h => by
    rw [fillF, kset_1, if_pos rfl]
    by_cases e : j = k
    · rw [if_pos e]
    · rw [if_neg e]; exact fillF_in k j (by omega)

set_option maxRecDepth 100000 in
set_option maxHeartbeats 4000000 in
theorem s_fill_lp {w : kW} {c N : Nat} {v : Int32} (hc : shC[c]? = some (.inr (.inl (0, N)))) (hN : N ≤ 180) : ∀ q k, k + q = N → BS shC RJ7 cJ7_fill_53178 4 none 0 0 (fun r w' => r = none ∧ fillF w c v N = w') 5 [(0, .ref c), (1, .int v), (2, .int (nI k)), (3, .int (nI N))] [] (fillF w c v k) := by
  intro q
  induction q with
  | zero =>
    intro k hk
    refine b_iload_n dJ7_fill_53178_5 rfl ?_
    refine b_iload_n dJ7_fill_53178_6 rfl ?_
    refine b_icmp_ge (tgt := 20) dJ7_fill_53178_7 (by decide) (fun h7 => ?_) (fun h7 => ?_)
    · refine b_vret dJ7_fill_53178_20 rfl ⟨rfl, ?_⟩
      (have e : k = N := by omega); subst e; rfl
    · exact absurd (nI_le (by omega) (by omega)) h7
  | succ q ih =>
    intro k hk
    refine b_iload_n dJ7_fill_53178_5 rfl ?_
    refine b_iload_n dJ7_fill_53178_6 rfl ?_
    refine b_icmp_ge (tgt := 20) dJ7_fill_53178_7 (by decide) (fun h7 => ?_) (fun h7 => ?_)
    · exact absurd h7 (nI_ge (by omega) (by omega))
    · refine b_aload_n dJ7_fill_53178_10 rfl ?_
      refine b_iload_n dJ7_fill_53178_11 rfl ?_
      refine b_iload_n dJ7_fill_53178_12 rfl ?_
      refine b_iastN dJ7_fill_53178_13 hc ⟨by omega, by omega⟩ ?_
      refine b_iinc dJ7_fill_53178_14 rfl (nI_inc k) (by decide) ?_
      refine b_goto (tgt := 5) dJ7_fill_53178_17 (by decide) ?_
      refine b_sub [1, 2, 0, 3] rfl ?_
      exact ih (k + 1) (by omega)

set_option maxRecDepth 100000 in
set_option maxHeartbeats 4000000 in
theorem s_fill {w : kW} {c N : Nat} {v : Int32} (hc : shC[c]? = some (.inr (.inl (0, N)))) (hN : N ≤ 180) : Spec shC yJ7_fill_53178 cJ7_fill_53178 4 none 0 0 [.ref c, .int v] w (fun r w' => r = none ∧ fillF w c v N = w') := by
  refine k_enter pn_J7 (Nat.le_of_ble_eq_true rfl) ?_
  refine b_iconst (v := 0) dJ7_fill_53178_0 (by decide) ?_
  refine b_istore_n dJ7_fill_53178_1 (by decide) ?_
  refine b_aload_n dJ7_fill_53178_2 rfl ?_
  refine b_alen dJ7_fill_53178_3 hc (by decide) rfl ?_
  refine b_istore_n dJ7_fill_53178_4 (by decide) ?_
  refine b_sub [2, 3, 1, 0] rfl ?_
  exact s_fill_lp hc hN N 0 (by omega)
end
section
set_option maxRecDepth 100000 in
set_option maxHeartbeats 4000000 in
theorem s_X4_freeAhead_lp {w : kW} {n : Nat} {d : Int32} (hn0 : w.1 1 0 = nI n) (hn : n ≤ 6) : ∀ q k, k + q = n → ∀ s : Int32, (∀ p, p < 6 → (bt s p = true ↔ p < k ∧ bt (w.1 15 9) p = false ∧ w.1 29 p ≤ d)) → BS shC RX4 cX4_freeAhead 4 (some .int) 1 21 (fun r w' => w = w' ∧ ∃ s, r = some (.int s) ∧ ∀ p, p < 6 → (bt s p = true ↔ p < n ∧ bt (w.1 15 9) p = false ∧ w.1 29 p ≤ d)) 4 [(0, .ref 15), (1, .int d), (2, .int s), (3, .int (nI k))] [] w := by
  intro q
  induction q with
  | zero =>
    intro k hk s hs
    refine b_iload_n dX4_freeAhead_4 rfl ?_
    refine b_aload_n dX4_freeAhead_5 rfl ?_
    refine b_getr dX4_freeAhead_6 gf_X4_31 rfl rfl ?_
    refine b_geti dX4_freeAhead_9 gf_X4_90 rfl rfl ?_
    refine b_topi (y := nI n) hn0 ?_
    refine b_icmp_ge (tgt := 49) dX4_freeAhead_12 (by decide) (fun h12 => ?_) (fun h12 => ?_)
    · refine b_iload_n dX4_freeAhead_49 rfl ?_
      exact b_iret dX4_freeAhead_50 rfl ⟨rfl, s, rfl, by (have e : k = n := by omega); subst e; exact hs⟩
    · exact absurd (nI_le (by omega) (by omega)) h12
  | succ q ih =>
    intro k hk s hs
    refine b_iload_n dX4_freeAhead_4 rfl ?_
    refine b_aload_n dX4_freeAhead_5 rfl ?_
    refine b_getr dX4_freeAhead_6 gf_X4_31 rfl rfl ?_
    refine b_geti dX4_freeAhead_9 gf_X4_90 rfl rfl ?_
    refine b_topi (y := nI n) hn0 ?_
    refine b_icmp_ge (tgt := 49) dX4_freeAhead_12 (by decide) (fun h12 => ?_) (fun h12 => ?_)
    · exact absurd h12 (nI_ge (by omega) (by omega))
    · refine b_aload_n dX4_freeAhead_15 rfl ?_
      refine b_geti dX4_freeAhead_16 gf_X4_49 rfl rfl ?_
      refine b_iload_n dX4_freeAhead_19 rfl ?_
      refine b_callSN2 dX4_freeAhead_20 lk_X4_59 ⟨Nat.le_of_ble_eq_true rfl, Nat.le_of_ble_eq_true rfl⟩ (Nat.le_of_ble_eq_true rfl) (s_X7_in (by omega)) (fun r w20 h20 => ?_)
      obtain ⟨rfl, h20⟩ := h20
      rcases h20 with ⟨rfl, h20⟩ | ⟨rfl, h20⟩
      · refine b_if_ne (tgt := 43) dX4_freeAhead_23 (by decide) (fun h23 => ?_) (fun h23 => absurd h23 (by decide))
        refine b_iinc dX4_freeAhead_43 rfl (nI_inc k) (by decide) ?_
        refine b_goto (tgt := 4) dX4_freeAhead_46 (by decide) ?_
        refine b_sub [1, 2, 3, 0] rfl ?_
        refine ih (k + 1) (by omega) _ (fun p hp => ?_)
        rw [hs p hp]
        constructor
        · exact fun h => ⟨by omega, h.2⟩
        · intro h
          by_cases e : p = k
          · subst e
            exact absurd (h20.symm.trans h.2.1) (by decide)
          · exact ⟨by omega, h.2⟩
      · refine b_if_ne (tgt := 43) dX4_freeAhead_23 (by decide) (fun h23 => absurd h23 (by decide)) (fun h23 => ?_)
        refine b_aload_n dX4_freeAhead_26 rfl ?_
        refine b_getr dX4_freeAhead_27 gf_X4_27 rfl rfl ?_
        refine b_iload_n dX4_freeAhead_30 rfl ?_
        refine b_ialdN dX4_freeAhead_31 rfl ⟨by omega, by decide⟩ ?_
        refine b_iload_n dX4_freeAhead_32 rfl ?_
        refine b_icmp_gt (tgt := 43) dX4_freeAhead_33 (by decide) (fun h33 => ?_) (fun h33 => ?_)
        · refine b_iinc dX4_freeAhead_43 rfl (nI_inc k) (by decide) ?_
          refine b_goto (tgt := 4) dX4_freeAhead_46 (by decide) ?_
          refine b_sub [1, 2, 3, 0] rfl ?_
          refine ih (k + 1) (by omega) _ (fun p hp => ?_)
          rw [hs p hp]
          constructor
          · exact fun h => ⟨by omega, h.2⟩
          · intro h
            by_cases e : p = k
            · subst e
              exact absurd h.2.2 (Int32.not_le.mpr h33)
            · exact ⟨by omega, h.2⟩
        · refine b_iload_n dX4_freeAhead_36 rfl ?_
          refine b_iload_n dX4_freeAhead_37 rfl ?_
          refine b_callSN1 dX4_freeAhead_38 lk_X4_93 ⟨Nat.le_of_ble_eq_true rfl, Nat.le_of_ble_eq_true rfl⟩ (Nat.le_of_ble_eq_true rfl) (s_X7_bit) (fun r w38 h38 => ?_)
          obtain ⟨rfl, rfl⟩ := h38
          refine b_ior dX4_freeAhead_41 ?_
          refine b_istore_n dX4_freeAhead_42 (by decide) ?_
          refine b_iinc dX4_freeAhead_43 rfl (nI_inc k) (by decide) ?_
          refine b_goto (tgt := 4) dX4_freeAhead_46 (by decide) ?_
          refine b_sub [2, 3, 1, 0] rfl ?_
          refine ih (k + 1) (by omega) _ (fun p hp => ?_)
          rw [b_or, bit_one (by omega) (by omega), Bool.or_eq_true, hs p hp, decide_eq_true_eq]
          constructor
          · rintro (h | rfl)
            · exact ⟨by omega, h.2⟩
            · exact ⟨by omega, b_f h20, Int32.not_lt.mp h33⟩
          · intro h
            by_cases e : p = k
            · exact Or.inr e
            · exact Or.inl ⟨by omega, h.2⟩

set_option maxRecDepth 100000 in
set_option maxHeartbeats 4000000 in
theorem s_X4_freeAhead {w : kW} {n : Nat} {d : Int32} (hn0 : w.1 1 0 = nI n) (hn : n ≤ 6) : Spec shC yX4_freeAhead cX4_freeAhead 4 (some .int) 1 21 [.ref 15, .int d] w (fun r w' => w = w' ∧ ∃ s, r = some (.int s) ∧ ∀ p, p < 6 → (bt s p = true ↔ p < n ∧ bt (w.1 15 9) p = false ∧ w.1 29 p ≤ d)) := by
  refine k_enter pn_X4 (Nat.le_of_ble_eq_true rfl) ?_
  refine b_iconst (v := 0) dX4_freeAhead_0 (by decide) ?_
  refine b_istore_n dX4_freeAhead_1 (by decide) ?_
  refine b_iconst (v := 0) dX4_freeAhead_2 (by decide) ?_
  refine b_istore_n dX4_freeAhead_3 (by decide) ?_
  refine b_sub [2, 3, 1, 0] rfl ?_
  exact s_X4_freeAhead_lp hn0 hn n 0 (by omega) 0 (fun p hp => by rw [b_0]; simp)

def cHurt (w : kW) (hu y t : Nat) (d : Int32) : kW :=
  let w1 := kset (kset w 15 1 (w.1 15 1 ||| 1 <<< (nI hu &&& 31))) 29 hu (d + (w.1 3 y - w.1 3 hu) + 2)
  if w.1 4 hu = nI y then w1 else kset (kset (kset (kset (kset w1 25 t (nI y)) 26 t (w.1 4 hu)) 27 t d) 28 t (w.1 3 y - w.1 3 hu)) 24 0 (nI t + 1)
theorem i_abs1 {x y : Nat} (h : y ≤ x) (hx : x ≤ 9) : (if 0 ≤ nI x - nI y then nI x - nI y else 0 - (nI x - nI y)) = nI x - nI y := by
  rw [if_pos (by rw [nI_sub h]; exact nI_pos' (by omega))]
theorem i_abs2 {x y : Nat} (h : x < y) (hx : y ≤ 9) : (if 0 ≤ nI x - nI y then nI x - nI y else 0 - (nI x - nI y)) = nI y - nI x := by
  have e : nI x - nI y = 0 - (nI y - nI x) := by
    rw [Int32.zero_sub, Int32.neg_sub]
  have h1 : ¬ (0 : Int32) ≤ nI x - nI y := by
    have : ∀ x, x < 10 → ∀ y, y < 10 → x < y → ¬ (0 : Int32) ≤ nI x - nI y := by decide +kernel
    exact this x (by omega) y (by omega) h
  rw [if_neg h1, Int32.zero_sub, Int32.neg_sub]
theorem i_sgn {x y : Nat} (hx : x ≤ 9) (hy : y ≤ 9) : (nI x - nI y = 0 ↔ x = y) ∧ (0 ≤ nI x - nI y ↔ y ≤ x) := by
  have : ∀ x, x < 10 → ∀ y, y < 10 → (nI x - nI y = 0 ↔ x = y) ∧ (0 ≤ nI x - nI y ↔ y ≤ x) := by decide +kernel
  exact this x (by omega) y (by omega)

set_option maxRecDepth 100000 in
set_option maxHeartbeats 4000000 in
theorem s_X4_shoot {w : kW} {a b t x y : Nat} {d : Int32} (ha : a < 6) (hb : b < 6) (hx : x ≤ 9) (hy : y ≤ 9) (ea : w.1 3 a = nI x) (eb : w.1 3 b = nI y) (ht : w.1 24 0 = nI t) (ht2 : t < 180) : Spec shC yX4_shoot cX4_shoot 9 (some .int) 1 24 [.ref 15, .int (nI a), .int (nI b), .int d] w (fun r w' => r = some (.int (if x = y then -9 else if y ≤ x then nI b else nI a)) ∧ (if x = y then w else if y ≤ x then cHurt w b a t d else cHurt w a b t d) = w') := by
  have eab1 : w.1 3 a - w.1 3 b = nI x - nI y := by rw [ea, eb]
  have eab2 : w.1 3 b - w.1 3 a = nI y - nI x := by rw [ea, eb]
  refine k_enter pn_X4 (Nat.le_of_ble_eq_true rfl) ?_
  refine b_aload_n dX4_shoot_0 rfl ?_
  refine b_getr dX4_shoot_1 gf_X4_31 rfl rfl ?_
  refine b_getr dX4_shoot_4 gf_X4_120 rfl rfl ?_
  refine b_iload_n dX4_shoot_7 rfl ?_
  refine b_ialdN dX4_shoot_8 rfl ⟨by omega, by decide⟩ ?_
  refine b_topi (y := nI x) ea ?_
  refine b_aload_n dX4_shoot_9 rfl ?_
  refine b_getr dX4_shoot_10 gf_X4_31 rfl rfl ?_
  refine b_getr dX4_shoot_13 gf_X4_120 rfl rfl ?_
  refine b_iload_n dX4_shoot_16 rfl ?_
  refine b_ialdN dX4_shoot_17 rfl ⟨by omega, by decide⟩ ?_
  refine b_topi (y := nI y) eb ?_
  refine b_isub dX4_shoot_18 ?_
  refine b_istore dX4_shoot_19 (by decide) ?_
  refine b_iload dX4_shoot_21 rfl ?_
  refine b_if_ne (tgt := 29) dX4_shoot_23 (by decide) (fun h23 => ?_) (fun h23 => ?_)
  · refine b_iload dX4_shoot_29 rfl ?_
    refine b_if_ge (tgt := 38) dX4_shoot_31 (by decide) (fun h31 => ?_) (fun h31 => ?_)
    · refine b_iload_n dX4_shoot_38 rfl ?_
      refine b_istore dX4_shoot_39 (by decide) ?_
      refine b_iload dX4_shoot_41 rfl ?_
      refine b_if_ge (tgt := 50) dX4_shoot_43 (by decide) (fun h43 => ?_) (fun h43 => ?_)
      · refine b_iload_n dX4_shoot_50 rfl ?_
        refine b_istore dX4_shoot_51 (by decide) ?_
        refine b_iload dX4_shoot_53 rfl ?_
        refine b_abs dX4_shoot_55 lk_X4_123 (Nat.le_of_ble_eq_true rfl) (Nat.le_of_ble_eq_true rfl) ?_
        refine b_topi (y := nI x - nI y) (i_abs1 ((i_sgn hx hy).2.mp h31) hx) ?_
        refine b_istore dX4_shoot_58 (by decide) ?_
        refine b_aload_n dX4_shoot_60 rfl ?_
        refine b_dup dX4_shoot_61 rfl ?_
        refine b_geti dX4_shoot_62 gf_X4_70 rfl rfl ?_
        refine b_iload dX4_shoot_65 rfl ?_
        refine b_callSN1 dX4_shoot_67 lk_X4_93 ⟨Nat.le_of_ble_eq_true rfl, Nat.le_of_ble_eq_true rfl⟩ (Nat.le_of_ble_eq_true rfl) (s_X7_bit) (fun r w67 h67 => ?_)
        obtain ⟨rfl, rfl⟩ := h67
        refine b_ior dX4_shoot_70 ?_
        refine b_puti dX4_shoot_71 gf_X4_70 gs_X4_1 rfl rfl ?_
        refine b_aload_n dX4_shoot_74 rfl ?_
        refine b_getr dX4_shoot_75 gf_X4_27 rfl rfl ?_
        refine b_iload dX4_shoot_78 rfl ?_
        refine b_iload_n dX4_shoot_80 rfl ?_
        refine b_iload dX4_shoot_81 rfl ?_
        refine b_iadd dX4_shoot_83 ?_
        refine b_iconst (v := 2) dX4_shoot_84 (by decide) ?_
        refine b_iadd dX4_shoot_85 ?_
        refine b_iastN dX4_shoot_86 rfl ⟨by omega, by decide⟩ ?_
        refine b_aload_n dX4_shoot_87 rfl ?_
        refine b_getr dX4_shoot_88 gf_X4_31 rfl rfl ?_
        refine b_getr dX4_shoot_91 gf_X4_128 rfl rfl ?_
        refine b_iload dX4_shoot_94 rfl ?_
        refine b_ialdN dX4_shoot_96 rfl ⟨by omega, by decide⟩ ?_
        refine b_topi (y := w.1 4 b) rfl ?_
        refine b_istore dX4_shoot_97 (by decide) ?_
        refine b_iload dX4_shoot_99 rfl ?_
        refine b_iload dX4_shoot_101 rfl ?_
        refine b_icmp_eq (tgt := 120) dX4_shoot_103 (by decide) (fun h103 => ?_) (fun h103 => ?_)
        · refine b_iload dX4_shoot_120 rfl ?_
          refine b_iret dX4_shoot_122 rfl ⟨by rw [if_neg (fun e => h23 ((i_sgn hx hy).1.mpr e)), if_pos ((i_sgn hx hy).2.mp h31)], ?_⟩
          rw [if_neg (fun e => h23 ((i_sgn hx hy).1.mpr e)), if_pos ((i_sgn hx hy).2.mp h31)]
          simp only [cHurt, if_pos h103, eab1]
          rfl
        · refine b_aload_n dX4_shoot_106 rfl ?_
          refine b_getr dX4_shoot_107 gf_X4_23 rfl rfl ?_
          refine b_iload dX4_shoot_110 rfl ?_
          refine b_iload dX4_shoot_112 rfl ?_
          refine b_iload_n dX4_shoot_114 rfl ?_
          refine b_iload dX4_shoot_115 rfl ?_
          refine b_callV4 dX4_shoot_117 lk_X4_131 rfl rfl rfl ⟨Nat.le_of_ble_eq_true rfl, Nat.le_of_ble_eq_true rfl⟩ (Nat.le_of_ble_eq_true rfl) (s_X0_add_24 ht ht2) (fun r w117 h117 => ?_)
          obtain ⟨rfl, rfl⟩ := h117
          refine b_iload dX4_shoot_120 rfl ?_
          refine b_iret dX4_shoot_122 rfl ⟨by rw [if_neg (fun e => h23 ((i_sgn hx hy).1.mpr e)), if_pos ((i_sgn hx hy).2.mp h31)], ?_⟩
          rw [if_neg (fun e => h23 ((i_sgn hx hy).1.mpr e)), if_pos ((i_sgn hx hy).2.mp h31)]
          simp only [cHurt, if_neg h103, eab1]
          rfl
      · exact absurd h31 h43
    · refine b_iload_n dX4_shoot_34 rfl ?_
      refine b_goto (tgt := 39) dX4_shoot_35 (by decide) ?_
      refine b_istore dX4_shoot_39 (by decide) ?_
      refine b_iload dX4_shoot_41 rfl ?_
      refine b_if_ge (tgt := 50) dX4_shoot_43 (by decide) (fun h43 => ?_) (fun h43 => ?_)
      · exact absurd h43 h31
      · refine b_iload_n dX4_shoot_46 rfl ?_
        refine b_goto (tgt := 51) dX4_shoot_47 (by decide) ?_
        refine b_istore dX4_shoot_51 (by decide) ?_
        refine b_iload dX4_shoot_53 rfl ?_
        refine b_abs dX4_shoot_55 lk_X4_123 (Nat.le_of_ble_eq_true rfl) (Nat.le_of_ble_eq_true rfl) ?_
        refine b_topi (y := nI y - nI x) (i_abs2 (Nat.not_le.mp (fun e => h31 ((i_sgn hx hy).2.mpr e))) hy) ?_
        refine b_istore dX4_shoot_58 (by decide) ?_
        refine b_aload_n dX4_shoot_60 rfl ?_
        refine b_dup dX4_shoot_61 rfl ?_
        refine b_geti dX4_shoot_62 gf_X4_70 rfl rfl ?_
        refine b_iload dX4_shoot_65 rfl ?_
        refine b_callSN1 dX4_shoot_67 lk_X4_93 ⟨Nat.le_of_ble_eq_true rfl, Nat.le_of_ble_eq_true rfl⟩ (Nat.le_of_ble_eq_true rfl) (s_X7_bit) (fun r w67 h67 => ?_)
        obtain ⟨rfl, rfl⟩ := h67
        refine b_ior dX4_shoot_70 ?_
        refine b_puti dX4_shoot_71 gf_X4_70 gs_X4_1 rfl rfl ?_
        refine b_aload_n dX4_shoot_74 rfl ?_
        refine b_getr dX4_shoot_75 gf_X4_27 rfl rfl ?_
        refine b_iload dX4_shoot_78 rfl ?_
        refine b_iload_n dX4_shoot_80 rfl ?_
        refine b_iload dX4_shoot_81 rfl ?_
        refine b_iadd dX4_shoot_83 ?_
        refine b_iconst (v := 2) dX4_shoot_84 (by decide) ?_
        refine b_iadd dX4_shoot_85 ?_
        refine b_iastN dX4_shoot_86 rfl ⟨by omega, by decide⟩ ?_
        refine b_aload_n dX4_shoot_87 rfl ?_
        refine b_getr dX4_shoot_88 gf_X4_31 rfl rfl ?_
        refine b_getr dX4_shoot_91 gf_X4_128 rfl rfl ?_
        refine b_iload dX4_shoot_94 rfl ?_
        refine b_ialdN dX4_shoot_96 rfl ⟨by omega, by decide⟩ ?_
        refine b_topi (y := w.1 4 a) rfl ?_
        refine b_istore dX4_shoot_97 (by decide) ?_
        refine b_iload dX4_shoot_99 rfl ?_
        refine b_iload dX4_shoot_101 rfl ?_
        refine b_icmp_eq (tgt := 120) dX4_shoot_103 (by decide) (fun h103 => ?_) (fun h103 => ?_)
        · refine b_iload dX4_shoot_120 rfl ?_
          refine b_iret dX4_shoot_122 rfl ⟨by rw [if_neg (fun e => h23 ((i_sgn hx hy).1.mpr e)), if_neg (fun e => h31 ((i_sgn hx hy).2.mpr e))], ?_⟩
          rw [if_neg (fun e => h23 ((i_sgn hx hy).1.mpr e)), if_neg (fun e => h31 ((i_sgn hx hy).2.mpr e))]
          simp only [cHurt, if_pos h103, eab2]
          rfl
        · refine b_aload_n dX4_shoot_106 rfl ?_
          refine b_getr dX4_shoot_107 gf_X4_23 rfl rfl ?_
          refine b_iload dX4_shoot_110 rfl ?_
          refine b_iload dX4_shoot_112 rfl ?_
          refine b_iload_n dX4_shoot_114 rfl ?_
          refine b_iload dX4_shoot_115 rfl ?_
          refine b_callV4 dX4_shoot_117 lk_X4_131 rfl rfl rfl ⟨Nat.le_of_ble_eq_true rfl, Nat.le_of_ble_eq_true rfl⟩ (Nat.le_of_ble_eq_true rfl) (s_X0_add_24 ht ht2) (fun r w117 h117 => ?_)
          obtain ⟨rfl, rfl⟩ := h117
          refine b_iload dX4_shoot_120 rfl ?_
          refine b_iret dX4_shoot_122 rfl ⟨by rw [if_neg (fun e => h23 ((i_sgn hx hy).1.mpr e)), if_neg (fun e => h31 ((i_sgn hx hy).2.mpr e))], ?_⟩
          rw [if_neg (fun e => h23 ((i_sgn hx hy).1.mpr e)), if_neg (fun e => h31 ((i_sgn hx hy).2.mpr e))]
          simp only [cHurt, if_neg h103, eab2]
          rfl
  · refine b_bipush (v := (-9)) dX4_shoot_26 (by decide) ?_
    exact b_iret dX4_shoot_28 rfl ⟨by rw [if_pos ((i_sgn hx hy).1.mp h23)], by rw [if_pos ((i_sgn hx hy).1.mp h23)]⟩
end
section
/-! ===== the class's season beside the reference's ===== -/
def cKeep (w w' : kW) : Prop := (∀ c, (c < 15 ∨ 29 < c) → w'.1 c = w.1 c) ∧ (∀ j, j ≠ 1 → j ≠ 10 → w'.1 15 j = w.1 15 j) ∧ w'.2 = w.2
theorem cKeep.rf {w : kW} : cKeep w w := ⟨fun _ _ => rfl, fun _ _ _ => rfl, rfl⟩
theorem cKeep.tr {w v u : kW} (h1 : cKeep w v) (h2 : cKeep v u) : cKeep w u := ⟨fun c a => (h2.1 c a).trans (h1.1 c a), fun j a b => (h2.2.1 j a b).trans (h1.2.1 j a b), h2.2.2.trans h1.2.2⟩
theorem cKeep.row {w v : kW} {c k : Nat} {x : Int32} (h : cKeep w v) (hc : 16 ≤ c ∧ c ≤ 29) : cKeep w (kset v c k x) :=
  h.tr ⟨fun c' h1 => kset_row _ _ _ _ (by omega), fun j _ _ => kset_ne _ _ (Or.inl (by omega)), rfl⟩
theorem cKeep.num {w v : kW} {k : Nat} {x : Int32} (h : cKeep w v) (hc : k = 1 ∨ k = 10) : cKeep w (kset v 15 k x) :=
  h.tr ⟨fun c' h1 => kset_row _ _ _ _ (by omega), fun j _ _ => kset_ne _ _ (Or.inr (by omega)), rfl⟩
theorem RP.keep {n : Nat} {w w' g g' : kW} (h : RP n w g) (h1 : cKeep w w') (h2 : sKeep g g') : RP n w' g' := by
  refine ⟨h.1.keep h2, ?_, fun p hp => ?_⟩
  · rw [h1.1 1 (by decide)]; exact h.2.1
  · rw [h1.1 2 (by decide), h1.1 3 (by decide), h1.1 4 (by decide), h1.1 5 (by decide), h2.1 4 (by decide) (by decide), h2.1 5 (by decide) (by decide), h2.1 6 (by decide) (by decide)]
    exact h.2.2 p hp
def RLb (n m t : Nat) (w g : kW) : Prop := (∀ j k, 20 ≤ j → j ≤ 25 → k < m → w.1 (j - 2) k = g.1 j k) ∧ (∀ k, k < t → w.1 25 k = g.1 16 k ∧ w.1 26 k = g.1 17 k ∧ w.1 27 k = g.1 19 k ∧ w.1 28 k = g.1 18 k) ∧ (∀ p, p < n → w.1 29 p = g.1 15 p)
def RH (m : Nat) (w g : kW) : Prop := ∀ p, p < 6 → (bt (w.1 15 1) p = true ↔ ∃ k, k < m ∧ g.1 25 k = nI p)
def RLg (n : Nat) (w g : kW) : Prop := ∃ m t, m < 200 ∧ t < 200 ∧ g.1 0 28 = nI m ∧ w.1 16 0 = nI m ∧ g.1 0 23 = nI t ∧ w.1 24 0 = nI t ∧ RLb n m t w g ∧ RH m w g
def RF (n : Nat) (d : Int32) (w g : kW) : Prop := ∀ p, p < 6 → (bt (w.1 15 10) p = true ↔ p < n ∧ mFree g p d)
theorem RLb.w {n m t c k : Nat} {w g : kW} {v : Int32} (h : RLb n m t w g) (hc : c ≤ 17 ∨ c = 24 ∨ (c ≤ 23 ∧ k = m) ∨ (25 ≤ c ∧ c ≤ 28 ∧ k = t)) : RLb n m t (kset w c k v) g := by
  refine ⟨fun j k' a b hk => ?_, fun k' hk => ?_, fun p hp => ?_⟩
  · rw [kset_ne _ _ (by omega)]; exact h.1 j k' a b hk
  · rw [kset_ne _ _ (by omega), kset_ne _ _ (by omega), kset_ne _ _ (by omega), kset_ne _ _ (by omega)]; exact h.2.1 k' hk
  · rw [kset_ne _ _ (by omega)]; exact h.2.2 p hp
theorem RLb.g {n m t c k : Nat} {w g : kW} {v : Int32} (h : RLb n m t w g) (hc : c ≤ 14 ∨ (20 ≤ c ∧ k = m) ∨ (16 ≤ c ∧ c ≤ 19 ∧ k = t)) : RLb n m t w (kset g c k v) := by
  refine ⟨fun j k' a b hk => ?_, fun k' hk => ?_, fun p hp => ?_⟩
  · rw [kset_ne _ _ (by omega)]; exact h.1 j k' a b hk
  · rw [kset_ne _ _ (by omega), kset_ne _ _ (by omega), kset_ne _ _ (by omega), kset_ne _ _ (by omega)]; exact h.2.1 k' hk
  · rw [kset_ne _ _ (by omega)]; exact h.2.2 p hp
theorem RLb.well {n m t p : Nat} {w g : kW} {v : Int32} (h : RLb n m t w g) : RLb n m t (kset w 29 p v) (kset g 15 p v) := by
  refine ⟨fun j k' a b hk => ?_, fun k' hk => ?_, fun q hq => ?_⟩
  · rw [kset_ne _ _ (by omega), kset_ne _ _ (by omega)]; exact h.1 j k' a b hk
  · rw [kset_ne _ _ (by omega), kset_ne _ _ (by omega), kset_ne _ _ (by omega), kset_ne _ _ (by omega), kset_ne _ _ (by omega), kset_ne _ _ (by omega), kset_ne _ _ (by omega), kset_ne _ _ (by omega)]; exact h.2.1 k' hk
  · rw [kset_1, kset_1, if_pos rfl, if_pos rfl, h.2.2 q hq]
theorem RLb.upt {n m t : Nat} {w g : kW} (h : RLb n m t w g) (he : w.1 25 t = g.1 16 t ∧ w.1 26 t = g.1 17 t ∧ w.1 27 t = g.1 19 t ∧ w.1 28 t = g.1 18 t) : RLb n m (t + 1) w g :=
  ⟨h.1, fun k hk => by
    by_cases e : k = t
    · subst e; exact he
    · exact h.2.1 k (by omega), h.2.2⟩
theorem RLb.upm {n m t : Nat} {w g : kW} (h : RLb n m t w g) (he : ∀ j, 20 ≤ j → j ≤ 25 → w.1 (j - 2) m = g.1 j m) : RLb n (m + 1) t w g :=
  ⟨fun j k a b hk => by
    by_cases e : k = m
    · subst e; exact he j a b
    · exact h.1 j k a b (by omega), h.2⟩
theorem hurt_rel {w g : kW} {n m t hu y : Nat} {d : Int32} (hh : hu < n) (h3 : ∀ p, p < n → w.1 3 p = g.1 5 p) (hy : y < n) (h4 : w.1 4 hu = g.1 6 (2 * hu)) (tw : w.1 24 0 = nI t) (tg : g.1 0 23 = nI t) (ht : t < 200) (h : RLb n m t w g) : ∃ t', t' ≤ t + 1 ∧ (cHurt w hu y t d).1 24 0 = nI t' ∧ (mHurtF g hu y d).1 0 23 = nI t' ∧ RLb n m t' (cHurt w hu y t d) (mHurtF g hu y d) := by
  simp only [cHurt, mHurtF, cl_of tg (show t < 2 ^ 31 by omega), h3 hu hh, h3 y hy, h4]
  split
  · exact ⟨t, by omega, tw, tg, (h.w (by omega)).well⟩
  · refine ⟨t + 1, Nat.le_refl _, by rw [kset_eq, nI_1], by rw [kset_eq, tg, nI_1], ?_⟩
    refine RLb.g (RLb.w (RLb.upt ?_ ?_) (by omega)) (by omega)
    · exact (((((((((h.w (by omega)).well).w (by omega)).w (by omega)).w (by omega)).w (by omega)).g (by omega)).g (by omega)).g (by omega)).g (by omega)
    · simp [kset_1]
def cMeet (w : kW) (a b m t x y : Nat) (insd insr d : Int32) : kW :=
  let w1 := kset w 15 10 (w.1 15 10 &&& ((1 <<< (nI a &&& 31) ||| 1 <<< (nI b &&& 31)) ^^^ -1))
  let w2 := if x = y then w1 else if y ≤ x then cHurt w1 b a t d else cHurt w1 a b t d
  let hu := if x = y then -9 else if y ≤ x then nI b else nI a
  kset (kset (kset (kset (kset (kset (kset w2 18 m d) 19 m (nI a)) 20 m (nI b)) 21 m insd) 22 m insr) 23 m hu) 16 0 (nI m + 1)
theorem cHurt_keep (w : kW) (hu y t : Nat) (d : Int32) : cKeep w (cHurt w hu y t d) := by
  simp only [cHurt]
  split
  · exact (cKeep.rf.num (by decide)).row (by decide)
  · exact ((((((cKeep.rf.num (by decide)).row (by decide)).row (by decide)).row (by decide)).row (by decide)).row (by decide)).row (by decide)
theorem cHurt_16 (w : kW) (hu y t : Nat) (d : Int32) : (cHurt w hu y t d).1 16 0 = w.1 16 0 := by
  simp only [cHurt]
  split <;> rfl
theorem cHurt_h (w : kW) (hu y t : Nat) (d : Int32) : (cHurt w hu y t d).1 15 1 = w.1 15 1 ||| 1 <<< (nI hu &&& 31) := by
  simp only [cHurt]
  split <;> rfl
theorem cHurt_f (w : kW) (hu y t : Nat) (d : Int32) : (cHurt w hu y t d).1 15 10 = w.1 15 10 := by
  simp only [cHurt]
  split <;> rfl
theorem cMeet_16 (w : kW) (a b t x y : Nat) (d : Int32) : (if x = y then w else if y ≤ x then cHurt w b a t d else cHurt w a b t d).1 16 0 = w.1 16 0 := by
  split
  · rfl
  · split
    · exact cHurt_16 ..
    · exact cHurt_16 ..
theorem mHurtF_25 (w : kW) (hu y : Nat) (d : Int32) : (mHurtF w hu y d).1 25 = w.1 25 ∧ (mHurtF w hu y d).1 0 22 = w.1 0 22 ∧ (mHurtF w hu y d).1 7 = w.1 7 ∧ ∀ p, p ≠ hu → (mHurtF w hu y d).1 15 p = w.1 15 p := by
  simp only [mHurtF]
  split
  · exact ⟨rfl, rfl, rfl, fun p hp => by simp [kset_1, hp]⟩
  · exact ⟨rfl, rfl, rfl, fun p hp => by simp [kset_1, hp]⟩
theorem RH.up {m : Nat} {w g w' g' : kW} {v : Int32} (h : RH m w g) (e : ∀ k, k < m → g'.1 25 k = g.1 25 k) (ev : g'.1 25 m = v) (hb : ∀ p, p < 6 → (bt (w'.1 15 1) p = true ↔ bt (w.1 15 1) p = true ∨ v = nI p)) : RH (m + 1) w' g' := by
  intro p hp
  rw [hb p hp, h p hp]
  constructor
  · rintro (⟨k, h1, h2⟩ | h1)
    · exact ⟨k, by omega, (e k h1).trans h2⟩
    · exact ⟨m, by omega, ev.trans h1⟩
  · rintro ⟨k, h1, h2⟩
    by_cases ek : k = m
    · subst ek; exact Or.inr (ev.symm.trans h2)
    · exact Or.inl ⟨k, by omega, (e k (by omega)).symm.trans h2⟩
theorem bt_m1x (x : Int32) {k : Nat} (hk : k < 32) : bt (x ^^^ -1) k = !bt x k := by
  rw [b_xor, b_m1 k hk, Bool.xor_true]
theorem bt_off (x : Int32) {a b k : Nat} (ha : a < 6) (hb : b < 6) (hk : k < 6) : bt (x &&& ((1 <<< (nI a &&& 31) ||| 1 <<< (nI b &&& 31)) ^^^ -1)) k = (bt x k && !(decide (k = a) || decide (k = b))) := by
  rw [b_and, bt_m1x _ (by omega), b_or, bit_one (by omega) (by omega), bit_one (by omega) (by omega)]
theorem bt_off1 (x : Int32) {a k : Nat} (ha : a < 6) (hk : k < 6) : bt (x &&& ((1 <<< (nI a &&& 31)) ^^^ -1)) k = (bt x k && !decide (k = a)) := by
  rw [b_and, bt_m1x _ (by omega), bit_one (by omega) (by omega)]
theorem mMeet0_rel {w g : kW} {n m t a b : Nat} {x y d : Int32} (hm : g.1 0 28 = nI m) (hm2 : m < 200) (h : RLb n m t w g) : RLb n m t w (mMeet0 g a b x y d) := by
  simp only [mMeet0, cl_of hm (show m < 2 ^ 31 by omega)]
  exact ((((((h.g (by omega)).g (by omega)).g (by omega)).g (by omega)).g (by omega)).g (by omega)).g (by omega)

theorem cMeet_rel {w g : kW} {n m t a b x y : Nat} {insd insr d : Int32} (hP : Pn n g) (ha : a < n) (hb : b < n) (hab : a ≠ b) (hx : x ≤ 9) (hy : y ≤ 9) (ex : g.1 5 a = nI x) (ey : g.1 5 b = nI y) (h3 : ∀ p, p < n → w.1 3 p = g.1 5 p) (h4 : ∀ p, p < n → w.1 4 p = g.1 6 (2 * p)) (mg : g.1 0 28 = nI m) (hm : m < 199) (tg : g.1 0 23 = nI t) (tw : w.1 24 0 = nI t) (ht : t < 199) (h : RLb n m t w g) (hh : RH m w g) (hf : RF n d w g) : RLg n (cMeet w a b m t x y insd insr d) (mMeet g a b insd insr d) ∧ RF n d (cMeet w a b m t x y insd insr d) (mMeet g a b insd insr d) ∧ cKeep w (cMeet w a b m t x y insd insr d) := by
  have hn := hP.le
  have e1 : g.1 5 a = g.1 5 b ↔ x = y := by rw [ex, ey]; exact nI_eq (by omega) (by omega)
  have e2 : g.1 5 b ≤ g.1 5 a ↔ y ≤ x := by rw [ex, ey]; exact nI_leI (by omega) (by omega)
  have g0 : RLb n m t (kset w 15 10 (w.1 15 10 &&& ((1 <<< (nI a &&& 31) ||| 1 <<< (nI b &&& 31)) ^^^ -1))) (mMeet0 g a b insd insr d) := mMeet0_rel mg (by omega) (h.w (by omega))
  have tg0 : (mMeet0 g a b insd insr d).1 0 23 = nI t := tg
  have hbit : (mMeet0 g a b insd insr d).1 0 22 = g.1 0 22 ||| (1 <<< (nI a &&& 31) ||| 1 <<< (nI b &&& 31)) := rfl
  have h25 : ∀ k, k < m → (mMeet0 g a b insd insr d).1 25 k = g.1 25 k := by
    intro k hk
    simp only [mMeet0, cl_of mg (show m < 2 ^ 31 by omega)]
    rw [kset_ne _ _ (by omega)]; rfl
  have hrow : ∀ j, 20 ≤ j → j ≤ 25 → (mMeet0 g a b insd insr d).1 j m = (if j = 20 then d else if j = 21 then nI a else if j = 22 then nI b else if j = 23 then insd else if j = 24 then insr else -9) := by
    intro j h1 h2
    simp only [mMeet0, cl_of mg (show m < 2 ^ 31 by omega)]
    rcases (show j = 20 ∨ j = 21 ∨ j = 22 ∨ j = 23 ∨ j = 24 ∨ j = 25 by omega) with rfl | rfl | rfl | rfl | rfl | rfl <;> simp [kset_1]
  have m28 : (mMeet0 g a b insd insr d).1 0 28 = nI m := mg
  have free : ∀ v : kW, v.1 0 22 = g.1 0 22 ||| (1 <<< (nI a &&& 31) ||| 1 <<< (nI b &&& 31)) → v.1 7 = g.1 7 → (∀ p, p ≠ a → p ≠ b → v.1 15 p = g.1 15 p) → ∀ u : kW, u.1 15 10 = w.1 15 10 &&& ((1 <<< (nI a &&& 31) ||| 1 <<< (nI b &&& 31)) ^^^ -1) → RF n d u v := by
    intro v v1 v2 v3 u u1 p hp
    rw [u1, bt_off _ (by omega) (by omega) hp, Bool.and_eq_true, hf p hp]
    unfold mFree
    rw [v1, v2, bt_two _ (by omega) (by omega) hp]
    by_cases ea : p = a
    · simp [ea]
    · by_cases eb : p = b
      · simp [eb]
      · rw [v3 p ea eb]
        simp [ea, eb]
  simp only [cMeet, mMeet, cl_of mg (show m < 2 ^ 31 by omega), e1, e2]
  by_cases c1 : x = y
  · simp only [if_pos c1]
    refine ⟨⟨m + 1, t, by omega, by omega, by rw [kset_eq, m28, nI_1], by rw [kset_eq, nI_1], tg, tw, ?_, ?_⟩, ?_, ?_⟩
    · refine RLb.g (RLb.w (RLb.upm ((((((g0.w (by omega)).w (by omega)).w (by omega)).w (by omega)).w (by omega)).w (by omega)) (fun j h1 h2 => ?_)) (by omega)) (by omega)
      rw [hrow j h1 h2]
      rcases (show j = 20 ∨ j = 21 ∨ j = 22 ∨ j = 23 ∨ j = 24 ∨ j = 25 by omega) with rfl | rfl | rfl | rfl | rfl | rfl <;> simp [kset_1]
    · refine hh.up (v := -9) (fun k hk => by rw [kset_ne _ _ (by omega)]; exact h25 k hk) ?_ (fun p hp => ?_)
      · rw [kset_ne _ _ (by omega), hrow 25 (by decide) (by decide)]; rfl
      · constructor
        · exact fun h => Or.inl h
        · rintro (h | h)
          · exact h
          · exact absurd h.symm (nI_ne9 (by omega))
    · refine free _ ?_ ?_ (fun _ _ _ => ?_) _ ?_ <;> rfl
    · exact (((((((cKeep.rf.num (by decide)).row (by decide)).row (by decide)).row (by decide)).row (by decide)).row (by decide)).row (by decide)).row (by decide)
  · simp only [if_neg c1]
    by_cases c2 : y ≤ x
    · simp only [if_pos c2]
      obtain ⟨t', q1, q2, q3, q4⟩ := hurt_rel (w := kset w 15 10 (w.1 15 10 &&& ((1 <<< (nI a &&& 31) ||| 1 <<< (nI b &&& 31)) ^^^ -1))) (g := mMeet0 g a b insd insr d) (hu := b) (y := a) (d := d) hb h3 ha (h4 b hb) tw tg0 (by omega) g0
      obtain ⟨r1, r2, r3, r4⟩ := mHurtF_25 (mMeet0 g a b insd insr d) b a d
      have rr : ∀ j, 20 ≤ j → j ≤ 25 → (mHurtF (mMeet0 g a b insd insr d) b a d).1 j m = (mMeet0 g a b insd insr d).1 j m := by
        intro j h1 h2
        simp only [mHurtF]
        split
        · rw [kset_ne _ _ (by omega)]
        · rw [kset_ne _ _ (by omega), kset_ne _ _ (by omega), kset_ne _ _ (by omega), kset_ne _ _ (by omega), kset_ne _ _ (by omega), kset_ne _ _ (by omega)]
      refine ⟨⟨m + 1, t', by omega, by omega, ?_, by rw [kset_eq, nI_1], ?_, ?_, ?_, ?_⟩, ?_, ?_⟩
      · rw [kset_eq, kset_ne _ _ (by omega), mHurtF_met, m28, nI_1]
      · rw [kset_ne _ _ (by omega), kset_ne _ _ (by omega)]; exact q3
      · rw [kset_ne _ _ (by omega), kset_ne _ _ (by omega), kset_ne _ _ (by omega), kset_ne _ _ (by omega), kset_ne _ _ (by omega), kset_ne _ _ (by omega), kset_ne _ _ (by omega)]; exact q2
      · refine RLb.g (RLb.w (RLb.upm (((((((q4.w (by omega)).w (by omega)).w (by omega)).w (by omega)).w (by omega)).w (by omega)).g (by omega)) (fun j h1 h2 => ?_)) (by omega)) (by omega)
        rcases (show j = 20 ∨ j = 21 ∨ j = 22 ∨ j = 23 ∨ j = 24 ∨ j = 25 by omega) with rfl | rfl | rfl | rfl | rfl | rfl <;> simp [kset_1, rr, hrow]
      · refine hh.up (v := nI b) (fun k hk => ?_) ?_ (fun p hp => ?_)
        · rw [kset_ne _ _ (by omega), kset_ne _ _ (by omega), r1]; exact h25 k hk
        · rw [kset_ne _ _ (by omega), kset_eq]
        · rw [kset_ne _ _ (by omega), kset_ne _ _ (by omega), kset_ne _ _ (by omega), kset_ne _ _ (by omega), kset_ne _ _ (by omega), kset_ne _ _ (by omega), kset_ne _ _ (by omega), cHurt_h, b_or, bit_one (by omega) (by omega), Bool.or_eq_true, decide_eq_true_eq, nI_eq (by omega) (by omega)]
          rw [show ((kset w 15 10 (w.1 15 10 &&& ((1 <<< (nI a &&& 31) ||| 1 <<< (nI b &&& 31)) ^^^ -1))).1 15 1) = w.1 15 1 from rfl]
          exact or_congr Iff.rfl eq_comm
      · refine free _ ?_ ?_ (fun p p1 p2 => ?_) _ ?_
        · rw [kset_ne _ _ (by omega), kset_ne _ _ (by omega), r2, hbit]
        · rw [kset_row _ _ _ _ (by omega), kset_row _ _ _ _ (by omega), r3]; rfl
        · rw [kset_ne _ _ (by omega), kset_ne _ _ (by omega), r4 p (by omega)]; rfl
        · rw [kset_ne _ _ (by omega), kset_ne _ _ (by omega), kset_ne _ _ (by omega), kset_ne _ _ (by omega), kset_ne _ _ (by omega), kset_ne _ _ (by omega), kset_ne _ _ (by omega), cHurt_f]; rfl
      · exact (((((((cKeep.rf.num (by decide)).tr (cHurt_keep ..)).row (by decide)).row (by decide)).row (by decide)).row (by decide)).row (by decide)).row (by decide) |>.row (by decide)
    · simp only [if_neg c2]
      obtain ⟨t', q1, q2, q3, q4⟩ := hurt_rel (w := kset w 15 10 (w.1 15 10 &&& ((1 <<< (nI a &&& 31) ||| 1 <<< (nI b &&& 31)) ^^^ -1))) (g := mMeet0 g a b insd insr d) (hu := a) (y := b) (d := d) ha h3 hb (h4 a ha) tw tg0 (by omega) g0
      obtain ⟨r1, r2, r3, r4⟩ := mHurtF_25 (mMeet0 g a b insd insr d) a b d
      have rr : ∀ j, 20 ≤ j → j ≤ 25 → (mHurtF (mMeet0 g a b insd insr d) a b d).1 j m = (mMeet0 g a b insd insr d).1 j m := by
        intro j h1 h2
        simp only [mHurtF]
        split
        · rw [kset_ne _ _ (by omega)]
        · rw [kset_ne _ _ (by omega), kset_ne _ _ (by omega), kset_ne _ _ (by omega), kset_ne _ _ (by omega), kset_ne _ _ (by omega), kset_ne _ _ (by omega)]
      refine ⟨⟨m + 1, t', by omega, by omega, ?_, by rw [kset_eq, nI_1], ?_, ?_, ?_, ?_⟩, ?_, ?_⟩
      · rw [kset_eq, kset_ne _ _ (by omega), mHurtF_met, m28, nI_1]
      · rw [kset_ne _ _ (by omega), kset_ne _ _ (by omega)]; exact q3
      · rw [kset_ne _ _ (by omega), kset_ne _ _ (by omega), kset_ne _ _ (by omega), kset_ne _ _ (by omega), kset_ne _ _ (by omega), kset_ne _ _ (by omega), kset_ne _ _ (by omega)]; exact q2
      · refine RLb.g (RLb.w (RLb.upm (((((((q4.w (by omega)).w (by omega)).w (by omega)).w (by omega)).w (by omega)).w (by omega)).g (by omega)) (fun j h1 h2 => ?_)) (by omega)) (by omega)
        rcases (show j = 20 ∨ j = 21 ∨ j = 22 ∨ j = 23 ∨ j = 24 ∨ j = 25 by omega) with rfl | rfl | rfl | rfl | rfl | rfl <;> simp [kset_1, rr, hrow]
      · refine hh.up (v := nI a) (fun k hk => ?_) ?_ (fun p hp => ?_)
        · rw [kset_ne _ _ (by omega), kset_ne _ _ (by omega), r1]; exact h25 k hk
        · rw [kset_ne _ _ (by omega), kset_eq]
        · rw [kset_ne _ _ (by omega), kset_ne _ _ (by omega), kset_ne _ _ (by omega), kset_ne _ _ (by omega), kset_ne _ _ (by omega), kset_ne _ _ (by omega), kset_ne _ _ (by omega), cHurt_h, b_or, bit_one (by omega) (by omega), Bool.or_eq_true, decide_eq_true_eq, nI_eq (by omega) (by omega)]
          rw [show ((kset w 15 10 (w.1 15 10 &&& ((1 <<< (nI a &&& 31) ||| 1 <<< (nI b &&& 31)) ^^^ -1))).1 15 1) = w.1 15 1 from rfl]
          exact or_congr Iff.rfl eq_comm
      · refine free _ ?_ ?_ (fun p p1 p2 => ?_) _ ?_
        · rw [kset_ne _ _ (by omega), kset_ne _ _ (by omega), r2, hbit]
        · rw [kset_row _ _ _ _ (by omega), kset_row _ _ _ _ (by omega), r3]; rfl
        · rw [kset_ne _ _ (by omega), kset_ne _ _ (by omega), r4 p (by omega)]; rfl
        · rw [kset_ne _ _ (by omega), kset_ne _ _ (by omega), kset_ne _ _ (by omega), kset_ne _ _ (by omega), kset_ne _ _ (by omega), kset_ne _ _ (by omega), kset_ne _ _ (by omega), cHurt_f]; rfl
      · exact (((((((cKeep.rf.num (by decide)).tr (cHurt_keep ..)).row (by decide)).row (by decide)).row (by decide)).row (by decide)).row (by decide)).row (by decide) |>.row (by decide)
end
section
theorem mAnswer_no {g : kW} {i j : Nat} {deg d : Int32} (h : ¬ mTouch g j ≤ deg) : mAnswer g i j deg d = g := by
  simp only [mAnswer, if_neg h]
theorem mAnswer_n1 {g : kW} {i j : Nat} {deg d : Int32} (h : mTouch g j ≤ deg) (h1 : mSec g j (nI i) (-9) d = none) : mAnswer g i j deg d = g := by
  simp only [mAnswer, if_pos h, h1]
theorem mAnswer_n2 {g : kW} {i j a : Nat} {deg d : Int32} (h : mTouch g j ≤ deg) (h1 : mSec g j (nI i) (-9) d = some a) (h2 : mSec g i (nI j) (nI a) d = none) : mAnswer g i j deg d = g := by
  simp only [mAnswer, if_pos h, h1, h2]
theorem mAnswer_y {g : kW} {i j a b : Nat} {deg d : Int32} (h : mTouch g j ≤ deg) (h1 : mSec g j (nI i) (-9) d = some a) (h2 : mSec g i (nI j) (nI a) d = some b) : mAnswer g i j deg d = mMeet g a b (nI j) (nI i) d := by
  simp only [mAnswer, if_pos h, h1, h2]
theorem nI_neq {a b : Nat} (ha : a < 2 ^ 31) (hb : b < 2 ^ 31) : ¬ nI a = nI b ↔ ¬ a = b := not_congr (nI_eq ha hb)
theorem sec1_eq {n i j : Nat} {d : Int32} {w g : kW} (hP : Pn n g) (hi : i < n) (hj : j < n) (hf : RF n d w g) : (mCh g j).find? (fun x => bt (w.1 15 10 &&& ((1 <<< (nI i &&& 31) ||| 1 <<< (nI j &&& 31)) ^^^ -1)) x) = mSec g j (nI i) (-9) d := by
  have hn := hP.le
  apply f_cg
  intro x hx
  have hl := mCh_lt hP hj hx
  rw [bt_off _ (by omega) (by omega) (by omega)]
  rw [Bool.eq_iff_iff, Bool.and_eq_true, hf x (by omega), decide_eq_true_eq]
  unfold mMay
  rw [nI_neq (by omega) (by omega), nI_neq (by omega) (by omega)]
  have h9 : ¬ nI x = -9 := nI_ne9 (by omega)
  simp only [h9, not_false_eq_true, true_and, Bool.not_eq_true', Bool.or_eq_false_iff, decide_eq_false_iff_not, hl]
  constructor
  · rintro ⟨h1, h2, h3⟩; exact ⟨h3, h2, h1⟩
  · rintro ⟨h1, h2, h3⟩; exact ⟨h3, h2, h1⟩
theorem sec2_eq {n i j a : Nat} {d : Int32} {w g : kW} (hP : Pn n g) (hi : i < n) (hj : j < n) (ha : a < n) (hf : RF n d w g) : (mCh g i).find? (fun x => bt (w.1 15 10 &&& ((1 <<< (nI i &&& 31) ||| 1 <<< (nI j &&& 31)) ^^^ -1) &&& (((1 : Int32) <<< (nI a &&& 31)) ^^^ -1)) x) = mSec g i (nI j) (nI a) d := by
  have hn := hP.le
  apply f_cg
  intro x hx
  have hl := mCh_lt hP hi hx
  rw [bt_off1 _ (by omega) (by omega), bt_off _ (by omega) (by omega) (by omega)]
  rw [Bool.eq_iff_iff, Bool.and_eq_true, Bool.and_eq_true, hf x (by omega), decide_eq_true_eq]
  unfold mMay
  rw [nI_neq (by omega) (by omega), nI_neq (by omega) (by omega), nI_neq (by omega) (by omega)]
  simp only [Bool.not_eq_true', Bool.or_eq_false_iff, decide_eq_false_iff_not, hl, true_and]
  constructor
  · rintro ⟨⟨h1, h2, h3⟩, h4⟩; exact ⟨h2, h3, h4, h1⟩
  · rintro ⟨h1, h2, h3, h4⟩; exact ⟨⟨h4, h1, h2⟩, h3⟩

theorem SInv.two {g : kW} {n m0 a b m t : Nat} (hS : SInv n m0 g) (hm0 : m0 ≤ 177) (ha : a < n) (hb : b < n) (hab : a ≠ b) (h1 : bt (g.1 0 22) a = false) (h2 : bt (g.1 0 22) b = false) (hm : g.1 0 28 = nI m) (ht : g.1 0 23 = nI t) (hm2 : m < 200) (ht2 : t < 200) : m < 180 ∧ t < 180 := by
  obtain ⟨hP, m', t', e1, e2, e3, e4, e5⟩ := hS
  have hn := hP.le
  have b0 := bs6_le (g.1 0 22)
  have q1 := nI_inj (by omega) (by omega) (e1.symm.trans hm)
  have q2 := nI_inj (by omega) (by omega) (e2.symm.trans ht)
  have b1 := bs6_two (by omega) (by omega) hab h1 h2
  have b2 := bs6_le (g.1 0 22 ||| (1 <<< (nI a &&& 31) ||| 1 <<< (nI b &&& 31)))
  omega
set_option maxRecDepth 100000 in
set_option maxHeartbeats 4000000 in
theorem s_X4_answer_6 {w g : kW} {n m0 i j k d : Nat} (hR : RP n w g) (hS : SInv n m0 g) (hm0 : m0 ≤ 177) (hL : RLg n w g) (hF : RF n (nI d) w g) (hk : k < 9) (hi : i < n) (hj : j < n) (ei : w.1 7 k = nI i) (ej : w.1 8 k = nI j) : Spec shC yX4_answer cX4_answer 10 none 2 52 [.ref 15, .ref 6, .int (nI k), .int (nI d)] w (fun r w' => r = none ∧ RLg n w' (mAnswer g i j (w.1 10 k) (nI d)) ∧ RF n (nI d) w' (mAnswer g i j (w.1 10 k) (nI d)) ∧ cKeep w w') := by
  have hn := hR.1.le
  obtain ⟨m, t, hm2, ht2, mg, mw, tg, tw, hb, hh⟩ := id hL
  obtain ⟨hh1, hh2, hh3, ehh⟩ := hR.1.2.2.1 j hj
  obtain ⟨kd, hkd, ekd⟩ := hR.1.2.2.2.2.2 j hj
  refine k_enter pn_X4 (Nat.le_of_ble_eq_true rfl) ?_
  refine b_aload_n dX4_answer_0 rfl ?_
  refine b_getr dX4_answer_1 gf_X4_96 rfl rfl ?_
  refine b_iload_n dX4_answer_4 rfl ?_
  refine b_ialdN dX4_answer_5 rfl ⟨by omega, by decide⟩ ?_
  refine b_topi (y := nI i) ei ?_
  refine b_istore dX4_answer_6 (by decide) ?_
  refine b_aload_n dX4_answer_8 rfl ?_
  refine b_getr dX4_answer_9 gf_X4_99 rfl rfl ?_
  refine b_iload_n dX4_answer_12 rfl ?_
  refine b_ialdN dX4_answer_13 rfl ⟨by omega, by decide⟩ ?_
  refine b_topi (y := nI j) ej ?_
  refine b_istore dX4_answer_14 (by decide) ?_
  refine b_aload_n dX4_answer_16 rfl ?_
  refine b_getr dX4_answer_17 gf_X4_102 rfl rfl ?_
  refine b_iload_n dX4_answer_20 rfl ?_
  refine b_ialdN dX4_answer_21 rfl ⟨by omega, by decide⟩ ?_
  refine b_aload_n dX4_answer_22 rfl ?_
  refine b_getr dX4_answer_23 gf_X4_31 rfl rfl ?_
  refine b_iload dX4_answer_26 rfl ?_
  refine b_callV1 dX4_answer_28 lk_X4_105 rfl rfl rfl ⟨Nat.le_of_ble_eq_true rfl, Nat.le_of_ble_eq_true rfl⟩ (Nat.le_of_ble_eq_true rfl) (s_X2_touchiness (by omega) hh2 hh3 hkd ((hR.2.2 j hj).2.1.trans ehh) ((hR.2.2 j hj).1.trans ekd)) (fun r w28 h28 => ?_)
  obtain ⟨rfl, rfl⟩ := h28
  refine b_topi (y := mTouch g j) (by rw [mTouch_c, ehh, ekd]) ?_
  refine b_icmp_ge (tgt := 35) dX4_answer_31 (by decide) (fun h31 => ?_) (fun h31 => ?_)
  · refine b_aload_n dX4_answer_35 rfl ?_
    refine b_geti dX4_answer_36 gf_X4_83 rfl rfl ?_
    refine b_iload dX4_answer_39 rfl ?_
    refine b_callSN1 dX4_answer_41 lk_X4_93 ⟨Nat.le_of_ble_eq_true rfl, Nat.le_of_ble_eq_true rfl⟩ (Nat.le_of_ble_eq_true rfl) (s_X7_bit) (fun r w41 h41 => ?_)
    obtain ⟨rfl, rfl⟩ := h41
    refine b_iload dX4_answer_44 rfl ?_
    refine b_callSN1 dX4_answer_46 lk_X4_93 ⟨Nat.le_of_ble_eq_true rfl, Nat.le_of_ble_eq_true rfl⟩ (Nat.le_of_ble_eq_true rfl) (s_X7_bit) (fun r w46 h46 => ?_)
    obtain ⟨rfl, rfl⟩ := h46
    refine b_ior dX4_answer_49 ?_
    refine b_iconst (v := (-1)) dX4_answer_50 (by decide) ?_
    refine b_ixor dX4_answer_51 ?_
    refine b_iand dX4_answer_52 ?_
    refine b_istore dX4_answer_53 (by decide) ?_
    refine b_aload_n dX4_answer_55 rfl ?_
    refine b_getr dX4_answer_56 gf_X4_31 rfl rfl ?_
    refine b_iload dX4_answer_59 rfl ?_
    refine b_iload dX4_answer_61 rfl ?_
    refine b_callV2 dX4_answer_63 lk_X4_108 rfl rfl rfl ⟨Nat.le_of_ble_eq_true rfl, Nat.le_of_ble_eq_true rfl⟩ (Nat.le_of_ble_eq_true rfl) (s_X2_secondAmong hR hj) (fun r w63 h63 => ?_)
    obtain ⟨rfl, rfl⟩ := h63
    rw [sec1_eq hR.1 hi hj hF]
    rcases hs63 : mSec g j (nI i) (-9) (nI d) with _ | a
    · refine b_topi (y := -9) rfl ?_
      refine b_istore dX4_answer_66 (by decide) ?_
      refine b_iload dX4_answer_68 rfl ?_
      refine b_bipush (v := (-9)) dX4_answer_70 (by decide) ?_
      refine b_icmp_ne (tgt := 76) dX4_answer_72 (by decide) (fun h72 => ?_) (fun h72 => ?_)
      · exact absurd rfl h72
      · refine b_vret dX4_answer_75 rfl ⟨rfl, ?_⟩
        rw [mAnswer_n1 h31 hs63]
        exact ⟨hL, hF, cKeep.rf⟩
    · have hs63b := mSec_some hR.1 hj hs63
      refine b_topi (y := nI a) rfl ?_
      refine b_istore dX4_answer_66 (by decide) ?_
      refine b_iload dX4_answer_68 rfl ?_
      refine b_bipush (v := (-9)) dX4_answer_70 (by decide) ?_
      refine b_icmp_ne (tgt := 76) dX4_answer_72 (by decide) (fun h72 => ?_) (fun h72 => ?_)
      · refine b_aload_n dX4_answer_76 rfl ?_
        refine b_getr dX4_answer_77 gf_X4_31 rfl rfl ?_
        refine b_iload dX4_answer_80 rfl ?_
        refine b_iload dX4_answer_82 rfl ?_
        refine b_iload dX4_answer_84 rfl ?_
        refine b_callSN1 dX4_answer_86 lk_X4_93 ⟨Nat.le_of_ble_eq_true rfl, Nat.le_of_ble_eq_true rfl⟩ (Nat.le_of_ble_eq_true rfl) (s_X7_bit) (fun r w86 h86 => ?_)
        obtain ⟨rfl, rfl⟩ := h86
        refine b_iconst (v := (-1)) dX4_answer_89 (by decide) ?_
        refine b_ixor dX4_answer_90 ?_
        refine b_iand dX4_answer_91 ?_
        refine b_callV2 dX4_answer_92 lk_X4_108 rfl rfl rfl ⟨Nat.le_of_ble_eq_true rfl, Nat.le_of_ble_eq_true rfl⟩ (Nat.le_of_ble_eq_true rfl) (s_X2_secondAmong hR hi) (fun r w92 h92 => ?_)
        obtain ⟨rfl, rfl⟩ := h92
        rw [sec2_eq hR.1 hi hj hs63b.1 hF]
        rcases hs92 : mSec g i (nI j) (nI a) (nI d) with _ | b
        · refine b_topi (y := -9) rfl ?_
          refine b_istore dX4_answer_95 (by decide) ?_
          refine b_iload dX4_answer_97 rfl ?_
          refine b_bipush (v := (-9)) dX4_answer_99 (by decide) ?_
          refine b_icmp_ne (tgt := 105) dX4_answer_101 (by decide) (fun h101 => ?_) (fun h101 => ?_)
          · exact absurd rfl h101
          · refine b_vret dX4_answer_104 rfl ⟨rfl, ?_⟩
            rw [mAnswer_n2 h31 hs63 hs92]
            exact ⟨hL, hF, cKeep.rf⟩
        · have hs92b := mSec_some hR.1 hi hs92
          obtain ⟨x, x1, x9, ex⟩ := hR.1.2.2.1 a hs63b.1
          obtain ⟨y, y1, y9, ey⟩ := hR.1.2.2.1 b hs92b.1
          have hab : a ≠ b := fun e => hs92b.2.2.2.1 (by rw [e])
          have hbs := SInv.two hS hm0 hs63b.1 hs92b.1 hab hs63b.2.2.2.2.2.2 hs92b.2.2.2.2.2.2 mg tg hm2 ht2
          refine b_topi (y := nI b) rfl ?_
          refine b_istore dX4_answer_95 (by decide) ?_
          refine b_iload dX4_answer_97 rfl ?_
          refine b_bipush (v := (-9)) dX4_answer_99 (by decide) ?_
          refine b_icmp_ne (tgt := 105) dX4_answer_101 (by decide) (fun h101 => ?_) (fun h101 => ?_)
          · refine b_aload_n dX4_answer_105 rfl ?_
            refine b_dup dX4_answer_106 rfl ?_
            refine b_geti dX4_answer_107 gf_X4_83 rfl rfl ?_
            refine b_iload dX4_answer_110 rfl ?_
            refine b_callSN1 dX4_answer_112 lk_X4_93 ⟨Nat.le_of_ble_eq_true rfl, Nat.le_of_ble_eq_true rfl⟩ (Nat.le_of_ble_eq_true rfl) (s_X7_bit) (fun r w112 h112 => ?_)
            obtain ⟨rfl, rfl⟩ := h112
            refine b_iload dX4_answer_115 rfl ?_
            refine b_callSN1 dX4_answer_117 lk_X4_93 ⟨Nat.le_of_ble_eq_true rfl, Nat.le_of_ble_eq_true rfl⟩ (Nat.le_of_ble_eq_true rfl) (s_X7_bit) (fun r w117 h117 => ?_)
            obtain ⟨rfl, rfl⟩ := h117
            refine b_ior dX4_answer_120 ?_
            refine b_iconst (v := (-1)) dX4_answer_121 (by decide) ?_
            refine b_ixor dX4_answer_122 ?_
            refine b_iand dX4_answer_123 ?_
            refine b_puti dX4_answer_124 gf_X4_83 gs_X4_10 rfl rfl ?_
            refine b_aload_n dX4_answer_127 rfl ?_
            refine b_iload dX4_answer_128 rfl ?_
            refine b_iload dX4_answer_130 rfl ?_
            refine b_iload_n dX4_answer_132 rfl ?_
            refine b_callV3 dX4_answer_133 lk_X4_112 rfl rfl rfl ⟨Nat.le_of_ble_eq_true rfl, Nat.le_of_ble_eq_true rfl⟩ (Nat.le_of_ble_eq_true rfl) (s_X4_shoot (a := a) (b := b) (x := x) (y := y) (t := t) (by omega) (by omega) x9 y9 (((hR.2.2 a hs63b.1).2.1).trans ex) (((hR.2.2 b hs92b.1).2.1).trans ey) tw hbs.2) (fun r w133 h133 => ?_)
            obtain ⟨rfl, rfl⟩ := h133
            refine b_istore dX4_answer_136 (by decide) ?_
            refine b_aload_n dX4_answer_138 rfl ?_
            refine b_getr dX4_answer_139 gf_X4_12 rfl rfl ?_
            refine b_iload_n dX4_answer_142 rfl ?_
            refine b_iload dX4_answer_143 rfl ?_
            refine b_iload dX4_answer_145 rfl ?_
            refine b_iload dX4_answer_147 rfl ?_
            refine b_iload dX4_answer_149 rfl ?_
            refine b_iload dX4_answer_151 rfl ?_
            refine b_callV6 dX4_answer_153 lk_X4_116 rfl rfl rfl ⟨Nat.le_of_ble_eq_true rfl, Nat.le_of_ble_eq_true rfl⟩ (Nat.le_of_ble_eq_true rfl) (s_X1_add (m := m) ((cMeet_16 ..).trans mw) hbs.1) (fun r w153 h153 => ?_)
            obtain ⟨rfl, rfl⟩ := h153
            refine b_vret dX4_answer_156 rfl ⟨rfl, ?_⟩
            rw [mAnswer_y h31 hs63 hs92]
            exact cMeet_rel hR.1 hs63b.1 hs92b.1 hab x9 y9 ex ey (fun p hp => (hR.2.2 p hp).2.1) (fun p hp => (hR.2.2 p hp).2.2.1) mg (by omega) tg tw (by omega) hb hh hF
          · exact absurd h101 (nI_ne9 (by omega))
      · exact absurd h72 (nI_ne9 (by omega))
  · refine b_vret dX4_answer_34 rfl ⟨rfl, ?_⟩
    rw [mAnswer_no h31]
    exact ⟨hL, hF, cKeep.rf⟩

set_option maxRecDepth 100000 in
set_option maxHeartbeats 4000000 in
theorem s_X4_answer_24 {w g : kW} {n m0 i j k d : Nat} (hR : RP n w g) (hS : SInv n m0 g) (hm0 : m0 ≤ 177) (hL : RLg n w g) (hF : RF n (nI d) w g) (hk : k < 180) (hi : i < n) (hj : j < n) (ei : w.1 25 k = nI i) (ej : w.1 26 k = nI j) : Spec shC yX4_answer cX4_answer 10 none 2 52 [.ref 15, .ref 24, .int (nI k), .int (nI d)] w (fun r w' => r = none ∧ RLg n w' (mAnswer g i j (w.1 28 k) (nI d)) ∧ RF n (nI d) w' (mAnswer g i j (w.1 28 k) (nI d)) ∧ cKeep w w') := by
  have hn := hR.1.le
  obtain ⟨m, t, hm2, ht2, mg, mw, tg, tw, hb, hh⟩ := id hL
  obtain ⟨hh1, hh2, hh3, ehh⟩ := hR.1.2.2.1 j hj
  obtain ⟨kd, hkd, ekd⟩ := hR.1.2.2.2.2.2 j hj
  refine k_enter pn_X4 (Nat.le_of_ble_eq_true rfl) ?_
  refine b_aload_n dX4_answer_0 rfl ?_
  refine b_getr dX4_answer_1 gf_X4_96 rfl rfl ?_
  refine b_iload_n dX4_answer_4 rfl ?_
  refine b_ialdN dX4_answer_5 rfl ⟨by omega, by decide⟩ ?_
  refine b_topi (y := nI i) ei ?_
  refine b_istore dX4_answer_6 (by decide) ?_
  refine b_aload_n dX4_answer_8 rfl ?_
  refine b_getr dX4_answer_9 gf_X4_99 rfl rfl ?_
  refine b_iload_n dX4_answer_12 rfl ?_
  refine b_ialdN dX4_answer_13 rfl ⟨by omega, by decide⟩ ?_
  refine b_topi (y := nI j) ej ?_
  refine b_istore dX4_answer_14 (by decide) ?_
  refine b_aload_n dX4_answer_16 rfl ?_
  refine b_getr dX4_answer_17 gf_X4_102 rfl rfl ?_
  refine b_iload_n dX4_answer_20 rfl ?_
  refine b_ialdN dX4_answer_21 rfl ⟨by omega, by decide⟩ ?_
  refine b_aload_n dX4_answer_22 rfl ?_
  refine b_getr dX4_answer_23 gf_X4_31 rfl rfl ?_
  refine b_iload dX4_answer_26 rfl ?_
  refine b_callV1 dX4_answer_28 lk_X4_105 rfl rfl rfl ⟨Nat.le_of_ble_eq_true rfl, Nat.le_of_ble_eq_true rfl⟩ (Nat.le_of_ble_eq_true rfl) (s_X2_touchiness (by omega) hh2 hh3 hkd ((hR.2.2 j hj).2.1.trans ehh) ((hR.2.2 j hj).1.trans ekd)) (fun r w28 h28 => ?_)
  obtain ⟨rfl, rfl⟩ := h28
  refine b_topi (y := mTouch g j) (by rw [mTouch_c, ehh, ekd]) ?_
  refine b_icmp_ge (tgt := 35) dX4_answer_31 (by decide) (fun h31 => ?_) (fun h31 => ?_)
  · refine b_aload_n dX4_answer_35 rfl ?_
    refine b_geti dX4_answer_36 gf_X4_83 rfl rfl ?_
    refine b_iload dX4_answer_39 rfl ?_
    refine b_callSN1 dX4_answer_41 lk_X4_93 ⟨Nat.le_of_ble_eq_true rfl, Nat.le_of_ble_eq_true rfl⟩ (Nat.le_of_ble_eq_true rfl) (s_X7_bit) (fun r w41 h41 => ?_)
    obtain ⟨rfl, rfl⟩ := h41
    refine b_iload dX4_answer_44 rfl ?_
    refine b_callSN1 dX4_answer_46 lk_X4_93 ⟨Nat.le_of_ble_eq_true rfl, Nat.le_of_ble_eq_true rfl⟩ (Nat.le_of_ble_eq_true rfl) (s_X7_bit) (fun r w46 h46 => ?_)
    obtain ⟨rfl, rfl⟩ := h46
    refine b_ior dX4_answer_49 ?_
    refine b_iconst (v := (-1)) dX4_answer_50 (by decide) ?_
    refine b_ixor dX4_answer_51 ?_
    refine b_iand dX4_answer_52 ?_
    refine b_istore dX4_answer_53 (by decide) ?_
    refine b_aload_n dX4_answer_55 rfl ?_
    refine b_getr dX4_answer_56 gf_X4_31 rfl rfl ?_
    refine b_iload dX4_answer_59 rfl ?_
    refine b_iload dX4_answer_61 rfl ?_
    refine b_callV2 dX4_answer_63 lk_X4_108 rfl rfl rfl ⟨Nat.le_of_ble_eq_true rfl, Nat.le_of_ble_eq_true rfl⟩ (Nat.le_of_ble_eq_true rfl) (s_X2_secondAmong hR hj) (fun r w63 h63 => ?_)
    obtain ⟨rfl, rfl⟩ := h63
    rw [sec1_eq hR.1 hi hj hF]
    rcases hs63 : mSec g j (nI i) (-9) (nI d) with _ | a
    · refine b_topi (y := -9) rfl ?_
      refine b_istore dX4_answer_66 (by decide) ?_
      refine b_iload dX4_answer_68 rfl ?_
      refine b_bipush (v := (-9)) dX4_answer_70 (by decide) ?_
      refine b_icmp_ne (tgt := 76) dX4_answer_72 (by decide) (fun h72 => ?_) (fun h72 => ?_)
      · exact absurd rfl h72
      · refine b_vret dX4_answer_75 rfl ⟨rfl, ?_⟩
        rw [mAnswer_n1 h31 hs63]
        exact ⟨hL, hF, cKeep.rf⟩
    · have hs63b := mSec_some hR.1 hj hs63
      refine b_topi (y := nI a) rfl ?_
      refine b_istore dX4_answer_66 (by decide) ?_
      refine b_iload dX4_answer_68 rfl ?_
      refine b_bipush (v := (-9)) dX4_answer_70 (by decide) ?_
      refine b_icmp_ne (tgt := 76) dX4_answer_72 (by decide) (fun h72 => ?_) (fun h72 => ?_)
      · refine b_aload_n dX4_answer_76 rfl ?_
        refine b_getr dX4_answer_77 gf_X4_31 rfl rfl ?_
        refine b_iload dX4_answer_80 rfl ?_
        refine b_iload dX4_answer_82 rfl ?_
        refine b_iload dX4_answer_84 rfl ?_
        refine b_callSN1 dX4_answer_86 lk_X4_93 ⟨Nat.le_of_ble_eq_true rfl, Nat.le_of_ble_eq_true rfl⟩ (Nat.le_of_ble_eq_true rfl) (s_X7_bit) (fun r w86 h86 => ?_)
        obtain ⟨rfl, rfl⟩ := h86
        refine b_iconst (v := (-1)) dX4_answer_89 (by decide) ?_
        refine b_ixor dX4_answer_90 ?_
        refine b_iand dX4_answer_91 ?_
        refine b_callV2 dX4_answer_92 lk_X4_108 rfl rfl rfl ⟨Nat.le_of_ble_eq_true rfl, Nat.le_of_ble_eq_true rfl⟩ (Nat.le_of_ble_eq_true rfl) (s_X2_secondAmong hR hi) (fun r w92 h92 => ?_)
        obtain ⟨rfl, rfl⟩ := h92
        rw [sec2_eq hR.1 hi hj hs63b.1 hF]
        rcases hs92 : mSec g i (nI j) (nI a) (nI d) with _ | b
        · refine b_topi (y := -9) rfl ?_
          refine b_istore dX4_answer_95 (by decide) ?_
          refine b_iload dX4_answer_97 rfl ?_
          refine b_bipush (v := (-9)) dX4_answer_99 (by decide) ?_
          refine b_icmp_ne (tgt := 105) dX4_answer_101 (by decide) (fun h101 => ?_) (fun h101 => ?_)
          · exact absurd rfl h101
          · refine b_vret dX4_answer_104 rfl ⟨rfl, ?_⟩
            rw [mAnswer_n2 h31 hs63 hs92]
            exact ⟨hL, hF, cKeep.rf⟩
        · have hs92b := mSec_some hR.1 hi hs92
          obtain ⟨x, x1, x9, ex⟩ := hR.1.2.2.1 a hs63b.1
          obtain ⟨y, y1, y9, ey⟩ := hR.1.2.2.1 b hs92b.1
          have hab : a ≠ b := fun e => hs92b.2.2.2.1 (by rw [e])
          have hbs := SInv.two hS hm0 hs63b.1 hs92b.1 hab hs63b.2.2.2.2.2.2 hs92b.2.2.2.2.2.2 mg tg hm2 ht2
          refine b_topi (y := nI b) rfl ?_
          refine b_istore dX4_answer_95 (by decide) ?_
          refine b_iload dX4_answer_97 rfl ?_
          refine b_bipush (v := (-9)) dX4_answer_99 (by decide) ?_
          refine b_icmp_ne (tgt := 105) dX4_answer_101 (by decide) (fun h101 => ?_) (fun h101 => ?_)
          · refine b_aload_n dX4_answer_105 rfl ?_
            refine b_dup dX4_answer_106 rfl ?_
            refine b_geti dX4_answer_107 gf_X4_83 rfl rfl ?_
            refine b_iload dX4_answer_110 rfl ?_
            refine b_callSN1 dX4_answer_112 lk_X4_93 ⟨Nat.le_of_ble_eq_true rfl, Nat.le_of_ble_eq_true rfl⟩ (Nat.le_of_ble_eq_true rfl) (s_X7_bit) (fun r w112 h112 => ?_)
            obtain ⟨rfl, rfl⟩ := h112
            refine b_iload dX4_answer_115 rfl ?_
            refine b_callSN1 dX4_answer_117 lk_X4_93 ⟨Nat.le_of_ble_eq_true rfl, Nat.le_of_ble_eq_true rfl⟩ (Nat.le_of_ble_eq_true rfl) (s_X7_bit) (fun r w117 h117 => ?_)
            obtain ⟨rfl, rfl⟩ := h117
            refine b_ior dX4_answer_120 ?_
            refine b_iconst (v := (-1)) dX4_answer_121 (by decide) ?_
            refine b_ixor dX4_answer_122 ?_
            refine b_iand dX4_answer_123 ?_
            refine b_puti dX4_answer_124 gf_X4_83 gs_X4_10 rfl rfl ?_
            refine b_aload_n dX4_answer_127 rfl ?_
            refine b_iload dX4_answer_128 rfl ?_
            refine b_iload dX4_answer_130 rfl ?_
            refine b_iload_n dX4_answer_132 rfl ?_
            refine b_callV3 dX4_answer_133 lk_X4_112 rfl rfl rfl ⟨Nat.le_of_ble_eq_true rfl, Nat.le_of_ble_eq_true rfl⟩ (Nat.le_of_ble_eq_true rfl) (s_X4_shoot (a := a) (b := b) (x := x) (y := y) (t := t) (by omega) (by omega) x9 y9 (((hR.2.2 a hs63b.1).2.1).trans ex) (((hR.2.2 b hs92b.1).2.1).trans ey) tw hbs.2) (fun r w133 h133 => ?_)
            obtain ⟨rfl, rfl⟩ := h133
            refine b_istore dX4_answer_136 (by decide) ?_
            refine b_aload_n dX4_answer_138 rfl ?_
            refine b_getr dX4_answer_139 gf_X4_12 rfl rfl ?_
            refine b_iload_n dX4_answer_142 rfl ?_
            refine b_iload dX4_answer_143 rfl ?_
            refine b_iload dX4_answer_145 rfl ?_
            refine b_iload dX4_answer_147 rfl ?_
            refine b_iload dX4_answer_149 rfl ?_
            refine b_iload dX4_answer_151 rfl ?_
            refine b_callV6 dX4_answer_153 lk_X4_116 rfl rfl rfl ⟨Nat.le_of_ble_eq_true rfl, Nat.le_of_ble_eq_true rfl⟩ (Nat.le_of_ble_eq_true rfl) (s_X1_add (m := m) ((cMeet_16 ..).trans mw) hbs.1) (fun r w153 h153 => ?_)
            obtain ⟨rfl, rfl⟩ := h153
            refine b_vret dX4_answer_156 rfl ⟨rfl, ?_⟩
            rw [mAnswer_y h31 hs63 hs92]
            exact cMeet_rel hR.1 hs63b.1 hs92b.1 hab x9 y9 ex ey (fun p hp => (hR.2.2 p hp).2.1) (fun p hp => (hR.2.2 p hp).2.2.1) mg (by omega) tg tw (by omega) hb hh hF
          · exact absurd h101 (nI_ne9 (by omega))
      · exact absurd h72 (nI_ne9 (by omega))
  · refine b_vret dX4_answer_34 rfl ⟨rfl, ?_⟩
    rw [mAnswer_no h31]
    exact ⟨hL, hF, cKeep.rf⟩
end
section
/-! ===== new takings are of the dawn; bits of a long ===== -/
def TkX (dawn : Int32) (t t' : Nat) (w v : kW) : Prop := TkExt t t' w v ∧ ∀ k, t ≤ k → k < t' → v.1 19 k = dawn
theorem TkX.rf {dawn : Int32} {t : Nat} {w : kW} (h : w.1 0 23 = nI t) : TkX dawn t t w w := ⟨TkExt.rf h, fun k h1 h2 => by omega⟩
theorem TkX.tr {dawn : Int32} {t t' t'' : Nat} {w v u : kW} (h1 : TkX dawn t t' w v) (h2 : TkX dawn t' t'' v u) : TkX dawn t t'' w u := ⟨h1.1.tr h2.1, fun k a b => by
  by_cases e : k < t'
  · rw [(h2.1.2.2 k e).2.2.2]; exact h1.2 k a e
  · exact h2.2 k (by omega) b⟩
theorem TkX.row {dawn : Int32} {t t' c k : Nat} {x : Int32} {w v : kW} (h : TkX dawn t t' w v) (hc : c = 0 ∧ k ≠ 23 ∨ 20 ≤ c) : TkX dawn t t' w (kset v c k x) := ⟨h.1.row hc, fun j a b => by rw [kset_ne _ _ (by omega)]; exact h.2 j a b⟩
theorem mHurtF_x {w : kW} {t hu y : Nat} {dawn : Int32} (ht : w.1 0 23 = nI t) (ht2 : t < 200) : ∃ t', t' ≤ t + 1 ∧ TkX dawn t t' w (mHurtF w hu y dawn) := by
  simp only [mHurtF]
  split
  · exact ⟨t, by omega, ⟨Nat.le_refl _, ht, fun k hk => ⟨rfl, rfl, rfl, rfl⟩⟩, fun k h1 h2 => by omega⟩
  · refine ⟨t + 1, Nat.le_refl _, ⟨by omega, by rw [kset_eq, ht, nI_1], fun k hk => ?_⟩, fun k h1 h2 => ?_⟩
    · rw [cl_of ht (by omega)]
      have e : ¬ k = t := by omega
      exact ⟨by simp [kset_1, e], by simp [kset_1, e], by simp [kset_1, e], by simp [kset_1, e]⟩
    · rw [cl_of ht (by omega)]
      have e : k = t := by omega
      simp [kset_1, e]
theorem mMeet_x {w : kW} {t a b : Nat} {x y dawn : Int32} (ht : w.1 0 23 = nI t) (ht2 : t < 200) : ∃ t', t' ≤ t + 1 ∧ TkX dawn t t' w (mMeet w a b x y dawn) := by
  have h0 : TkX dawn t t w (mMeet0 w a b x y dawn) := by
    simp only [mMeet0]
    exact (((((((TkX.rf ht).row (by omega)).row (by omega)).row (by omega)).row (by omega)).row (by omega)).row (by omega)).row (by omega)
  simp only [mMeet]
  split
  · exact ⟨t, by omega, h0.row (by omega)⟩
  · split
    · obtain ⟨t', h1, h2⟩ := mHurtF_x (hu := b) (y := a) (dawn := dawn) h0.1.2.1 ht2
      exact ⟨t', h1, ((h0.tr h2).row (by omega)).row (by omega)⟩
    · obtain ⟨t', h1, h2⟩ := mHurtF_x (hu := a) (y := b) (dawn := dawn) h0.1.2.1 ht2
      exact ⟨t', h1, ((h0.tr h2).row (by omega)).row (by omega)⟩
theorem mAnswer_x {w : kW} {t i j : Nat} {deg dawn : Int32} (ht : w.1 0 23 = nI t) (ht2 : t < 200) : ∃ t', t' ≤ t + 1 ∧ TkX dawn t t' w (mAnswer w i j deg dawn) := by
  simp only [mAnswer]
  split
  · split
    · exact ⟨t, by omega, TkX.rf ht⟩
    · split
      · exact ⟨t, by omega, TkX.rf ht⟩
      · exact mMeet_x ht ht2
  · exact ⟨t, by omega, TkX.rf ht⟩
theorem mAnswer_x2 {w : kW} {n m0 t i j : Nat} {deg dawn : Int32} (h : SInv n m0 w) (hm0 : m0 ≤ 177) (hi : i < n) (hj : j < n) (ht : w.1 0 23 = nI t) (ht2 : t < 200) : ∃ t', t' < 200 ∧ TkX dawn t t' w (mAnswer w i j deg dawn) := by
  obtain ⟨t', h1, h2⟩ := mAnswer_x (i := i) (j := j) (deg := deg) (dawn := dawn) ht ht2
  obtain ⟨t2, e1, e2⟩ := (mAnswer_inv (deg := deg) (dawn := dawn) h hm0 hi hj).t hm0
  have e3 := nI_inj (by omega) (by omega) (e1.symm.trans h2.1.2.1)
  subst e3
  exact ⟨t2, e2, h2⟩
theorem mTold_x {w : kW} {n c m0 d t : Nat} (h : SInv n m0 (kset w 0 22 0)) (hI : Ins n c w) (hm0 : m0 ≤ 177) (ht : w.1 0 23 = nI t) (ht2 : t < 200) : ∀ k, k ≤ c → ∃ t', t' < 200 ∧ TkX (nI d) t t' w (mTold w d k) := by
  intro k
  induction k with
  | zero => intro _; exact ⟨t, ht2, (TkX.rf ht).row (by omega)⟩
  | succ k ih =>
    intro hk
    obtain ⟨t', g1, g2⟩ := ih (by omega)
    obtain ⟨v1, v2⟩ := mTold_inv (d := d) h hI hm0 k (by omega)
    simp only [mTold]
    split
    · obtain ⟨a, b, dd, g, h1, h2, h3, h4, h5, h6, h7, h8, h9, h10⟩ := (hI.keep v2).2.2 k (by omega)
      have hn := v1.1.le
      rw [cl_of h7 (by omega), cl_of h8 (by omega)]
      obtain ⟨t'', e1, e2⟩ := mAnswer_x2 (deg := (mTold w d k).1 14 k) (dawn := nI d) v1 hm0 h1 h2 g2.1.2.1 g1
      exact ⟨t'', e1, g2.tr e2⟩
    · exact ⟨t', g1, g2⟩
theorem mTk_x {w : kW} {n m0 d t b : Nat} (h : SInv n m0 w) (hm0 : m0 ≤ 177) (ht : w.1 0 23 = nI t) (ht2 : t < 200) (hb : b ≤ t) : ∀ k, k ≤ b → ∃ t', t' < 200 ∧ TkX (nI d) t t' w (mTk w d k) := by
  intro k
  induction k with
  | zero => intro _; exact ⟨t, ht2, TkX.rf ht⟩
  | succ k ih =>
    intro hk
    obtain ⟨t', g1, g2⟩ := ih (by omega)
    obtain ⟨v1, v2, -⟩ := mTk_inv (d := d) h hm0 ht ht2 hb k (by omega)
    simp only [mTk]
    split
    · obtain ⟨hP, m, t2, c1, c2, c3, c4, c5⟩ := id h
      have e3 := nI_inj (by have := bs6_le (w.1 0 22); omega) (by omega) (c2.symm.trans ht)
      subst e3
      obtain ⟨a, b', h1, h2, h3, h4⟩ := c5 k (by omega)
      obtain ⟨r1, r2, r3, r4⟩ := g2.1.2.2 k (by omega)
      have hn := v1.1.le
      rw [cl_of (r1.trans h3) (by omega), cl_of (r2.trans h4) (by omega)]
      obtain ⟨t'', e1, e2⟩ := mAnswer_x2 (deg := (mTk w d k).1 18 k) (dawn := nI d) v1 hm0 h1 h2 g2.1.2.1 g1
      exact ⟨t'', e1, g2.tr e2⟩
    · exact ⟨t', g1, g2⟩
theorem mTk_skip {w : kW} {d t q : Nat} (hq : ∀ k, k < q → ∃ x, x < 60 ∧ w.1 19 k = nI x ∧ x + 1 < d) (hd : d < 60) : ∀ k, k ≤ q → mTk w d k = w := by
  intro k
  induction k with
  | zero => exact fun _ => rfl
  | succ k ih =>
    intro hk
    have e := ih (by omega)
    obtain ⟨x, x0, x1, x2⟩ := hq k (by omega)
    rw [← mTk_no (by rw [e, x1]; intro h; have : nI d = nI (d - 1 + 1) := by rw [Nat.sub_add_cancel (by omega)]
                     rw [this, ← nI_1, Int32.add_sub_cancel] at h
                     have := nI_inj (by omega) (by omega) h
                     omega), e]
def btL (x : Int64) (k : Nat) : Bool := x.toBitVec.getLsbD k
theorem btL_ext {x y : Int64} (h : ∀ i, i < 64 → btL x i = btL y i) : x = y := Int64.toBitVec_inj.mp (BitVec.eq_of_getLsbD_eq (fun i hi => h i hi))
theorem btL_or (x y : Int64) (i : Nat) : btL (x ||| y) i = (btL x i || btL y i) := by unfold btL; rw [Int64.toBitVec_or, BitVec.getLsbD_or]
theorem btL_and (x y : Int64) (i : Nat) : btL (x &&& y) i = (btL x i && btL y i) := by unfold btL; rw [Int64.toBitVec_and, BitVec.getLsbD_and]
theorem btL_0 (i : Nat) : btL 0 i = false := BitVec.getLsbD_zero
theorem sL_l : ∀ n, n < 64 → (((nI n).toInt64 &&& 63).toBitVec.smod 64).toNat = n := by decide +kernel
theorem btL_1 : ∀ i, i < 64 → btL 1 i = decide (i = 0) := by decide +kernel
theorem btL_one {k i : Nat} (hk : k < 64) (hi : i < 64) : btL (1 <<< ((nI k).toInt64 &&& 63)) i = decide (i = k) := by
  have e : btL (1 <<< ((nI k).toInt64 &&& 63)) i = (decide (k ≤ i) && btL 1 (i - k)) := by
    unfold btL
    rw [Int64.toBitVec_shiftLeft]
    show ((1 : Int64).toBitVec <<< (((nI k).toInt64 &&& 63).toBitVec.smod 64).toNat).getLsbD i = _
    rw [sL_l k hk, BitVec.getLsbD_shiftLeft]
    rcases Nat.lt_or_ge i k with h | h
    · simp [h, Nat.not_le.mpr h]
    · simp [hi, h, Nat.not_lt.mpr h]
  rw [e, btL_1 _ (by omega)]
  by_cases h : k ≤ i
  · simp only [h, decide_true, Bool.true_and]
    by_cases h2 : i = k
    · simp [h2]
    · simp [h2]; omega
  · simp [h]; omega
theorem btL_test (x : Int64) {k : Nat} (hk : k < 64) : (x >>> ((nI k).toInt64 &&& 63)) &&& 1 = 1 ↔ btL x k = true := by
  have e0 : btL (x >>> ((nI k).toInt64 &&& 63)) 0 = btL x k := by
    unfold btL
    rw [Int64.toBitVec_shiftRight]
    show (x.toBitVec.sshiftRight (((nI k).toInt64 &&& 63).toBitVec.smod 64).toNat).getLsbD 0 = _
    rw [sL_l k hk, BitVec.getLsbD_sshiftRight]
    simp [hk]
  constructor
  · intro h
    have h0 : btL ((x >>> ((nI k).toInt64 &&& 63)) &&& 1) 0 = true := by rw [h]; decide
    rw [btL_and, e0] at h0
    simpa using (Bool.and_eq_true _ _ ▸ h0 : _ ∧ _).1
  · intro h
    apply btL_ext
    intro i hi
    rw [btL_and]
    by_cases e : i = 0
    · subst e; rw [e0, h]; decide
    · rw [btL_1 i hi]; simp [e]
theorem lg_cmp0 {x y : Int64} : lg_cmp x y = 0 ↔ x = y := by
  unfold lg_cmp
  by_cases h1 : x > y
  · rw [if_pos h1]
    constructor
    · intro h; exact absurd h (by decide)
    · intro h; subst h; exact absurd h1 (by rw [gt_iff_lt, Int64.lt_iff_toInt_lt]; omega)
  · rw [if_neg h1]
    by_cases h2 : x = y
    · rw [if_pos h2]; exact ⟨fun _ => h2, fun _ => rfl⟩
    · rw [if_neg h2]; exact ⟨fun h => absurd h (by decide), fun h => absurd h h2⟩
theorem nI_predS {d : Nat} : nI (d + 1) - 1 = nI d := nI_pred d
end
section
/-! ===== begin ===== -/
def cK2 (w w' : kW) : Prop := ∀ c, (c < 15 ∨ 29 < c) → w'.1 c = w.1 c
theorem cKeep.k2 {w w' : kW} (h : cKeep w w') : cK2 w w' := h.1
theorem cK2.tr {w v u : kW} (h1 : cK2 w v) (h2 : cK2 v u) : cK2 w u := fun c h => (h2 c h).trans (h1 c h)
theorem k_up_up {α : Type} (f : Nat → Nat → α) (c k : Nat) (a b : α) : k_up (k_up f c k a) c k b = k_up f c k b := by
  funext c' k'
  simp only [k_up]
  split
  · split <;> rfl
  · rfl
def dayBits (c : Nat) (ins : Int32) (w : kW) (D : Int64) : Prop := ∀ i, i < 64 → (btL D i = true ↔ ∃ k, k < c ∧ bt ins k = true ∧ w.1 9 k = nI i)
def beg0 (w : kW) (ins arr : Int32) (D : Int64) : kW := ((kset (kset w 15 7 ins) 15 9 arr).1, k_up w.2 15 8 D)
def begW (w : kW) (ins arr : Int32) (D : Int64) : kW := fillF (kset (kset (kset (kset (beg0 w ins arr D) 16 0 0) 24 0 0) 15 5 0) 15 1 0) 29 0 6

set_option maxRecDepth 100000 in
set_option maxHeartbeats 4000000 in
theorem s_X4_begin_lp {w : kW} {c : Nat} {ins arr : Int32} (hc : w.1 6 0 = nI c) (hc9 : c ≤ 9) (hd : ∀ k, k < c → ∃ d, d < 30 ∧ w.1 9 k = nI d) : ∀ q k, k + q = c → ∀ D : Int64, dayBits k ins w D → BS shC RX4 cX4_begin 4 none 1 23 (fun r w' => r = none ∧ ∃ D, dayBits c ins w D ∧ begW w ins arr D = w') 17 [(0, .ref 15), (1, .int ins), (2, .int arr), (3, .int (nI k))] [] (beg0 w ins arr D) := by
  intro q
  induction q with
  | zero =>
    intro k hk D hD
    refine b_iload_n dX4_begin_17 rfl ?_
    refine b_aload_n dX4_begin_18 rfl ?_
    refine b_getr dX4_begin_19 gf_X4_35 rfl rfl ?_
    refine b_geti dX4_begin_22 gf_X4_56 rfl rfl ?_
    refine b_topi (y := nI c) hc ?_
    refine b_icmp_ge (tgt := 65) dX4_begin_25 (by decide) (fun h25 => ?_) (fun h25 => ?_)
    · refine b_aload_n dX4_begin_65 rfl ?_
      refine b_getr dX4_begin_66 gf_X4_12 rfl rfl ?_
      refine b_iconst (v := 0) dX4_begin_69 (by decide) ?_
      refine b_puti dX4_begin_70 gf_X4_66 gs_X1_0 rfl rfl ?_
      refine b_aload_n dX4_begin_73 rfl ?_
      refine b_getr dX4_begin_74 gf_X4_23 rfl rfl ?_
      refine b_iconst (v := 0) dX4_begin_77 (by decide) ?_
      refine b_puti dX4_begin_78 gf_X4_56 gs_X0_0 rfl rfl ?_
      refine b_aload_n dX4_begin_81 rfl ?_
      refine b_iconst (v := 0) dX4_begin_82 (by decide) ?_
      refine b_puti dX4_begin_83 gf_X4_67 gs_X4_5 rfl rfl ?_
      refine b_aload_n dX4_begin_86 rfl ?_
      refine b_iconst (v := 0) dX4_begin_87 (by decide) ?_
      refine b_puti dX4_begin_88 gf_X4_70 gs_X4_1 rfl rfl ?_
      refine b_aload_n dX4_begin_91 rfl ?_
      refine b_getr dX4_begin_92 gf_X4_27 rfl rfl ?_
      refine b_iconst (v := 0) dX4_begin_95 (by decide) ?_
      refine b_callS2 dX4_begin_96 lk_X4_73 ⟨Nat.le_of_ble_eq_true rfl, Nat.le_of_ble_eq_true rfl⟩ (Nat.le_of_ble_eq_true rfl) (s_fill (N := 6) rfl (by decide)) (fun r w96 h96 => ?_)
      obtain ⟨rfl, rfl⟩ := h96
      have e : k = c := by omega
      subst e
      exact b_vret dX4_begin_99 rfl ⟨rfl, D, hD, rfl⟩
    · exact absurd (nI_le (by omega) (by omega)) h25
  | succ q ih =>
    intro k hk D hD
    refine b_iload_n dX4_begin_17 rfl ?_
    refine b_aload_n dX4_begin_18 rfl ?_
    refine b_getr dX4_begin_19 gf_X4_35 rfl rfl ?_
    refine b_geti dX4_begin_22 gf_X4_56 rfl rfl ?_
    refine b_topi (y := nI c) hc ?_
    refine b_icmp_ge (tgt := 65) dX4_begin_25 (by decide) (fun h25 => ?_) (fun h25 => ?_)
    · exact absurd h25 (nI_ge (by omega) (by omega))
    · refine b_aload_n dX4_begin_28 rfl ?_
      refine b_geti dX4_begin_29 gf_X4_45 rfl rfl ?_
      refine b_topi (y := ins) rfl ?_
      refine b_iload_n dX4_begin_32 rfl ?_
      refine b_callSN2 dX4_begin_33 lk_X4_59 ⟨Nat.le_of_ble_eq_true rfl, Nat.le_of_ble_eq_true rfl⟩ (Nat.le_of_ble_eq_true rfl) (s_X7_in (by omega)) (fun r w33 h33 => ?_)
      obtain ⟨rfl, h33⟩ := h33
      rcases h33 with ⟨rfl, h33⟩ | ⟨rfl, h33⟩
      · refine b_if_eq (tgt := 59) dX4_begin_36 (by decide) (fun h36 => absurd h36 (by decide)) (fun h36 => ?_)
        refine b_aload_n dX4_begin_39 rfl ?_
        refine b_dup dX4_begin_40 rfl ?_
        refine b_getl dX4_begin_41 gf_X4_52 rfl rfl ?_
        refine b_topl (y := D) rfl ?_
        refine b_lconst (v := 1) dX4_begin_44 (by decide) ?_
        refine b_aload_n dX4_begin_45 rfl ?_
        refine b_getr dX4_begin_46 gf_X4_35 rfl rfl ?_
        refine b_getr dX4_begin_49 gf_X4_63 rfl rfl ?_
        refine b_iload_n dX4_begin_52 rfl ?_
        refine b_ialdN dX4_begin_53 rfl ⟨by omega, by decide⟩ ?_
        obtain ⟨dd, dd1, dd2⟩ := hd k (by omega)
        refine b_topi (y := nI dd) dd2 ?_
        refine b_lshl dX4_begin_54 ?_
        refine b_lor dX4_begin_55 ?_
        refine b_putl dX4_begin_56 gf_X4_52 gs_X4_8 rfl rfl ?_
        refine b_iinc dX4_begin_59 rfl (nI_inc k) (by decide) ?_
        refine b_goto (tgt := 17) dX4_begin_62 (by decide) ?_
        refine b_sub [1, 2, 3, 0] rfl ?_
        refine b_wd (w' := beg0 w ins arr (D ||| 1 <<< ((nI dd).toInt64 &&& 63))) (by show (_, k_up (k_up w.2 15 8 D) 15 8 _) = _; rw [k_up_up]; rfl) ?_
        refine ih (k + 1) (by omega) _ (fun i hi => ?_)
        rw [btL_or, btL_one (by omega) hi, Bool.or_eq_true, hD i hi, decide_eq_true_eq]
        constructor
        · rintro (⟨j, j1, j2, j3⟩ | rfl)
          · exact ⟨j, by omega, j2, j3⟩
          · exact ⟨k, by omega, h33, dd2⟩
        · rintro ⟨j, j1, j2, j3⟩
          by_cases e : j = k
          · subst e
            exact Or.inr (nI_inj (by omega) (by omega) (j3.symm.trans dd2))
          · exact Or.inl ⟨j, by omega, j2, j3⟩
      · refine b_if_eq (tgt := 59) dX4_begin_36 (by decide) (fun h36 => ?_) (fun h36 => absurd h36 (by decide))
        refine b_iinc dX4_begin_59 rfl (nI_inc k) (by decide) ?_
        refine b_goto (tgt := 17) dX4_begin_62 (by decide) ?_
        refine b_sub [1, 2, 3, 0] rfl ?_
        refine ih (k + 1) (by omega) _ (fun i hi => ?_)
        rw [hD i hi]
        constructor
        · rintro ⟨j, j1, j2, j3⟩
          exact ⟨j, by omega, j2, j3⟩
        · rintro ⟨j, j1, j2, j3⟩
          by_cases e : j = k
          · subst e
            exact absurd j2 h33
          · exact ⟨j, by omega, j2, j3⟩

set_option maxRecDepth 100000 in
set_option maxHeartbeats 4000000 in
theorem s_X4_begin {w : kW} {c : Nat} {ins arr : Int32} (hc : w.1 6 0 = nI c) (hc9 : c ≤ 9) (hd : ∀ k, k < c → ∃ d, d < 30 ∧ w.1 9 k = nI d) : Spec shC yX4_begin cX4_begin 4 none 1 23 [.ref 15, .int ins, .int arr] w (fun r w' => r = none ∧ ∃ D, dayBits c ins w D ∧ begW w ins arr D = w') := by
  refine k_enter pn_X4 (Nat.le_of_ble_eq_true rfl) ?_
  refine b_aload_n dX4_begin_0 rfl ?_
  refine b_iload_n dX4_begin_1 rfl ?_
  refine b_puti dX4_begin_2 gf_X4_45 gs_X4_7 rfl rfl ?_
  refine b_aload_n dX4_begin_5 rfl ?_
  refine b_iload_n dX4_begin_6 rfl ?_
  refine b_puti dX4_begin_7 gf_X4_49 gs_X4_9 rfl rfl ?_
  refine b_aload_n dX4_begin_10 rfl ?_
  refine b_lconst (v := 0) dX4_begin_11 (by decide) ?_
  refine b_putl dX4_begin_12 gf_X4_52 gs_X4_8 rfl rfl ?_
  refine b_iconst (v := 0) dX4_begin_15 (by decide) ?_
  refine b_istore_n dX4_begin_16 (by decide) ?_
  refine b_sub [1, 2, 3, 0] rfl ?_
  refine b_wd (w' := beg0 w ins arr 0) rfl ?_
  exact s_X4_begin_lp hc hc9 hd c 0 (by omega) 0 (fun i hi => by rw [btL_0]; simp)
end
section
/-! ===== the dawns ===== -/
def RI (c : Nat) (w g : kW) : Prop := w.1 6 0 = nI c ∧ ∀ k, k < c → w.1 7 k = g.1 11 k ∧ w.1 8 k = g.1 12 k ∧ w.1 9 k = g.1 13 k ∧ w.1 10 k = g.1 14 k
def RM (n c : Nat) (w g : kW) : Prop := (∀ k, k < c → (bt (w.1 15 7) k = true ↔ bt (g.1 0 20) k = false)) ∧ (∀ p, p < n → (bt (w.1 15 9) p = false ↔ g.1 7 p = 0)) ∧ dayBits c (w.1 15 7) w (w.2 15 8)
def QD (d : Nat) (w g : kW) : Prop := ∃ q t, w.1 15 5 = nI q ∧ q ≤ t ∧ t < 200 ∧ g.1 0 23 = nI t ∧ (∀ k, k < q → ∃ x, x < 60 ∧ g.1 19 k = nI x ∧ x + 1 < d) ∧ (∀ k, q ≤ k → k < t → ∃ x, g.1 19 k = nI x ∧ x + 1 = d)
def RD (n c d : Nat) (w g : kW) : Prop := RP n w g ∧ Ins n c g ∧ RI c w g ∧ RM n c w g ∧ DInv n (3 * d) g ∧ RLg n w g ∧ QD d w g
theorem RI.keep {c : Nat} {w w' g g' : kW} (h : RI c w g) (h1 : cK2 w w') (h2 : sKeep g g') : RI c w' g' := by
  unfold RI at *
  rw [h1 6 (by decide), h1 7 (by decide), h1 8 (by decide), h1 9 (by decide), h1 10 (by decide), h2.1 11 (by decide) (by decide), h2.1 12 (by decide) (by decide), h2.1 13 (by decide) (by decide), h2.1 14 (by decide) (by decide)]
  exact h
theorem RM.keep {n c : Nat} {w w' g g' : kW} (h : RM n c w g) (h1 : cKeep w w') (h2 : sKeep g g') : RM n c w' g' := by
  unfold RM dayBits at *
  rw [h1.1 9 (by decide), h1.2.1 7 (by decide) (by decide), h1.2.1 9 (by decide) (by decide), h1.2.2, h2.1 7 (by decide) (by decide), h2.2.1 20 (by decide) (by decide) (by decide)]
  exact h
theorem RMset {n c : Nat} {w g : kW} {v : Int32} (h : RM n c w g) : RM n c (kset w 15 5 v) g := h
theorem RLg.k {n c k : Nat} {w g : kW} {v : Int32} (h : RLg n w g) (hc : c = 15 ∧ k ≠ 1 ∨ c ≤ 14) : RLg n (kset w c k v) g := by
  obtain ⟨m, t, h1, h2, h3, h4, h5, h6, h7, h8⟩ := h
  refine ⟨m, t, h1, h2, h3, by rw [kset_ne _ _ (by omega)]; exact h4, h5, by rw [kset_ne _ _ (by omega)]; exact h6, h7.w (by omega), ?_⟩
  intro p hp
  rw [kset_ne _ _ (by omega)]
  exact h8 p hp
theorem RLg.z {n : Nat} {w g : kW} {v : Int32} (h : RLg n w g) : RLg n w (kset g 0 22 v) := by
  obtain ⟨m, t, h1, h2, h3, h4, h5, h6, h7, h8⟩ := h
  exact ⟨m, t, h1, h2, h3, h4, h5, h6, h7.g (by omega), h8⟩
/-- a dawn on which nobody answers -/
theorem mTold_none {n c d : Nat} {w g : kW} (hI : Ins n c g) (hno : ∀ k, k < c → ¬ (g.1 13 k = nI d - 1 ∧ bt (g.1 0 20) k = false)) : ∀ k, k ≤ c → mTold g d k = kset g 0 22 0 := by
  intro k
  induction k with
  | zero => exact fun _ => rfl
  | succ k ih =>
    intro hk
    have e := ih (by omega)
    rw [← mTold_no (by rw [e]; exact hno k (by omega)), e]
theorem skip_rel {n c d q t : Nat} {w g : kW} (h : RD n c d w g) (hd : d < 60) (hq : w.1 15 5 = nI q) (ht : g.1 0 23 = nI t) (hq2 : q < 200) (ht2 : t < 200) (hqt : q = t) (hno : ∀ k, k < c → ¬ (g.1 13 k = nI d - 1 ∧ bt (g.1 0 20) k = false)) : RD n c (d + 1) w (mDawn c g d) := by
  obtain ⟨h1, h2, h3, h4, h5, h6, q', t', e1, e2, e3, e4, e5, e6⟩ := h
  have a1 := nI_inj (by omega) (by omega) (e1.symm.trans hq)
  have a2 := nI_inj (by omega) (by omega) (e4.symm.trans ht)
  subst a1; subst a2; subst hqt
  have e : mDawn c g d = kset g 0 22 0 := by
    unfold mDawn
    rw [mTold_none (w := w) h2 hno c (Nat.le_refl _), cl_of e4 (by omega)]
    exact mTk_skip (w := kset g 0 22 0) (t := q') (q := q') e5 hd q' (Nat.le_refl _)
  have hk : sKeep g (kset g 0 22 0) := sKeep.rf.num (by decide)
  obtain ⟨d1, d2⟩ := mDawn_inv (c := c) (d := d) h5 (by omega) h2
  rw [e] at d1 ⊢
  refine ⟨h1.keep cKeep.rf hk, h2.keep hk, h3.keep (fun _ _ => rfl) hk, h4.keep cKeep.rf hk, d1.mono (by omega), h6.z, q', q', e1, Nat.le_refl _, e3, e4, fun k hk => ?_, fun k a b => by omega⟩
  obtain ⟨x, x1, x2, x3⟩ := e5 k hk
  exact ⟨x, x1, x2, by omega⟩
theorem RMno {n c d : Nat} {w g : kW} (hI : Ins n c g) (h3 : RI c w g) (h4 : RM n c w g) (hd : d < 60) (h : ¬ btL (w.2 15 8) d = true) : ∀ k, k < c → ¬ (g.1 13 k = nI (d + 1) - 1 ∧ bt (g.1 0 20) k = false) := by
  rintro k hk ⟨a, b⟩
  rw [nI_predS] at a
  exact h ((h4.2.2 d (by omega)).mpr ⟨k, hk, (h4.1 k hk).mpr b, (h3.2 k hk).2.2.1.trans a⟩)
theorem RMno0 {n c d : Nat} {g : kW} (hI : Ins n c g) (hd : nI d ≤ 0) (hd2 : d < 60) : ∀ k, k < c → ¬ (g.1 13 k = nI d - 1 ∧ bt (g.1 0 20) k = false) := by
  rintro k hk ⟨a, b⟩
  obtain ⟨a1, b1, dd, g1, h1, h2, h3, h4, h5, h6, h7, h8, h9, h10⟩ := hI.2.2 k hk
  have e : d = 0 := by
    rcases Nat.eq_zero_or_pos d with e | e
    · exact e
    · exact absurd hd (nI_nle e (by omega))
  subst e
  rw [h9] at a
  have : ∀ dd, dd < 30 → ¬ nI dd = nI 0 - 1 := by decide +kernel
  exact this dd h4 a

theorem pass_end {w g v : kW} {n c d m0 t t1 q0 : Nat} (hRD : RD n c d w g) (hd : d < 60) (hS0 : SInv n m0 (mTold g d c)) (hm0 : m0 ≤ 3 * d) (ht1 : (mTold g d c).1 0 23 = nI t1) (ht12 : t1 < 200) (htt : t ≤ t1) (hg : g.1 0 23 = nI t) (hX : TkX (nI d) t t1 g (mTold g d c)) (hk9 : sKeep g (mTold g d c)) (hold : ∀ k, k < q0 → ∃ x, x < 60 ∧ g.1 19 k = nI x ∧ x + 1 < d) (hnew : ∀ k, q0 ≤ k → k < t → ∃ x, g.1 19 k = nI x ∧ x + 1 = d) (hL : RLg n v (mTk (mTold g d c) d t)) (hkv : cKeep w v) : RD n c (d + 1) (kset v 15 5 (nI t)) (mDawn c g d) ∧ cK2 w (kset v 15 5 (nI t)) := by
  obtain ⟨h1, h2, h3, h4, h5, h6, h7⟩ := hRD
  obtain ⟨t2, t21, t22⟩ := mTk_x (d := d) hS0 (by omega) ht1 ht12 htt t (Nat.le_refl _)
  obtain ⟨k1, k2, -⟩ := mTk_inv (d := d) hS0 (by omega) ht1 ht12 htt t (Nat.le_refl _)
  have e : mDawn c g d = mTk (mTold g d c) d t := by
    unfold mDawn
    rw [cl_of hg (by omega)]
  have hkk := hk9.tr k2
  have hXX := hX.tr t22
  have hc2 : cK2 w (kset v 15 5 (nI t)) := fun c' hc' => by rw [kset_row _ _ _ _ (by omega)]; exact hkv.1 c' hc'
  rw [e]
  refine ⟨⟨?_, h2.keep hkk, h3.keep hc2 hkk, RMset (h4.keep hkv hkk), k1.stop.mono (by omega), hL.k (by decide), t, t2, kset_eq _ _ _ _, hXX.1.1, t21, hXX.1.2.1, fun k hk => ?_, fun k a b => ⟨d, hXX.2 k a b, rfl⟩⟩, hc2⟩
  · have h1' := h1.keep hkv hkk
    exact ⟨h1'.1, h1'.2.1, h1'.2.2⟩
  · rw [(hXX.1.2.2 k hk).2.2.2]
    by_cases hk0 : k < q0
    · obtain ⟨x, x1, x2, x3⟩ := hold k hk0
      exact ⟨x, x1, x2, by omega⟩
    · obtain ⟨x, x1, x2⟩ := hnew k (by omega) hk
      exact ⟨x, by omega, x1, by omega⟩

set_option maxRecDepth 100000 in
set_option maxHeartbeats 4000000 in
theorem s_X4_pass_l2 {w g : kW} {n c d m0 t t1 q0 : Nat} (hRD : RD n c d w g) (hd : d < 60) (hS0 : SInv n m0 (mTold g d c)) (hm0 : m0 ≤ 3 * d) (ht1 : (mTold g d c).1 0 23 = nI t1) (ht12 : t1 < 200) (htt : t ≤ t1) (ht8 : t < 180) (hg : g.1 0 23 = nI t) (hX : TkX (nI d) t t1 g (mTold g d c)) (hk9 : sKeep g (mTold g d c)) (hq0 : q0 ≤ t) (hold : ∀ k, k < q0 → ∃ x, x < 60 ∧ g.1 19 k = nI x ∧ x + 1 < d) (hnew : ∀ k, q0 ≤ k → k < t → ∃ x, g.1 19 k = nI x ∧ x + 1 = d) : ∀ q k, k + q = t → q0 ≤ k → ∀ v : kW, RLg n v (mTk (mTold g d c) d k) → RF n (nI d) v (mTk (mTold g d c) d k) → cKeep w v → BS shC RX4 cX4_pass 5 none 3 81 (fun r w' => r = none ∧ RD n c (d + 1) w' (mDawn c g d) ∧ cK2 w w') 127 [(0, .ref 15), (1, .int (nI d)), (3, .int (nI t)), (4, .int (nI k))] [] v := by
  intro q
  induction q with
  | zero =>
    intro k hk hk0 v hL hF hkv
    refine b_iload dX4_pass_127 rfl ?_
    refine b_iload_n dX4_pass_129 rfl ?_
    refine b_icmp_ge (tgt := 150) dX4_pass_130 (by decide) (fun h130 => ?_) (fun h130 => ?_)
    · refine b_aload_n dX4_pass_150 rfl ?_
      refine b_iload_n dX4_pass_151 rfl ?_
      refine b_puti dX4_pass_152 gf_X4_67 gs_X4_5 rfl rfl ?_
      have e : k = t := by omega
      subst e
      refine b_vret dX4_pass_155 rfl ⟨rfl, ?_⟩
      exact pass_end hRD hd hS0 hm0 ht1 ht12 htt hg hX hk9 hold hnew hL hkv
    · exact absurd (nI_le (by omega) (by omega)) h130
  | succ q ih =>
    intro k hk hk0 v hL hF hkv
    have hL0 := hL
    obtain ⟨v1, v2, t2, g1, g2⟩ := mTk_inv (d := d) hS0 (by omega) ht1 ht12 htt k (by omega)
    obtain ⟨m3, t3, b1, b2, b3, b4, b5, b6, hb, bh⟩ := hL0
    have e3 := nI_inj (by omega) (by omega) (b5.symm.trans g2.2.1)
    subst e3
    have g2l := g2.1
    obtain ⟨hP, mm, t4, c1, c2, c3, c4, c5⟩ := id hS0
    have e4 := nI_inj (by have := bs6_le ((mTold g d c).1 0 22); omega) (by omega) (c2.symm.trans ht1)
    subst e4
    obtain ⟨a, b2, h1, h2, h3, h4⟩ := c5 k (by omega)
    obtain ⟨r1, r2, r3, r4⟩ := g2.2.2 k (by omega)
    have hn := v1.1.le
    have hday : (mTk (mTold g d c) d k).1 19 k = nI d - 1 := by
      obtain ⟨x, x1, x2⟩ := hnew k hk0 (by omega)
      rw [r4, (hX.1.2.2 k (by omega)).2.2.2, x1, ← x2, nI_predS]
    refine b_iload dX4_pass_127 rfl ?_
    refine b_iload_n dX4_pass_129 rfl ?_
    refine b_icmp_ge (tgt := 150) dX4_pass_130 (by decide) (fun h130 => ?_) (fun h130 => ?_)
    · exact absurd h130 (nI_ge (by omega) (by omega))
    · refine b_aload_n dX4_pass_133 rfl ?_
      refine b_aload_n dX4_pass_134 rfl ?_
      refine b_getr dX4_pass_135 gf_X4_23 rfl rfl ?_
      refine b_iload dX4_pass_138 rfl ?_
      refine b_iload_n dX4_pass_140 rfl ?_
      refine b_callV3 dX4_pass_141 lk_X4_86 rfl rfl rfl ⟨Nat.le_of_ble_eq_true rfl, Nat.le_of_ble_eq_true rfl⟩ (Nat.le_of_ble_eq_true rfl) (s_X4_answer_24 (i := a) (j := b2) ((hRD.1.keep hkv (hk9.tr v2))) v1 (by omega) hL hF (by omega) h1 h2 ((hb.2.1 k (by omega)).1.trans (r1.trans h3)) ((hb.2.1 k (by omega)).2.1.trans (r2.trans h4))) (fun r w141 h141 => ?_)
      obtain ⟨rfl, q1, q2, q3⟩ := h141
      rw [(hb.2.1 k (by omega)).2.2.2, mTk_yes hday (r1.trans h3) (r2.trans h4) (by omega) (by omega)] at q1 q2
      refine b_iinc dX4_pass_144 rfl (nI_inc k) (by decide) ?_
      refine b_goto (tgt := 127) dX4_pass_147 (by decide) ?_
      refine b_sub [1, 2, 3, 0] rfl ?_
      exact ih (k + 1) (by omega) (by omega) w141 q1 q2 (hkv.tr q3)

set_option maxRecDepth 100000 in
set_option maxHeartbeats 4000000 in
theorem s_X4_pass_l1 {w g : kW} {n c d m0 t q0 : Nat} (hRD : RD n c d w g) (hd : d < 60) (hS : SInv n m0 (kset g 0 22 0)) (hm0 : m0 ≤ 3 * d) (hg : g.1 0 23 = nI t) (ht2 : t < 180) (hq0 : q0 ≤ t) (hq : w.1 15 5 = nI q0) (hold : ∀ k, k < q0 → ∃ x, x < 60 ∧ g.1 19 k = nI x ∧ x + 1 < d) (hnew : ∀ k, q0 ≤ k → k < t → ∃ x, g.1 19 k = nI x ∧ x + 1 = d) : ∀ q k, k + q = c → ∀ v : kW, RLg n v (mTold g d k) → RF n (nI d) v (mTold g d k) → cKeep w v → BS shC RX4 cX4_pass 5 none 3 81 (fun r w' => r = none ∧ RD n c (d + 1) w' (mDawn c g d) ∧ cK2 w w') 64 [(0, .ref 15), (1, .int (nI d)), (3, .int (nI t)), (4, .int (nI k))] [] v := by
  intro q
  induction q with
  | zero =>
    intro k hk v hL hF hkv
    obtain ⟨v1, v2⟩ := mTold_inv (d := d) hS hRD.2.1 (by omega) k (by omega)
    have hn := v1.1.le
    have hc9 := hRD.2.1.2.1
    refine b_iload dX4_pass_64 rfl ?_
    refine b_aload_n dX4_pass_66 rfl ?_
    refine b_getr dX4_pass_67 gf_X4_35 rfl rfl ?_
    refine b_geti dX4_pass_70 gf_X4_56 rfl rfl ?_
    refine b_topi (y := nI c) ((congrFun (hkv.1 6 (by decide)) 0).trans hRD.2.2.1.1) ?_
    refine b_icmp_ge (tgt := 121) dX4_pass_73 (by decide) (fun h73 => ?_) (fun h73 => ?_)
    · refine b_aload_n dX4_pass_121 rfl ?_
      refine b_geti dX4_pass_122 gf_X4_67 rfl rfl ?_
      refine b_topi (y := nI q0) ((hkv.2.1 5 (by decide) (by decide)).trans hq) ?_
      refine b_istore dX4_pass_125 (by decide) ?_
      refine b_sub [1, 2, 3, 0] rfl ?_
      have e : k = c := by omega
      subst e
      obtain ⟨t1, t11, t12⟩ := mTold_x (d := d) hS hRD.2.1 (by omega) hg (by omega) k (Nat.le_refl _)
      refine s_X4_pass_l2 hRD hd v1 hm0 t12.1.2.1 t11 t12.1.1 ht2 hg t12 v2 hq0 hold hnew (t - q0) q0 (by omega) (Nat.le_refl _) v ?_ ?_ hkv
      · rw [mTk_skip (t := t) (q := q0) (fun j hj => by rw [(t12.1.2.2 j (by omega)).2.2.2]; exact hold j hj) hd q0 (Nat.le_refl _)]; exact hL
      · rw [mTk_skip (t := t) (q := q0) (fun j hj => by rw [(t12.1.2.2 j (by omega)).2.2.2]; exact hold j hj) hd q0 (Nat.le_refl _)]; exact hF
    · exact absurd (nI_le (by omega) (by omega)) h73
  | succ q ih =>
    intro k hk v hL hF hkv
    obtain ⟨v1, v2⟩ := mTold_inv (d := d) hS hRD.2.1 (by omega) k (by omega)
    have hn := v1.1.le
    have hc9 := hRD.2.1.2.1
    obtain ⟨a, b2, dd, g0, h1, h2, h3, h4, h5, h6, h7, h8, h9, h10⟩ := (hRD.2.1.keep v2).2.2 k (by omega)
    obtain ⟨e7, e8, e9, e10⟩ := (hRD.2.2.1.keep hkv.k2 v2).2 k (by omega)
    refine b_iload dX4_pass_64 rfl ?_
    refine b_aload_n dX4_pass_66 rfl ?_
    refine b_getr dX4_pass_67 gf_X4_35 rfl rfl ?_
    refine b_geti dX4_pass_70 gf_X4_56 rfl rfl ?_
    refine b_topi (y := nI c) ((congrFun (hkv.1 6 (by decide)) 0).trans hRD.2.2.1.1) ?_
    refine b_icmp_ge (tgt := 121) dX4_pass_73 (by decide) (fun h73 => ?_) (fun h73 => ?_)
    · exact absurd h73 (nI_ge (by omega) (by omega))
    · refine b_aload_n dX4_pass_76 rfl ?_
      refine b_geti dX4_pass_77 gf_X4_45 rfl rfl ?_
      refine b_topi (y := w.1 15 7) (hkv.2.1 7 (by decide) (by decide)) ?_
      refine b_iload dX4_pass_80 rfl ?_
      refine b_callSN2 dX4_pass_82 lk_X4_59 ⟨Nat.le_of_ble_eq_true rfl, Nat.le_of_ble_eq_true rfl⟩ (Nat.le_of_ble_eq_true rfl) (s_X7_in (by omega)) (fun r w82 h82 => ?_)
      obtain ⟨rfl, h82⟩ := h82
      rcases h82 with ⟨rfl, h82⟩ | ⟨rfl, h82⟩
      · refine b_if_eq (tgt := 115) dX4_pass_85 (by decide) (fun h85 => absurd h85 (by decide)) (fun h85 => ?_)
        refine b_aload_n dX4_pass_88 rfl ?_
        refine b_getr dX4_pass_89 gf_X4_35 rfl rfl ?_
        refine b_getr dX4_pass_92 gf_X4_63 rfl rfl ?_
        refine b_iload dX4_pass_95 rfl ?_
        refine b_ialdN dX4_pass_97 rfl ⟨by omega, by decide⟩ ?_
        refine b_topi (y := (mTold g d k).1 13 k) e9 ?_
        refine b_iload_n dX4_pass_98 rfl ?_
        refine b_iconst (v := 1) dX4_pass_99 (by decide) ?_
        refine b_isub dX4_pass_100 ?_
        refine b_icmp_ne (tgt := 115) dX4_pass_101 (by decide) (fun h101 => ?_) (fun h101 => ?_)
        · refine b_iinc dX4_pass_115 rfl (nI_inc k) (by decide) ?_
          refine b_goto (tgt := 64) dX4_pass_118 (by decide) ?_
          refine b_sub [1, 2, 3, 0] rfl ?_
          rw [mTold_no (fun h => h101 h.1)] at hL hF
          exact ih (k + 1) (by omega) v hL hF hkv
        · refine b_aload_n dX4_pass_104 rfl ?_
          refine b_aload_n dX4_pass_105 rfl ?_
          refine b_getr dX4_pass_106 gf_X4_35 rfl rfl ?_
          refine b_iload dX4_pass_109 rfl ?_
          refine b_iload_n dX4_pass_111 rfl ?_
          refine b_callV3 dX4_pass_112 lk_X4_86 rfl rfl rfl ⟨Nat.le_of_ble_eq_true rfl, Nat.le_of_ble_eq_true rfl⟩ (Nat.le_of_ble_eq_true rfl) (s_X4_answer_6 (i := a) (j := b2) ((hRD.1.keep hkv v2)) v1 (by omega) hL hF (by omega) h1 h2 (e7.trans h7) (e8.trans h8)) (fun r w112 h112 => ?_)
          obtain ⟨rfl, q1, q2, q3⟩ := h112
          rw [e10, mTold_yes h101 ((hRD.2.2.2.1.1 k (by omega)).mp h82 |> fun z => by rw [v2.2.1 20 (by decide) (by decide) (by decide)]; exact z) h7 h8 (by omega) (by omega)] at q1 q2
          refine b_iinc dX4_pass_115 rfl (nI_inc k) (by decide) ?_
          refine b_goto (tgt := 64) dX4_pass_118 (by decide) ?_
          refine b_sub [1, 2, 3, 0] rfl ?_
          exact ih (k + 1) (by omega) w112 q1 q2 (hkv.tr q3)
      · refine b_if_eq (tgt := 115) dX4_pass_85 (by decide) (fun h85 => ?_) (fun h85 => absurd h85 (by decide))
        refine b_iinc dX4_pass_115 rfl (nI_inc k) (by decide) ?_
        refine b_goto (tgt := 64) dX4_pass_118 (by decide) ?_
        refine b_sub [1, 2, 3, 0] rfl ?_
        rw [mTold_no (fun h => h82 ((hRD.2.2.2.1.1 k (by omega)).mpr (by rw [← v2.2.1 20 (by decide) (by decide) (by decide)]; exact h.2)))] at hL hF
        exact ih (k + 1) (by omega) v hL hF hkv

set_option maxRecDepth 100000 in
set_option maxHeartbeats 4000000 in
theorem s_X4_pass_44 {w g : kW} {n c d : Nat} (hRD : RD n c d w g) (hd : d < 60) (b : Int32) : BS shC RX4 cX4_pass 5 none 3 81 (fun r w' => r = none ∧ RD n c (d + 1) w' (mDawn c g d) ∧ cK2 w w') 44 [(0, .ref 15), (1, .int (nI d)), (2, .int b)] [] w := by
  obtain ⟨m0, hm0, hS⟩ := hRD.2.2.2.2.1.start
  have hRD0 := hRD
  obtain ⟨h1, h2, h3, h4, h5, h6, q0, t, hq, hqt, ht200, hg, hold, hnew⟩ := hRD0
  obtain ⟨tt, tt1, tt2⟩ := h5.t (by omega)
  have ett := nI_inj (by omega) (by omega) (tt2.symm.trans hg)
  subst ett
  obtain ⟨m9, t9, z1, z2, z3, z4, z5, z6, z7, z8⟩ := id h6
  refine b_aload_n dX4_pass_44 rfl ?_
  refine b_getr dX4_pass_45 gf_X4_23 rfl rfl ?_
  refine b_geti dX4_pass_48 gf_X4_56 rfl rfl ?_
  refine b_topi (y := nI tt) (z6.trans (z5.symm.trans hg)) ?_
  refine b_istore_n dX4_pass_51 (by decide) ?_
  refine b_aload_n dX4_pass_52 rfl ?_
  refine b_aload_n dX4_pass_53 rfl ?_
  refine b_iload_n dX4_pass_54 rfl ?_
  refine b_callV1 dX4_pass_55 lk_X4_79 rfl rfl rfl ⟨Nat.le_of_ble_eq_true rfl, Nat.le_of_ble_eq_true rfl⟩ (Nat.le_of_ble_eq_true rfl) (s_X4_freeAhead (n := n) h1.2.1 h1.1.le) (fun r w55 h55 => ?_)
  obtain ⟨rfl, s, rfl, hs⟩ := h55
  refine b_puti dX4_pass_58 gf_X4_83 gs_X4_10 rfl rfl ?_
  refine b_iconst (v := 0) dX4_pass_61 (by decide) ?_
  refine b_istore dX4_pass_62 (by decide) ?_
  refine b_sub [2, 3, 1, 0] rfl ?_
  have hk1 : cKeep w (kset w 15 10 s) := cKeep.rf.num (by decide)
  have hRD1 : RD n c d (kset w 15 10 s) g := ⟨h1.keep hk1 sKeep.rf, h2, h3.keep hk1.k2 sKeep.rf, h4.keep hk1 sKeep.rf, h5, h6.k (by decide), q0, tt, hq, hqt, ht200, hg, hold, hnew⟩
  have hF1 : RF n (nI d) (kset w 15 10 s) (kset g 0 22 0) := by
    intro p hp
    have hsp := hs p hp
    rw [kset_eq, hsp]
    unfold mFree
    rw [kset_eq, b_0]
    constructor
    · rintro ⟨a1, a2, a3⟩
      exact ⟨a1, (h4.2.1 p a1).mp a2, by show g.1 15 p ≤ nI d; rw [← z7.2.2 p a1]; exact a3, rfl⟩
    · rintro ⟨a1, a2, a3, -⟩
      exact ⟨a1, (h4.2.1 p a1).mpr a2, by rw [z7.2.2 p a1]; exact a3⟩
  refine (s_X4_pass_l1 hRD1 hd hS hm0 hg (by omega) hqt hq hold hnew c 0 (by omega) _ (h6.k (by decide)).z hF1 cKeep.rf).mono (fun r w' h => ⟨h.1, h.2.1, hk1.k2.tr h.2.2⟩)

set_option maxRecDepth 100000 in
set_option maxHeartbeats 4000000 in
theorem s_X4_pass {w g : kW} {n c d : Nat} (hRD : RD n c d w g) (hd : d < 60) : Spec shC yX4_pass cX4_pass 5 none 3 81 [.ref 15, .int (nI d)] w (fun r w' => r = none ∧ RD n c (d + 1) w' (mDawn c g d) ∧ cK2 w w') := by
  refine k_enter pn_X4 (Nat.le_of_ble_eq_true rfl) ?_
  refine b_iload_n dX4_pass_0 rfl ?_
  refine b_if_le (tgt := 23) dX4_pass_1 (by decide) (fun h1 => ?_) (fun h1 => ?_)
  · refine b_iconst (v := 0) dX4_pass_23 (by decide) ?_
    refine b_istore_n dX4_pass_24 (by decide) ?_
    refine b_iload_n dX4_pass_25 rfl ?_
    refine b_if_ne (tgt := 44) dX4_pass_26 (by decide) (fun h26 => absurd h26 (by decide)) (fun h26 => ?_)
    refine b_aload_n dX4_pass_29 rfl ?_
    refine b_geti dX4_pass_30 gf_X4_67 rfl rfl ?_
    refine b_aload_n dX4_pass_33 rfl ?_
    refine b_getr dX4_pass_34 gf_X4_23 rfl rfl ?_
    refine b_geti dX4_pass_37 gf_X4_56 rfl rfl ?_
    refine b_icmp_ne (tgt := 44) dX4_pass_40 (by decide) (fun h40 => ?_) (fun h40 => ?_)
    · refine b_sub [1, 2, 0] rfl ?_
      exact s_X4_pass_44 hRD hd _
    · obtain ⟨-, -, -, -, h5, h6, q0, t, hq, hqt, ht200, hg, -, -⟩ := id hRD
      obtain ⟨m9, t9, z1, z2, z3, z4, z5, z6, z7, z8⟩ := h6
      have e1 := nI_inj (by omega) (by omega) ((hq.symm.trans h40).trans (z6.trans (z5.symm.trans hg)))
      exact b_vret dX4_pass_43 rfl ⟨rfl, skip_rel hRD hd hq hg (by omega) ht200 e1 (RMno0 hRD.2.1 h1 hd), fun _ _ => rfl⟩
  · refine b_aload_n dX4_pass_4 rfl ?_
    refine b_getl dX4_pass_5 gf_X4_52 rfl rfl ?_
    refine b_iload_n dX4_pass_8 rfl ?_
    refine b_iconst (v := 1) dX4_pass_9 (by decide) ?_
    refine b_isub dX4_pass_10 ?_
    obtain ⟨d1, rfl⟩ : ∃ d1, d = d1 + 1 := ⟨d - 1, by rcases Nat.eq_zero_or_pos d with e | e <;> first | omega | (subst e; exact absurd (by decide) h1)⟩
    refine b_topi (y := nI d1) nI_predS ?_
    refine b_lshr dX4_pass_11 ?_
    refine b_lconst (v := 1) dX4_pass_12 (by decide) ?_
    refine b_land dX4_pass_13 ?_
    refine b_lconst (v := 1) dX4_pass_14 (by decide) ?_
    refine b_lcmp dX4_pass_15 ?_
    refine b_if_ne (tgt := 23) dX4_pass_16 (by decide) (fun h16 => ?_) (fun h16 => ?_)
    · refine b_iconst (v := 0) dX4_pass_23 (by decide) ?_
      refine b_istore_n dX4_pass_24 (by decide) ?_
      refine b_iload_n dX4_pass_25 rfl ?_
      refine b_if_ne (tgt := 44) dX4_pass_26 (by decide) (fun h26 => absurd h26 (by decide)) (fun h26 => ?_)
      refine b_aload_n dX4_pass_29 rfl ?_
      refine b_geti dX4_pass_30 gf_X4_67 rfl rfl ?_
      refine b_aload_n dX4_pass_33 rfl ?_
      refine b_getr dX4_pass_34 gf_X4_23 rfl rfl ?_
      refine b_geti dX4_pass_37 gf_X4_56 rfl rfl ?_
      refine b_icmp_ne (tgt := 44) dX4_pass_40 (by decide) (fun h40 => ?_) (fun h40 => ?_)
      · refine b_sub [1, 2, 0] rfl ?_
        exact s_X4_pass_44 hRD hd _
      · obtain ⟨-, -, -, -, h5, h6, q0, t, hq, hqt, ht200, hg, -, -⟩ := id hRD
        obtain ⟨m9, t9, z1, z2, z3, z4, z5, z6, z7, z8⟩ := h6
        have e1 := nI_inj (by omega) (by omega) ((hq.symm.trans h40).trans (z6.trans (z5.symm.trans hg)))
        exact b_vret dX4_pass_43 rfl ⟨rfl, skip_rel hRD hd hq hg (by omega) ht200 e1 (RMno (w := w) hRD.2.1 hRD.2.2.1 hRD.2.2.2.1 (by omega) (fun hb => h16 (lg_cmp0.mpr ((btL_test _ (by omega)).mpr hb)))), fun _ _ => rfl⟩
    · refine b_iconst (v := 1) dX4_pass_19 (by decide) ?_
      refine b_goto (tgt := 24) dX4_pass_20 (by decide) ?_
      refine b_istore_n dX4_pass_24 (by decide) ?_
      refine b_iload_n dX4_pass_25 rfl ?_
      refine b_if_ne (tgt := 44) dX4_pass_26 (by decide) (fun h26 => ?_) (fun h26 => absurd h26 (by decide))
      refine b_sub [1, 2, 0] rfl ?_
      exact s_X4_pass_44 hRD hd _
end
section
/-! ===== live: all dawns ===== -/
theorem begW_k2 (w : kW) (ins arr : Int32) (D : Int64) : cK2 w (begW w ins arr D) := by
  intro c hc
  unfold begW
  rw [fillF_row (by omega), kset_row _ _ _ _ (by omega), kset_row _ _ _ _ (by omega), kset_row _ _ _ _ (by omega), kset_row _ _ _ _ (by omega)]
  show (kset (kset w 15 7 ins) 15 9 arr).1 c = _
  rw [kset_row _ _ _ _ (by omega), kset_row _ _ _ _ (by omega)]
theorem RP.keep2 {n : Nat} {w w' g g' : kW} (h : RP n w g) (h1 : cK2 w w') (h2 : sKeep g g') : RP n w' g' := by
  refine ⟨h.1.keep h2, ?_, fun p hp => ?_⟩
  · rw [h1 1 (by decide)]; exact h.2.1
  · rw [h1 2 (by decide), h1 3 (by decide), h1 4 (by decide), h1 5 (by decide), h2.1 4 (by decide) (by decide), h2.1 5 (by decide) (by decide), h2.1 6 (by decide) (by decide)]
    exact h.2.2 p hp
theorem begW_15 (w : kW) (ins arr : Int32) (D : Int64) : (begW w ins arr D).1 15 = (kset (kset (kset (kset (beg0 w ins arr D) 16 0 0) 24 0 0) 15 5 0) 15 1 0).1 15 := by
  unfold begW
  exact fillF_row (by omega) 6
theorem beg_rel {n c : Nat} {w g : kW} {ins arr : Int32} {D : Int64} (h1 : RP n w g) (h2 : Ins n c g) (h3 : RI c w g) (hi : ∀ k, k < c → (bt ins k = true ↔ bt (g.1 0 20) k = false)) (ha : ∀ p, p < n → (bt arr p = false ↔ g.1 7 p = 0)) (hD : dayBits c ins w D) : RD n c 0 (begW w ins arr D) (mBegin n g) := by
  obtain ⟨b1, b2⟩ := mBegin_inv h1.1
  have hn := h1.1.le
  have k2 := begW_k2 w ins arr D
  have z := mZero_23 g n
  refine ⟨h1.keep2 k2 b2, h2.keep b2, h3.keep k2 b2, ⟨?_, ?_, ?_⟩, b1, ⟨0, 0, by decide, by decide, z.2, ?_, z.1, ?_, ⟨fun _ _ _ _ h => absurd h (Nat.not_lt_zero _), fun _ h => absurd h (Nat.not_lt_zero _), fun p hp => ?_⟩, fun p hp => ?_⟩, 0, 0, ?_, Nat.le_refl _, by decide, z.1, fun _ h => absurd h (Nat.not_lt_zero _), fun _ _ h => absurd h (Nat.not_lt_zero _)⟩
  · intro k hk
    rw [begW_15, b2.2.1 20 (by decide) (by decide) (by decide)]
    exact hi k hk
  · intro p hp
    rw [begW_15, b2.1 7 (by decide) (by decide)]
    exact ha p hp
  · unfold dayBits
    rw [begW_15, k2 9 (by decide)]
    have e2 : (begW w ins arr D).2 = k_up w.2 15 8 D := by unfold begW; rw [fillF_2]; rfl
    rw [e2, k_up_same]
    exact hD
  · unfold begW; rw [fillF_row (by omega)]; rfl
  · unfold begW; rw [fillF_row (by omega)]; rfl
  · unfold begW
    rw [fillF_in 6 p (by omega)]
    show (0 : Int32) = (mZero g n).1 15 p
    rw [mZero_15 g n p hp]
  · rw [begW_15]
    show bt 0 p = true ↔ _
    rw [b_0]
    simp
  · rw [begW_15]; rfl
theorem last_lt {D k : Nat} (hD : D ≤ 60) (hk : k ≤ 60) : nI D - 1 < nI k ↔ D ≤ k := by
  have : ∀ D, D < 61 → ∀ k, k < 61 → (nI D - 1 < nI k ↔ D ≤ k) := by decide +kernel
  exact this D (by omega) k (by omega)

set_option maxRecDepth 100000 in
set_option maxHeartbeats 4000000 in
theorem s_X4_live_lp {w g : kW} {n c D : Nat} (hD : D ≤ 60) : ∀ q k, k + q = D → ∀ v : kW, RD n c k v (mAhead n c g k) → cK2 w v → BS shC RX4 cX4_live 5 none 4 105 (fun r w' => r = none ∧ RD n c D w' (mAhead n c g D) ∧ cK2 w w') 9 [(0, .ref 15), (3, .int (nI D - 1)), (4, .int (nI k))] [] v := by
  intro q
  induction q with
  | zero =>
    intro k hk v hv hk2
    refine b_iload dX4_live_9 rfl ?_
    refine b_iload_n dX4_live_11 rfl ?_
    refine b_icmp_gt (tgt := 27) dX4_live_12 (by decide) (fun h12 => ?_) (fun h12 => ?_)
    · have e : k = D := by omega
      subst e
      exact b_vret dX4_live_27 rfl ⟨rfl, hv, hk2⟩
    · exact absurd ((last_lt hD (by omega)).mpr (by omega)) h12
  | succ q ih =>
    intro k hk v hv hk2
    refine b_iload dX4_live_9 rfl ?_
    refine b_iload_n dX4_live_11 rfl ?_
    refine b_icmp_gt (tgt := 27) dX4_live_12 (by decide) (fun h12 => ?_) (fun h12 => ?_)
    · exact absurd ((last_lt hD (by omega)).mp h12) (by omega)
    · refine b_aload_n dX4_live_15 rfl ?_
      refine b_iload dX4_live_16 rfl ?_
      refine b_callV1 dX4_live_18 lk_X4_42 rfl rfl rfl ⟨Nat.le_of_ble_eq_true rfl, Nat.le_of_ble_eq_true rfl⟩ (Nat.le_of_ble_eq_true rfl) (s_X4_pass hv (by omega)) (fun r w18 h18 => ?_)
      obtain ⟨rfl, q1, q2⟩ := h18
      refine b_iinc dX4_live_21 rfl (nI_inc k) (by decide) ?_
      refine b_goto (tgt := 9) dX4_live_24 (by decide) ?_
      refine b_sub [1, 2, 0] rfl ?_
      exact ih (k + 1) (by omega) w18 q1 (hk2.tr q2)

set_option maxRecDepth 100000 in
set_option maxHeartbeats 4000000 in
theorem s_X4_live {w g : kW} {n c D : Nat} {ins arr last : Int32} (h1 : RP n w g) (h2 : Ins n c g) (h3 : RI c w g) (hD : D ≤ 60) (hl : last = nI D - 1) (hi : ∀ k, k < c → (bt ins k = true ↔ bt (g.1 0 20) k = false)) (ha : ∀ p, p < n → (bt arr p = false ↔ g.1 7 p = 0)) : Spec shC yX4_live cX4_live 5 none 4 105 [.ref 15, .int ins, .int arr, .int last] w (fun r w' => r = none ∧ RD n c D w' (mAhead n c g D) ∧ cK2 w w') := by
  subst hl
  refine k_enter pn_X4 (Nat.le_of_ble_eq_true rfl) ?_
  refine b_aload_n dX4_live_0 rfl ?_
  refine b_iload_n dX4_live_1 rfl ?_
  refine b_iload_n dX4_live_2 rfl ?_
  refine b_callV2 dX4_live_3 lk_X4_38 rfl rfl rfl ⟨Nat.le_of_ble_eq_true rfl, Nat.le_of_ble_eq_true rfl⟩ (Nat.le_of_ble_eq_true rfl) (s_X4_begin h3.1 h2.2.1 (fun k hk => by obtain ⟨a, b, d, g0, z1, z2, z3, z4, z5, z6, z7, z8, z9, z10⟩ := h2.2.2 k hk; exact ⟨d, z4, ((h3.2 k hk).2.2.1).trans z9⟩)) (fun r w3 h3_ => ?_)
  obtain ⟨rfl, Dd, hDd, rfl⟩ := h3_
  refine b_iconst (v := 0) dX4_live_6 (by decide) ?_
  refine b_istore dX4_live_7 (by decide) ?_
  refine b_sub [1, 4, 0] rfl ?_
  exact s_X4_live_lp hD D 0 (by omega) _ (beg_rel h1 h2 h3 hi ha hDd) (begW_k2 _ _ _ _)
end
section
/-! ===== the reference's state, and what a call that only asks leaves ===== -/
def dn (x : Int32) : Nat := x.toNatClampNeg
theorem dn_nI {k : Nat} (h : k < 2 ^ 31) : dn (nI k) = k := nI_clamp h
def Rd (n q : Nat) (w : kW) : Prop := w.1 0 35 = nI q ∧ q ≤ 8 ∧ ∀ k, k < q → ∃ p d, p < n ∧ d < 60 ∧ w.1 26 k = nI p ∧ w.1 27 k = nI d ∧ (w.1 28 k = 0 ∨ w.1 28 k = 1)
def Shv (w : kW) : Prop := ∀ k, k < 4 → (w.1 1 k = -9 ∨ w.1 1 k = 0 ∨ w.1 1 k = 1 ∨ w.1 1 k = 2) ∧ ∃ l, l ≤ 50 ∧ w.1 2 k = nI l
def MInv (n c q : Nat) (w : kW) : Prop := Pn n w ∧ Ins n c w ∧ c ≤ 8 ∧ Rd n q w ∧ w.1 0 20 = 0 ∧ Shv w
def mKp (c : Nat) (w v : kW) : Prop := (∀ j, j ≠ 0 → (j < 11 ∨ 25 < j) → v.1 j = w.1 j) ∧ (∀ j k, 11 ≤ j → j ≤ 14 → k < c → v.1 j k = w.1 j k) ∧ (∀ j, j ≠ 22 → j ≠ 23 → j ≠ 28 → v.1 0 j = w.1 0 j)
theorem mKp.rf {c : Nat} {w : kW} : mKp c w w := ⟨fun _ _ _ => rfl, fun _ _ _ _ _ => rfl, fun _ _ _ _ => rfl⟩
theorem mKp.tr {c : Nat} {w v u : kW} (h1 : mKp c w v) (h2 : mKp c v u) : mKp c w u := ⟨fun j a b => (h2.1 j a b).trans (h1.1 j a b), fun j k a b hk => (h2.2.1 j k a b hk).trans (h1.2.1 j k a b hk), fun j a b d => (h2.2.2 j a b d).trans (h1.2.2 j a b d)⟩
theorem mKp.of {c : Nat} {w v : kW} (h : sKeep w v) : mKp c w v := ⟨fun j a b => h.1 j a (by omega), fun j k a b _ => by rw [h.1 j (by omega) (by omega)], fun j a b d => h.2.1 j a b d⟩
theorem mKp.peq {c : Nat} {w v : kW} (h : mKp c w v) : PEq c w v := ⟨fun j a b => h.1 j (by omega) (by omega), h.2.1, h.2.2 5 (by decide) (by decide) (by decide), h.2.2 15 (by decide) (by decide) (by decide), fun k _ => by rw [h.2.2 20 (by decide) (by decide) (by decide)]⟩
theorem mKp.pn {c n : Nat} {w v : kW} (h : mKp c w v) (hP : Pn n w) : Pn n v := h.peq.pn hP
theorem mKp.ins {c n : Nat} {w v : kW} (h : mKp c w v) (hP : Ins n c w) : Ins n c v := h.peq.ins hP
theorem mKp.minv {n c q : Nat} {w v : kW} (h : mKp c w v) (hM : MInv n c q w) : MInv n c q v := by
  obtain ⟨h1, h2, h3, h4, h5, h6⟩ := hM
  refine ⟨h.pn h1, h.ins h2, h3, ?_, (h.2.2 20 (by decide) (by decide) (by decide)).trans h5, ?_⟩
  · unfold Rd at *
    rw [h.2.2 35 (by decide) (by decide) (by decide), h.1 26 (by decide) (by decide), h.1 27 (by decide) (by decide), h.1 28 (by decide) (by decide)]
    exact h4
  · unfold Shv at *
    rw [h.1 1 (by decide) (by decide), h.1 2 (by decide) (by decide)]
    exact h6
theorem PEq.un {c : Nat} {w v : kW} {x : Int32} (h : PEq c w v) : PEq c (kset w 0 20 x) (kset v 0 20 x) :=
  ⟨fun j a b => by rw [kset_row _ _ _ _ (by omega), kset_row _ _ _ _ (by omega)]; exact h.1 j a b, fun j k a b hk => by rw [kset_row _ _ _ _ (by omega), kset_row _ _ _ _ (by omega)]; exact h.2.1 j k a b hk, h.2.2.1, h.2.2.2.1, fun k _ => by rw [kset_eq, kset_eq]⟩
theorem mKp.un {c : Nat} {w v : kW} {x : Int32} (h : mKp c w v) : mKp c (kset w 0 20 x) (kset v 0 20 x) :=
  ⟨fun j a b => by rw [kset_row _ _ _ _ a, kset_row _ _ _ _ a]; exact h.1 j a b, fun j k a b hk => by rw [kset_row _ _ _ _ (by omega), kset_row _ _ _ _ (by omega)]; exact h.2.1 j k a b hk, fun j a b d => kset_cg (h.2.2 j a b d)⟩
theorem mKp.un0 {c : Nat} {w v : kW} {x y : Int32} (h : mKp c (kset w 0 20 x) v) : mKp c (kset w 0 20 y) (kset v 0 20 y) :=
  ⟨fun j a b => by rw [kset_row _ _ _ _ a, kset_row _ _ _ _ a, h.1 j a b, kset_row _ _ _ _ a], fun j k a b hk => by rw [kset_row _ _ _ _ (by omega), kset_row _ _ _ _ (by omega), h.2.1 j k a b hk, kset_row _ _ _ _ (by omega)], fun j a b d => by
    by_cases e : j = 20
    · subst e; rw [kset_eq, kset_eq]
    · rw [kset_ne _ _ (Or.inr e), kset_ne _ _ (Or.inr e), h.2.2 j a b d, kset_ne _ _ (Or.inr e)]⟩
theorem kset_self {w : kW} {c k : Nat} {x : Int32} (h : w.1 c k = x) : kset w c k x = w := by
  unfold kset
  refine Prod.ext ?_ rfl
  funext c' k'
  simp only [k_up]
  split
  · rename_i e; subst e
    split
    · rename_i e; subst e; exact h.symm
    · rfl
  · rfl
theorem mKp.un1 {c : Nat} {w v : kW} {x y : Int32} (h : mKp c (kset w 0 20 x) v) (hy : w.1 0 20 = y) : mKp c w (kset v 0 20 y) := by
  have h2 := h.un0 (y := y)
  rwa [kset_self hy] at h2
theorem Pn.un {n : Nat} {w : kW} {x : Int32} (h : Pn n w) : Pn n (kset w 0 20 x) := h
theorem Ins.un {n c : Nat} {w : kW} {x : Int32} (h : Ins n c w) : Ins n c (kset w 0 20 x) := h
theorem SQ.m {n : Nat} {w v : kW} (h : SQ n w v) : v.1 0 28 = w.1 0 28 := by
  obtain ⟨t, m, h1, h2, h3, h4, h5, h6, h7⟩ := h
  exact h4.trans h3.symm
theorem SQ.row {n j k : Nat} {w v : kW} (h : SQ n w v) (h1 : 20 ≤ j) (h2 : j ≤ 25) (hk : nI k < w.1 0 28) (hk2 : k < 2 ^ 31) : v.1 j k = w.1 j k := by
  obtain ⟨t, m, a1, a2, a3, a4, a5, a6, a7⟩ := h
  rw [a3] at hk
  exact a7.2.2.2 j k h1 h2 ((nI_ltI hk2 (by omega)).mp hk)
theorem dawn_of {x : Int32} (h : 0 ≤ x ∧ x ≤ 59) : ∃ D, D < 60 ∧ x = nI D := by
  obtain ⟨j, hj, e⟩ := nI_of2 (n := 59) (M := 59) (by decide) (Int32.not_lt.mpr h.1) h.2
  exact ⟨j, by omega, e⟩
theorem dawn_in {D : Nat} (h : D < 60) : (0 : Int32) ≤ nI D ∧ nI D ≤ 59 := ⟨nI_pos' (by omega), nI_le (b := 59) (by omega) (by omega)⟩
theorem pers_of {x : Int32} {n : Nat} {w : kW} (hP : Pn n w) (h : ¬ x < 0 ∧ x < w.1 0 5) : ∃ p, p < n ∧ x = nI p := by
  rw [hP.1] at h
  exact nI_between h.1 h.2 (by have := hP.le; omega)
theorem met_lt {n M k : Nat} {w : kW} (h : DInv n M w) (hM : M ≤ 180) : ∃ m, w.1 0 28 = nI m ∧ m ≤ 180 := by
  obtain ⟨hP, m, t, h1, h2, h3, h4, h5⟩ := h
  exact ⟨m, h1, by omega⟩
/-! the answers -/
abbrev isPr (w : kW) (x : Int32) : Prop := ¬ x < 0 ∧ x < w.1 0 5
abbrev isDw (d : Int32) : Prop := 0 ≤ d ∧ d ≤ 59
def A_meetings (n c : Nat) (w : kW) (d : Int32) : Int32 := if isDw d then (if w.1 0 5 = 0 then -3 else (mGo n c w (dn d + 1)).1 0 28) else -2
def A_met (n c : Nat) (w : kW) (k what : Int32) : Int32 := if k < 0 ∨ (mGo n c w 60).1 0 28 ≤ k ∨ w.1 0 5 = 0 then -1 else if 0 ≤ what ∧ what ≤ 5 then (mGo n c w 60).1 (20 + dn what) (dn k) else -2
def A_free (n c : Nat) (w : kW) (p d : Int32) : Int32 := if isPr w p then (if isDw d then (if mFree (mGo n c w (dn d)) (dn p) d then 1 else 0) else -2) else -1
def A_second (n c : Nat) (w : kW) (p o d : Int32) : Int32 := if isPr w p ∧ isPr w o ∧ ¬ p = o then (if isDw d then oI (mSec (mGo n c w (dn d)) (dn p) o (-9) d) else -2) else -1
def A_worth (n c : Nat) (w : kW) (k : Int32) : Int32 := if ¬ k < 0 ∧ k < w.1 0 15 then (mGo n c w 60).1 0 28 - (mGo n c (kset w 0 20 (1 <<< (k &&& 31))) 60).1 0 28 + 1000 else -1
end
section
set_option maxRecDepth 100000 in
set_option maxHeartbeats 4000000 in
theorem s_X8_meetings {w : kW} {n c q : Nat} (hM : MInv n c q w) {d : Int32} : Spec shM yX8_meetings cX8_meetings 2 (some .int) 6 146 [.ref 0, .int d] w (fun r w' => r = some (.int (A_meetings n c w d)) ∧ mKp c w w') := by
  obtain ⟨hP, hI, hc8, hR, hu, hS⟩ := id hM
  have hn := hP.le
  refine k_enter pn_X8 (Nat.le_of_ble_eq_true rfl) ?_
  refine b_iload_n dX8_meetings_0 rfl ?_
  refine b_callS1 dX8_meetings_1 lk_X8_195 ⟨Nat.le_of_ble_eq_true rfl, Nat.le_of_ble_eq_true rfl⟩ (Nat.le_of_ble_eq_true rfl) (s_X8_isDawn) (fun r w1 h1 => ?_)
  obtain ⟨rfl, h1⟩ := h1
  rcases h1 with ⟨rfl, h1⟩ | ⟨rfl, h1⟩
  · refine b_if_ne (tgt := 10) dX8_meetings_4 (by decide) (fun h4 => ?_) (fun h4 => absurd h4 (by decide))
    obtain ⟨D, hD, rfl⟩ := dawn_of h1
    refine b_aload_n dX8_meetings_10 rfl ?_
    refine b_geti dX8_meetings_11 gf_X8_105 rfl rfl ?_
    refine b_if_ne (tgt := 20) dX8_meetings_14 (by decide) (fun h14 => ?_) (fun h14 => ?_)
    · refine b_aload_n dX8_meetings_20 rfl ?_
      refine b_iload_n dX8_meetings_21 rfl ?_
      refine b_iconst (v := 1) dX8_meetings_22 (by decide) ?_
      refine b_iadd dX8_meetings_23 ?_
      refine b_topi (y := nI (D + 1)) (nI_1 D) ?_
      refine b_callV1 dX8_meetings_24 lk_X8_198 rfl rfl rfl ⟨Nat.le_of_ble_eq_true rfl, Nat.le_of_ble_eq_true rfl⟩ (Nat.le_of_ble_eq_true rfl) (s_X8_goAhead hP hI (by omega)) (fun r w24 h24 => ?_)
      obtain ⟨rfl, rfl⟩ := h24
      refine b_aload_n dX8_meetings_27 rfl ?_
      refine b_geti dX8_meetings_28 gf_X8_165 rfl rfl ?_
      refine b_iret dX8_meetings_31 rfl ⟨?_, ?_⟩
      · simp only [A_meetings, if_pos (dawn_in hD), if_neg h14, dn_nI (show D < 2 ^ 31 by omega)]
      · exact mKp.of (mGo_keep hP hI (by omega))
    · refine b_bipush (v := (-3)) dX8_meetings_17 (by decide) ?_
      refine b_iret dX8_meetings_19 rfl ⟨?_, ?_⟩
      · simp only [A_meetings, if_pos (dawn_in hD), if_pos h14]
      · exact mKp.rf
  · refine b_if_ne (tgt := 10) dX8_meetings_4 (by decide) (fun h4 => absurd h4 (by decide)) (fun h4 => ?_)
    refine b_bipush (v := (-2)) dX8_meetings_7 (by decide) ?_
    refine b_iret dX8_meetings_9 rfl ⟨?_, ?_⟩
    · simp only [A_meetings, if_neg h1]
    · exact mKp.rf

theorem ts_out {x : Int32} (N : Nat) {M : Int32} (hM : M.toInt = N) (h : ¬ (0 ≤ x ∧ x ≤ M)) : x.toInt < 0 ∨ (N : Int) < x.toInt := by
  rw [Int32.le_iff_toInt_le, Int32.le_iff_toInt_le, hM] at h
  have : (0 : Int32).toInt = 0 := by decide
  omega

set_option maxRecDepth 100000 in
set_option maxHeartbeats 4000000 in
theorem s_X8_met {w : kW} {n c q : Nat} (hM : MInv n c q w) {k what : Int32} : Spec shM yX8_met cX8_met 3 (some .int) 6 146 [.ref 0, .int k, .int what] w (fun r w' => r = some (.int (A_met n c w k what)) ∧ mKp c w w') := by
  obtain ⟨hP, hI, hc8, hR, hu, hS⟩ := id hM
  have hn := hP.le
  refine k_enter pn_X8 (Nat.le_of_ble_eq_true rfl) ?_
  refine b_aload_n dX8_met_0 rfl ?_
  refine b_bipush (v := 60) dX8_met_1 (by decide) ?_
  refine b_callV1 dX8_met_3 lk_X8_198 rfl rfl rfl ⟨Nat.le_of_ble_eq_true rfl, Nat.le_of_ble_eq_true rfl⟩ (Nat.le_of_ble_eq_true rfl) (s_X8_goAhead (D := 60) hP hI (by omega)) (fun r w3 h3 => ?_)
  obtain ⟨rfl, rfl⟩ := h3
  refine b_iload_n dX8_met_6 rfl ?_
  refine b_if_lt (tgt := 25) dX8_met_7 (by decide) (fun h7 => ?_) (fun h7 => ?_)
  · refine b_iconst (v := (-1)) dX8_met_25 (by decide) ?_
    refine b_iret dX8_met_26 rfl ⟨?_, ?_⟩
    · simp only [A_met, if_pos (Or.inl h7)]
    · exact mKp.of (mGo_keep hP hI (by omega))
  · refine b_iload_n dX8_met_10 rfl ?_
    refine b_aload_n dX8_met_11 rfl ?_
    refine b_geti dX8_met_12 gf_X8_165 rfl rfl ?_
    refine b_icmp_ge (tgt := 25) dX8_met_15 (by decide) (fun h15 => ?_) (fun h15 => ?_)
    · refine b_iconst (v := (-1)) dX8_met_25 (by decide) ?_
      refine b_iret dX8_met_26 rfl ⟨?_, ?_⟩
      · simp only [A_met, if_pos (Or.inr (Or.inl h15))]
      · exact mKp.of (mGo_keep hP hI (by omega))
    · refine b_aload_n dX8_met_18 rfl ?_
      refine b_geti dX8_met_19 gf_X8_105 rfl rfl ?_
      refine b_topi (y := w.1 0 5) ((mGo_keep hP hI (Nat.le_refl 60)).2.1 5 (by decide) (by decide) (by decide)) ?_
      refine b_if_ne (tgt := 27) dX8_met_22 (by decide) (fun h22 => ?_) (fun h22 => ?_)
      · obtain ⟨m, hm, hm2⟩ := met_lt (k := 0) (mGo_inv hP hI (Nat.le_refl 60)) (by omega)
        obtain ⟨j, hj, rfl⟩ := nI_between h7 (by rw [← hm]; exact Int32.not_le.mp h15) (by omega)
        refine b_iload_n dX8_met_27 rfl ?_
        by_cases hw : (0 : Int32) ≤ what ∧ what ≤ 5
        obtain ⟨x, hx, rfl⟩ := nI_of2 (n := 5) (M := 5) (by decide) (Int32.not_lt.mpr hw.1) hw.2
        rcases (show x = 0 ∨ x = 1 ∨ x = 2 ∨ x = 3 ∨ x = 4 ∨ x = 5 by omega) with rfl | rfl | rfl | rfl | rfl | rfl
        · refine b_tsIn (off := 40) (tgt := 68) dX8_met_28 (by decide) (by decide) (by decide) (by decide) ?_
          refine b_aload_n dX8_met_68 rfl ?_
          refine b_getr dX8_met_69 gf_X8_68 rfl rfl ?_
          refine b_iload_n dX8_met_72 rfl ?_
          refine b_ialdN dX8_met_73 rfl ⟨by omega, by decide⟩ ?_
          refine b_iret dX8_met_74 rfl ⟨?_, ?_⟩
          · simp only [A_met, if_neg (show ¬ (nI j < 0 ∨ (mGo n c w 60).1 0 28 ≤ nI j ∨ w.1 0 5 = 0) from fun h => h.elim h7 (fun h => h.elim h15 h22)), dn_nI (show j < 2 ^ 31 by omega)]; rfl
          · exact mKp.of (mGo_keep hP hI (by omega))
        · refine b_tsIn (off := 47) (tgt := 75) dX8_met_28 (by decide) (by decide) (by decide) (by decide) ?_
          refine b_aload_n dX8_met_75 rfl ?_
          refine b_getr dX8_met_76 gf_X8_71 rfl rfl ?_
          refine b_iload_n dX8_met_79 rfl ?_
          refine b_ialdN dX8_met_80 rfl ⟨by omega, by decide⟩ ?_
          refine b_iret dX8_met_81 rfl ⟨?_, ?_⟩
          · simp only [A_met, if_neg (show ¬ (nI j < 0 ∨ (mGo n c w 60).1 0 28 ≤ nI j ∨ w.1 0 5 = 0) from fun h => h.elim h7 (fun h => h.elim h15 h22)), dn_nI (show j < 2 ^ 31 by omega)]; rfl
          · exact mKp.of (mGo_keep hP hI (by omega))
        · refine b_tsIn (off := 54) (tgt := 82) dX8_met_28 (by decide) (by decide) (by decide) (by decide) ?_
          refine b_aload_n dX8_met_82 rfl ?_
          refine b_getr dX8_met_83 gf_X8_74 rfl rfl ?_
          refine b_iload_n dX8_met_86 rfl ?_
          refine b_ialdN dX8_met_87 rfl ⟨by omega, by decide⟩ ?_
          refine b_iret dX8_met_88 rfl ⟨?_, ?_⟩
          · simp only [A_met, if_neg (show ¬ (nI j < 0 ∨ (mGo n c w 60).1 0 28 ≤ nI j ∨ w.1 0 5 = 0) from fun h => h.elim h7 (fun h => h.elim h15 h22)), dn_nI (show j < 2 ^ 31 by omega)]; rfl
          · exact mKp.of (mGo_keep hP hI (by omega))
        · refine b_tsIn (off := 61) (tgt := 89) dX8_met_28 (by decide) (by decide) (by decide) (by decide) ?_
          refine b_aload_n dX8_met_89 rfl ?_
          refine b_getr dX8_met_90 gf_X8_77 rfl rfl ?_
          refine b_iload_n dX8_met_93 rfl ?_
          refine b_ialdN dX8_met_94 rfl ⟨by omega, by decide⟩ ?_
          refine b_iret dX8_met_95 rfl ⟨?_, ?_⟩
          · simp only [A_met, if_neg (show ¬ (nI j < 0 ∨ (mGo n c w 60).1 0 28 ≤ nI j ∨ w.1 0 5 = 0) from fun h => h.elim h7 (fun h => h.elim h15 h22)), dn_nI (show j < 2 ^ 31 by omega)]; rfl
          · exact mKp.of (mGo_keep hP hI (by omega))
        · refine b_tsIn (off := 68) (tgt := 96) dX8_met_28 (by decide) (by decide) (by decide) (by decide) ?_
          refine b_aload_n dX8_met_96 rfl ?_
          refine b_getr dX8_met_97 gf_X8_80 rfl rfl ?_
          refine b_iload_n dX8_met_100 rfl ?_
          refine b_ialdN dX8_met_101 rfl ⟨by omega, by decide⟩ ?_
          refine b_iret dX8_met_102 rfl ⟨?_, ?_⟩
          · simp only [A_met, if_neg (show ¬ (nI j < 0 ∨ (mGo n c w 60).1 0 28 ≤ nI j ∨ w.1 0 5 = 0) from fun h => h.elim h7 (fun h => h.elim h15 h22)), dn_nI (show j < 2 ^ 31 by omega)]; rfl
          · exact mKp.of (mGo_keep hP hI (by omega))
        · refine b_tsIn (off := 75) (tgt := 103) dX8_met_28 (by decide) (by decide) (by decide) (by decide) ?_
          refine b_aload_n dX8_met_103 rfl ?_
          refine b_getr dX8_met_104 gf_X8_83 rfl rfl ?_
          refine b_iload_n dX8_met_107 rfl ?_
          refine b_ialdN dX8_met_108 rfl ⟨by omega, by decide⟩ ?_
          refine b_iret dX8_met_109 rfl ⟨?_, ?_⟩
          · simp only [A_met, if_neg (show ¬ (nI j < 0 ∨ (mGo n c w 60).1 0 28 ≤ nI j ∨ w.1 0 5 = 0) from fun h => h.elim h7 (fun h => h.elim h15 h22)), dn_nI (show j < 2 ^ 31 by omega)]; rfl
          · exact mKp.of (mGo_keep hP hI (by omega))
        · have hout : ∀ z1 : (0 : Int32) ≤ what, what ≤ 5 → False := fun z1 z2 => hw ⟨z1, z2⟩
          refine b_tsOut (tgt := 110) dX8_met_28 (ts_out 5 (by decide) hw) (by decide) ?_
          refine b_bipush (v := (-2)) dX8_met_110 (by decide) ?_
          refine b_iret dX8_met_112 rfl ⟨?_, ?_⟩
          · simp only [A_met, if_neg (show ¬ (nI j < 0 ∨ (mGo n c w 60).1 0 28 ≤ nI j ∨ w.1 0 5 = 0) from fun h => h.elim h7 (fun h => h.elim h15 h22))]; rw [if_neg]; rintro ⟨z1, z2⟩; exact hout z1 z2
          · exact mKp.of (mGo_keep hP hI (by omega))
      · refine b_iconst (v := (-1)) dX8_met_25 (by decide) ?_
        refine b_iret dX8_met_26 rfl ⟨?_, ?_⟩
        · simp only [A_met, if_pos (Or.inr (Or.inr h22))]
        · exact mKp.of (mGo_keep hP hI (by omega))

set_option maxRecDepth 100000 in
set_option maxHeartbeats 4000000 in
theorem s_X8_free {w : kW} {n c q : Nat} (hM : MInv n c q w) {p d : Int32} : Spec shM yX8_free cX8_free 3 (some .int) 6 146 [.ref 0, .int p, .int d] w (fun r w' => r = some (.int (A_free n c w p d)) ∧ mKp c w w') := by
  obtain ⟨hP, hI, hc8, hR, hu, hS⟩ := id hM
  have hn := hP.le
  refine k_enter pn_X8 (Nat.le_of_ble_eq_true rfl) ?_
  refine b_aload_n dX8_free_0 rfl ?_
  refine b_iload_n dX8_free_1 rfl ?_
  refine b_callV1 dX8_free_2 lk_X8_145 rfl rfl rfl ⟨Nat.le_of_ble_eq_true rfl, Nat.le_of_ble_eq_true rfl⟩ (Nat.le_of_ble_eq_true rfl) (s_X8_isPerson) (fun r w2 h2 => ?_)
  obtain ⟨rfl, h2⟩ := h2
  rcases h2 with ⟨rfl, h2⟩ | ⟨rfl, h2⟩
  · refine b_if_ne (tgt := 10) dX8_free_5 (by decide) (fun h5 => ?_) (fun h5 => absurd h5 (by decide))
    have hq2 : isPr w p := h2
    obtain ⟨pp, hp, rfl⟩ := pers_of hP h2
    refine b_iload_n dX8_free_10 rfl ?_
    refine b_callS1 dX8_free_11 lk_X8_195 ⟨Nat.le_of_ble_eq_true rfl, Nat.le_of_ble_eq_true rfl⟩ (Nat.le_of_ble_eq_true rfl) (s_X8_isDawn) (fun r w11 h11 => ?_)
    obtain ⟨rfl, h11⟩ := h11
    rcases h11 with ⟨rfl, h11⟩ | ⟨rfl, h11⟩
    · refine b_if_ne (tgt := 20) dX8_free_14 (by decide) (fun h14 => ?_) (fun h14 => absurd h14 (by decide))
      obtain ⟨D, hD, rfl⟩ := dawn_of h11
      refine b_aload_n dX8_free_20 rfl ?_
      refine b_iload_n dX8_free_21 rfl ?_
      refine b_callV1 dX8_free_22 lk_X8_198 rfl rfl rfl ⟨Nat.le_of_ble_eq_true rfl, Nat.le_of_ble_eq_true rfl⟩ (Nat.le_of_ble_eq_true rfl) (s_X8_goAhead hP hI (by omega)) (fun r w22 h22 => ?_)
      obtain ⟨rfl, rfl⟩ := h22
      refine b_aload_n dX8_free_25 rfl ?_
      refine b_iload_n dX8_free_26 rfl ?_
      refine b_iload_n dX8_free_27 rfl ?_
      refine b_callV2 dX8_free_28 lk_X8_158 rfl rfl rfl ⟨Nat.le_of_ble_eq_true rfl, Nat.le_of_ble_eq_true rfl⟩ (Nat.le_of_ble_eq_true rfl) (s_X8_isFree (by omega)) (fun r w28 h28 => ?_)
      obtain ⟨rfl, h28⟩ := h28
      rcases h28 with ⟨rfl, h28⟩ | ⟨rfl, h28⟩
      · refine b_if_eq (tgt := 38) dX8_free_31 (by decide) (fun h31 => absurd h31 (by decide)) (fun h31 => ?_)
        refine b_iconst (v := 1) dX8_free_34 (by decide) ?_
        refine b_goto (tgt := 39) dX8_free_35 (by decide) ?_
        refine b_iret dX8_free_39 rfl ⟨?_, ?_⟩
        · simp only [A_free, if_pos hq2, if_pos (dawn_in hD), dn_nI (show D < 2 ^ 31 by omega), dn_nI (show pp < 2 ^ 31 by omega), if_pos h28]
        · exact mKp.of (mGo_keep hP hI (by omega))
      · refine b_if_eq (tgt := 38) dX8_free_31 (by decide) (fun h31 => ?_) (fun h31 => absurd h31 (by decide))
        refine b_iconst (v := 0) dX8_free_38 (by decide) ?_
        refine b_iret dX8_free_39 rfl ⟨?_, ?_⟩
        · simp only [A_free, if_pos hq2, if_pos (dawn_in hD), dn_nI (show D < 2 ^ 31 by omega), dn_nI (show pp < 2 ^ 31 by omega), if_neg h28]
        · exact mKp.of (mGo_keep hP hI (by omega))
    · refine b_if_ne (tgt := 20) dX8_free_14 (by decide) (fun h14 => absurd h14 (by decide)) (fun h14 => ?_)
      refine b_bipush (v := (-2)) dX8_free_17 (by decide) ?_
      refine b_iret dX8_free_19 rfl ⟨?_, ?_⟩
      · simp only [A_free, if_pos hq2, if_neg h11]
      · exact mKp.rf
  · refine b_if_ne (tgt := 10) dX8_free_5 (by decide) (fun h5 => absurd h5 (by decide)) (fun h5 => ?_)
    refine b_iconst (v := (-1)) dX8_free_8 (by decide) ?_
    refine b_iret dX8_free_9 rfl ⟨?_, ?_⟩
    · simp only [A_free, if_neg h2]
    · exact mKp.rf

set_option maxRecDepth 100000 in
set_option maxHeartbeats 4000000 in
theorem s_X8_second {w : kW} {n c q : Nat} (hM : MInv n c q w) {p o d : Int32} : Spec shM yX8_second cX8_second 4 (some .int) 6 146 [.ref 0, .int p, .int o, .int d] w (fun r w' => r = some (.int (A_second n c w p o d)) ∧ mKp c w w') := by
  obtain ⟨hP, hI, hc8, hR, hu, hS⟩ := id hM
  have hn := hP.le
  refine k_enter pn_X8 (Nat.le_of_ble_eq_true rfl) ?_
  refine b_aload_n dX8_second_0 rfl ?_
  refine b_iload_n dX8_second_1 rfl ?_
  refine b_callV1 dX8_second_2 lk_X8_145 rfl rfl rfl ⟨Nat.le_of_ble_eq_true rfl, Nat.le_of_ble_eq_true rfl⟩ (Nat.le_of_ble_eq_true rfl) (s_X8_isPerson) (fun r w2 h2 => ?_)
  obtain ⟨rfl, h2⟩ := h2
  rcases h2 with ⟨rfl, h2⟩ | ⟨rfl, h2⟩
  · refine b_if_eq (tgt := 21) dX8_second_5 (by decide) (fun h5 => absurd h5 (by decide)) (fun h5 => ?_)
    refine b_aload_n dX8_second_8 rfl ?_
    refine b_iload_n dX8_second_9 rfl ?_
    refine b_callV1 dX8_second_10 lk_X8_145 rfl rfl rfl ⟨Nat.le_of_ble_eq_true rfl, Nat.le_of_ble_eq_true rfl⟩ (Nat.le_of_ble_eq_true rfl) (s_X8_isPerson) (fun r w10 h10 => ?_)
    obtain ⟨rfl, h10⟩ := h10
    rcases h10 with ⟨rfl, h10⟩ | ⟨rfl, h10⟩
    · refine b_if_eq (tgt := 21) dX8_second_13 (by decide) (fun h13 => absurd h13 (by decide)) (fun h13 => ?_)
      refine b_iload_n dX8_second_16 rfl ?_
      refine b_iload_n dX8_second_17 rfl ?_
      refine b_icmp_ne (tgt := 23) dX8_second_18 (by decide) (fun h18 => ?_) (fun h18 => ?_)
      · have hq2 : isPr w p ∧ isPr w o ∧ ¬ p = o := ⟨h2, h10, h18⟩
        obtain ⟨pp, hp, rfl⟩ := pers_of hP h2
        refine b_iload_n dX8_second_23 rfl ?_
        refine b_callS1 dX8_second_24 lk_X8_195 ⟨Nat.le_of_ble_eq_true rfl, Nat.le_of_ble_eq_true rfl⟩ (Nat.le_of_ble_eq_true rfl) (s_X8_isDawn) (fun r w24 h24 => ?_)
        obtain ⟨rfl, h24⟩ := h24
        rcases h24 with ⟨rfl, h24⟩ | ⟨rfl, h24⟩
        · refine b_if_ne (tgt := 33) dX8_second_27 (by decide) (fun h27 => ?_) (fun h27 => absurd h27 (by decide))
          obtain ⟨D, hD, rfl⟩ := dawn_of h24
          refine b_aload_n dX8_second_33 rfl ?_
          refine b_iload_n dX8_second_34 rfl ?_
          refine b_callV1 dX8_second_35 lk_X8_198 rfl rfl rfl ⟨Nat.le_of_ble_eq_true rfl, Nat.le_of_ble_eq_true rfl⟩ (Nat.le_of_ble_eq_true rfl) (s_X8_goAhead hP hI (by omega)) (fun r w35 h35 => ?_)
          obtain ⟨rfl, rfl⟩ := h35
          refine b_aload_n dX8_second_38 rfl ?_
          refine b_iload_n dX8_second_39 rfl ?_
          refine b_iload_n dX8_second_40 rfl ?_
          refine b_bipush (v := (-9)) dX8_second_41 (by decide) ?_
          refine b_iload_n dX8_second_43 rfl ?_
          refine b_callV4 dX8_second_44 lk_X8_175 rfl rfl rfl ⟨Nat.le_of_ble_eq_true rfl, Nat.le_of_ble_eq_true rfl⟩ (Nat.le_of_ble_eq_true rfl) (s_X8_secondOf ((mGo_keep hP hI (Nat.le_of_lt hD) |> fun z => hP.keep z)) hp) (fun r w44 h44 => ?_)
          obtain ⟨rfl, rfl⟩ := h44
          refine b_iret dX8_second_47 rfl ⟨?_, ?_⟩
          · simp only [A_second, if_pos hq2, if_pos (dawn_in hD), dn_nI (show D < 2 ^ 31 by omega), dn_nI (show pp < 2 ^ 31 by omega)]
          · exact mKp.of (mGo_keep hP hI (by omega))
        · refine b_if_ne (tgt := 33) dX8_second_27 (by decide) (fun h27 => absurd h27 (by decide)) (fun h27 => ?_)
          refine b_bipush (v := (-2)) dX8_second_30 (by decide) ?_
          refine b_iret dX8_second_32 rfl ⟨?_, ?_⟩
          · simp only [A_second, if_pos hq2, if_neg h24]
          · exact mKp.rf
      · refine b_iconst (v := (-1)) dX8_second_21 (by decide) ?_
        refine b_iret dX8_second_22 rfl ⟨?_, ?_⟩
        · simp only [A_second, if_neg (show ¬ (isPr w p ∧ isPr w o ∧ ¬ p = o) from fun z => z.2.2 h18)]
        · exact mKp.rf
    · refine b_if_eq (tgt := 21) dX8_second_13 (by decide) (fun h13 => ?_) (fun h13 => absurd h13 (by decide))
      refine b_iconst (v := (-1)) dX8_second_21 (by decide) ?_
      refine b_iret dX8_second_22 rfl ⟨?_, ?_⟩
      · simp only [A_second, if_neg (show ¬ (isPr w p ∧ isPr w o ∧ ¬ p = o) from fun z => h10 z.2.1)]
      · exact mKp.rf
  · refine b_if_eq (tgt := 21) dX8_second_5 (by decide) (fun h5 => ?_) (fun h5 => absurd h5 (by decide))
    refine b_iconst (v := (-1)) dX8_second_21 (by decide) ?_
    refine b_iret dX8_second_22 rfl ⟨?_, ?_⟩
    · simp only [A_second, if_neg (show ¬ (isPr w p ∧ isPr w o ∧ ¬ p = o) from fun z => h2 z.1)]
    · exact mKp.rf

set_option maxRecDepth 100000 in
set_option maxHeartbeats 4000000 in
theorem s_X8_worth {w : kW} {n c q : Nat} (hM : MInv n c q w) {k : Int32} : Spec shM yX8_worth cX8_worth 3 (some .int) 6 146 [.ref 0, .int k] w (fun r w' => r = some (.int (A_worth n c w k)) ∧ mKp c w w') := by
  obtain ⟨hP, hI, hc8, hR, hu, hS⟩ := id hM
  have hn := hP.le
  have hk1 : mKp c w (mGo n c w 60) := mKp.of (mGo_keep hP hI (Nat.le_refl 60))
  have hpe : PEq c (kset w 0 20 (1 <<< (k &&& 31))) (kset (mGo n c w 60) 0 20 (1 <<< (k &&& 31))) := hk1.peq.un
  have hk2 := mGo_keep (n := n) (c := c) (d := 60) (hpe.pn hP.un) (hpe.ins hI.un) (Nat.le_refl 60)
  refine k_enter pn_X8 (Nat.le_of_ble_eq_true rfl) ?_
  refine b_iload_n dX8_worth_0 rfl ?_
  refine b_if_lt (tgt := 12) dX8_worth_1 (by decide) (fun h1 => ?_) (fun h1 => ?_)
  · refine b_iconst (v := (-1)) dX8_worth_12 (by decide) ?_
    refine b_iret dX8_worth_13 rfl ⟨?_, ?_⟩
    · simp only [A_worth, if_neg (show ¬ (¬ k < 0 ∧ k < w.1 0 15) from fun z => z.1 h1)]
    · exact mKp.rf
  · refine b_iload_n dX8_worth_4 rfl ?_
    refine b_aload_n dX8_worth_5 rfl ?_
    refine b_geti dX8_worth_6 gf_X8_132 rfl rfl ?_
    refine b_icmp_lt (tgt := 14) dX8_worth_9 (by decide) (fun h9 => ?_) (fun h9 => ?_)
    · refine b_aload_n dX8_worth_14 rfl ?_
      refine b_bipush (v := 60) dX8_worth_15 (by decide) ?_
      refine b_callV1 dX8_worth_17 lk_X8_198 rfl rfl rfl ⟨Nat.le_of_ble_eq_true rfl, Nat.le_of_ble_eq_true rfl⟩ (Nat.le_of_ble_eq_true rfl) (s_X8_goAhead (D := 60) hP hI (by omega)) (fun r w17 h17 => ?_)
      obtain ⟨rfl, rfl⟩ := h17
      refine b_aload_n dX8_worth_20 rfl ?_
      refine b_geti dX8_worth_21 gf_X8_165 rfl rfl ?_
      refine b_istore_n dX8_worth_24 (by decide) ?_
      refine b_aload_n dX8_worth_25 rfl ?_
      refine b_iconst (v := 1) dX8_worth_26 (by decide) ?_
      refine b_iload_n dX8_worth_27 rfl ?_
      refine b_ishl dX8_worth_28 ?_
      refine b_puti dX8_worth_29 gf_X8_181 gs_X8_20 rfl rfl ?_
      refine b_aload_n dX8_worth_32 rfl ?_
      refine b_bipush (v := 60) dX8_worth_33 (by decide) ?_
      refine b_callV1 dX8_worth_35 lk_X8_198 rfl rfl rfl ⟨Nat.le_of_ble_eq_true rfl, Nat.le_of_ble_eq_true rfl⟩ (Nat.le_of_ble_eq_true rfl) (s_X8_goAhead (D := 60) (hpe.pn hP.un) (hpe.ins hI.un) (by omega)) (fun r w35 h35 => ?_)
      obtain ⟨rfl, rfl⟩ := h35
      refine b_aload_n dX8_worth_38 rfl ?_
      refine b_iconst (v := 0) dX8_worth_39 (by decide) ?_
      refine b_puti dX8_worth_40 gf_X8_181 gs_X8_20 rfl rfl ?_
      refine b_iload_n dX8_worth_43 rfl ?_
      refine b_aload_n dX8_worth_44 rfl ?_
      refine b_geti dX8_worth_45 gf_X8_165 rfl rfl ?_
      refine b_isub dX8_worth_48 ?_
      refine b_sipush (v := 1000) dX8_worth_49 (by decide) ?_
      refine b_iadd dX8_worth_52 ?_
      refine b_iret dX8_worth_53 rfl ⟨?_, ?_⟩
      · simp only [A_worth, if_pos (show ¬ k < 0 ∧ k < w.1 0 15 from ⟨h1, h9⟩)]
        rw [← (mGo_sq hP.un hI.un hpe (Nat.le_refl 60)).m]; rfl
      · exact (hk1.un.tr (mKp.of hk2)).un1 hu
    · refine b_iconst (v := (-1)) dX8_worth_12 (by decide) ?_
      refine b_iret dX8_worth_13 rfl ⟨?_, ?_⟩
      · simp only [A_worth, if_neg (show ¬ (¬ k < 0 ∧ k < w.1 0 15) from fun z => h9 z.2)]
      · exact mKp.rf
end
section
abbrev isDayDeg (d g : Int32) : Prop := (0 ≤ d ∧ d ≤ 29) ∧ (1 ≤ g ∧ g ≤ 9)
def R_insult (w : kW) (a b d g : Int32) : Int32 × kW := if isPr w a ∧ isPr w b ∧ ¬ a = b then (if isDayDeg d g then (if w.1 0 15 = 8 then (-4, w) else (w.1 0 15, kset (kset (kset (kset (kset w 11 (dn (w.1 0 15)) a) 12 (dn (w.1 0 15)) b) 13 (dn (w.1 0 15)) d) 14 (dn (w.1 0 15)) g) 0 15 (w.1 0 15 + 1))) else (-2, w)) else (-1, w)
def R_sorry (w : kW) (k : Int32) : Int32 × kW := if 0 ≤ k ∧ k ≤ w.1 0 15 then (w.1 0 15 - k, kset w 0 15 (w.1 0 15 - k)) else (-2, w)
def R_arrest (w : kW) (p is : Int32) : Int32 × kW := if isPr w p then (if w.1 7 (dn p) = is then 0 else 1, kset w 7 (dn p) is) else (-1, w)
def R_ofPerson (w : kW) (p what : Int32) : Int32 × kW := if isPr w p then (if 0 ≤ what ∧ what ≤ 5 then (if what = 0 then w.1 4 (dn p) else if what = 1 then w.1 5 (dn p) else if what = 2 then w.1 6 (2 * dn p) else if what = 3 then w.1 6 (2 * dn p + 1) else if what = 4 then mTouch w (dn p) else if w.1 7 (dn p) = 0 then 0 else 1) else -2, w) else (-1, w)
def R_reading (w : kW) (p d was : Int32) : Int32 × kW := if isPr w p then (if isDw d then (if w.1 0 35 = 8 then (-4, w) else (w.1 0 35, kset (kset (kset (kset w 26 (dn (w.1 0 35)) p) 27 (dn (w.1 0 35)) d) 28 (dn (w.1 0 35)) was) 0 35 (w.1 0 35 + 1))) else (-2, w)) else (-1, w)
def R_back (w : kW) (k : Int32) : Int32 × kW := if 0 ≤ k ∧ k ≤ w.1 0 35 then (w.1 0 35 - k, kset w 0 35 (w.1 0 35 - k)) else (-2, w)
def tr1 (w : kW) (b : Int32) : kW := kset w 0 1 (31 * w.1 0 1 + b)
def R_tell (w : kW) (p : Int32) : Int32 × kW := if isPr w p then (if w.1 4 (dn p) = 1 then (w.1 5 (dn p) + 100, tr1 (tr1 w 2) 1) else if w.1 4 (dn p) = 2 then (2 * w.1 5 (dn p) + 100, tr1 (tr1 (tr1 (tr1 w 3) 2) 1) 1) else (w.1 5 (dn p), tr1 w 1)) else (-1, w)
def R_salute (w : kW) (p : Int32) : Int32 × kW := if isPr w p then (if w.1 4 (dn p) = 2 then (80, tr1 w 5) else (p, tr1 w 4)) else (-1, w)
def R_as (w : kW) (p k : Int32) : Int32 × kW := if isPr w p then (if 0 ≤ k ∧ k ≤ 2 then (if w.1 4 (dn p) < k then (-12, kset w 0 0 2) else (1, kset w 0 0 0)) else (-2, kset w 0 0 0)) else (-1, kset w 0 0 0)
theorem kset_kset (w : kW) (c k : Nat) (a b : Int32) : kset (kset w c k a) c k b = kset w c k b := by
  show (k_up (k_up w.1 c k a) c k b, w.2) = _
  rw [k_up_up]
  rfl
def A_many (n c : Nat) (w : kW) (what : Int32) : Int32 := if what = 3 then (if w.1 0 5 = 0 then 0 else (mGo n c w 60).1 0 28) else if what = 0 then w.1 0 5 else if what = 1 then w.1 0 15 else if what = 2 then w.1 0 35 else -2

set_option maxRecDepth 100000 in
set_option maxHeartbeats 4000000 in
theorem s_X8_lay {w : kW} {k : Nat} {a b d g : Int32} (hk : k < 9) : Spec shM yX8_lay cX8_lay 6 none 0 0 [.ref 0, .int (nI k), .int a, .int b, .int d, .int g] w (fun r w' => r = none ∧ kset (kset (kset (kset w 11 k a) 12 k b) 13 k d) 14 k g = w') := by
  refine k_enter pn_X8 (Nat.le_of_ble_eq_true rfl) ?_
  refine b_aload_n dX8_lay_0 rfl ?_
  refine b_getr dX8_lay_1 gf_X8_41 rfl rfl ?_
  refine b_iload_n dX8_lay_4 rfl ?_
  refine b_iload_n dX8_lay_5 rfl ?_
  refine b_iastN dX8_lay_6 rfl ⟨by omega, by decide⟩ ?_
  refine b_aload_n dX8_lay_7 rfl ?_
  refine b_getr dX8_lay_8 gf_X8_44 rfl rfl ?_
  refine b_iload_n dX8_lay_11 rfl ?_
  refine b_iload_n dX8_lay_12 rfl ?_
  refine b_iastN dX8_lay_13 rfl ⟨by omega, by decide⟩ ?_
  refine b_aload_n dX8_lay_14 rfl ?_
  refine b_getr dX8_lay_15 gf_X8_47 rfl rfl ?_
  refine b_iload_n dX8_lay_18 rfl ?_
  refine b_iload dX8_lay_19 rfl ?_
  refine b_iastN dX8_lay_21 rfl ⟨by omega, by decide⟩ ?_
  refine b_aload_n dX8_lay_22 rfl ?_
  refine b_getr dX8_lay_23 gf_X8_50 rfl rfl ?_
  refine b_iload_n dX8_lay_26 rfl ?_
  refine b_iload dX8_lay_27 rfl ?_
  refine b_iastN dX8_lay_29 rfl ⟨by omega, by decide⟩ ?_
  refine b_vret dX8_lay_30 rfl ⟨rfl, ?_⟩
  rfl

set_option maxRecDepth 100000 in
set_option maxHeartbeats 4000000 in
theorem s_X8_begins {w : kW} {b : Int32} : Spec shM yX8_begins cX8_begins 2 none 0 0 [.ref 0, .int b] w (fun r w' => r = none ∧ tr1 w b = w') := by
  refine k_enter pn_X8 (Nat.le_of_ble_eq_true rfl) ?_
  refine b_aload_n dX8_begins_0 rfl ?_
  refine b_bipush (v := 31) dX8_begins_1 (by decide) ?_
  refine b_aload_n dX8_begins_3 rfl ?_
  refine b_geti dX8_begins_4 gf_X8_233 rfl rfl ?_
  refine b_imul dX8_begins_7 ?_
  refine b_iload_n dX8_begins_8 rfl ?_
  refine b_iadd dX8_begins_9 ?_
  refine b_puti dX8_begins_10 gf_X8_233 gs_X8_1 rfl rfl ?_
  refine b_vret dX8_begins_13 rfl ⟨rfl, ?_⟩
  rfl

set_option maxRecDepth 100000 in
set_option maxHeartbeats 4000000 in
theorem s_X8_insult {w : kW} {n c q : Nat} (hM : MInv n c q w) {a b d g : Int32} : Spec shM yX8_insult cX8_insult 5 (some .int) 1 25 [.ref 0, .int a, .int b, .int d, .int g] w (fun r w' => r = some (.int ((R_insult w a b d g).1)) ∧ (R_insult w a b d g).2 = w') := by
  obtain ⟨hP, hI, hc8, hR, hu, hS⟩ := id hM
  have hn := hP.le
  have ec := hI.1
  have dnc : dn (w.1 0 15) = c := by rw [ec]; exact dn_nI (by omega)
  refine k_enter pn_X8 (Nat.le_of_ble_eq_true rfl) ?_
  refine b_aload_n dX8_insult_0 rfl ?_
  refine b_iload_n dX8_insult_1 rfl ?_
  refine b_callV1 dX8_insult_2 lk_X8_145 rfl rfl rfl ⟨Nat.le_of_ble_eq_true rfl, Nat.le_of_ble_eq_true rfl⟩ (Nat.le_of_ble_eq_true rfl) (s_X8_isPerson) (fun r w2 h2 => ?_)
  obtain ⟨rfl, h2⟩ := h2
  rcases h2 with ⟨rfl, h2⟩ | ⟨rfl, h2⟩
  · refine b_if_eq (tgt := 21) dX8_insult_5 (by decide) (fun h5 => absurd h5 (by decide)) (fun h5 => ?_)
    refine b_aload_n dX8_insult_8 rfl ?_
    refine b_iload_n dX8_insult_9 rfl ?_
    refine b_callV1 dX8_insult_10 lk_X8_145 rfl rfl rfl ⟨Nat.le_of_ble_eq_true rfl, Nat.le_of_ble_eq_true rfl⟩ (Nat.le_of_ble_eq_true rfl) (s_X8_isPerson) (fun r w10 h10 => ?_)
    obtain ⟨rfl, h10⟩ := h10
    rcases h10 with ⟨rfl, h10⟩ | ⟨rfl, h10⟩
    · refine b_if_eq (tgt := 21) dX8_insult_13 (by decide) (fun h13 => absurd h13 (by decide)) (fun h13 => ?_)
      refine b_iload_n dX8_insult_16 rfl ?_
      refine b_iload_n dX8_insult_17 rfl ?_
      refine b_icmp_ne (tgt := 23) dX8_insult_18 (by decide) (fun h18 => ?_) (fun h18 => ?_)
      · refine b_iload_n dX8_insult_23 rfl ?_
        refine b_iconst (v := 0) dX8_insult_24 (by decide) ?_
        refine b_bipush (v := 29) dX8_insult_25 (by decide) ?_
        refine b_callS3 dX8_insult_27 lk_X8_101 ⟨Nat.le_of_ble_eq_true rfl, Nat.le_of_ble_eq_true rfl⟩ (Nat.le_of_ble_eq_true rfl) (s_X8_within) (fun r w27 h27 => ?_)
        obtain ⟨rfl, h27⟩ := h27
        rcases h27 with ⟨rfl, h27⟩ | ⟨rfl, h27⟩
        · refine b_if_eq (tgt := 44) dX8_insult_30 (by decide) (fun h30 => absurd h30 (by decide)) (fun h30 => ?_)
          refine b_iload dX8_insult_33 rfl ?_
          refine b_iconst (v := 1) dX8_insult_35 (by decide) ?_
          refine b_bipush (v := 9) dX8_insult_36 (by decide) ?_
          refine b_callS3 dX8_insult_38 lk_X8_101 ⟨Nat.le_of_ble_eq_true rfl, Nat.le_of_ble_eq_true rfl⟩ (Nat.le_of_ble_eq_true rfl) (s_X8_within) (fun r w38 h38 => ?_)
          obtain ⟨rfl, h38⟩ := h38
          rcases h38 with ⟨rfl, h38⟩ | ⟨rfl, h38⟩
          · refine b_if_ne (tgt := 47) dX8_insult_41 (by decide) (fun h41 => ?_) (fun h41 => absurd h41 (by decide))
            refine b_aload_n dX8_insult_47 rfl ?_
            refine b_geti dX8_insult_48 gf_X8_132 rfl rfl ?_
            refine b_bipush (v := 8) dX8_insult_51 (by decide) ?_
            refine b_icmp_ne (tgt := 59) dX8_insult_53 (by decide) (fun h53 => ?_) (fun h53 => ?_)
            · have hc7 : c < 9 := by omega
              refine b_aload_n dX8_insult_59 rfl ?_
              refine b_aload_n dX8_insult_60 rfl ?_
              refine b_geti dX8_insult_61 gf_X8_132 rfl rfl ?_
              refine b_topi (y := nI c) ec ?_
              refine b_iload_n dX8_insult_64 rfl ?_
              refine b_iload_n dX8_insult_65 rfl ?_
              refine b_iload_n dX8_insult_66 rfl ?_
              refine b_iload dX8_insult_67 rfl ?_
              refine b_callV5 dX8_insult_69 lk_X8_151 rfl rfl rfl ⟨Nat.le_of_ble_eq_true rfl, Nat.le_of_ble_eq_true rfl⟩ (Nat.le_of_ble_eq_true rfl) (s_X8_lay (k := c) hc7) (fun r w69 h69 => ?_)
              obtain ⟨rfl, rfl⟩ := h69
              refine b_aload_n dX8_insult_72 rfl ?_
              refine b_dup dX8_insult_73 rfl ?_
              refine b_geti dX8_insult_74 gf_X8_132 rfl rfl ?_
              refine b_iconst (v := 1) dX8_insult_77 (by decide) ?_
              refine b_iadd dX8_insult_78 ?_
              refine b_puti dX8_insult_79 gf_X8_132 gs_X8_15 rfl rfl ?_
              refine b_aload_n dX8_insult_82 rfl ?_
              refine b_geti dX8_insult_83 gf_X8_132 rfl rfl ?_
              refine b_iconst (v := 1) dX8_insult_86 (by decide) ?_
              refine b_isub dX8_insult_87 ?_
              refine b_topi (y := w.1 0 15) (Int32.add_sub_cancel _ _) ?_
              refine b_iret dX8_insult_88 rfl ⟨?_, ?_⟩
              · simp only [R_insult, if_pos (show isPr w a ∧ isPr w b ∧ ¬ a = b from ⟨h2, h10, h18⟩), if_pos (show isDayDeg d g from ⟨h27, h38⟩), if_neg h53, dnc] <;> first | rfl | (simp; done)
              · simp only [R_insult, if_pos (show isPr w a ∧ isPr w b ∧ ¬ a = b from ⟨h2, h10, h18⟩), if_pos (show isDayDeg d g from ⟨h27, h38⟩), if_neg h53, dnc] <;> rfl
            · refine b_bipush (v := (-4)) dX8_insult_56 (by decide) ?_
              refine b_iret dX8_insult_58 rfl ⟨?_, ?_⟩
              · simp only [R_insult, if_pos (show isPr w a ∧ isPr w b ∧ ¬ a = b from ⟨h2, h10, h18⟩), if_pos (show isDayDeg d g from ⟨h27, h38⟩), if_pos h53] <;> first | rfl | (simp; done)
              · simp only [R_insult, if_pos (show isPr w a ∧ isPr w b ∧ ¬ a = b from ⟨h2, h10, h18⟩), if_pos (show isDayDeg d g from ⟨h27, h38⟩), if_pos h53] <;> rfl
          · refine b_if_ne (tgt := 47) dX8_insult_41 (by decide) (fun h41 => absurd h41 (by decide)) (fun h41 => ?_)
            refine b_bipush (v := (-2)) dX8_insult_44 (by decide) ?_
            refine b_iret dX8_insult_46 rfl ⟨?_, ?_⟩
            · simp only [R_insult, if_pos (show isPr w a ∧ isPr w b ∧ ¬ a = b from ⟨h2, h10, h18⟩), if_neg (show ¬ isDayDeg d g from fun z => h38 z.2)] <;> first | rfl | (simp; done)
            · simp only [R_insult, if_pos (show isPr w a ∧ isPr w b ∧ ¬ a = b from ⟨h2, h10, h18⟩), if_neg (show ¬ isDayDeg d g from fun z => h38 z.2)] <;> rfl
        · refine b_if_eq (tgt := 44) dX8_insult_30 (by decide) (fun h30 => ?_) (fun h30 => absurd h30 (by decide))
          refine b_bipush (v := (-2)) dX8_insult_44 (by decide) ?_
          refine b_iret dX8_insult_46 rfl ⟨?_, ?_⟩
          · simp only [R_insult, if_pos (show isPr w a ∧ isPr w b ∧ ¬ a = b from ⟨h2, h10, h18⟩), if_neg (show ¬ isDayDeg d g from fun z => h27 z.1)] <;> first | rfl | (simp; done)
          · simp only [R_insult, if_pos (show isPr w a ∧ isPr w b ∧ ¬ a = b from ⟨h2, h10, h18⟩), if_neg (show ¬ isDayDeg d g from fun z => h27 z.1)] <;> rfl
      · refine b_iconst (v := (-1)) dX8_insult_21 (by decide) ?_
        refine b_iret dX8_insult_22 rfl ⟨?_, ?_⟩
        · simp only [R_insult, if_neg (show ¬ (isPr w a ∧ isPr w b ∧ ¬ a = b) from fun z => z.2.2 h18)] <;> first | rfl | (simp; done)
        · simp only [R_insult, if_neg (show ¬ (isPr w a ∧ isPr w b ∧ ¬ a = b) from fun z => z.2.2 h18)] <;> rfl
    · refine b_if_eq (tgt := 21) dX8_insult_13 (by decide) (fun h13 => ?_) (fun h13 => absurd h13 (by decide))
      refine b_iconst (v := (-1)) dX8_insult_21 (by decide) ?_
      refine b_iret dX8_insult_22 rfl ⟨?_, ?_⟩
      · simp only [R_insult, if_neg (show ¬ (isPr w a ∧ isPr w b ∧ ¬ a = b) from fun z => h10 z.2.1)] <;> first | rfl | (simp; done)
      · simp only [R_insult, if_neg (show ¬ (isPr w a ∧ isPr w b ∧ ¬ a = b) from fun z => h10 z.2.1)] <;> rfl
  · refine b_if_eq (tgt := 21) dX8_insult_5 (by decide) (fun h5 => ?_) (fun h5 => absurd h5 (by decide))
    refine b_iconst (v := (-1)) dX8_insult_21 (by decide) ?_
    refine b_iret dX8_insult_22 rfl ⟨?_, ?_⟩
    · simp only [R_insult, if_neg (show ¬ (isPr w a ∧ isPr w b ∧ ¬ a = b) from fun z => h2 z.1)] <;> first | rfl | (simp; done)
    · simp only [R_insult, if_neg (show ¬ (isPr w a ∧ isPr w b ∧ ¬ a = b) from fun z => h2 z.1)] <;> rfl

set_option maxRecDepth 100000 in
set_option maxHeartbeats 4000000 in
theorem s_X8_sorry {w : kW} {k : Int32} : Spec shM yX8_sorry cX8_sorry 2 (some .int) 1 22 [.ref 0, .int k] w (fun r w' => r = some (.int ((R_sorry w k).1)) ∧ (R_sorry w k).2 = w') := by
  refine k_enter pn_X8 (Nat.le_of_ble_eq_true rfl) ?_
  refine b_iload_n dX8_sorry_0 rfl ?_
  refine b_iconst (v := 0) dX8_sorry_1 (by decide) ?_
  refine b_aload_n dX8_sorry_2 rfl ?_
  refine b_geti dX8_sorry_3 gf_X8_132 rfl rfl ?_
  refine b_callS3 dX8_sorry_6 lk_X8_101 ⟨Nat.le_of_ble_eq_true rfl, Nat.le_of_ble_eq_true rfl⟩ (Nat.le_of_ble_eq_true rfl) (s_X8_within) (fun r w6 h6 => ?_)
  obtain ⟨rfl, h6⟩ := h6
  rcases h6 with ⟨rfl, h6⟩ | ⟨rfl, h6⟩
  · refine b_if_ne (tgt := 15) dX8_sorry_9 (by decide) (fun h9 => ?_) (fun h9 => absurd h9 (by decide))
    refine b_aload_n dX8_sorry_15 rfl ?_
    refine b_dup dX8_sorry_16 rfl ?_
    refine b_geti dX8_sorry_17 gf_X8_132 rfl rfl ?_
    refine b_iload_n dX8_sorry_20 rfl ?_
    refine b_isub dX8_sorry_21 ?_
    refine b_puti dX8_sorry_22 gf_X8_132 gs_X8_15 rfl rfl ?_
    refine b_aload_n dX8_sorry_25 rfl ?_
    refine b_geti dX8_sorry_26 gf_X8_132 rfl rfl ?_
    refine b_iret dX8_sorry_29 rfl ⟨?_, ?_⟩
    · simp only [R_sorry, if_pos h6] <;> first | rfl | (simp; done)
    · simp only [R_sorry, if_pos h6] <;> rfl
  · refine b_if_ne (tgt := 15) dX8_sorry_9 (by decide) (fun h9 => absurd h9 (by decide)) (fun h9 => ?_)
    refine b_bipush (v := (-2)) dX8_sorry_12 (by decide) ?_
    refine b_iret dX8_sorry_14 rfl ⟨?_, ?_⟩
    · simp only [R_sorry, if_neg h6] <;> first | rfl | (simp; done)
    · simp only [R_sorry, if_neg h6] <;> rfl

set_option maxRecDepth 100000 in
set_option maxHeartbeats 4000000 in
theorem s_X8_back {w : kW} {k : Int32} : Spec shM yX8_back cX8_back 2 (some .int) 1 22 [.ref 0, .int k] w (fun r w' => r = some (.int ((R_back w k).1)) ∧ (R_back w k).2 = w') := by
  refine k_enter pn_X8 (Nat.le_of_ble_eq_true rfl) ?_
  refine b_iload_n dX8_back_0 rfl ?_
  refine b_iconst (v := 0) dX8_back_1 (by decide) ?_
  refine b_aload_n dX8_back_2 rfl ?_
  refine b_geti dX8_back_3 gf_X8_135 rfl rfl ?_
  refine b_callS3 dX8_back_6 lk_X8_101 ⟨Nat.le_of_ble_eq_true rfl, Nat.le_of_ble_eq_true rfl⟩ (Nat.le_of_ble_eq_true rfl) (s_X8_within) (fun r w6 h6 => ?_)
  obtain ⟨rfl, h6⟩ := h6
  rcases h6 with ⟨rfl, h6⟩ | ⟨rfl, h6⟩
  · refine b_if_ne (tgt := 15) dX8_back_9 (by decide) (fun h9 => ?_) (fun h9 => absurd h9 (by decide))
    refine b_aload_n dX8_back_15 rfl ?_
    refine b_dup dX8_back_16 rfl ?_
    refine b_geti dX8_back_17 gf_X8_135 rfl rfl ?_
    refine b_iload_n dX8_back_20 rfl ?_
    refine b_isub dX8_back_21 ?_
    refine b_puti dX8_back_22 gf_X8_135 gs_X8_35 rfl rfl ?_
    refine b_aload_n dX8_back_25 rfl ?_
    refine b_geti dX8_back_26 gf_X8_135 rfl rfl ?_
    refine b_iret dX8_back_29 rfl ⟨?_, ?_⟩
    · simp only [R_back, if_pos h6] <;> first | rfl | (simp; done)
    · simp only [R_back, if_pos h6] <;> rfl
  · refine b_if_ne (tgt := 15) dX8_back_9 (by decide) (fun h9 => absurd h9 (by decide)) (fun h9 => ?_)
    refine b_bipush (v := (-2)) dX8_back_12 (by decide) ?_
    refine b_iret dX8_back_14 rfl ⟨?_, ?_⟩
    · simp only [R_back, if_neg h6] <;> first | rfl | (simp; done)
    · simp only [R_back, if_neg h6] <;> rfl

set_option maxRecDepth 100000 in
set_option maxHeartbeats 4000000 in
theorem s_X8_arrest {w : kW} {n c q : Nat} (hM : MInv n c q w) {p is : Int32} (hb : is = 0 ∨ is = 1) : Spec shM yX8_arrest cX8_arrest 4 (some .int) 1 21 [.ref 0, .int p, .int is] w (fun r w' => r = some (.int ((R_arrest w p is).1)) ∧ (R_arrest w p is).2 = w') := by
  obtain ⟨hP, hI, hc8, hR, hu, hS⟩ := id hM
  have hn := hP.le
  refine k_enter pn_X8 (Nat.le_of_ble_eq_true rfl) ?_
  refine b_aload_n dX8_arrest_0 rfl ?_
  refine b_iload_n dX8_arrest_1 rfl ?_
  refine b_callV1 dX8_arrest_2 lk_X8_145 rfl rfl rfl ⟨Nat.le_of_ble_eq_true rfl, Nat.le_of_ble_eq_true rfl⟩ (Nat.le_of_ble_eq_true rfl) (s_X8_isPerson) (fun r w2 h2 => ?_)
  obtain ⟨rfl, h2⟩ := h2
  rcases h2 with ⟨rfl, h2⟩ | ⟨rfl, h2⟩
  · refine b_if_ne (tgt := 10) dX8_arrest_5 (by decide) (fun h5 => ?_) (fun h5 => absurd h5 (by decide))
    have hq2 : isPr w p := h2
    obtain ⟨pp, hp, rfl⟩ := pers_of hP h2
    refine b_aload_n dX8_arrest_10 rfl ?_
    refine b_getr dX8_arrest_11 gf_X8_28 rfl rfl ?_
    refine b_iload_n dX8_arrest_14 rfl ?_
    refine b_zaldN dX8_arrest_15 rfl ⟨by omega, by decide⟩ ?_
    refine b_istore_n dX8_arrest_16 (by decide) ?_
    refine b_aload_n dX8_arrest_17 rfl ?_
    refine b_getr dX8_arrest_18 gf_X8_28 rfl rfl ?_
    refine b_iload_n dX8_arrest_21 rfl ?_
    refine b_iload_n dX8_arrest_22 rfl ?_
    refine b_zastN dX8_arrest_23 rfl ⟨by omega, by decide⟩ hb ?_
    refine b_iload_n dX8_arrest_24 rfl ?_
    refine b_iload_n dX8_arrest_25 rfl ?_
    refine b_icmp_ne (tgt := 33) dX8_arrest_26 (by decide) (fun h26 => ?_) (fun h26 => ?_)
    · refine b_iconst (v := 1) dX8_arrest_33 (by decide) ?_
      refine b_iret dX8_arrest_34 rfl ⟨?_, ?_⟩
      · simp only [R_arrest, if_pos hq2, dn_nI (show pp < 2 ^ 31 by omega), if_neg h26] <;> first | rfl | (simp; done)
      · simp only [R_arrest, if_pos hq2, dn_nI (show pp < 2 ^ 31 by omega), if_neg h26] <;> rfl
    · refine b_iconst (v := 0) dX8_arrest_29 (by decide) ?_
      refine b_goto (tgt := 34) dX8_arrest_30 (by decide) ?_
      refine b_iret dX8_arrest_34 rfl ⟨?_, ?_⟩
      · simp only [R_arrest, if_pos hq2, dn_nI (show pp < 2 ^ 31 by omega), if_pos h26] <;> first | rfl | (simp; done)
      · simp only [R_arrest, if_pos hq2, dn_nI (show pp < 2 ^ 31 by omega), if_pos h26] <;> rfl
  · refine b_if_ne (tgt := 10) dX8_arrest_5 (by decide) (fun h5 => absurd h5 (by decide)) (fun h5 => ?_)
    refine b_iconst (v := (-1)) dX8_arrest_8 (by decide) ?_
    refine b_iret dX8_arrest_9 rfl ⟨?_, ?_⟩
    · simp only [R_arrest, if_neg h2] <;> first | rfl | (simp; done)
    · simp only [R_arrest, if_neg h2] <;> rfl

set_option maxRecDepth 100000 in
set_option maxHeartbeats 4000000 in
theorem s_X8_ofPerson {w : kW} {n c q : Nat} (hM : MInv n c q w) {p what : Int32} : Spec shM yX8_ofPerson cX8_ofPerson 3 (some .int) 1 22 [.ref 0, .int p, .int what] w (fun r w' => r = some (.int ((R_ofPerson w p what).1)) ∧ (R_ofPerson w p what).2 = w') := by
  obtain ⟨hP, hI, hc8, hR, hu, hS⟩ := id hM
  have hn := hP.le
  refine k_enter pn_X8 (Nat.le_of_ble_eq_true rfl) ?_
  refine b_aload_n dX8_ofPerson_0 rfl ?_
  refine b_iload_n dX8_ofPerson_1 rfl ?_
  refine b_callV1 dX8_ofPerson_2 lk_X8_145 rfl rfl rfl ⟨Nat.le_of_ble_eq_true rfl, Nat.le_of_ble_eq_true rfl⟩ (Nat.le_of_ble_eq_true rfl) (s_X8_isPerson) (fun r w2 h2 => ?_)
  obtain ⟨rfl, h2⟩ := h2
  rcases h2 with ⟨rfl, h2⟩ | ⟨rfl, h2⟩
  · refine b_if_ne (tgt := 10) dX8_ofPerson_5 (by decide) (fun h5 => ?_) (fun h5 => absurd h5 (by decide))
    have hq2 : isPr w p := h2
    obtain ⟨pp, hp, rfl⟩ := pers_of hP h2
    refine b_iload_n dX8_ofPerson_10 rfl ?_
    by_cases hw : (0 : Int32) ≤ what ∧ what ≤ 5
    obtain ⟨x, hx, rfl⟩ := nI_of2 (n := 5) (M := 5) (by decide) (Int32.not_lt.mpr hw.1) hw.2
    rcases (show x = 0 ∨ x = 1 ∨ x = 2 ∨ x = 3 ∨ x = 4 ∨ x = 5 by omega) with rfl | rfl | rfl | rfl | rfl | rfl
    · refine b_tsIn (off := 37) (tgt := 48) dX8_ofPerson_11 (by decide) (by decide) (by decide) (by decide) ?_
      refine b_aload_n dX8_ofPerson_48 rfl ?_
      refine b_getr dX8_ofPerson_49 gf_X8_19 rfl rfl ?_
      refine b_iload_n dX8_ofPerson_52 rfl ?_
      refine b_ialdN dX8_ofPerson_53 rfl ⟨by omega, by decide⟩ ?_
      refine b_iret dX8_ofPerson_54 rfl ⟨?_, ?_⟩
      · simp only [R_ofPerson, if_pos hq2, dn_nI (show pp < 2 ^ 31 by omega), if_pos (show (0 : Int32) ≤ nI 0 ∧ nI 0 ≤ 5 by decide), if_pos (show nI 0 = 0 by decide)] <;> first | rfl | (simp; done)
      · simp only [R_ofPerson, if_pos hq2, dn_nI (show pp < 2 ^ 31 by omega), if_pos (show (0 : Int32) ≤ nI 0 ∧ nI 0 ≤ 5 by decide), if_pos (show nI 0 = 0 by decide)] <;> rfl
    · refine b_tsIn (off := 44) (tgt := 55) dX8_ofPerson_11 (by decide) (by decide) (by decide) (by decide) ?_
      refine b_aload_n dX8_ofPerson_55 rfl ?_
      refine b_getr dX8_ofPerson_56 gf_X8_22 rfl rfl ?_
      refine b_iload_n dX8_ofPerson_59 rfl ?_
      refine b_ialdN dX8_ofPerson_60 rfl ⟨by omega, by decide⟩ ?_
      refine b_iret dX8_ofPerson_61 rfl ⟨?_, ?_⟩
      · simp only [R_ofPerson, if_pos hq2, dn_nI (show pp < 2 ^ 31 by omega), if_pos (show (0 : Int32) ≤ nI 1 ∧ nI 1 ≤ 5 by decide), if_neg (show ¬ nI 1 = 0 by decide), if_pos (show nI 1 = 1 by decide)] <;> first | rfl | (simp; done)
      · simp only [R_ofPerson, if_pos hq2, dn_nI (show pp < 2 ^ 31 by omega), if_pos (show (0 : Int32) ≤ nI 1 ∧ nI 1 ≤ 5 by decide), if_neg (show ¬ nI 1 = 0 by decide), if_pos (show nI 1 = 1 by decide)] <;> rfl
    · refine b_tsIn (off := 51) (tgt := 62) dX8_ofPerson_11 (by decide) (by decide) (by decide) (by decide) ?_
      refine b_aload_n dX8_ofPerson_62 rfl ?_
      refine b_getr dX8_ofPerson_63 gf_X8_25 rfl rfl ?_
      refine b_iconst (v := 2) dX8_ofPerson_66 (by decide) ?_
      refine b_iload_n dX8_ofPerson_67 rfl ?_
      refine b_imul dX8_ofPerson_68 ?_
      refine b_topi (y := nI (2 * pp)) (nI_two _) ?_
      refine b_ialdN dX8_ofPerson_69 rfl ⟨by omega, by decide⟩ ?_
      refine b_iret dX8_ofPerson_70 rfl ⟨?_, ?_⟩
      · simp only [R_ofPerson, if_pos hq2, dn_nI (show pp < 2 ^ 31 by omega), if_pos (show (0 : Int32) ≤ nI 2 ∧ nI 2 ≤ 5 by decide), if_neg (show ¬ nI 2 = 0 by decide), if_neg (show ¬ nI 2 = 1 by decide), if_pos (show nI 2 = 2 by decide)] <;> first | rfl | (simp; done)
      · simp only [R_ofPerson, if_pos hq2, dn_nI (show pp < 2 ^ 31 by omega), if_pos (show (0 : Int32) ≤ nI 2 ∧ nI 2 ≤ 5 by decide), if_neg (show ¬ nI 2 = 0 by decide), if_neg (show ¬ nI 2 = 1 by decide), if_pos (show nI 2 = 2 by decide)] <;> rfl
    · refine b_tsIn (off := 60) (tgt := 71) dX8_ofPerson_11 (by decide) (by decide) (by decide) (by decide) ?_
      refine b_aload_n dX8_ofPerson_71 rfl ?_
      refine b_getr dX8_ofPerson_72 gf_X8_25 rfl rfl ?_
      refine b_iconst (v := 2) dX8_ofPerson_75 (by decide) ?_
      refine b_iload_n dX8_ofPerson_76 rfl ?_
      refine b_imul dX8_ofPerson_77 ?_
      refine b_topi (y := nI (2 * pp)) (nI_two _) ?_
      refine b_iconst (v := 1) dX8_ofPerson_78 (by decide) ?_
      refine b_iadd dX8_ofPerson_79 ?_
      refine b_topi (y := nI (2 * pp + 1)) (nI_add _ 1) ?_
      refine b_ialdN dX8_ofPerson_80 rfl ⟨by omega, by decide⟩ ?_
      refine b_iret dX8_ofPerson_81 rfl ⟨?_, ?_⟩
      · simp only [R_ofPerson, if_pos hq2, dn_nI (show pp < 2 ^ 31 by omega), if_pos (show (0 : Int32) ≤ nI 3 ∧ nI 3 ≤ 5 by decide), if_neg (show ¬ nI 3 = 0 by decide), if_neg (show ¬ nI 3 = 1 by decide), if_neg (show ¬ nI 3 = 2 by decide), if_pos (show nI 3 = 3 by decide)] <;> first | rfl | (simp; done)
      · simp only [R_ofPerson, if_pos hq2, dn_nI (show pp < 2 ^ 31 by omega), if_pos (show (0 : Int32) ≤ nI 3 ∧ nI 3 ≤ 5 by decide), if_neg (show ¬ nI 3 = 0 by decide), if_neg (show ¬ nI 3 = 1 by decide), if_neg (show ¬ nI 3 = 2 by decide), if_pos (show nI 3 = 3 by decide)] <;> rfl
    · refine b_tsIn (off := 71) (tgt := 82) dX8_ofPerson_11 (by decide) (by decide) (by decide) (by decide) ?_
      refine b_aload_n dX8_ofPerson_82 rfl ?_
      refine b_iload_n dX8_ofPerson_83 rfl ?_
      refine b_callV1 dX8_ofPerson_84 lk_X8_148 rfl rfl rfl ⟨Nat.le_of_ble_eq_true rfl, Nat.le_of_ble_eq_true rfl⟩ (Nat.le_of_ble_eq_true rfl) (s_X8_touchy (by omega)) (fun r w84 h84 => ?_)
      obtain ⟨rfl, rfl⟩ := h84
      refine b_iret dX8_ofPerson_87 rfl ⟨?_, ?_⟩
      · simp only [R_ofPerson, if_pos hq2, dn_nI (show pp < 2 ^ 31 by omega), if_pos (show (0 : Int32) ≤ nI 4 ∧ nI 4 ≤ 5 by decide), if_neg (show ¬ nI 4 = 0 by decide), if_neg (show ¬ nI 4 = 1 by decide), if_neg (show ¬ nI 4 = 2 by decide), if_neg (show ¬ nI 4 = 3 by decide), if_pos (show nI 4 = 4 by decide)] <;> first | rfl | (simp; done)
      · simp only [R_ofPerson, if_pos hq2, dn_nI (show pp < 2 ^ 31 by omega), if_pos (show (0 : Int32) ≤ nI 4 ∧ nI 4 ≤ 5 by decide), if_neg (show ¬ nI 4 = 0 by decide), if_neg (show ¬ nI 4 = 1 by decide), if_neg (show ¬ nI 4 = 2 by decide), if_neg (show ¬ nI 4 = 3 by decide), if_pos (show nI 4 = 4 by decide)] <;> rfl
    · refine b_tsIn (off := 77) (tgt := 88) dX8_ofPerson_11 (by decide) (by decide) (by decide) (by decide) ?_
      refine b_aload_n dX8_ofPerson_88 rfl ?_
      refine b_getr dX8_ofPerson_89 gf_X8_28 rfl rfl ?_
      refine b_iload_n dX8_ofPerson_92 rfl ?_
      refine b_zaldN dX8_ofPerson_93 rfl ⟨by omega, by decide⟩ ?_
      refine b_if_eq (tgt := 101) dX8_ofPerson_94 (by decide) (fun h94 => ?_) (fun h94 => ?_)
      · refine b_iconst (v := 0) dX8_ofPerson_101 (by decide) ?_
        refine b_iret dX8_ofPerson_102 rfl ⟨?_, ?_⟩
        · simp only [R_ofPerson, if_pos hq2, dn_nI (show pp < 2 ^ 31 by omega), if_pos (show (0 : Int32) ≤ nI 5 ∧ nI 5 ≤ 5 by decide), if_neg (show ¬ nI 5 = 0 by decide), if_neg (show ¬ nI 5 = 1 by decide), if_neg (show ¬ nI 5 = 2 by decide), if_neg (show ¬ nI 5 = 3 by decide), if_neg (show ¬ nI 5 = 4 by decide), if_pos h94] <;> first | rfl | (simp; done)
        · simp only [R_ofPerson, if_pos hq2, dn_nI (show pp < 2 ^ 31 by omega), if_pos (show (0 : Int32) ≤ nI 5 ∧ nI 5 ≤ 5 by decide), if_neg (show ¬ nI 5 = 0 by decide), if_neg (show ¬ nI 5 = 1 by decide), if_neg (show ¬ nI 5 = 2 by decide), if_neg (show ¬ nI 5 = 3 by decide), if_neg (show ¬ nI 5 = 4 by decide), if_pos h94] <;> rfl
      · refine b_iconst (v := 1) dX8_ofPerson_97 (by decide) ?_
        refine b_goto (tgt := 102) dX8_ofPerson_98 (by decide) ?_
        refine b_iret dX8_ofPerson_102 rfl ⟨?_, ?_⟩
        · simp only [R_ofPerson, if_pos hq2, dn_nI (show pp < 2 ^ 31 by omega), if_pos (show (0 : Int32) ≤ nI 5 ∧ nI 5 ≤ 5 by decide), if_neg (show ¬ nI 5 = 0 by decide), if_neg (show ¬ nI 5 = 1 by decide), if_neg (show ¬ nI 5 = 2 by decide), if_neg (show ¬ nI 5 = 3 by decide), if_neg (show ¬ nI 5 = 4 by decide), if_neg h94] <;> first | rfl | (simp; done)
        · simp only [R_ofPerson, if_pos hq2, dn_nI (show pp < 2 ^ 31 by omega), if_pos (show (0 : Int32) ≤ nI 5 ∧ nI 5 ≤ 5 by decide), if_neg (show ¬ nI 5 = 0 by decide), if_neg (show ¬ nI 5 = 1 by decide), if_neg (show ¬ nI 5 = 2 by decide), if_neg (show ¬ nI 5 = 3 by decide), if_neg (show ¬ nI 5 = 4 by decide), if_neg h94] <;> rfl
    · refine b_tsOut (tgt := 103) dX8_ofPerson_11 (ts_out 5 (by decide) hw) (by decide) ?_
      refine b_bipush (v := (-2)) dX8_ofPerson_103 (by decide) ?_
      refine b_iret dX8_ofPerson_105 rfl ⟨?_, ?_⟩
      · simp only [R_ofPerson, if_pos hq2, if_neg hw] <;> first | rfl | (simp; done)
      · simp only [R_ofPerson, if_pos hq2, if_neg hw] <;> rfl
  · refine b_if_ne (tgt := 10) dX8_ofPerson_5 (by decide) (fun h5 => absurd h5 (by decide)) (fun h5 => ?_)
    refine b_iconst (v := (-1)) dX8_ofPerson_8 (by decide) ?_
    refine b_iret dX8_ofPerson_9 rfl ⟨?_, ?_⟩
    · simp only [R_ofPerson, if_neg h2] <;> first | rfl | (simp; done)
    · simp only [R_ofPerson, if_neg h2] <;> rfl

set_option maxRecDepth 100000 in
set_option maxHeartbeats 4000000 in
theorem s_X8_reading {w : kW} {n c q : Nat} (hM : MInv n c q w) {p d was : Int32} (hb : was = 0 ∨ was = 1) : Spec shM yX8_reading cX8_reading 4 (some .int) 2 42 [.ref 0, .int p, .int d, .int was] w (fun r w' => r = some (.int ((R_reading w p d was).1)) ∧ (R_reading w p d was).2 = w') := by
  obtain ⟨hP, hI, hc8, hR, hu, hS⟩ := id hM
  have hn := hP.le
  have ec := hR.1
  have hq8 := hR.2.1
  have dnc : dn (w.1 0 35) = q := by rw [ec]; exact dn_nI (by omega)
  refine k_enter pn_X8 (Nat.le_of_ble_eq_true rfl) ?_
  refine b_aload_n dX8_reading_0 rfl ?_
  refine b_iload_n dX8_reading_1 rfl ?_
  refine b_callV1 dX8_reading_2 lk_X8_145 rfl rfl rfl ⟨Nat.le_of_ble_eq_true rfl, Nat.le_of_ble_eq_true rfl⟩ (Nat.le_of_ble_eq_true rfl) (s_X8_isPerson) (fun r w2 h2 => ?_)
  obtain ⟨rfl, h2⟩ := h2
  rcases h2 with ⟨rfl, h2⟩ | ⟨rfl, h2⟩
  · refine b_if_ne (tgt := 10) dX8_reading_5 (by decide) (fun h5 => ?_) (fun h5 => absurd h5 (by decide))
    refine b_iload_n dX8_reading_10 rfl ?_
    refine b_callS1 dX8_reading_11 lk_X8_195 ⟨Nat.le_of_ble_eq_true rfl, Nat.le_of_ble_eq_true rfl⟩ (Nat.le_of_ble_eq_true rfl) (s_X8_isDawn) (fun r w11 h11 => ?_)
    obtain ⟨rfl, h11⟩ := h11
    rcases h11 with ⟨rfl, h11⟩ | ⟨rfl, h11⟩
    · refine b_if_ne (tgt := 20) dX8_reading_14 (by decide) (fun h14 => ?_) (fun h14 => absurd h14 (by decide))
      refine b_aload_n dX8_reading_20 rfl ?_
      refine b_geti dX8_reading_21 gf_X8_135 rfl rfl ?_
      refine b_bipush (v := 8) dX8_reading_24 (by decide) ?_
      refine b_icmp_ne (tgt := 32) dX8_reading_26 (by decide) (fun h26 => ?_) (fun h26 => ?_)
      · have hq7 : q < 8 := by
          rcases Nat.lt_or_ge q 8 with h | h
          · exact h
          · exact absurd (by rw [ec, show q = 8 by omega]; rfl) h26
        refine b_aload_n dX8_reading_32 rfl ?_
        refine b_getr dX8_reading_33 gf_X8_86 rfl rfl ?_
        refine b_aload_n dX8_reading_36 rfl ?_
        refine b_geti dX8_reading_37 gf_X8_135 rfl rfl ?_
        refine b_topi (y := nI q) ec ?_
        refine b_iload_n dX8_reading_40 rfl ?_
        refine b_iastN dX8_reading_41 rfl ⟨by omega, by decide⟩ ?_
        refine b_aload_n dX8_reading_42 rfl ?_
        refine b_getr dX8_reading_43 gf_X8_89 rfl rfl ?_
        refine b_aload_n dX8_reading_46 rfl ?_
        refine b_geti dX8_reading_47 gf_X8_135 rfl rfl ?_
        refine b_topi (y := nI q) ec ?_
        refine b_iload_n dX8_reading_50 rfl ?_
        refine b_iastN dX8_reading_51 rfl ⟨by omega, by decide⟩ ?_
        refine b_aload_n dX8_reading_52 rfl ?_
        refine b_getr dX8_reading_53 gf_X8_92 rfl rfl ?_
        refine b_aload_n dX8_reading_56 rfl ?_
        refine b_geti dX8_reading_57 gf_X8_135 rfl rfl ?_
        refine b_topi (y := nI q) ec ?_
        refine b_iload_n dX8_reading_60 rfl ?_
        refine b_zastN dX8_reading_61 rfl ⟨by omega, by decide⟩ hb ?_
        refine b_aload_n dX8_reading_62 rfl ?_
        refine b_dup dX8_reading_63 rfl ?_
        refine b_geti dX8_reading_64 gf_X8_135 rfl rfl ?_
        refine b_iconst (v := 1) dX8_reading_67 (by decide) ?_
        refine b_iadd dX8_reading_68 ?_
        refine b_puti dX8_reading_69 gf_X8_135 gs_X8_35 rfl rfl ?_
        refine b_aload_n dX8_reading_72 rfl ?_
        refine b_geti dX8_reading_73 gf_X8_135 rfl rfl ?_
        refine b_iconst (v := 1) dX8_reading_76 (by decide) ?_
        refine b_isub dX8_reading_77 ?_
        refine b_topi (y := w.1 0 35) (Int32.add_sub_cancel _ _) ?_
        refine b_iret dX8_reading_78 rfl ⟨?_, ?_⟩
        · simp only [R_reading, if_pos h2, if_pos h11, if_neg h26, dnc] <;> first | rfl | (simp; done)
        · simp only [R_reading, if_pos h2, if_pos h11, if_neg h26, dnc] <;> rfl
      · refine b_bipush (v := (-4)) dX8_reading_29 (by decide) ?_
        refine b_iret dX8_reading_31 rfl ⟨?_, ?_⟩
        · simp only [R_reading, if_pos h2, if_pos h11, if_pos h26] <;> first | rfl | (simp; done)
        · simp only [R_reading, if_pos h2, if_pos h11, if_pos h26] <;> rfl
    · refine b_if_ne (tgt := 20) dX8_reading_14 (by decide) (fun h14 => absurd h14 (by decide)) (fun h14 => ?_)
      refine b_bipush (v := (-2)) dX8_reading_17 (by decide) ?_
      refine b_iret dX8_reading_19 rfl ⟨?_, ?_⟩
      · simp only [R_reading, if_pos h2, if_neg h11] <;> first | rfl | (simp; done)
      · simp only [R_reading, if_pos h2, if_neg h11] <;> rfl
  · refine b_if_ne (tgt := 10) dX8_reading_5 (by decide) (fun h5 => absurd h5 (by decide)) (fun h5 => ?_)
    refine b_iconst (v := (-1)) dX8_reading_8 (by decide) ?_
    refine b_iret dX8_reading_9 rfl ⟨?_, ?_⟩
    · simp only [R_reading, if_neg h2] <;> first | rfl | (simp; done)
    · simp only [R_reading, if_neg h2] <;> rfl

set_option maxRecDepth 100000 in
set_option maxHeartbeats 4000000 in
theorem s_X8_tell {w : kW} {n c q : Nat} (hM : MInv n c q w) {p : Int32} : Spec shM yX8_tell cX8_tell 3 (some .int) 1 21 [.ref 0, .int p] w (fun r w' => r = some (.int ((R_tell w p).1)) ∧ (R_tell w p).2 = w') := by
  obtain ⟨hP, hI, hc8, hR, hu, hS⟩ := id hM
  have hn := hP.le
  refine k_enter pn_X8 (Nat.le_of_ble_eq_true rfl) ?_
  refine b_aload_n dX8_tell_0 rfl ?_
  refine b_iload_n dX8_tell_1 rfl ?_
  refine b_callV1 dX8_tell_2 lk_X8_145 rfl rfl rfl ⟨Nat.le_of_ble_eq_true rfl, Nat.le_of_ble_eq_true rfl⟩ (Nat.le_of_ble_eq_true rfl) (s_X8_isPerson) (fun r w2 h2 => ?_)
  obtain ⟨rfl, h2⟩ := h2
  rcases h2 with ⟨rfl, h2⟩ | ⟨rfl, h2⟩
  · refine b_if_ne (tgt := 10) dX8_tell_5 (by decide) (fun h5 => ?_) (fun h5 => absurd h5 (by decide))
    have hq2 : isPr w p := h2
    obtain ⟨pp, hp, rfl⟩ := pers_of hP h2
    obtain ⟨kd, hkd, ek⟩ := hP.2.2.2.2.2 pp hp
    refine b_aload_n dX8_tell_10 rfl ?_
    refine b_getr dX8_tell_11 gf_X8_22 rfl rfl ?_
    refine b_iload_n dX8_tell_14 rfl ?_
    refine b_ialdN dX8_tell_15 rfl ⟨by omega, by decide⟩ ?_
    refine b_istore_n dX8_tell_16 (by decide) ?_
    refine b_aload_n dX8_tell_17 rfl ?_
    refine b_getr dX8_tell_18 gf_X8_19 rfl rfl ?_
    refine b_iload_n dX8_tell_21 rfl ?_
    refine b_ialdN dX8_tell_22 rfl ⟨by omega, by decide⟩ ?_
    refine b_topi (y := nI kd) ek ?_
    rcases (show kd = 0 ∨ kd = 1 ∨ kd = 2 by omega) with rfl | rfl | rfl
    · refine b_lsw (off := 67) (tgt := 90) dX8_tell_23 (by decide) (by decide) (by decide) ?_
      refine b_aload_n dX8_tell_90 rfl ?_
      refine b_iconst (v := 1) dX8_tell_91 (by decide) ?_
      refine b_callV1 dX8_tell_92 lk_X8_236 rfl rfl rfl ⟨Nat.le_of_ble_eq_true rfl, Nat.le_of_ble_eq_true rfl⟩ (Nat.le_of_ble_eq_true rfl) (s_X8_begins) (fun r w92 h92 => ?_)
      obtain ⟨rfl, rfl⟩ := h92
      refine b_iload_n dX8_tell_95 rfl ?_
      refine b_iret dX8_tell_96 rfl ⟨?_, ?_⟩
      · simp only [R_tell, if_pos hq2, dn_nI (show pp < 2 ^ 31 by omega), if_neg (show ¬ w.1 4 pp = 1 by rw [ek]; decide), if_neg (show ¬ w.1 4 pp = 2 by rw [ek]; decide)] <;> first | rfl | (simp; done)
      · simp only [R_tell, if_pos hq2, dn_nI (show pp < 2 ^ 31 by omega), if_neg (show ¬ w.1 4 pp = 1 by rw [ek]; decide), if_neg (show ¬ w.1 4 pp = 2 by rw [ek]; decide)] <;> rfl
    · refine b_lsw (off := 25) (tgt := 48) dX8_tell_23 (by decide) (by decide) (by decide) ?_
      refine b_aload_n dX8_tell_48 rfl ?_
      refine b_iconst (v := 2) dX8_tell_49 (by decide) ?_
      refine b_callV1 dX8_tell_50 lk_X8_236 rfl rfl rfl ⟨Nat.le_of_ble_eq_true rfl, Nat.le_of_ble_eq_true rfl⟩ (Nat.le_of_ble_eq_true rfl) (s_X8_begins) (fun r w50 h50 => ?_)
      obtain ⟨rfl, rfl⟩ := h50
      refine b_aload_n dX8_tell_53 rfl ?_
      refine b_iconst (v := 1) dX8_tell_54 (by decide) ?_
      refine b_callV1 dX8_tell_55 lk_X8_236 rfl rfl rfl ⟨Nat.le_of_ble_eq_true rfl, Nat.le_of_ble_eq_true rfl⟩ (Nat.le_of_ble_eq_true rfl) (s_X8_begins) (fun r w55 h55 => ?_)
      obtain ⟨rfl, rfl⟩ := h55
      refine b_iload_n dX8_tell_58 rfl ?_
      refine b_bipush (v := 100) dX8_tell_59 (by decide) ?_
      refine b_iadd dX8_tell_61 ?_
      refine b_iret dX8_tell_62 rfl ⟨?_, ?_⟩
      · simp only [R_tell, if_pos hq2, dn_nI (show pp < 2 ^ 31 by omega), if_pos (show w.1 4 pp = 1 from ek)] <;> first | rfl | (simp; done)
      · simp only [R_tell, if_pos hq2, dn_nI (show pp < 2 ^ 31 by omega), if_pos (show w.1 4 pp = 1 from ek)] <;> rfl
    · refine b_lsw (off := 40) (tgt := 63) dX8_tell_23 (by decide) (by decide) (by decide) ?_
      refine b_aload_n dX8_tell_63 rfl ?_
      refine b_iconst (v := 3) dX8_tell_64 (by decide) ?_
      refine b_callV1 dX8_tell_65 lk_X8_236 rfl rfl rfl ⟨Nat.le_of_ble_eq_true rfl, Nat.le_of_ble_eq_true rfl⟩ (Nat.le_of_ble_eq_true rfl) (s_X8_begins) (fun r w65 h65 => ?_)
      obtain ⟨rfl, rfl⟩ := h65
      refine b_aload_n dX8_tell_68 rfl ?_
      refine b_iconst (v := 2) dX8_tell_69 (by decide) ?_
      refine b_callV1 dX8_tell_70 lk_X8_236 rfl rfl rfl ⟨Nat.le_of_ble_eq_true rfl, Nat.le_of_ble_eq_true rfl⟩ (Nat.le_of_ble_eq_true rfl) (s_X8_begins) (fun r w70 h70 => ?_)
      obtain ⟨rfl, rfl⟩ := h70
      refine b_aload_n dX8_tell_73 rfl ?_
      refine b_iconst (v := 1) dX8_tell_74 (by decide) ?_
      refine b_callV1 dX8_tell_75 lk_X8_236 rfl rfl rfl ⟨Nat.le_of_ble_eq_true rfl, Nat.le_of_ble_eq_true rfl⟩ (Nat.le_of_ble_eq_true rfl) (s_X8_begins) (fun r w75 h75 => ?_)
      obtain ⟨rfl, rfl⟩ := h75
      refine b_aload_n dX8_tell_78 rfl ?_
      refine b_iconst (v := 1) dX8_tell_79 (by decide) ?_
      refine b_callV1 dX8_tell_80 lk_X8_236 rfl rfl rfl ⟨Nat.le_of_ble_eq_true rfl, Nat.le_of_ble_eq_true rfl⟩ (Nat.le_of_ble_eq_true rfl) (s_X8_begins) (fun r w80 h80 => ?_)
      obtain ⟨rfl, rfl⟩ := h80
      refine b_iconst (v := 2) dX8_tell_83 (by decide) ?_
      refine b_iload_n dX8_tell_84 rfl ?_
      refine b_imul dX8_tell_85 ?_
      refine b_bipush (v := 100) dX8_tell_86 (by decide) ?_
      refine b_iadd dX8_tell_88 ?_
      refine b_iret dX8_tell_89 rfl ⟨?_, ?_⟩
      · simp only [R_tell, if_pos hq2, dn_nI (show pp < 2 ^ 31 by omega), if_neg (show ¬ w.1 4 pp = 1 by rw [ek]; decide), if_pos (show w.1 4 pp = 2 from ek)] <;> first | rfl | (simp; done)
      · simp only [R_tell, if_pos hq2, dn_nI (show pp < 2 ^ 31 by omega), if_neg (show ¬ w.1 4 pp = 1 by rw [ek]; decide), if_pos (show w.1 4 pp = 2 from ek)] <;> rfl
  · refine b_if_ne (tgt := 10) dX8_tell_5 (by decide) (fun h5 => absurd h5 (by decide)) (fun h5 => ?_)
    refine b_iconst (v := (-1)) dX8_tell_8 (by decide) ?_
    refine b_iret dX8_tell_9 rfl ⟨?_, ?_⟩
    · simp only [R_tell, if_neg h2] <;> first | rfl | (simp; done)
    · simp only [R_tell, if_neg h2] <;> rfl

set_option maxRecDepth 100000 in
set_option maxHeartbeats 4000000 in
theorem s_X8_salute {w : kW} {n c q : Nat} (hM : MInv n c q w) {p : Int32} : Spec shM yX8_salute cX8_salute 2 (some .int) 1 21 [.ref 0, .int p] w (fun r w' => r = some (.int ((R_salute w p).1)) ∧ (R_salute w p).2 = w') := by
  obtain ⟨hP, hI, hc8, hR, hu, hS⟩ := id hM
  have hn := hP.le
  refine k_enter pn_X8 (Nat.le_of_ble_eq_true rfl) ?_
  refine b_aload_n dX8_salute_0 rfl ?_
  refine b_iload_n dX8_salute_1 rfl ?_
  refine b_callV1 dX8_salute_2 lk_X8_145 rfl rfl rfl ⟨Nat.le_of_ble_eq_true rfl, Nat.le_of_ble_eq_true rfl⟩ (Nat.le_of_ble_eq_true rfl) (s_X8_isPerson) (fun r w2 h2 => ?_)
  obtain ⟨rfl, h2⟩ := h2
  rcases h2 with ⟨rfl, h2⟩ | ⟨rfl, h2⟩
  · refine b_if_ne (tgt := 10) dX8_salute_5 (by decide) (fun h5 => ?_) (fun h5 => absurd h5 (by decide))
    have hq2 : isPr w p := h2
    obtain ⟨pp, hp, rfl⟩ := pers_of hP h2
    refine b_aload_n dX8_salute_10 rfl ?_
    refine b_aload_n dX8_salute_11 rfl ?_
    refine b_getr dX8_salute_12 gf_X8_19 rfl rfl ?_
    refine b_iload_n dX8_salute_15 rfl ?_
    refine b_ialdN dX8_salute_16 rfl ⟨by omega, by decide⟩ ?_
    refine b_iconst (v := 2) dX8_salute_17 (by decide) ?_
    refine b_icmp_ne (tgt := 25) dX8_salute_18 (by decide) (fun h18 => ?_) (fun h18 => ?_)
    · refine b_iconst (v := 4) dX8_salute_25 (by decide) ?_
      refine b_callV1 dX8_salute_26 lk_X8_236 rfl rfl rfl ⟨Nat.le_of_ble_eq_true rfl, Nat.le_of_ble_eq_true rfl⟩ (Nat.le_of_ble_eq_true rfl) (s_X8_begins) (fun r w26 h26 => ?_)
      obtain ⟨rfl, rfl⟩ := h26
      refine b_aload_n dX8_salute_29 rfl ?_
      refine b_getr dX8_salute_30 gf_X8_19 rfl rfl ?_
      refine b_iload_n dX8_salute_33 rfl ?_
      refine b_ialdN dX8_salute_34 rfl ⟨by omega, by decide⟩ ?_
      refine b_topi (y := w.1 4 pp) rfl ?_
      refine b_iconst (v := 2) dX8_salute_35 (by decide) ?_
      refine b_icmp_ne (tgt := 44) dX8_salute_36 (by decide) (fun h36 => ?_) (fun h36 => ?_)
      · refine b_iload_n dX8_salute_44 rfl ?_
        refine b_iret dX8_salute_45 rfl ⟨?_, ?_⟩
        · simp only [R_salute, if_pos hq2, dn_nI (show pp < 2 ^ 31 by omega), if_neg h18] <;> first | rfl | (simp; done)
        · simp only [R_salute, if_pos hq2, dn_nI (show pp < 2 ^ 31 by omega), if_neg h18] <;> rfl
      · exact absurd h36 h18
    · refine b_iconst (v := 5) dX8_salute_21 (by decide) ?_
      refine b_goto (tgt := 26) dX8_salute_22 (by decide) ?_
      refine b_callV1 dX8_salute_26 lk_X8_236 rfl rfl rfl ⟨Nat.le_of_ble_eq_true rfl, Nat.le_of_ble_eq_true rfl⟩ (Nat.le_of_ble_eq_true rfl) (s_X8_begins) (fun r w26 h26 => ?_)
      obtain ⟨rfl, rfl⟩ := h26
      refine b_aload_n dX8_salute_29 rfl ?_
      refine b_getr dX8_salute_30 gf_X8_19 rfl rfl ?_
      refine b_iload_n dX8_salute_33 rfl ?_
      refine b_ialdN dX8_salute_34 rfl ⟨by omega, by decide⟩ ?_
      refine b_topi (y := w.1 4 pp) rfl ?_
      refine b_iconst (v := 2) dX8_salute_35 (by decide) ?_
      refine b_icmp_ne (tgt := 44) dX8_salute_36 (by decide) (fun h36 => ?_) (fun h36 => ?_)
      · exact absurd h18 h36
      · refine b_bipush (v := 80) dX8_salute_39 (by decide) ?_
        refine b_goto (tgt := 45) dX8_salute_41 (by decide) ?_
        refine b_iret dX8_salute_45 rfl ⟨?_, ?_⟩
        · simp only [R_salute, if_pos hq2, dn_nI (show pp < 2 ^ 31 by omega), if_pos h18] <;> first | rfl | (simp; done)
        · simp only [R_salute, if_pos hq2, dn_nI (show pp < 2 ^ 31 by omega), if_pos h18] <;> rfl
  · refine b_if_ne (tgt := 10) dX8_salute_5 (by decide) (fun h5 => absurd h5 (by decide)) (fun h5 => ?_)
    refine b_iconst (v := (-1)) dX8_salute_8 (by decide) ?_
    refine b_iret dX8_salute_9 rfl ⟨?_, ?_⟩
    · simp only [R_salute, if_neg h2] <;> first | rfl | (simp; done)
    · simp only [R_salute, if_neg h2] <;> rfl

set_option maxRecDepth 100000 in
set_option maxHeartbeats 4000000 in
theorem s_X8_as {w : kW} {n c q : Nat} (hM : MInv n c q w) {p k : Int32} : Spec shM yX8_as cX8_as 3 (some .int) 1 22 [.ref 0, .int p, .int k] w (fun r w' => r = some (.int ((R_as w p k).1)) ∧ (R_as w p k).2 = w') := by
  obtain ⟨hP, hI, hc8, hR, hu, hS⟩ := id hM
  have hn := hP.le
  refine k_enter pn_X8 (Nat.le_of_ble_eq_true rfl) ?_
  refine b_aload_n dX8_as_0 rfl ?_
  refine b_iconst (v := 0) dX8_as_1 (by decide) ?_
  refine b_puti dX8_as_2 gf_X8_95 gs_X8_0 rfl rfl ?_
  refine b_aload_n dX8_as_5 rfl ?_
  refine b_iload_n dX8_as_6 rfl ?_
  refine b_callV1 dX8_as_7 lk_X8_145 rfl rfl rfl ⟨Nat.le_of_ble_eq_true rfl, Nat.le_of_ble_eq_true rfl⟩ (Nat.le_of_ble_eq_true rfl) (s_X8_isPerson) (fun r w7 h7 => ?_)
  obtain ⟨rfl, h7⟩ := h7
  rcases h7 with ⟨rfl, h7⟩ | ⟨rfl, h7⟩
  · refine b_if_ne (tgt := 15) dX8_as_10 (by decide) (fun h10 => ?_) (fun h10 => absurd h10 (by decide))
    have hq2 : isPr w p := h7
    obtain ⟨pp, hp, rfl⟩ := pers_of hP hq2
    refine b_iload_n dX8_as_15 rfl ?_
    refine b_iconst (v := 0) dX8_as_16 (by decide) ?_
    refine b_iconst (v := 2) dX8_as_17 (by decide) ?_
    refine b_callS3 dX8_as_18 lk_X8_101 ⟨Nat.le_of_ble_eq_true rfl, Nat.le_of_ble_eq_true rfl⟩ (Nat.le_of_ble_eq_true rfl) (s_X8_within) (fun r w18 h18 => ?_)
    obtain ⟨rfl, h18⟩ := h18
    rcases h18 with ⟨rfl, h18⟩ | ⟨rfl, h18⟩
    · refine b_if_ne (tgt := 27) dX8_as_21 (by decide) (fun h21 => ?_) (fun h21 => absurd h21 (by decide))
      refine b_aload_n dX8_as_27 rfl ?_
      refine b_getr dX8_as_28 gf_X8_19 rfl rfl ?_
      refine b_iload_n dX8_as_31 rfl ?_
      refine b_ialdN dX8_as_32 rfl ⟨by omega, by decide⟩ ?_
      refine b_topi (y := w.1 4 pp) rfl ?_
      refine b_iload_n dX8_as_33 rfl ?_
      refine b_icmp_lt (tgt := 41) dX8_as_34 (by decide) (fun h34 => ?_) (fun h34 => ?_)
      · refine b_aload_n dX8_as_41 rfl ?_
        refine b_iconst (v := 2) dX8_as_42 (by decide) ?_
        refine b_callV1 dX8_as_43 lk_X8_122 rfl rfl rfl ⟨Nat.le_of_ble_eq_true rfl, Nat.le_of_ble_eq_true rfl⟩ (Nat.le_of_ble_eq_true rfl) (s_X8_fails) (fun r w43 h43 => ?_)
        obtain ⟨rfl, rfl⟩ := h43
        refine b_iret dX8_as_46 rfl ⟨?_, ?_⟩
        · simp only [R_as, if_pos hq2, if_pos h18, dn_nI (show pp < 2 ^ 31 by omega), if_pos h34] <;> rfl
        · simp only [R_as, if_pos hq2, if_pos h18, dn_nI (show pp < 2 ^ 31 by omega), if_pos h34] <;> first | rfl | exact (kset_kset _ _ _ _ _).symm
      · refine b_iconst (v := 1) dX8_as_37 (by decide) ?_
        refine b_goto (tgt := 46) dX8_as_38 (by decide) ?_
        refine b_iret dX8_as_46 rfl ⟨?_, ?_⟩
        · simp only [R_as, if_pos hq2, if_pos h18, dn_nI (show pp < 2 ^ 31 by omega), if_neg h34] <;> rfl
        · simp only [R_as, if_pos hq2, if_pos h18, dn_nI (show pp < 2 ^ 31 by omega), if_neg h34] <;> first | rfl | exact (kset_kset _ _ _ _ _).symm
    · refine b_if_ne (tgt := 27) dX8_as_21 (by decide) (fun h21 => absurd h21 (by decide)) (fun h21 => ?_)
      refine b_bipush (v := (-2)) dX8_as_24 (by decide) ?_
      refine b_iret dX8_as_26 rfl ⟨?_, ?_⟩
      · simp only [R_as, if_pos hq2, if_neg h18] <;> rfl
      · simp only [R_as, if_pos hq2, if_neg h18] <;> first | rfl | exact (kset_kset _ _ _ _ _).symm
  · refine b_if_ne (tgt := 15) dX8_as_10 (by decide) (fun h10 => absurd h10 (by decide)) (fun h10 => ?_)
    refine b_iconst (v := (-1)) dX8_as_13 (by decide) ?_
    refine b_iret dX8_as_14 rfl ⟨?_, ?_⟩
    · simp only [R_as, if_neg (show ¬ isPr w p from h7)] <;> rfl
    · simp only [R_as, if_neg (show ¬ isPr w p from h7)] <;> first | rfl | exact (kset_kset _ _ _ _ _).symm

set_option maxRecDepth 100000 in
set_option maxHeartbeats 4000000 in
theorem s_X8_trace {w : kW} : Spec shM yX8_trace cX8_trace 1 (some .int) 0 0 [.ref 0] w (fun r w' => r = some (.int (w.1 0 1)) ∧ w = w') := by
  refine k_enter pn_X8 (Nat.le_of_ble_eq_true rfl) ?_
  refine b_aload_n dX8_trace_0 rfl ?_
  refine b_geti dX8_trace_1 gf_X8_233 rfl rfl ?_
  refine b_iret dX8_trace_4 rfl ⟨?_, ?_⟩
  · rfl
  · rfl

set_option maxRecDepth 100000 in
set_option maxHeartbeats 4000000 in
theorem s_X8_fault {w : kW} : Spec shM yX8_fault cX8_fault 1 (some .int) 0 0 [.ref 0] w (fun r w' => r = some (.int (w.1 0 0)) ∧ w = w') := by
  refine k_enter pn_X8 (Nat.le_of_ble_eq_true rfl) ?_
  refine b_aload_n dX8_fault_0 rfl ?_
  refine b_geti dX8_fault_1 gf_X8_95 rfl rfl ?_
  refine b_iret dX8_fault_4 rfl ⟨?_, ?_⟩
  · rfl
  · rfl

set_option maxRecDepth 100000 in
set_option maxHeartbeats 4000000 in
theorem s_X8_many {w : kW} {n c q : Nat} (hM : MInv n c q w) {what : Int32} : Spec shM yX8_many cX8_many 2 (some .int) 6 146 [.ref 0, .int what] w (fun r w' => r = some (.int (A_many n c w what)) ∧ mKp c w w') := by
  obtain ⟨hP, hI, hc8, hR, hu, hS⟩ := id hM
  have hn := hP.le
  refine k_enter pn_X8 (Nat.le_of_ble_eq_true rfl) ?_
  refine b_iload_n dX8_many_0 rfl ?_
  refine b_iconst (v := 3) dX8_many_1 (by decide) ?_
  refine b_icmp_ne (tgt := 27) dX8_many_2 (by decide) (fun h2 => ?_) (fun h2 => ?_)
  · refine b_iload_n dX8_many_27 rfl ?_
    refine b_if_ne (tgt := 38) dX8_many_28 (by decide) (fun h28 => ?_) (fun h28 => ?_)
    · refine b_iload_n dX8_many_38 rfl ?_
      refine b_iconst (v := 1) dX8_many_39 (by decide) ?_
      refine b_icmp_ne (tgt := 50) dX8_many_40 (by decide) (fun h40 => ?_) (fun h40 => ?_)
      · refine b_iload_n dX8_many_50 rfl ?_
        refine b_iconst (v := 2) dX8_many_51 (by decide) ?_
        refine b_icmp_ne (tgt := 62) dX8_many_52 (by decide) (fun h52 => ?_) (fun h52 => ?_)
        · refine b_bipush (v := (-2)) dX8_many_62 (by decide) ?_
          refine b_iret dX8_many_64 rfl ⟨?_, ?_⟩
          · simp only [A_many, if_neg h2, if_neg h28, if_neg h40, if_neg h52] <;> rfl
          · exact mKp.rf
        · refine b_aload_n dX8_many_55 rfl ?_
          refine b_geti dX8_many_56 gf_X8_135 rfl rfl ?_
          refine b_goto (tgt := 64) dX8_many_59 (by decide) ?_
          refine b_iret dX8_many_64 rfl ⟨?_, ?_⟩
          · simp only [A_many, if_neg h2, if_neg h28, if_neg h40, if_pos h52] <;> rfl
          · exact mKp.rf
      · refine b_aload_n dX8_many_43 rfl ?_
        refine b_geti dX8_many_44 gf_X8_132 rfl rfl ?_
        refine b_goto (tgt := 64) dX8_many_47 (by decide) ?_
        refine b_iret dX8_many_64 rfl ⟨?_, ?_⟩
        · simp only [A_many, if_neg h2, if_neg h28, if_pos h40] <;> rfl
        · exact mKp.rf
    · refine b_aload_n dX8_many_31 rfl ?_
      refine b_geti dX8_many_32 gf_X8_105 rfl rfl ?_
      refine b_goto (tgt := 64) dX8_many_35 (by decide) ?_
      refine b_iret dX8_many_64 rfl ⟨?_, ?_⟩
      · simp only [A_many, if_neg h2, if_pos h28] <;> rfl
      · exact mKp.rf
  · refine b_aload_n dX8_many_5 rfl ?_
    refine b_bipush (v := 60) dX8_many_6 (by decide) ?_
    refine b_callV1 dX8_many_8 lk_X8_198 rfl rfl rfl ⟨Nat.le_of_ble_eq_true rfl, Nat.le_of_ble_eq_true rfl⟩ (Nat.le_of_ble_eq_true rfl) (s_X8_goAhead (D := 60) hP hI (by omega)) (fun r w8 h8 => ?_)
    obtain ⟨rfl, rfl⟩ := h8
    refine b_aload_n dX8_many_11 rfl ?_
    refine b_geti dX8_many_12 gf_X8_105 rfl rfl ?_
    refine b_topi (y := w.1 0 5) ((mGo_keep hP hI (Nat.le_refl 60)).2.1 5 (by decide) (by decide) (by decide)) ?_
    refine b_if_ne (tgt := 22) dX8_many_15 (by decide) (fun h15 => ?_) (fun h15 => ?_)
    · refine b_aload_n dX8_many_22 rfl ?_
      refine b_geti dX8_many_23 gf_X8_165 rfl rfl ?_
      refine b_iret dX8_many_26 rfl ⟨?_, ?_⟩
      · simp only [A_many, if_pos h2, if_neg h15] <;> rfl
      · exact mKp.of (mGo_keep hP hI (Nat.le_refl 60))
    · refine b_iconst (v := 0) dX8_many_18 (by decide) ?_
      refine b_goto (tgt := 26) dX8_many_19 (by decide) ?_
      refine b_iret dX8_many_26 rfl ⟨?_, ?_⟩
      · simp only [A_many, if_pos h2, if_pos h15] <;> rfl
      · exact mKp.of (mGo_keep hP hI (Nat.le_refl 60))
end
