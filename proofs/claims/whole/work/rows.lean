section
-- ===== PART A: goes FIRST, ahead of the names: the tables' words, and 'selects' of the private methods out of them =====
/-- a private method of a class that the tables say can be made, by its rows of tables_1 -/
def lw_okq (q : MethodName × Nat) : Prop := (q.1.cls ≠ "java/lang/invoke/MethodHandle" ∧ q.1.cls ≠ "java/lang/invoke/VarHandle") ∧ Cond.instantiable q.1.cls q.2 ∈ tables_1 ∧ Cond.privateMethod q.1 ∈ tables_1 ∧ Cond.instanceMethod q.1 ∈ tables_1
theorem lw_p0 : lw_okq (⟨"SelfRows$Ring", "ripeFrom", "(I)I"⟩, 4) := ⟨⟨by decide +kernel, by decide +kernel⟩, List.mem_of_getElem? (i := 18) (by decide +kernel), List.mem_of_getElem? (i := 178) (by decide +kernel), List.mem_of_getElem? (i := 179) (by decide +kernel)⟩
theorem lw_p1 : lw_okq (⟨"SelfRows$Ring", "waits", "(I)Z"⟩, 4) := ⟨⟨by decide +kernel, by decide +kernel⟩, List.mem_of_getElem? (i := 18) (by decide +kernel), List.mem_of_getElem? (i := 182) (by decide +kernel), List.mem_of_getElem? (i := 183) (by decide +kernel)⟩
theorem lw_p2 : lw_okq (⟨"SelfRows$Ring", "grow", "(II)V"⟩, 4) := ⟨⟨by decide +kernel, by decide +kernel⟩, List.mem_of_getElem? (i := 18) (by decide +kernel), List.mem_of_getElem? (i := 194) (by decide +kernel), List.mem_of_getElem? (i := 195) (by decide +kernel)⟩
theorem lw_p3 : lw_okq (⟨"SelfRows$Ring", "lettersOf", "(I)LSelfRows$Alphabet;"⟩, 4) := ⟨⟨by decide +kernel, by decide +kernel⟩, List.mem_of_getElem? (i := 18) (by decide +kernel), List.mem_of_getElem? (i := 198) (by decide +kernel), List.mem_of_getElem? (i := 199) (by decide +kernel)⟩
theorem lw_p4 : lw_okq (⟨"SelfRows$Ring", "lengthTold", "(II)I"⟩, 4) := ⟨⟨by decide +kernel, by decide +kernel⟩, List.mem_of_getElem? (i := 18) (by decide +kernel), List.mem_of_getElem? (i := 207) (by decide +kernel), List.mem_of_getElem? (i := 208) (by decide +kernel)⟩
theorem lw_p5 : lw_okq (⟨"SelfRows$Row", "keepCounts", "()V"⟩, 4) := ⟨⟨by decide +kernel, by decide +kernel⟩, List.mem_of_getElem? (i := 40) (by decide +kernel), List.mem_of_getElem? (i := 220) (by decide +kernel), List.mem_of_getElem? (i := 221) (by decide +kernel)⟩
theorem lw_p6 : lw_okq (⟨"SelfRows$Row", "keptBefore", "(II)I"⟩, 4) := ⟨⟨by decide +kernel, by decide +kernel⟩, List.mem_of_getElem? (i := 40) (by decide +kernel), List.mem_of_getElem? (i := 242) (by decide +kernel), List.mem_of_getElem? (i := 243) (by decide +kernel)⟩
theorem lw_p7 : lw_okq (⟨"SelfRows$Word", "isEndOfRun", "(I)Z"⟩, 2) := ⟨⟨by decide +kernel, by decide +kernel⟩, List.mem_of_getElem? (i := 74) (by decide +kernel), List.mem_of_getElem? (i := 323) (by decide +kernel), List.mem_of_getElem? (i := 324) (by decide +kernel)⟩
theorem lw_p8 : lw_okq (⟨"SelfRows$Word", "change", "(II)V"⟩, 2) := ⟨⟨by decide +kernel, by decide +kernel⟩, List.mem_of_getElem? (i := 74) (by decide +kernel), List.mem_of_getElem? (i := 341) (by decide +kernel), List.mem_of_getElem? (i := 342) (by decide +kernel)⟩
theorem lw_p9 : lw_okq (⟨"SelfRows$Word", "hasTwice", "(I)Z"⟩, 2) := ⟨⟨by decide +kernel, by decide +kernel⟩, List.mem_of_getElem? (i := 74) (by decide +kernel), List.mem_of_getElem? (i := 431) (by decide +kernel), List.mem_of_getElem? (i := 432) (by decide +kernel)⟩
theorem lw_p10 : lw_okq (⟨"SelfRows$Stretches", "takesSeat", "(J)Z"⟩, 1) := ⟨⟨by decide +kernel, by decide +kernel⟩, List.mem_of_getElem? (i := 87) (by decide +kernel), List.mem_of_getElem? (i := 454) (by decide +kernel), List.mem_of_getElem? (i := 455) (by decide +kernel)⟩
theorem lw_p11 : lw_okq (⟨"SelfRowsModel", "isRow", "(I)Z"⟩, 20) := ⟨⟨by decide +kernel, by decide +kernel⟩, List.mem_of_getElem? (i := 489) (by decide +kernel), List.mem_of_getElem? (i := 579) (by decide +kernel), List.mem_of_getElem? (i := 580) (by decide +kernel)⟩
theorem lw_p12 : lw_okq (⟨"SelfRowsModel", "make", "(II)V"⟩, 20) := ⟨⟨by decide +kernel, by decide +kernel⟩, List.mem_of_getElem? (i := 489) (by decide +kernel), List.mem_of_getElem? (i := 587) (by decide +kernel), List.mem_of_getElem? (i := 588) (by decide +kernel)⟩
theorem lw_p13 : lw_okq (⟨"SelfRowsModel", "number", "(II)I"⟩, 20) := ⟨⟨by decide +kernel, by decide +kernel⟩, List.mem_of_getElem? (i := 489) (by decide +kernel), List.mem_of_getElem? (i := 591) (by decide +kernel), List.mem_of_getElem? (i := 592) (by decide +kernel)⟩
theorem lw_p14 : lw_okq (⟨"SelfRowsModel", "letterOf", "(II)I"⟩, 20) := ⟨⟨by decide +kernel, by decide +kernel⟩, List.mem_of_getElem? (i := 489) (by decide +kernel), List.mem_of_getElem? (i := 595) (by decide +kernel), List.mem_of_getElem? (i := 596) (by decide +kernel)⟩
theorem lw_p15 : lw_okq (⟨"SelfRowsModel", "put", "(III)V"⟩, 20) := ⟨⟨by decide +kernel, by decide +kernel⟩, List.mem_of_getElem? (i := 489) (by decide +kernel), List.mem_of_getElem? (i := 600) (by decide +kernel), List.mem_of_getElem? (i := 601) (by decide +kernel)⟩
def lw_privs_1 : List (MethodName × Nat) := [(⟨"SelfRows$Ring", "ripeFrom", "(I)I"⟩, 4), (⟨"SelfRows$Ring", "waits", "(I)Z"⟩, 4), (⟨"SelfRows$Ring", "grow", "(II)V"⟩, 4), (⟨"SelfRows$Ring", "lettersOf", "(I)LSelfRows$Alphabet;"⟩, 4), (⟨"SelfRows$Ring", "lengthTold", "(II)I"⟩, 4), (⟨"SelfRows$Row", "keepCounts", "()V"⟩, 4), (⟨"SelfRows$Row", "keptBefore", "(II)I"⟩, 4), (⟨"SelfRows$Word", "isEndOfRun", "(I)Z"⟩, 2), (⟨"SelfRows$Word", "change", "(II)V"⟩, 2), (⟨"SelfRows$Word", "hasTwice", "(I)Z"⟩, 2), (⟨"SelfRows$Stretches", "takesSeat", "(J)Z"⟩, 1), (⟨"SelfRowsModel", "isRow", "(I)Z"⟩, 20), (⟨"SelfRowsModel", "make", "(II)V"⟩, 20), (⟨"SelfRowsModel", "number", "(II)I"⟩, 20), (⟨"SelfRowsModel", "letterOf", "(II)I"⟩, 20), (⟨"SelfRowsModel", "put", "(III)V"⟩, 20)]
theorem lw_r1 : ∀ q ∈ lw_privs_1, lw_okq q := List.forall_mem_cons.mpr ⟨lw_p0, List.forall_mem_cons.mpr ⟨lw_p1, List.forall_mem_cons.mpr ⟨lw_p2, List.forall_mem_cons.mpr ⟨lw_p3, List.forall_mem_cons.mpr ⟨lw_p4, List.forall_mem_cons.mpr ⟨lw_p5, List.forall_mem_cons.mpr ⟨lw_p6, List.forall_mem_cons.mpr ⟨lw_p7, List.forall_mem_cons.mpr ⟨lw_p8, List.forall_mem_cons.mpr ⟨lw_p9, List.forall_mem_cons.mpr ⟨lw_p10, List.forall_mem_cons.mpr ⟨lw_p11, List.forall_mem_cons.mpr ⟨lw_p12, List.forall_mem_cons.mpr ⟨lw_p13, List.forall_mem_cons.mpr ⟨lw_p14, List.forall_mem_cons.mpr ⟨lw_p15, fun _ h => absurd h List.not_mem_nil⟩⟩⟩⟩⟩⟩⟩⟩⟩⟩⟩⟩⟩⟩⟩⟩
theorem lw_p16 : lw_okq (⟨"SelfRowsModel", "load", "()V"⟩, 20) := ⟨⟨by decide +kernel, by decide +kernel⟩, List.mem_of_getElem? (i := 489) (by decide +kernel), List.mem_of_getElem? (i := 645) (by decide +kernel), List.mem_of_getElem? (i := 646) (by decide +kernel)⟩
theorem lw_p17 : lw_okq (⟨"SelfRowsModel", "measure", "()I"⟩, 20) := ⟨⟨by decide +kernel, by decide +kernel⟩, List.mem_of_getElem? (i := 489) (by decide +kernel), List.mem_of_getElem? (i := 649) (by decide +kernel), List.mem_of_getElem? (i := 650) (by decide +kernel)⟩
theorem lw_p18 : lw_okq (⟨"SelfRowsModel", "cut", "(I)V"⟩, 20) := ⟨⟨by decide +kernel, by decide +kernel⟩, List.mem_of_getElem? (i := 489) (by decide +kernel), List.mem_of_getElem? (i := 657) (by decide +kernel), List.mem_of_getElem? (i := 658) (by decide +kernel)⟩
theorem lw_p19 : lw_okq (⟨"SelfRowsModel", "keep", "()V"⟩, 20) := ⟨⟨by decide +kernel, by decide +kernel⟩, List.mem_of_getElem? (i := 489) (by decide +kernel), List.mem_of_getElem? (i := 661) (by decide +kernel), List.mem_of_getElem? (i := 662) (by decide +kernel)⟩
theorem lw_p20 : lw_okq (⟨"SelfRowsModel", "depthOf", "(I)I"⟩, 20) := ⟨⟨by decide +kernel, by decide +kernel⟩, List.mem_of_getElem? (i := 489) (by decide +kernel), List.mem_of_getElem? (i := 681) (by decide +kernel), List.mem_of_getElem? (i := 682) (by decide +kernel)⟩
def lw_privs_2 : List (MethodName × Nat) := [(⟨"SelfRowsModel", "load", "()V"⟩, 20), (⟨"SelfRowsModel", "measure", "()I"⟩, 20), (⟨"SelfRowsModel", "cut", "(I)V"⟩, 20), (⟨"SelfRowsModel", "keep", "()V"⟩, 20), (⟨"SelfRowsModel", "depthOf", "(I)I"⟩, 20)]
theorem lw_r2 : ∀ q ∈ lw_privs_2, lw_okq q := List.forall_mem_cons.mpr ⟨lw_p16, List.forall_mem_cons.mpr ⟨lw_p17, List.forall_mem_cons.mpr ⟨lw_p18, List.forall_mem_cons.mpr ⟨lw_p19, List.forall_mem_cons.mpr ⟨lw_p20, fun _ h => absurd h List.not_mem_nil⟩⟩⟩⟩⟩
def lw_privs : List (MethodName × Nat) := lw_privs_1 ++ (lw_privs_2)
def lw_tbl : List Cond := k2_sels lw_privs ++ tables_1
theorem lw_privs_ok : ∀ q ∈ lw_privs, lw_okq q := by
  show ∀ q ∈ lw_privs_1 ++ (lw_privs_2), lw_okq q
  exact List.forall_mem_append.mpr ⟨lw_r1, lw_r2⟩
-- ===== end of PART A; then your names; then what follows =====
end
section
/-! ===== BEGIN words of one list among another's, by their places ===== -/
theorem goodIn_r {big : List Cond} (ws : List Cond) (ps : List Nat) (hp : ws = ps.filterMap (fun i => big[i]?)) (h : ws.all goodWord = true) : GoodIn big ws := by
  intro w hw
  have h1 := List.all_eq_true.mp h w hw
  rw [hp] at hw
  obtain ⟨i, -, hi⟩ := List.mem_filterMap.mp hw
  have hm : w ∈ big := by first | exact List.mem_of_getElem? hi | exact List.getElem?_mem hi
  exact ⟨hm, good_of_word h1⟩
theorem goodIn_app {big a b : List Cond} (ha : GoodIn big a) (hb : GoodIn big b) : GoodIn big (a ++ b) := fun w h => (List.mem_append.mp h).elim (ha w) (hb w)
theorem goodIn_ca {big a b : List Cond} {c : Cond} (ha : GoodIn big (c :: a)) (hb : GoodIn big b) : GoodIn big (c :: (a ++ b)) := fun w h => (List.mem_cons.mp h).elim (fun e => ha w (List.mem_cons.mpr (Or.inl e))) (fun h => (List.mem_append.mp h).elim (fun h => ha w (List.mem_cons.mpr (Or.inr h))) (hb w))
theorem goodIn_sub {big ws : List Cond} (hm : ∀ w ∈ ws, w ∈ big) (h : ws.all goodWord = true) : GoodIn big ws := fun w hw => ⟨hm w hw, good_of_word (List.all_eq_true.mp h w hw)⟩
/-! ===== END ===== -/

/-! ===== BEGIN printed: names, fields, word lists, decode rows ===== -/
def RX0 : String := "SelfRows$Alphabet"
def TX0 : u_T := fun k => match k with
  | 0 => ("SelfRows$Alphabet", "letters", "[I", true)
  | _ => ("SelfRows$Alphabet", "size", "I", false)
def tyX0 : Nat → FieldType := fun k => match k with
  | 0 => .array .int
  | _ => .int
abbrev wsX00 : List Cond := u_ws RX0 TX0 2
theorem nmX0 : ∀ a, a < 2 → ∀ b, b < 2 → a ≠ b → (TX0 a).2.1 ≠ (TX0 b).2.1 := by decide +kernel
theorem tyX0_ok : ∀ k, k < 2 → parseFieldDescriptor (TX0 k).2.2.1 = some (tyX0 k) := by decide +kernel
abbrev cX0_init : ByteArray := prog_2_method_1_code
def yX0_init : MethodName := ⟨RX0, "<init>", "()V"⟩
abbrev cX0_size : ByteArray := prog_2_method_2_code
def yX0_size : MethodName := ⟨RX0, "size", "()I"⟩
abbrev cX0_letterOfRun : ByteArray := prog_2_method_3_code
def yX0_letterOfRun : MethodName := ⟨RX0, "letterOfRun", "(I)I"⟩
abbrev cX0_letterBehind : ByteArray := prog_2_method_4_code
def yX0_letterBehind : MethodName := ⟨RX0, "letterBehind", "(I)I"⟩
abbrev cX0_change : ByteArray := prog_2_method_5_code
def yX0_change : MethodName := ⟨RX0, "change", "(IIIII)Z"⟩
abbrev cX0_mixInto : ByteArray := prog_2_method_6_code
def yX0_mixInto : MethodName := ⟨RX0, "mixInto", "(J)J"⟩
def RX1 : String := "SelfRows$Ring"
def TX1 : u_T := fun k => match k with
  | 0 => ("SelfRows$Ring", "alphabets", "[LSelfRows$Alphabet;", true)
  | 1 => ("SelfRows$Ring", "rows", "[LSelfRows$Row;", true)
  | 2 => ("SelfRows$Ring", "alphabetOfRow", "[I", true)
  | _ => ("SelfRows$Ring", "size", "I", false)
def tyX1 : Nat → FieldType := fun k => match k with
  | 0 => .array (.object "SelfRows$Alphabet")
  | 1 => .array (.object "SelfRows$Row")
  | 2 => .array .int
  | _ => .int
abbrev wsX10 : List Cond := u_ws RX1 TX1 4
theorem nmX1 : ∀ a, a < 4 → ∀ b, b < 4 → a ≠ b → (TX1 a).2.1 ≠ (TX1 b).2.1 := by decide +kernel
theorem tyX1_ok : ∀ k, k < 4 → parseFieldDescriptor (TX1 k).2.2.1 = some (tyX1 k) := by decide +kernel
abbrev cX1_init : ByteArray := prog_3_method_1_code
def yX1_init : MethodName := ⟨RX1, "<init>", "()V"⟩
abbrev cX1_size : ByteArray := prog_3_method_2_code
def yX1_size : MethodName := ⟨RX1, "size", "()I"⟩
abbrev cX1_hasAlphabet : ByteArray := prog_3_method_3_code
def yX1_hasAlphabet : MethodName := ⟨RX1, "hasAlphabet", "(I)Z"⟩
abbrev cX1_hasRow : ByteArray := prog_3_method_4_code
def yX1_hasRow : MethodName := ⟨RX1, "hasRow", "(I)Z"⟩
abbrev cX1_alphabetNamed : ByteArray := prog_3_method_5_code
def yX1_alphabetNamed : MethodName := ⟨RX1, "alphabetNamed", "(J)LSelfRows$Alphabet;"⟩
abbrev cX1_join : ByteArray := prog_3_method_6_code
def yX1_join : MethodName := ⟨RX1, "join", "(IIII)V"⟩
abbrev cX1_forgetNumbers : ByteArray := prog_3_method_7_code
def yX1_forgetNumbers : MethodName := ⟨RX1, "forgetNumbers", "()V"⟩
abbrev cX1_nextOf : ByteArray := prog_3_method_8_code
def yX1_nextOf : MethodName := ⟨RX1, "nextOf", "(I)I"⟩
abbrev cX1_rowOf : ByteArray := prog_3_method_9_code
def yX1_rowOf : MethodName := ⟨RX1, "rowOf", "(II)LSelfRows$Row;"⟩
abbrev cX1_ripeFrom : ByteArray := prog_3_method_10_code
def yX1_ripeFrom : MethodName := ⟨RX1, "ripeFrom", "(I)I"⟩
abbrev cX1_waits : ByteArray := prog_3_method_11_code
def yX1_waits : MethodName := ⟨RX1, "waits", "(I)Z"⟩
abbrev cX1_grow : ByteArray := prog_3_method_12_code
def yX1_grow : MethodName := ⟨RX1, "grow", "(II)V"⟩
abbrev cX1_lengthTold : ByteArray := prog_3_method_13_code
def yX1_lengthTold : MethodName := ⟨RX1, "lengthTold", "(II)I"⟩
abbrev cX1_lettersOf : ByteArray := prog_3_method_14_code
def yX1_lettersOf : MethodName := ⟨RX1, "lettersOf", "(I)LSelfRows$Alphabet;"⟩
abbrev cX1_mixInto : ByteArray := prog_3_method_15_code
def yX1_mixInto : MethodName := ⟨RX1, "mixInto", "(J)J"⟩
def RX2 : String := "SelfRows$Row"
def TX2 : u_T := fun k => match k with
  | 0 => ("SelfRows$Row", "numbers", "[B", true)
  | 1 => ("SelfRows$Row", "kept", "[I", true)
  | 2 => ("SelfRows$Row", "counts", "[I", true)
  | _ => ("SelfRows$Row", "made", "I", false)
def tyX2 : Nat → FieldType := fun k => match k with
  | 0 => .array .byte
  | 1 => .array .int
  | 2 => .array .int
  | _ => .int
abbrev wsX20 : List Cond := u_ws RX2 TX2 4
theorem nmX2 : ∀ a, a < 4 → ∀ b, b < 4 → a ≠ b → (TX2 a).2.1 ≠ (TX2 b).2.1 := by decide +kernel
theorem tyX2_ok : ∀ k, k < 4 → parseFieldDescriptor (TX2 k).2.2.1 = some (tyX2 k) := by decide +kernel
abbrev cX2_init : ByteArray := prog_4_method_1_code
def yX2_init : MethodName := ⟨RX2, "<init>", "()V"⟩
abbrev cX2_made : ByteArray := prog_4_method_2_code
def yX2_made : MethodName := ⟨RX2, "made", "()I"⟩
abbrev cX2_runsMade : ByteArray := prog_4_method_3_code
def yX2_runsMade : MethodName := ⟨RX2, "runsMade", "()I"⟩
abbrev cX2_number : ByteArray := prog_4_method_4_code
def yX2_number : MethodName := ⟨RX2, "number", "(I)I"⟩
abbrev cX2_forget : ByteArray := prog_4_method_5_code
def yX2_forget : MethodName := ⟨RX2, "forget", "()V"⟩
abbrev cX2_putRun : ByteArray := prog_4_method_6_code
def yX2_putRun : MethodName := ⟨RX2, "putRun", "(II)V"⟩
abbrev cX2_putRunsToldBy : ByteArray := prog_4_method_7_code
def yX2_putRunsToldBy : MethodName := ⟨RX2, "putRunsToldBy", "(LSelfRows$Row;LSelfRows$Alphabet;I)V"⟩
abbrev cX2_keepCounts : ByteArray := prog_4_method_8_code
def yX2_keepCounts : MethodName := ⟨RX2, "keepCounts", "()V"⟩
abbrev cX2_keptBefore : ByteArray := prog_4_method_9_code
def yX2_keptBefore : MethodName := ⟨RX2, "keptBefore", "(II)I"⟩
abbrev cX2_lettersWithin : ByteArray := prog_4_method_10_code
def yX2_lettersWithin : MethodName := ⟨RX2, "lettersWithin", "(II)I"⟩
abbrev cX2_sumWithin : ByteArray := prog_4_method_11_code
def yX2_sumWithin : MethodName := ⟨RX2, "sumWithin", "(I)I"⟩
abbrev cX2_runsWithin : ByteArray := prog_4_method_12_code
def yX2_runsWithin : MethodName := ⟨RX2, "runsWithin", "(I)I"⟩
abbrev cX2_greatestOff : ByteArray := prog_4_method_13_code
def yX2_greatestOff : MethodName := ⟨RX2, "greatestOff", "(III)I"⟩
abbrev cX2_holds : ByteArray := prog_4_method_14_code
def yX2_holds : MethodName := ⟨RX2, "holds", "(LSelfRows$Word;I)Z"⟩
def RX3 : String := "SelfRows$Stretches"
def TX3 : u_T := fun k => match k with
  | _ => ("SelfRows$Stretches", "seats", "[J", true)
def tyX3 : Nat → FieldType := fun k => match k with
  | _ => .array .long
abbrev wsX30 : List Cond := u_ws RX3 TX3 1
theorem nmX3 : ∀ a, a < 1 → ∀ b, b < 1 → a ≠ b → (TX3 a).2.1 ≠ (TX3 b).2.1 := by decide +kernel
theorem tyX3_ok : ∀ k, k < 1 → parseFieldDescriptor (TX3 k).2.2.1 = some (tyX3 k) := by decide +kernel
abbrev cX3_init : ByteArray := prog_5_method_1_code
def yX3_init : MethodName := ⟨RX3, "<init>", "()V"⟩
abbrev cX3_unlikeWithin : ByteArray := prog_5_method_2_code
def yX3_unlikeWithin : MethodName := ⟨RX3, "unlikeWithin", "(LSelfRows$Row;II)I"⟩
abbrev cX3_takesSeat : ByteArray := prog_5_method_3_code
def yX3_takesSeat : MethodName := ⟨RX3, "takesSeat", "(J)Z"⟩
def RX4 : String := "SelfRows$Word"
def TX4 : u_T := fun k => match k with
  | 0 => ("SelfRows$Word", "letters", "[I", true)
  | _ => ("SelfRows$Word", "size", "I", false)
def tyX4 : Nat → FieldType := fun k => match k with
  | 0 => .array .int
  | _ => .int
abbrev wsX40 : List Cond := u_ws RX4 TX4 2
theorem nmX4 : ∀ a, a < 2 → ∀ b, b < 2 → a ≠ b → (TX4 a).2.1 ≠ (TX4 b).2.1 := by decide +kernel
theorem tyX4_ok : ∀ k, k < 2 → parseFieldDescriptor (TX4 k).2.2.1 = some (tyX4 k) := by decide +kernel
abbrev cX4_init : ByteArray := prog_6_method_1_code
def yX4_init : MethodName := ⟨RX4, "<init>", "()V"⟩
abbrev cX4_size : ByteArray := prog_6_method_2_code
def yX4_size : MethodName := ⟨RX4, "size", "()I"⟩
abbrev cX4_letterAt : ByteArray := prog_6_method_3_code
def yX4_letterAt : MethodName := ⟨RX4, "letterAt", "(I)I"⟩
abbrev cX4_empty : ByteArray := prog_6_method_4_code
def yX4_empty : MethodName := ⟨RX4, "empty", "()V"⟩
abbrev cX4_put : ByteArray := prog_6_method_5_code
def yX4_put : MethodName := ⟨RX4, "put", "(I)Z"⟩
abbrev cX4_putTimes : ByteArray := prog_6_method_6_code
def yX4_putTimes : MethodName := ⟨RX4, "putTimes", "(II)V"⟩
abbrev cX4_drop : ByteArray := prog_6_method_7_code
def yX4_drop : MethodName := ⟨RX4, "drop", "()V"⟩
abbrev cX4_become : ByteArray := prog_6_method_8_code
def yX4_become : MethodName := ⟨RX4, "become", "(LSelfRows$Word;)V"⟩
abbrev cX4_total : ByteArray := prog_6_method_9_code
def yX4_total : MethodName := ⟨RX4, "total", "()I"⟩
abbrev cX4_greatestLetter : ByteArray := prog_6_method_10_code
def yX4_greatestLetter : MethodName := ⟨RX4, "greatestLetter", "()I"⟩
abbrev cX4_runsInIt : ByteArray := prog_6_method_11_code
def yX4_runsInIt : MethodName := ⟨RX4, "runsInIt", "()I"⟩
abbrev cX4_longestRun : ByteArray := prog_6_method_12_code
def yX4_longestRun : MethodName := ⟨RX4, "longestRun", "()I"⟩
abbrev cX4_isEndOfRun : ByteArray := prog_6_method_13_code
def yX4_isEndOfRun : MethodName := ⟨RX4, "isEndOfRun", "(I)Z"⟩
abbrev cX4_becomeShorter : ByteArray := prog_6_method_14_code
def yX4_becomeShorter : MethodName := ⟨RX4, "becomeShorter", "(I)V"⟩
abbrev cX4_change : ByteArray := prog_6_method_15_code
def yX4_change : MethodName := ⟨RX4, "change", "(II)V"⟩
abbrev cX4_turnRound : ByteArray := prog_6_method_16_code
def yX4_turnRound : MethodName := ⟨RX4, "turnRound", "()V"⟩
abbrev cX4_replaceBy : ByteArray := prog_6_method_17_code
def yX4_replaceBy : MethodName := ⟨RX4, "replaceBy", "(LSelfRows$Alphabet;)I"⟩
abbrev cX4_isSameMirrored : ByteArray := prog_6_method_18_code
def yX4_isSameMirrored : MethodName := ⟨RX4, "isSameMirrored", "()Z"⟩
abbrev cX4_leastTwice : ByteArray := prog_6_method_19_code
def yX4_leastTwice : MethodName := ⟨RX4, "leastTwice", "()I"⟩
abbrev cX4_hasTwice : ByteArray := prog_6_method_20_code
def yX4_hasTwice : MethodName := ⟨RX4, "hasTwice", "(I)Z"⟩
abbrev cX4_mixInto : ByteArray := prog_6_method_21_code
def yX4_mixInto : MethodName := ⟨RX4, "mixInto", "(J)J"⟩
def RX5 : String := "SelfRows"
def TX5 : u_T := fun k => match k with
  | 0 => ("SelfRows", "circle", "LSelfRows$Ring;", true)
  | 1 => ("SelfRows", "word", "LSelfRows$Word;", true)
  | 2 => ("SelfRows", "spare", "LSelfRows$Word;", true)
  | 3 => ("SelfRows", "trial", "LSelfRows$Word;", true)
  | 4 => ("SelfRows", "stretches", "LSelfRows$Stretches;", true)
  | 5 => ("SelfRows", "manyDone", "I", false)
  | _ => ("SelfRows", "unlikeDone", "I", false)
def tyX5 : Nat → FieldType := fun k => match k with
  | 0 => .object "SelfRows$Ring"
  | 1 => .object "SelfRows$Word"
  | 2 => .object "SelfRows$Word"
  | 3 => .object "SelfRows$Word"
  | 4 => .object "SelfRows$Stretches"
  | 5 => .int
  | _ => .int
abbrev wsX50 : List Cond := u_ws RX5 TX5 7
theorem nmX5 : ∀ a, a < 7 → ∀ b, b < 7 → a ≠ b → (TX5 a).2.1 ≠ (TX5 b).2.1 := by decide +kernel
theorem tyX5_ok : ∀ k, k < 7 → parseFieldDescriptor (TX5 k).2.2.1 = some (tyX5 k) := by decide +kernel
abbrev cX5_init : ByteArray := prog_1_method_1_code
def yX5_init : MethodName := ⟨RX5, "<init>", "()V"⟩
abbrev cX5_alphabet : ByteArray := prog_1_method_2_code
def yX5_alphabet : MethodName := ⟨RX5, "alphabet", "(IIIIII)I"⟩
abbrev cX5_ring : ByteArray := prog_1_method_3_code
def yX5_ring : MethodName := ⟨RX5, "ring", "(IIII)I"⟩
abbrev cX5_at : ByteArray := prog_1_method_4_code
def yX5_at : MethodName := ⟨RX5, "at", "(II)I"⟩
abbrev cX5_count : ByteArray := prog_1_method_5_code
def yX5_count : MethodName := ⟨RX5, "count", "(III)I"⟩
abbrev cX5_sum : ByteArray := prog_1_method_6_code
def yX5_sum : MethodName := ⟨RX5, "sum", "(II)I"⟩
abbrev cX5_run : ByteArray := prog_1_method_7_code
def yX5_run : MethodName := ⟨RX5, "run", "(II)I"⟩
abbrev cX5_begins : ByteArray := prog_1_method_8_code
def yX5_begins : MethodName := ⟨RX5, "begins", "(II)I"⟩
abbrev cX5_off : ByteArray := prog_1_method_9_code
def yX5_off : MethodName := ⟨RX5, "off", "(IIII)I"⟩
abbrev cX5_add : ByteArray := prog_1_method_10_code
def yX5_add : MethodName := ⟨RX5, "add", "(I)I"⟩
abbrev cX5_take : ByteArray := prog_1_method_11_code
def yX5_take : MethodName := ⟨RX5, "take", "(III)I"⟩
abbrev cX5_clear : ByteArray := prog_1_method_12_code
def yX5_clear : MethodName := ⟨RX5, "clear", "()I"⟩
abbrev cX5_letter : ByteArray := prog_1_method_13_code
def yX5_letter : MethodName := ⟨RX5, "letter", "(I)I"⟩
abbrev cX5_runs : ByteArray := prog_1_method_14_code
def yX5_runs : MethodName := ⟨RX5, "runs", "()I"⟩
abbrev cX5_shorten : ByteArray := prog_1_method_15_code
def yX5_shorten : MethodName := ⟨RX5, "shorten", "(I)I"⟩
abbrev cX5_lengthen : ByteArray := prog_1_method_16_code
def yX5_lengthen : MethodName := ⟨RX5, "lengthen", "(II)I"⟩
abbrev cX5_mirror : ByteArray := prog_1_method_17_code
def yX5_mirror : MethodName := ⟨RX5, "mirror", "()I"⟩
abbrev cX5_turn : ByteArray := prog_1_method_18_code
def yX5_turn : MethodName := ⟨RX5, "turn", "(I)I"⟩
abbrev cX5_depth : ByteArray := prog_1_method_19_code
def yX5_depth : MethodName := ⟨RX5, "depth", "(I)I"⟩
abbrev cX5_many : ByteArray := prog_1_method_20_code
def yX5_many : MethodName := ⟨RX5, "many", "(II)I"⟩
abbrev cX5_isMirror : ByteArray := prog_1_method_21_code
def yX5_isMirror : MethodName := ⟨RX5, "isMirror", "()I"⟩
abbrev cX5_twice : ByteArray := prog_1_method_22_code
def yX5_twice : MethodName := ⟨RX5, "twice", "()I"⟩
abbrev cX5_find : ByteArray := prog_1_method_23_code
def yX5_find : MethodName := ⟨RX5, "find", "(III)I"⟩
abbrev cX5_unlike : ByteArray := prog_1_method_24_code
def yX5_unlike : MethodName := ⟨RX5, "unlike", "(III)I"⟩
abbrev cX5_told : ByteArray := prog_1_method_25_code
def yX5_told : MethodName := ⟨RX5, "told", "(I)I"⟩
abbrev cX5_digest : ByteArray := prog_1_method_26_code
def yX5_digest : MethodName := ⟨RX5, "digest", "()J"⟩
abbrev cX5_isOutside : ByteArray := prog_1_method_27_code
def yX5_isOutside : MethodName := ⟨RX5, "isOutside", "(II)Z"⟩
abbrev cX5_isLetter : ByteArray := prog_1_method_28_code
def yX5_isLetter : MethodName := ⟨RX5, "isLetter", "(I)Z"⟩
abbrev cX5_manyMost : ByteArray := prog_1_method_29_code
def yX5_manyMost : MethodName := ⟨RX5, "manyMost", "(I)I"⟩
abbrev cX5_depthSpent : ByteArray := prog_1_method_30_code
def yX5_depthSpent : MethodName := ⟨RX5, "depthSpent", "(LSelfRows$Word;I)I"⟩
abbrev cX5_standing : ByteArray := prog_1_method_31_code
def yX5_standing : MethodName := ⟨RX5, "standing", "(LSelfRows$Word;LSelfRows$Word;IIII)I"⟩
def RX6 : String := "SelfRowsModel"
def TX6 : u_T := fun k => match k with
  | 0 => ("SelfRowsModel", "letters", "[I", true)
  | 1 => ("SelfRowsModel", "sizes", "[I", true)
  | 2 => ("SelfRowsModel", "rowMany", "I", false)
  | 3 => ("SelfRowsModel", "alphabetOf", "[I", true)
  | 4 => ("SelfRowsModel", "stale", "Z", false)
  | 5 => ("SelfRowsModel", "first", "[B", true)
  | 6 => ("SelfRowsModel", "second", "[B", true)
  | 7 => ("SelfRowsModel", "third", "[B", true)
  | 8 => ("SelfRowsModel", "made", "[I", true)
  | 9 => ("SelfRowsModel", "runMade", "I", false)
  | 10 => ("SelfRowsModel", "word", "[I", true)
  | 11 => ("SelfRowsModel", "size", "I", false)
  | 12 => ("SelfRowsModel", "now", "[I", true)
  | 13 => ("SelfRowsModel", "nowMany", "I", false)
  | 14 => ("SelfRowsModel", "then", "[I", true)
  | 15 => ("SelfRowsModel", "thenMany", "I", false)
  | 16 => ("SelfRowsModel", "manyDone", "I", false)
  | 17 => ("SelfRowsModel", "trial", "[I", true)
  | 18 => ("SelfRowsModel", "unlikeDone", "I", false)
  | _ => ("SelfRowsModel", "keys", "[J", true)
def tyX6 : Nat → FieldType := fun k => match k with
  | 0 => .array .int
  | 1 => .array .int
  | 2 => .int
  | 3 => .array .int
  | 4 => .boolean
  | 5 => .array .byte
  | 6 => .array .byte
  | 7 => .array .byte
  | 8 => .array .int
  | 9 => .int
  | 10 => .array .int
  | 11 => .int
  | 12 => .array .int
  | 13 => .int
  | 14 => .array .int
  | 15 => .int
  | 16 => .int
  | 17 => .array .int
  | 18 => .int
  | _ => .array .long
abbrev wsX60 : List Cond := u_ws RX6 TX6 20
theorem nmX6 : ∀ a, a < 20 → ∀ b, b < 20 → a ≠ b → (TX6 a).2.1 ≠ (TX6 b).2.1 := by decide +kernel
theorem tyX6_ok : ∀ k, k < 20 → parseFieldDescriptor (TX6 k).2.2.1 = some (tyX6 k) := by decide +kernel
abbrev cX6_init : ByteArray := prog_8_method_1_code
def yX6_init : MethodName := ⟨RX6, "<init>", "()V"⟩
abbrev cX6_in : ByteArray := prog_8_method_2_code
def yX6_in : MethodName := ⟨RX6, "in", "(JJJ)Z"⟩
abbrev cX6_isAlphabet : ByteArray := prog_8_method_3_code
def yX6_isAlphabet : MethodName := ⟨RX6, "isAlphabet", "(I)Z"⟩
abbrev cX6_alphabet : ByteArray := prog_8_method_4_code
def yX6_alphabet : MethodName := ⟨RX6, "alphabet", "(IIIIII)I"⟩
abbrev cX6_ring : ByteArray := prog_8_method_5_code
def yX6_ring : MethodName := ⟨RX6, "ring", "(IIII)I"⟩
abbrev cX6_number : ByteArray := prog_8_method_6_code
def yX6_number : MethodName := ⟨RX6, "number", "(II)I"⟩
abbrev cX6_put : ByteArray := prog_8_method_7_code
def yX6_put : MethodName := ⟨RX6, "put", "(III)V"⟩
abbrev cX6_letterOf : ByteArray := prog_8_method_8_code
def yX6_letterOf : MethodName := ⟨RX6, "letterOf", "(II)I"⟩
abbrev cX6_make : ByteArray := prog_8_method_9_code
def yX6_make : MethodName := ⟨RX6, "make", "(II)V"⟩
abbrev cX6_isRow : ByteArray := prog_8_method_10_code
def yX6_isRow : MethodName := ⟨RX6, "isRow", "(I)Z"⟩
abbrev cX6_isPlace : ByteArray := prog_8_method_11_code
def yX6_isPlace : MethodName := ⟨RX6, "isPlace", "(I)Z"⟩
abbrev cX6_at : ByteArray := prog_8_method_12_code
def yX6_at : MethodName := ⟨RX6, "at", "(II)I"⟩
abbrev cX6_count : ByteArray := prog_8_method_13_code
def yX6_count : MethodName := ⟨RX6, "count", "(III)I"⟩
abbrev cX6_sum : ByteArray := prog_8_method_14_code
def yX6_sum : MethodName := ⟨RX6, "sum", "(II)I"⟩
abbrev cX6_run : ByteArray := prog_8_method_15_code
def yX6_run : MethodName := ⟨RX6, "run", "(II)I"⟩
abbrev cX6_begins : ByteArray := prog_8_method_16_code
def yX6_begins : MethodName := ⟨RX6, "begins", "(II)I"⟩
abbrev cX6_off : ByteArray := prog_8_method_17_code
def yX6_off : MethodName := ⟨RX6, "off", "(IIII)I"⟩
abbrev cX6_add : ByteArray := prog_8_method_18_code
def yX6_add : MethodName := ⟨RX6, "add", "(I)I"⟩
abbrev cX6_take : ByteArray := prog_8_method_19_code
def yX6_take : MethodName := ⟨RX6, "take", "(III)I"⟩
abbrev cX6_clear : ByteArray := prog_8_method_20_code
def yX6_clear : MethodName := ⟨RX6, "clear", "()I"⟩
abbrev cX6_letter : ByteArray := prog_8_method_21_code
def yX6_letter : MethodName := ⟨RX6, "letter", "(I)I"⟩
abbrev cX6_load : ByteArray := prog_8_method_22_code
def yX6_load : MethodName := ⟨RX6, "load", "()V"⟩
abbrev cX6_measure : ByteArray := prog_8_method_23_code
def yX6_measure : MethodName := ⟨RX6, "measure", "()I"⟩
abbrev cX6_cut : ByteArray := prog_8_method_24_code
def yX6_cut : MethodName := ⟨RX6, "cut", "(I)V"⟩
abbrev cX6_keep : ByteArray := prog_8_method_25_code
def yX6_keep : MethodName := ⟨RX6, "keep", "()V"⟩
abbrev cX6_runs : ByteArray := prog_8_method_26_code
def yX6_runs : MethodName := ⟨RX6, "runs", "()I"⟩
abbrev cX6_shorten : ByteArray := prog_8_method_27_code
def yX6_shorten : MethodName := ⟨RX6, "shorten", "(I)I"⟩
abbrev cX6_lengthen : ByteArray := prog_8_method_28_code
def yX6_lengthen : MethodName := ⟨RX6, "lengthen", "(II)I"⟩
abbrev cX6_mirror : ByteArray := prog_8_method_29_code
def yX6_mirror : MethodName := ⟨RX6, "mirror", "()I"⟩
abbrev cX6_turn : ByteArray := prog_8_method_30_code
def yX6_turn : MethodName := ⟨RX6, "turn", "(I)I"⟩
abbrev cX6_depthOf : ByteArray := prog_8_method_31_code
def yX6_depthOf : MethodName := ⟨RX6, "depthOf", "(I)I"⟩
abbrev cX6_depth : ByteArray := prog_8_method_32_code
def yX6_depth : MethodName := ⟨RX6, "depth", "(I)I"⟩
abbrev cX6_many : ByteArray := prog_8_method_33_code
def yX6_many : MethodName := ⟨RX6, "many", "(II)I"⟩
abbrev cX6_isMirror : ByteArray := prog_8_method_34_code
def yX6_isMirror : MethodName := ⟨RX6, "isMirror", "()I"⟩
abbrev cX6_twice : ByteArray := prog_8_method_35_code
def yX6_twice : MethodName := ⟨RX6, "twice", "()I"⟩
abbrev cX6_find : ByteArray := prog_8_method_36_code
def yX6_find : MethodName := ⟨RX6, "find", "(III)I"⟩
abbrev cX6_unlike : ByteArray := prog_8_method_37_code
def yX6_unlike : MethodName := ⟨RX6, "unlike", "(III)I"⟩
abbrev cX6_told : ByteArray := prog_8_method_38_code
def yX6_told : MethodName := ⟨RX6, "told", "(I)I"⟩
abbrev cX6_digest : ByteArray := prog_8_method_39_code
def yX6_digest : MethodName := ⟨RX6, "digest", "()J"⟩
def RJ9 : String := "java/lang/Math"
def TJ9 : u_T := fun k => match k with
  | _ => ("", "", "", false)
def tyJ9 : Nat → FieldType := fun k => match k with
  | _ => .int
abbrev wsJ90 : List Cond := u_ws RJ9 TJ9 0
theorem nmJ9 : ∀ a, a < 0 → ∀ b, b < 0 → a ≠ b → (TJ9 a).2.1 ≠ (TJ9 b).2.1 := by decide +kernel
theorem tyJ9_ok : ∀ k, k < 0 → parseFieldDescriptor (TJ9 k).2.2.1 = some (tyJ9 k) := by decide +kernel
abbrev cJ9_abs_0f7a4 : ByteArray := prog_9_method_59_code
def yJ9_abs_0f7a4 : MethodName := ⟨RJ9, "abs", "(I)I"⟩
abbrev cJ9_max_7cf53 : ByteArray := prog_9_method_65_code
def yJ9_max_7cf53 : MethodName := ⟨RJ9, "max", "(II)I"⟩
def RL : String := "SelfRowsLaw"
abbrev cL_law : ByteArray := code
def yL_law : MethodName := ⟨RL, "law", "([I)Z"⟩
def wsX0_init : List Cond := .code yX0_init cX0_init 1 none :: ([.methodLink RX0 3 objectInit, .instanceMethod objectInit, .code objectInit ⟨#[0xb1]⟩ 1 none, .arrayClass .int, .fieldLink RX0 11 "SelfRows$Alphabet" "letters" "[I", .fieldLink RX0 15 "SelfRows$Alphabet" "size" "I"] ++ wsX00)
def wsX0_size : List Cond := .code yX0_size cX0_size 1 (some .int) :: ([.fieldLink RX0 15 "SelfRows$Alphabet" "size" "I"] ++ wsX00)
def wsX0_letterOfRun : List Cond := .code yX0_letterOfRun cX0_letterOfRun 3 (some .int) :: ([.fieldLink RX0 15 "SelfRows$Alphabet" "size" "I", .fieldLink RX0 11 "SelfRows$Alphabet" "letters" "[I"] ++ wsX00)
def wsX0_letterBehind : List Cond := .code yX0_letterBehind cX0_letterBehind 3 (some .int) :: ([.fieldLink RX0 15 "SelfRows$Alphabet" "size" "I", .methodLink RX0 19 yX0_letterOfRun, .instanceMethod yX0_letterOfRun, .selects RX0 yX0_letterOfRun yX0_letterOfRun, .initialized RX0, .code yX0_letterOfRun cX0_letterOfRun 3 (some .int), .fieldLink RX0 11 "SelfRows$Alphabet" "letters" "[I"] ++ wsX00)
def wsX5_isLetter : List Cond := .code yX5_isLetter cX5_isLetter 1 (some .boolean) :: ([])
def wsX0_change : List Cond := .code yX0_change cX0_change 7 (some .boolean) :: ([.fieldLink RX0 11 "SelfRows$Alphabet" "letters" "[I", .fieldLink RX0 15 "SelfRows$Alphabet" "size" "I", .static yX5_isLetter, .initialized RX5, .code yX5_isLetter cX5_isLetter 1 (some .boolean)] ++ wsX00)
def wsX0_mixInto : List Cond := .code yX0_mixInto cX0_mixInto 6 (some .long) :: ([.fieldLink RX0 15 "SelfRows$Alphabet" "size" "I", .constantLong RX0 27 (31), .methodLink RX0 19 yX0_letterOfRun, .instanceMethod yX0_letterOfRun, .selects RX0 yX0_letterOfRun yX0_letterOfRun, .initialized RX0, .code yX0_letterOfRun cX0_letterOfRun 3 (some .int), .fieldLink RX0 11 "SelfRows$Alphabet" "letters" "[I"] ++ wsX00)
def wsX2_init : List Cond := .code yX2_init cX2_init 1 none :: ([.methodLink RX2 3 objectInit, .instanceMethod objectInit, .code objectInit ⟨#[0xb1]⟩ 1 none, .constant RX2 9 (100001), .arrayClass .byte, .fieldLink RX2 10 "SelfRows$Row" "numbers" "[B", .arrayClass .int, .fieldLink RX2 16 "SelfRows$Row" "kept" "[I", .fieldLink RX2 20 "SelfRows$Row" "counts" "[I", .fieldLink RX2 23 "SelfRows$Row" "made" "I"] ++ wsX20)
def wsX1_init_r1 : List Cond := [Cond.methodLink RX1 3 objectInit, Cond.instanceMethod objectInit, Cond.code objectInit ⟨#[0xb1]⟩ 1 none, Cond.classLink RX1 9 RX0, Cond.fieldLink RX1 11 "SelfRows$Ring" "alphabets" "[LSelfRows$Alphabet;", Cond.classLink RX1 17 RX2, Cond.fieldLink RX1 19 "SelfRows$Ring" "rows" "[LSelfRows$Row;", Cond.arrayClass .int, Cond.fieldLink RX1 23 "SelfRows$Ring" "alphabetOfRow" "[I", Cond.fieldLink RX1 27 "SelfRows$Ring" "size" "I", Cond.instantiable RX0 2, Cond.initialized RX0, Cond.instantiable RX2 4, Cond.initialized RX2, Cond.methodLink RX1 31 yX0_init, Cond.instanceMethod yX0_init, Cond.code yX0_init cX0_init 1 none, Cond.methodLink RX0 3 objectInit, Cond.fieldLink RX0 11 "SelfRows$Alphabet" "letters" "[I", Cond.fieldLink RX0 15 "SelfRows$Alphabet" "size" "I", Cond.instanceMethod yX2_init, Cond.code yX2_init cX2_init 1 none, Cond.methodLink RX2 3 objectInit, Cond.constant RX2 9 (100001)]
def wsX1_init_r2 : List Cond := [Cond.arrayClass .byte, Cond.fieldLink RX2 10 "SelfRows$Row" "numbers" "[B", Cond.fieldLink RX2 16 "SelfRows$Row" "kept" "[I", Cond.fieldLink RX2 20 "SelfRows$Row" "counts" "[I", Cond.fieldLink RX2 23 "SelfRows$Row" "made" "I"]
def wsX1_init : List Cond := .code yX1_init cX1_init 2 none :: ((wsX1_init_r1 ++ wsX1_init_r2) ++ wsX10 ++ wsX00 ++ wsX20)
def wsX1_size : List Cond := .code yX1_size cX1_size 1 (some .int) :: ([.fieldLink RX1 27 "SelfRows$Ring" "size" "I"] ++ wsX10)
def wsX1_hasAlphabet : List Cond := .code yX1_hasAlphabet cX1_hasAlphabet 2 (some .boolean) :: ([.fieldLink RX1 11 "SelfRows$Ring" "alphabets" "[LSelfRows$Alphabet;"] ++ wsX10)
def wsX1_hasRow : List Cond := .code yX1_hasRow cX1_hasRow 2 (some .boolean) :: ([.fieldLink RX1 27 "SelfRows$Ring" "size" "I", .fieldLink RX1 19 "SelfRows$Ring" "rows" "[LSelfRows$Row;"] ++ wsX10)
def wsX1_alphabetNamed : List Cond := .code yX1_alphabetNamed cX1_alphabetNamed 3 (some (.object "SelfRows$Alphabet")) :: ([.fieldLink RX1 11 "SelfRows$Ring" "alphabets" "[LSelfRows$Alphabet;"] ++ wsX10)
def wsX2_forget : List Cond := .code yX2_forget cX2_forget 2 none :: ([.fieldLink RX2 23 "SelfRows$Row" "made" "I", .fieldLink RX2 20 "SelfRows$Row" "counts" "[I"] ++ wsX20)
def wsX1_forgetNumbers : List Cond := .code yX1_forgetNumbers cX1_forgetNumbers 2 none :: ([.fieldLink RX1 19 "SelfRows$Ring" "rows" "[LSelfRows$Row;", .methodLink RX1 36 yX2_forget, .instanceMethod yX2_forget, .selects RX2 yX2_forget yX2_forget, .initialized RX2, .code yX2_forget cX2_forget 2 none, .fieldLink RX2 23 "SelfRows$Row" "made" "I", .fieldLink RX2 20 "SelfRows$Row" "counts" "[I"] ++ wsX10 ++ wsX20)
def wsX1_join : List Cond := .code yX1_join cX1_join 5 none :: ([.fieldLink RX1 27 "SelfRows$Ring" "size" "I", .fieldLink RX1 23 "SelfRows$Ring" "alphabetOfRow" "[I", .methodLink RX1 33 yX1_forgetNumbers, .instanceMethod yX1_forgetNumbers, .selects RX1 yX1_forgetNumbers yX1_forgetNumbers, .initialized RX1, .code yX1_forgetNumbers cX1_forgetNumbers 2 none, .fieldLink RX1 19 "SelfRows$Ring" "rows" "[LSelfRows$Row;", .methodLink RX1 36 yX2_forget, .instanceMethod yX2_forget, .selects RX2 yX2_forget yX2_forget, .initialized RX2, .code yX2_forget cX2_forget 2 none, .fieldLink RX2 23 "SelfRows$Row" "made" "I", .fieldLink RX2 20 "SelfRows$Row" "counts" "[I"] ++ wsX10 ++ wsX20)
def wsX1_nextOf : List Cond := .code yX1_nextOf cX1_nextOf 2 (some .int) :: ([.fieldLink RX1 27 "SelfRows$Ring" "size" "I"] ++ wsX10)
def wsX2_made : List Cond := .code yX2_made cX2_made 1 (some .int) :: ([.fieldLink RX2 23 "SelfRows$Row" "made" "I"] ++ wsX20)
def wsX2_runsMade : List Cond := .code yX2_runsMade cX2_runsMade 1 (some .int) :: ([.fieldLink RX2 20 "SelfRows$Row" "counts" "[I"] ++ wsX20)
def wsX1_waits : List Cond := .code yX1_waits cX1_waits 3 (some .boolean) :: ([.fieldLink RX1 19 "SelfRows$Ring" "rows" "[LSelfRows$Row;", .methodLink RX1 59 yX1_nextOf, .instanceMethod yX1_nextOf, .selects RX1 yX1_nextOf yX1_nextOf, .initialized RX1, .code yX1_nextOf cX1_nextOf 2 (some .int), .fieldLink RX1 27 "SelfRows$Ring" "size" "I", .methodLink RX1 39 yX1_hasRow, .instanceMethod yX1_hasRow, .selects RX1 yX1_hasRow yX1_hasRow, .code yX1_hasRow cX1_hasRow 2 (some .boolean), .methodLink RX1 62 yX2_runsMade, .instanceMethod yX2_runsMade, .selects RX2 yX2_runsMade yX2_runsMade, .initialized RX2, .code yX2_runsMade cX2_runsMade 1 (some .int), .fieldLink RX2 20 "SelfRows$Row" "counts" "[I", .methodLink RX1 44 yX2_made, .instanceMethod yX2_made, .selects RX2 yX2_made yX2_made, .code yX2_made cX2_made 1 (some .int), .fieldLink RX2 23 "SelfRows$Row" "made" "I"] ++ wsX10 ++ wsX20)
def wsX1_ripeFrom_r1 : List Cond := [Cond.fieldLink RX1 27 "SelfRows$Ring" "size" "I", Cond.methodLink RX1 56 yX1_waits, Cond.instanceMethod yX1_waits, Cond.selects RX1 yX1_waits yX1_waits, Cond.initialized RX1, Cond.code yX1_waits cX1_waits 3 (some .boolean), Cond.fieldLink RX1 19 "SelfRows$Ring" "rows" "[LSelfRows$Row;", Cond.methodLink RX1 59 yX1_nextOf, Cond.instanceMethod yX1_nextOf, Cond.selects RX1 yX1_nextOf yX1_nextOf, Cond.code yX1_nextOf cX1_nextOf 2 (some .int), Cond.methodLink RX1 39 yX1_hasRow, Cond.instanceMethod yX1_hasRow, Cond.selects RX1 yX1_hasRow yX1_hasRow, Cond.code yX1_hasRow cX1_hasRow 2 (some .boolean), Cond.methodLink RX1 62 yX2_runsMade, Cond.instanceMethod yX2_runsMade, Cond.selects RX2 yX2_runsMade yX2_runsMade, Cond.initialized RX2, Cond.code yX2_runsMade cX2_runsMade 1 (some .int), Cond.fieldLink RX2 20 "SelfRows$Row" "counts" "[I", Cond.methodLink RX1 44 yX2_made, Cond.instanceMethod yX2_made, Cond.selects RX2 yX2_made yX2_made]
def wsX1_ripeFrom_r2 : List Cond := [Cond.code yX2_made cX2_made 1 (some .int), Cond.fieldLink RX2 23 "SelfRows$Row" "made" "I"]
def wsX1_ripeFrom : List Cond := .code yX1_ripeFrom cX1_ripeFrom 4 (some .int) :: ((wsX1_ripeFrom_r1 ++ wsX1_ripeFrom_r2) ++ wsX10 ++ wsX20)
def wsX1_lettersOf : List Cond := .code yX1_lettersOf cX1_lettersOf 3 (some (.object "SelfRows$Alphabet")) :: ([.fieldLink RX1 23 "SelfRows$Ring" "alphabetOfRow" "[I", .fieldLink RX1 11 "SelfRows$Ring" "alphabets" "[LSelfRows$Alphabet;", .methodLink RX1 39 yX1_hasRow, .instanceMethod yX1_hasRow, .selects RX1 yX1_hasRow yX1_hasRow, .initialized RX1, .code yX1_hasRow cX1_hasRow 2 (some .boolean), .fieldLink RX1 27 "SelfRows$Ring" "size" "I", .fieldLink RX1 19 "SelfRows$Ring" "rows" "[LSelfRows$Row;", .methodLink RX1 86 yX1_hasAlphabet, .instanceMethod yX1_hasAlphabet, .selects RX1 yX1_hasAlphabet yX1_hasAlphabet, .code yX1_hasAlphabet cX1_hasAlphabet 2 (some .boolean)] ++ wsX10)
def wsX2_number : List Cond := .code yX2_number cX2_number 2 (some .int) :: ([.fieldLink RX2 23 "SelfRows$Row" "made" "I", .fieldLink RX2 10 "SelfRows$Row" "numbers" "[B"] ++ wsX20)
def wsX1_lengthTold_r1 : List Cond := [Cond.fieldLink RX1 19 "SelfRows$Ring" "rows" "[LSelfRows$Row;", Cond.methodLink RX1 39 yX1_hasRow, Cond.instanceMethod yX1_hasRow, Cond.selects RX1 yX1_hasRow yX1_hasRow, Cond.initialized RX1, Cond.code yX1_hasRow cX1_hasRow 2 (some .boolean), Cond.fieldLink RX1 27 "SelfRows$Ring" "size" "I", Cond.methodLink RX1 44 yX2_made, Cond.instanceMethod yX2_made, Cond.selects RX2 yX2_made yX2_made, Cond.initialized RX2, Cond.code yX2_made cX2_made 1 (some .int), Cond.fieldLink RX2 23 "SelfRows$Row" "made" "I", Cond.methodLink RX1 83 yX2_number, Cond.instanceMethod yX2_number, Cond.selects RX2 yX2_number yX2_number, Cond.code yX2_number cX2_number 2 (some .int), Cond.fieldLink RX2 10 "SelfRows$Row" "numbers" "[B", Cond.methodLink RX1 65 yX1_lettersOf, Cond.instanceMethod yX1_lettersOf, Cond.selects RX1 yX1_lettersOf yX1_lettersOf, Cond.code yX1_lettersOf cX1_lettersOf 3 (some (.object "SelfRows$Alphabet")), Cond.fieldLink RX1 23 "SelfRows$Ring" "alphabetOfRow" "[I", Cond.fieldLink RX1 11 "SelfRows$Ring" "alphabets" "[LSelfRows$Alphabet;"]
def wsX1_lengthTold_r2 : List Cond := [Cond.methodLink RX1 86 yX1_hasAlphabet, Cond.instanceMethod yX1_hasAlphabet, Cond.selects RX1 yX1_hasAlphabet yX1_hasAlphabet, Cond.code yX1_hasAlphabet cX1_hasAlphabet 2 (some .boolean), Cond.methodLink RX1 62 yX2_runsMade, Cond.instanceMethod yX2_runsMade, Cond.selects RX2 yX2_runsMade yX2_runsMade, Cond.code yX2_runsMade cX2_runsMade 1 (some .int), Cond.fieldLink RX2 20 "SelfRows$Row" "counts" "[I", Cond.methodLink RX1 69 yX0_letterOfRun, Cond.instanceMethod yX0_letterOfRun, Cond.selects RX0 yX0_letterOfRun yX0_letterOfRun, Cond.initialized RX0, Cond.code yX0_letterOfRun cX0_letterOfRun 3 (some .int), Cond.fieldLink RX0 15 "SelfRows$Alphabet" "size" "I", Cond.fieldLink RX0 11 "SelfRows$Alphabet" "letters" "[I"]
def wsX1_lengthTold : List Cond := .code yX1_lengthTold cX1_lengthTold 4 (some .int) :: ((wsX1_lengthTold_r1 ++ wsX1_lengthTold_r2) ++ wsX10 ++ wsX20 ++ wsX00)
def wsX2_keepCounts : List Cond := .code yX2_keepCounts cX2_keepCounts 3 none :: ([.fieldLink RX2 23 "SelfRows$Row" "made" "I", .fieldLink RX2 16 "SelfRows$Row" "kept" "[I", .fieldLink RX2 20 "SelfRows$Row" "counts" "[I"] ++ wsX20)
def wsX2_putRun : List Cond := .code yX2_putRun cX2_putRun 4 none :: ([.fieldLink RX2 20 "SelfRows$Row" "counts" "[I", .fieldLink RX2 23 "SelfRows$Row" "made" "I", .fieldLink RX2 10 "SelfRows$Row" "numbers" "[B", .static yX5_isLetter, .initialized RX5, .code yX5_isLetter cX5_isLetter 1 (some .boolean), .methodLink RX2 31 yX2_keepCounts, .instanceMethod yX2_keepCounts, .selects RX2 yX2_keepCounts yX2_keepCounts, .initialized RX2, .code yX2_keepCounts cX2_keepCounts 3 none, .fieldLink RX2 16 "SelfRows$Row" "kept" "[I"] ++ wsX20)
def wsX2_putRunsToldBy_r1 : List Cond := [Cond.fieldLink RX2 23 "SelfRows$Row" "made" "I", Cond.fieldLink RX2 10 "SelfRows$Row" "numbers" "[B", Cond.methodLink RX2 34 yX2_runsMade, Cond.instanceMethod yX2_runsMade, Cond.selects RX2 yX2_runsMade yX2_runsMade, Cond.initialized RX2, Cond.code yX2_runsMade cX2_runsMade 1 (some .int), Cond.fieldLink RX2 20 "SelfRows$Row" "counts" "[I", Cond.methodLink RX2 38 yX2_made, Cond.instanceMethod yX2_made, Cond.selects RX2 yX2_made yX2_made, Cond.code yX2_made cX2_made 1 (some .int), Cond.methodLink RX2 40 yX0_letterOfRun, Cond.instanceMethod yX0_letterOfRun, Cond.selects RX0 yX0_letterOfRun yX0_letterOfRun, Cond.initialized RX0, Cond.code yX0_letterOfRun cX0_letterOfRun 3 (some .int), Cond.fieldLink RX0 15 "SelfRows$Alphabet" "size" "I", Cond.fieldLink RX0 11 "SelfRows$Alphabet" "letters" "[I", Cond.methodLink RX2 46 yX2_number, Cond.instanceMethod yX2_number, Cond.selects RX2 yX2_number yX2_number, Cond.code yX2_number cX2_number 2 (some .int), Cond.methodLink RX2 49 yX2_putRun]
def wsX2_putRunsToldBy_r2 : List Cond := [Cond.instanceMethod yX2_putRun, Cond.selects RX2 yX2_putRun yX2_putRun, Cond.code yX2_putRun cX2_putRun 4 none, Cond.static yX5_isLetter, Cond.initialized RX5, Cond.code yX5_isLetter cX5_isLetter 1 (some .boolean), Cond.methodLink RX2 31 yX2_keepCounts, Cond.instanceMethod yX2_keepCounts, Cond.selects RX2 yX2_keepCounts yX2_keepCounts, Cond.code yX2_keepCounts cX2_keepCounts 3 none, Cond.fieldLink RX2 16 "SelfRows$Row" "kept" "[I"]
def wsX2_putRunsToldBy : List Cond := .code yX2_putRunsToldBy cX2_putRunsToldBy 5 none :: ((wsX2_putRunsToldBy_r1 ++ wsX2_putRunsToldBy_r2) ++ wsX20 ++ wsX00)
def wsX1_grow_r1 : List Cond := [Cond.fieldLink RX1 19 "SelfRows$Ring" "rows" "[LSelfRows$Row;", Cond.methodLink RX1 59 yX1_nextOf, Cond.instanceMethod yX1_nextOf, Cond.selects RX1 yX1_nextOf yX1_nextOf, Cond.initialized RX1, Cond.code yX1_nextOf cX1_nextOf 2 (some .int), Cond.fieldLink RX1 27 "SelfRows$Ring" "size" "I", Cond.methodLink RX1 39 yX1_hasRow, Cond.instanceMethod yX1_hasRow, Cond.selects RX1 yX1_hasRow yX1_hasRow, Cond.code yX1_hasRow cX1_hasRow 2 (some .boolean), Cond.methodLink RX1 62 yX2_runsMade, Cond.instanceMethod yX2_runsMade, Cond.selects RX2 yX2_runsMade yX2_runsMade, Cond.initialized RX2, Cond.code yX2_runsMade cX2_runsMade 1 (some .int), Cond.fieldLink RX2 20 "SelfRows$Row" "counts" "[I", Cond.methodLink RX1 65 yX1_lettersOf, Cond.instanceMethod yX1_lettersOf, Cond.selects RX1 yX1_lettersOf yX1_lettersOf, Cond.code yX1_lettersOf cX1_lettersOf 3 (some (.object "SelfRows$Alphabet")), Cond.fieldLink RX1 23 "SelfRows$Ring" "alphabetOfRow" "[I", Cond.fieldLink RX1 11 "SelfRows$Ring" "alphabets" "[LSelfRows$Alphabet;", Cond.methodLink RX1 86 yX1_hasAlphabet]
def wsX1_grow_r2 : List Cond := [Cond.instanceMethod yX1_hasAlphabet, Cond.selects RX1 yX1_hasAlphabet yX1_hasAlphabet, Cond.code yX1_hasAlphabet cX1_hasAlphabet 2 (some .boolean), Cond.methodLink RX1 69 yX0_letterOfRun, Cond.instanceMethod yX0_letterOfRun, Cond.selects RX0 yX0_letterOfRun yX0_letterOfRun, Cond.initialized RX0, Cond.code yX0_letterOfRun cX0_letterOfRun 3 (some .int), Cond.fieldLink RX0 15 "SelfRows$Alphabet" "size" "I", Cond.fieldLink RX0 11 "SelfRows$Alphabet" "letters" "[I", Cond.methodLink RX1 72 yX1_lengthTold, Cond.instanceMethod yX1_lengthTold, Cond.selects RX1 yX1_lengthTold yX1_lengthTold, Cond.code yX1_lengthTold cX1_lengthTold 4 (some .int), Cond.methodLink RX1 44 yX2_made, Cond.instanceMethod yX2_made, Cond.selects RX2 yX2_made yX2_made, Cond.code yX2_made cX2_made 1 (some .int), Cond.fieldLink RX2 23 "SelfRows$Row" "made" "I", Cond.methodLink RX1 83 yX2_number, Cond.instanceMethod yX2_number, Cond.selects RX2 yX2_number yX2_number, Cond.code yX2_number cX2_number 2 (some .int), Cond.fieldLink RX2 10 "SelfRows$Row" "numbers" "[B"]
def wsX1_grow_r3 : List Cond := [Cond.methodLink RX1 76 yX2_putRun, Cond.instanceMethod yX2_putRun, Cond.selects RX2 yX2_putRun yX2_putRun, Cond.code yX2_putRun cX2_putRun 4 none, Cond.static yX5_isLetter, Cond.initialized RX5, Cond.code yX5_isLetter cX5_isLetter 1 (some .boolean), Cond.methodLink RX2 31 yX2_keepCounts, Cond.instanceMethod yX2_keepCounts, Cond.selects RX2 yX2_keepCounts yX2_keepCounts, Cond.code yX2_keepCounts cX2_keepCounts 3 none, Cond.fieldLink RX2 16 "SelfRows$Row" "kept" "[I", Cond.methodLink RX1 79 yX2_putRunsToldBy, Cond.instanceMethod yX2_putRunsToldBy, Cond.selects RX2 yX2_putRunsToldBy yX2_putRunsToldBy, Cond.code yX2_putRunsToldBy cX2_putRunsToldBy 5 none, Cond.methodLink RX2 34 yX2_runsMade, Cond.methodLink RX2 38 yX2_made, Cond.methodLink RX2 40 yX0_letterOfRun, Cond.methodLink RX2 46 yX2_number, Cond.methodLink RX2 49 yX2_putRun]
def wsX1_grow : List Cond := .code yX1_grow cX1_grow 6 none :: ((wsX1_grow_r1 ++ (wsX1_grow_r2 ++ wsX1_grow_r3)) ++ wsX10 ++ wsX20 ++ wsX00)
def wsX1_rowOf_r1 : List Cond := [Cond.fieldLink RX1 19 "SelfRows$Ring" "rows" "[LSelfRows$Row;", Cond.constant RX1 43 (300003), Cond.methodLink RX1 39 yX1_hasRow, Cond.instanceMethod yX1_hasRow, Cond.selects RX1 yX1_hasRow yX1_hasRow, Cond.initialized RX1, Cond.code yX1_hasRow cX1_hasRow 2 (some .boolean), Cond.fieldLink RX1 27 "SelfRows$Ring" "size" "I", Cond.methodLink RX1 44 yX2_made, Cond.instanceMethod yX2_made, Cond.selects RX2 yX2_made yX2_made, Cond.initialized RX2, Cond.code yX2_made cX2_made 1 (some .int), Cond.fieldLink RX2 23 "SelfRows$Row" "made" "I", Cond.methodLink RX1 48 yX1_ripeFrom, Cond.instanceMethod yX1_ripeFrom, Cond.selects RX1 yX1_ripeFrom yX1_ripeFrom, Cond.code yX1_ripeFrom cX1_ripeFrom 4 (some .int), Cond.methodLink RX1 56 yX1_waits, Cond.instanceMethod yX1_waits, Cond.selects RX1 yX1_waits yX1_waits, Cond.code yX1_waits cX1_waits 3 (some .boolean), Cond.methodLink RX1 59 yX1_nextOf, Cond.instanceMethod yX1_nextOf]
def wsX1_rowOf_r2 : List Cond := [Cond.selects RX1 yX1_nextOf yX1_nextOf, Cond.code yX1_nextOf cX1_nextOf 2 (some .int), Cond.methodLink RX1 62 yX2_runsMade, Cond.instanceMethod yX2_runsMade, Cond.selects RX2 yX2_runsMade yX2_runsMade, Cond.code yX2_runsMade cX2_runsMade 1 (some .int), Cond.fieldLink RX2 20 "SelfRows$Row" "counts" "[I", Cond.methodLink RX1 52 yX1_grow, Cond.instanceMethod yX1_grow, Cond.selects RX1 yX1_grow yX1_grow, Cond.code yX1_grow cX1_grow 6 none, Cond.methodLink RX1 65 yX1_lettersOf, Cond.instanceMethod yX1_lettersOf, Cond.selects RX1 yX1_lettersOf yX1_lettersOf, Cond.code yX1_lettersOf cX1_lettersOf 3 (some (.object "SelfRows$Alphabet")), Cond.fieldLink RX1 23 "SelfRows$Ring" "alphabetOfRow" "[I", Cond.fieldLink RX1 11 "SelfRows$Ring" "alphabets" "[LSelfRows$Alphabet;", Cond.methodLink RX1 86 yX1_hasAlphabet, Cond.instanceMethod yX1_hasAlphabet, Cond.selects RX1 yX1_hasAlphabet yX1_hasAlphabet, Cond.code yX1_hasAlphabet cX1_hasAlphabet 2 (some .boolean), Cond.methodLink RX1 69 yX0_letterOfRun, Cond.instanceMethod yX0_letterOfRun, Cond.selects RX0 yX0_letterOfRun yX0_letterOfRun]
def wsX1_rowOf_r3 : List Cond := [Cond.initialized RX0, Cond.code yX0_letterOfRun cX0_letterOfRun 3 (some .int), Cond.fieldLink RX0 15 "SelfRows$Alphabet" "size" "I", Cond.fieldLink RX0 11 "SelfRows$Alphabet" "letters" "[I", Cond.methodLink RX1 72 yX1_lengthTold, Cond.instanceMethod yX1_lengthTold, Cond.selects RX1 yX1_lengthTold yX1_lengthTold, Cond.code yX1_lengthTold cX1_lengthTold 4 (some .int), Cond.methodLink RX1 83 yX2_number, Cond.instanceMethod yX2_number, Cond.selects RX2 yX2_number yX2_number, Cond.code yX2_number cX2_number 2 (some .int), Cond.fieldLink RX2 10 "SelfRows$Row" "numbers" "[B", Cond.methodLink RX1 76 yX2_putRun, Cond.instanceMethod yX2_putRun, Cond.selects RX2 yX2_putRun yX2_putRun, Cond.code yX2_putRun cX2_putRun 4 none, Cond.static yX5_isLetter, Cond.initialized RX5, Cond.code yX5_isLetter cX5_isLetter 1 (some .boolean), Cond.methodLink RX2 31 yX2_keepCounts, Cond.instanceMethod yX2_keepCounts, Cond.selects RX2 yX2_keepCounts yX2_keepCounts, Cond.code yX2_keepCounts cX2_keepCounts 3 none]
def wsX1_rowOf_r4 : List Cond := [Cond.fieldLink RX2 16 "SelfRows$Row" "kept" "[I", Cond.methodLink RX1 79 yX2_putRunsToldBy, Cond.instanceMethod yX2_putRunsToldBy, Cond.selects RX2 yX2_putRunsToldBy yX2_putRunsToldBy, Cond.code yX2_putRunsToldBy cX2_putRunsToldBy 5 none, Cond.methodLink RX2 34 yX2_runsMade, Cond.methodLink RX2 38 yX2_made, Cond.methodLink RX2 40 yX0_letterOfRun, Cond.methodLink RX2 46 yX2_number, Cond.methodLink RX2 49 yX2_putRun]
def wsX1_rowOf : List Cond := .code yX1_rowOf cX1_rowOf 5 (some (.object "SelfRows$Row")) :: ((wsX1_rowOf_r1 ++ (wsX1_rowOf_r2 ++ (wsX1_rowOf_r3 ++ wsX1_rowOf_r4))) ++ wsX10 ++ wsX20 ++ wsX00)
def wsX1_mixInto : List Cond := .code yX1_mixInto cX1_mixInto 6 (some .long) :: ([.fieldLink RX1 11 "SelfRows$Ring" "alphabets" "[LSelfRows$Alphabet;", .fieldLink RX1 27 "SelfRows$Ring" "size" "I", .fieldLink RX1 23 "SelfRows$Ring" "alphabetOfRow" "[I", .constantLong RX1 93 (31), .methodLink RX1 89 yX0_mixInto, .instanceMethod yX0_mixInto, .selects RX0 yX0_mixInto yX0_mixInto, .initialized RX0, .code yX0_mixInto cX0_mixInto 6 (some .long), .fieldLink RX0 15 "SelfRows$Alphabet" "size" "I", .constantLong RX0 27 (31), .methodLink RX0 19 yX0_letterOfRun, .instanceMethod yX0_letterOfRun, .selects RX0 yX0_letterOfRun yX0_letterOfRun, .code yX0_letterOfRun cX0_letterOfRun 3 (some .int), .fieldLink RX0 11 "SelfRows$Alphabet" "letters" "[I"] ++ wsX10 ++ wsX00)
def wsX2_keptBefore : List Cond := .code yX2_keptBefore cX2_keptBefore 4 (some .int) :: ([.fieldLink RX2 16 "SelfRows$Row" "kept" "[I"] ++ wsX20)
def wsX2_lettersWithin : List Cond := .code yX2_lettersWithin cX2_lettersWithin 5 (some .int) :: ([.static yX5_isLetter, .initialized RX5, .code yX5_isLetter cX5_isLetter 1 (some .boolean), .methodLink RX2 53 yX2_keptBefore, .instanceMethod yX2_keptBefore, .selects RX2 yX2_keptBefore yX2_keptBefore, .initialized RX2, .code yX2_keptBefore cX2_keptBefore 4 (some .int), .fieldLink RX2 16 "SelfRows$Row" "kept" "[I", .methodLink RX2 46 yX2_number, .instanceMethod yX2_number, .selects RX2 yX2_number yX2_number, .code yX2_number cX2_number 2 (some .int), .fieldLink RX2 23 "SelfRows$Row" "made" "I", .fieldLink RX2 10 "SelfRows$Row" "numbers" "[B"] ++ wsX20)
def wsX2_sumWithin : List Cond := .code yX2_sumWithin cX2_sumWithin 4 (some .int) :: ([.methodLink RX2 57 yX2_lettersWithin, .instanceMethod yX2_lettersWithin, .selects RX2 yX2_lettersWithin yX2_lettersWithin, .initialized RX2, .code yX2_lettersWithin cX2_lettersWithin 5 (some .int), .static yX5_isLetter, .initialized RX5, .code yX5_isLetter cX5_isLetter 1 (some .boolean), .methodLink RX2 53 yX2_keptBefore, .instanceMethod yX2_keptBefore, .selects RX2 yX2_keptBefore yX2_keptBefore, .code yX2_keptBefore cX2_keptBefore 4 (some .int), .fieldLink RX2 16 "SelfRows$Row" "kept" "[I", .methodLink RX2 46 yX2_number, .instanceMethod yX2_number, .selects RX2 yX2_number yX2_number, .code yX2_number cX2_number 2 (some .int), .fieldLink RX2 23 "SelfRows$Row" "made" "I", .fieldLink RX2 10 "SelfRows$Row" "numbers" "[B"] ++ wsX20)
def wsX2_runsWithin : List Cond := .code yX2_runsWithin cX2_runsWithin 4 (some .int) :: ([.methodLink RX2 53 yX2_keptBefore, .instanceMethod yX2_keptBefore, .selects RX2 yX2_keptBefore yX2_keptBefore, .initialized RX2, .code yX2_keptBefore cX2_keptBefore 4 (some .int), .fieldLink RX2 16 "SelfRows$Row" "kept" "[I", .methodLink RX2 46 yX2_number, .instanceMethod yX2_number, .selects RX2 yX2_number yX2_number, .code yX2_number cX2_number 2 (some .int), .fieldLink RX2 23 "SelfRows$Row" "made" "I", .fieldLink RX2 10 "SelfRows$Row" "numbers" "[B"] ++ wsX20)
def wsX2_greatestOff : List Cond := .code yX2_greatestOff cX2_greatestOff 7 (some .int) :: ([.methodLink RX2 60 Lib.Math.abs.name, .static Lib.Math.abs.name, .initialized "java/lang/Math", .code Lib.Math.abs.name Lib.Math.abs.code 1 (some .int), .methodLink RX2 65 Lib.Math.max.name, .static Lib.Math.max.name, .code Lib.Math.max.name Lib.Math.max.code 2 (some .int), .methodLink RX2 46 yX2_number, .instanceMethod yX2_number, .selects RX2 yX2_number yX2_number, .initialized RX2, .code yX2_number cX2_number 2 (some .int), .fieldLink RX2 23 "SelfRows$Row" "made" "I", .fieldLink RX2 10 "SelfRows$Row" "numbers" "[B"] ++ wsX20)
def wsX4_size : List Cond := .code yX4_size cX4_size 1 (some .int) :: ([.fieldLink RX4 15 "SelfRows$Word" "size" "I"] ++ wsX40)
def wsX4_letterAt : List Cond := .code yX4_letterAt cX4_letterAt 2 (some .int) :: ([.fieldLink RX4 15 "SelfRows$Word" "size" "I", .fieldLink RX4 9 "SelfRows$Word" "letters" "[I"] ++ wsX40)
def wsX2_holds : List Cond := .code yX2_holds cX2_holds 4 (some .boolean) :: ([.methodLink RX2 68 yX4_size, .instanceMethod yX4_size, .selects RX4 yX4_size yX4_size, .initialized RX4, .code yX4_size cX4_size 1 (some .int), .fieldLink RX4 15 "SelfRows$Word" "size" "I", .methodLink RX2 46 yX2_number, .instanceMethod yX2_number, .selects RX2 yX2_number yX2_number, .initialized RX2, .code yX2_number cX2_number 2 (some .int), .fieldLink RX2 23 "SelfRows$Row" "made" "I", .fieldLink RX2 10 "SelfRows$Row" "numbers" "[B", .methodLink RX2 73 yX4_letterAt, .instanceMethod yX4_letterAt, .selects RX4 yX4_letterAt yX4_letterAt, .code yX4_letterAt cX4_letterAt 2 (some .int), .fieldLink RX4 9 "SelfRows$Word" "letters" "[I"] ++ wsX40 ++ wsX20)
def wsX3_init : List Cond := .code yX3_init cX3_init 1 none :: ([.methodLink RX3 1 objectInit, .instanceMethod objectInit, .code objectInit ⟨#[0xb1]⟩ 1 none, .arrayClass .long, .fieldLink RX3 9 "SelfRows$Stretches" "seats" "[J"] ++ wsX30)
def wsX3_takesSeat : List Cond := .code yX3_takesSeat cX3_takesSeat 5 (some .boolean) :: ([.constantLong RX3 23 (-7046029254386353131), .fieldLink RX3 9 "SelfRows$Stretches" "seats" "[J"] ++ wsX30)
def wsX3_unlikeWithin : List Cond := .code yX3_unlikeWithin cX3_unlikeWithin 10 (some .int) :: ([.fieldLink RX3 9 "SelfRows$Stretches" "seats" "[J", .methodLink RX3 13 yX2_number, .instanceMethod yX2_number, .selects RX2 yX2_number yX2_number, .initialized RX2, .code yX2_number cX2_number 2 (some .int), .fieldLink RX2 23 "SelfRows$Row" "made" "I", .fieldLink RX2 10 "SelfRows$Row" "numbers" "[B", .methodLink RX3 19 yX3_takesSeat, .instanceMethod yX3_takesSeat, .selects RX3 yX3_takesSeat yX3_takesSeat, .initialized RX3, .code yX3_takesSeat cX3_takesSeat 5 (some .boolean), .constantLong RX3 23 (-7046029254386353131)] ++ wsX30 ++ wsX20)
def wsX4_init : List Cond := .code yX4_init cX4_init 1 none :: ([.methodLink RX4 3 objectInit, .instanceMethod objectInit, .code objectInit ⟨#[0xb1]⟩ 1 none, .arrayClass .int, .fieldLink RX4 9 "SelfRows$Word" "letters" "[I", .fieldLink RX4 15 "SelfRows$Word" "size" "I"] ++ wsX40)
def wsX4_empty : List Cond := .code yX4_empty cX4_empty 1 none :: ([.fieldLink RX4 15 "SelfRows$Word" "size" "I"] ++ wsX40)
def wsX4_put : List Cond := .code yX4_put cX4_put 2 (some .boolean) :: ([.fieldLink RX4 15 "SelfRows$Word" "size" "I", .fieldLink RX4 9 "SelfRows$Word" "letters" "[I"] ++ wsX40)
def wsX4_putTimes : List Cond := .code yX4_putTimes cX4_putTimes 4 none :: ([.methodLink RX4 19 yX4_put, .instanceMethod yX4_put, .selects RX4 yX4_put yX4_put, .initialized RX4, .code yX4_put cX4_put 2 (some .boolean), .fieldLink RX4 15 "SelfRows$Word" "size" "I", .fieldLink RX4 9 "SelfRows$Word" "letters" "[I"] ++ wsX40)
def wsX4_drop : List Cond := .code yX4_drop cX4_drop 1 none :: ([.fieldLink RX4 15 "SelfRows$Word" "size" "I"] ++ wsX40)
def wsX4_become : List Cond := .code yX4_become cX4_become 3 none :: ([.methodLink RX4 23 yX4_empty, .instanceMethod yX4_empty, .selects RX4 yX4_empty yX4_empty, .initialized RX4, .code yX4_empty cX4_empty 1 none, .fieldLink RX4 15 "SelfRows$Word" "size" "I", .methodLink RX4 26 yX4_size, .instanceMethod yX4_size, .selects RX4 yX4_size yX4_size, .code yX4_size cX4_size 1 (some .int), .methodLink RX4 29 yX4_letterAt, .instanceMethod yX4_letterAt, .selects RX4 yX4_letterAt yX4_letterAt, .code yX4_letterAt cX4_letterAt 2 (some .int), .fieldLink RX4 9 "SelfRows$Word" "letters" "[I", .methodLink RX4 19 yX4_put, .instanceMethod yX4_put, .selects RX4 yX4_put yX4_put, .code yX4_put cX4_put 2 (some .boolean)] ++ wsX40)
def wsX4_total : List Cond := .code yX4_total cX4_total 3 (some .int) :: ([.fieldLink RX4 15 "SelfRows$Word" "size" "I", .methodLink RX4 29 yX4_letterAt, .instanceMethod yX4_letterAt, .selects RX4 yX4_letterAt yX4_letterAt, .initialized RX4, .code yX4_letterAt cX4_letterAt 2 (some .int), .fieldLink RX4 9 "SelfRows$Word" "letters" "[I"] ++ wsX40)
def wsX4_greatestLetter : List Cond := .code yX4_greatestLetter cX4_greatestLetter 3 (some .int) :: ([.fieldLink RX4 15 "SelfRows$Word" "size" "I", .methodLink RX4 33 Lib.Math.max.name, .static Lib.Math.max.name, .initialized "java/lang/Math", .code Lib.Math.max.name Lib.Math.max.code 2 (some .int), .methodLink RX4 29 yX4_letterAt, .instanceMethod yX4_letterAt, .selects RX4 yX4_letterAt yX4_letterAt, .initialized RX4, .code yX4_letterAt cX4_letterAt 2 (some .int), .fieldLink RX4 9 "SelfRows$Word" "letters" "[I"] ++ wsX40)
def wsX4_isEndOfRun : List Cond := .code yX4_isEndOfRun cX4_isEndOfRun 2 (some .boolean) :: ([.methodLink RX4 29 yX4_letterAt, .instanceMethod yX4_letterAt, .selects RX4 yX4_letterAt yX4_letterAt, .initialized RX4, .code yX4_letterAt cX4_letterAt 2 (some .int), .fieldLink RX4 15 "SelfRows$Word" "size" "I", .fieldLink RX4 9 "SelfRows$Word" "letters" "[I"] ++ wsX40)
def wsX4_runsInIt : List Cond := .code yX4_runsInIt cX4_runsInIt 3 (some .int) :: ([.fieldLink RX4 15 "SelfRows$Word" "size" "I", .methodLink RX4 39 yX4_isEndOfRun, .instanceMethod yX4_isEndOfRun, .selects RX4 yX4_isEndOfRun yX4_isEndOfRun, .initialized RX4, .code yX4_isEndOfRun cX4_isEndOfRun 2 (some .boolean), .methodLink RX4 29 yX4_letterAt, .instanceMethod yX4_letterAt, .selects RX4 yX4_letterAt yX4_letterAt, .code yX4_letterAt cX4_letterAt 2 (some .int), .fieldLink RX4 9 "SelfRows$Word" "letters" "[I"] ++ wsX40)
def wsX4_longestRun : List Cond := .code yX4_longestRun cX4_longestRun 4 (some .int) :: ([.fieldLink RX4 15 "SelfRows$Word" "size" "I", .methodLink RX4 33 Lib.Math.max.name, .static Lib.Math.max.name, .initialized "java/lang/Math", .code Lib.Math.max.name Lib.Math.max.code 2 (some .int), .methodLink RX4 39 yX4_isEndOfRun, .instanceMethod yX4_isEndOfRun, .selects RX4 yX4_isEndOfRun yX4_isEndOfRun, .initialized RX4, .code yX4_isEndOfRun cX4_isEndOfRun 2 (some .boolean), .methodLink RX4 29 yX4_letterAt, .instanceMethod yX4_letterAt, .selects RX4 yX4_letterAt yX4_letterAt, .code yX4_letterAt cX4_letterAt 2 (some .int), .fieldLink RX4 9 "SelfRows$Word" "letters" "[I"] ++ wsX40)
def wsX4_change : List Cond := .code yX4_change cX4_change 3 none :: ([.fieldLink RX4 9 "SelfRows$Word" "letters" "[I"] ++ wsX40)
def wsX4_becomeShorter : List Cond := .code yX4_becomeShorter cX4_becomeShorter 7 none :: ([.fieldLink RX4 15 "SelfRows$Word" "size" "I", .methodLink RX4 39 yX4_isEndOfRun, .instanceMethod yX4_isEndOfRun, .selects RX4 yX4_isEndOfRun yX4_isEndOfRun, .initialized RX4, .code yX4_isEndOfRun cX4_isEndOfRun 2 (some .boolean), .methodLink RX4 29 yX4_letterAt, .instanceMethod yX4_letterAt, .selects RX4 yX4_letterAt yX4_letterAt, .code yX4_letterAt cX4_letterAt 2 (some .int), .fieldLink RX4 9 "SelfRows$Word" "letters" "[I", .methodLink RX4 42 yX4_change, .instanceMethod yX4_change, .selects RX4 yX4_change yX4_change, .code yX4_change cX4_change 3 none] ++ wsX40)
def wsX4_turnRound : List Cond := .code yX4_turnRound cX4_turnRound 4 none :: ([.fieldLink RX4 15 "SelfRows$Word" "size" "I", .methodLink RX4 29 yX4_letterAt, .instanceMethod yX4_letterAt, .selects RX4 yX4_letterAt yX4_letterAt, .initialized RX4, .code yX4_letterAt cX4_letterAt 2 (some .int), .fieldLink RX4 9 "SelfRows$Word" "letters" "[I", .methodLink RX4 42 yX4_change, .instanceMethod yX4_change, .selects RX4 yX4_change yX4_change, .code yX4_change cX4_change 3 none] ++ wsX40)
def wsX4_replaceBy : List Cond := .code yX4_replaceBy cX4_replaceBy 5 (some .int) :: ([.fieldLink RX4 15 "SelfRows$Word" "size" "I", .methodLink RX4 29 yX4_letterAt, .instanceMethod yX4_letterAt, .selects RX4 yX4_letterAt yX4_letterAt, .initialized RX4, .code yX4_letterAt cX4_letterAt 2 (some .int), .fieldLink RX4 9 "SelfRows$Word" "letters" "[I", .methodLink RX4 46 yX0_letterBehind, .instanceMethod yX0_letterBehind, .selects RX0 yX0_letterBehind yX0_letterBehind, .initialized RX0, .code yX0_letterBehind cX0_letterBehind 3 (some .int), .fieldLink RX0 15 "SelfRows$Alphabet" "size" "I", .methodLink RX0 19 yX0_letterOfRun, .instanceMethod yX0_letterOfRun, .selects RX0 yX0_letterOfRun yX0_letterOfRun, .code yX0_letterOfRun cX0_letterOfRun 3 (some .int), .fieldLink RX0 11 "SelfRows$Alphabet" "letters" "[I", .methodLink RX4 42 yX4_change, .instanceMethod yX4_change, .selects RX4 yX4_change yX4_change, .code yX4_change cX4_change 3 none] ++ wsX40 ++ wsX00)
def wsX4_isSameMirrored : List Cond := .code yX4_isSameMirrored cX4_isSameMirrored 3 (some .boolean) :: ([.fieldLink RX4 15 "SelfRows$Word" "size" "I", .methodLink RX4 29 yX4_letterAt, .instanceMethod yX4_letterAt, .selects RX4 yX4_letterAt yX4_letterAt, .initialized RX4, .code yX4_letterAt cX4_letterAt 2 (some .int), .fieldLink RX4 9 "SelfRows$Word" "letters" "[I"] ++ wsX40)
def wsX4_hasTwice : List Cond := .code yX4_hasTwice cX4_hasTwice 4 (some .boolean) :: ([.fieldLink RX4 15 "SelfRows$Word" "size" "I", .methodLink RX4 29 yX4_letterAt, .instanceMethod yX4_letterAt, .selects RX4 yX4_letterAt yX4_letterAt, .initialized RX4, .code yX4_letterAt cX4_letterAt 2 (some .int), .fieldLink RX4 9 "SelfRows$Word" "letters" "[I"] ++ wsX40)
def wsX4_leastTwice : List Cond := .code yX4_leastTwice cX4_leastTwice 2 (some .int) :: ([.fieldLink RX4 15 "SelfRows$Word" "size" "I", .methodLink RX4 51 yX4_hasTwice, .instanceMethod yX4_hasTwice, .selects RX4 yX4_hasTwice yX4_hasTwice, .initialized RX4, .code yX4_hasTwice cX4_hasTwice 4 (some .boolean), .methodLink RX4 29 yX4_letterAt, .instanceMethod yX4_letterAt, .selects RX4 yX4_letterAt yX4_letterAt, .code yX4_letterAt cX4_letterAt 2 (some .int), .fieldLink RX4 9 "SelfRows$Word" "letters" "[I"] ++ wsX40)
def wsX4_mixInto : List Cond := .code yX4_mixInto cX4_mixInto 6 (some .long) :: ([.fieldLink RX4 15 "SelfRows$Word" "size" "I", .constantLong RX4 54 (31), .methodLink RX4 29 yX4_letterAt, .instanceMethod yX4_letterAt, .selects RX4 yX4_letterAt yX4_letterAt, .initialized RX4, .code yX4_letterAt cX4_letterAt 2 (some .int), .fieldLink RX4 9 "SelfRows$Word" "letters" "[I"] ++ wsX40)
def wsX5_init_r1 : List Cond := [Cond.methodLink RX5 1 objectInit, Cond.instanceMethod objectInit, Cond.code objectInit ⟨#[0xb1]⟩ 1 none, Cond.classLink RX5 7 RX1, Cond.instantiable RX1 4, Cond.initialized RX1, Cond.fieldLink RX5 10 "SelfRows" "circle" "LSelfRows$Ring;", Cond.classLink RX5 16 RX4, Cond.instantiable RX4 2, Cond.initialized RX4, Cond.fieldLink RX5 19 "SelfRows" "word" "LSelfRows$Word;", Cond.fieldLink RX5 23 "SelfRows" "spare" "LSelfRows$Word;", Cond.fieldLink RX5 26 "SelfRows" "trial" "LSelfRows$Word;", Cond.classLink RX5 29 RX3, Cond.instantiable RX3 1, Cond.initialized RX3, Cond.fieldLink RX5 32 "SelfRows" "stretches" "LSelfRows$Stretches;", Cond.fieldLink RX5 36 "SelfRows" "manyDone" "I", Cond.fieldLink RX5 40 "SelfRows" "unlikeDone" "I", Cond.methodLink RX5 9 yX1_init, Cond.instanceMethod yX1_init, Cond.code yX1_init cX1_init 2 none, Cond.methodLink RX1 3 objectInit, Cond.classLink RX1 9 RX0]
def wsX5_init_r2 : List Cond := [Cond.fieldLink RX1 11 "SelfRows$Ring" "alphabets" "[LSelfRows$Alphabet;", Cond.classLink RX1 17 RX2, Cond.fieldLink RX1 19 "SelfRows$Ring" "rows" "[LSelfRows$Row;", Cond.arrayClass .int, Cond.fieldLink RX1 23 "SelfRows$Ring" "alphabetOfRow" "[I", Cond.fieldLink RX1 27 "SelfRows$Ring" "size" "I", Cond.instantiable RX0 2, Cond.initialized RX0, Cond.instantiable RX2 4, Cond.initialized RX2, Cond.methodLink RX1 31 yX0_init, Cond.instanceMethod yX0_init, Cond.code yX0_init cX0_init 1 none, Cond.methodLink RX0 3 objectInit, Cond.fieldLink RX0 11 "SelfRows$Alphabet" "letters" "[I", Cond.fieldLink RX0 15 "SelfRows$Alphabet" "size" "I", Cond.instanceMethod yX2_init, Cond.code yX2_init cX2_init 1 none, Cond.methodLink RX2 3 objectInit, Cond.constant RX2 9 (100001), Cond.arrayClass .byte, Cond.fieldLink RX2 10 "SelfRows$Row" "numbers" "[B", Cond.fieldLink RX2 16 "SelfRows$Row" "kept" "[I", Cond.fieldLink RX2 20 "SelfRows$Row" "counts" "[I"]
def wsX5_init_r3 : List Cond := [Cond.fieldLink RX2 23 "SelfRows$Row" "made" "I", Cond.instanceMethod yX4_init, Cond.code yX4_init cX4_init 1 none, Cond.methodLink RX4 3 objectInit, Cond.fieldLink RX4 9 "SelfRows$Word" "letters" "[I", Cond.fieldLink RX4 15 "SelfRows$Word" "size" "I", Cond.instanceMethod yX3_init, Cond.code yX3_init cX3_init 1 none, Cond.methodLink RX3 1 objectInit, Cond.arrayClass .long, Cond.fieldLink RX3 9 "SelfRows$Stretches" "seats" "[J"]
def wsX5_init : List Cond := .code yX5_init cX5_init 1 none :: ((wsX5_init_r1 ++ (wsX5_init_r2 ++ wsX5_init_r3)) ++ wsX10 ++ wsX50 ++ wsX40 ++ wsX30 ++ wsX00 ++ wsX20)
def wsX5_alphabet_r1 : List Cond := [Cond.fieldLink RX5 10 "SelfRows" "circle" "LSelfRows$Ring;", Cond.methodLink RX5 43 yX1_alphabetNamed, Cond.instanceMethod yX1_alphabetNamed, Cond.selects RX1 yX1_alphabetNamed yX1_alphabetNamed, Cond.initialized RX1, Cond.code yX1_alphabetNamed cX1_alphabetNamed 3 (some (.object "SelfRows$Alphabet")), Cond.fieldLink RX1 11 "SelfRows$Ring" "alphabets" "[LSelfRows$Alphabet;", Cond.methodLink RX5 47 yX0_change, Cond.instanceMethod yX0_change, Cond.selects RX0 yX0_change yX0_change, Cond.initialized RX0, Cond.code yX0_change cX0_change 7 (some .boolean), Cond.fieldLink RX0 11 "SelfRows$Alphabet" "letters" "[I", Cond.fieldLink RX0 15 "SelfRows$Alphabet" "size" "I", Cond.static yX5_isLetter, Cond.initialized RX5, Cond.code yX5_isLetter cX5_isLetter 1 (some .boolean), Cond.methodLink RX5 53 yX1_forgetNumbers, Cond.instanceMethod yX1_forgetNumbers, Cond.selects RX1 yX1_forgetNumbers yX1_forgetNumbers, Cond.code yX1_forgetNumbers cX1_forgetNumbers 2 none, Cond.fieldLink RX1 19 "SelfRows$Ring" "rows" "[LSelfRows$Row;", Cond.methodLink RX1 36 yX2_forget, Cond.instanceMethod yX2_forget]
def wsX5_alphabet_r2 : List Cond := [Cond.selects RX2 yX2_forget yX2_forget, Cond.initialized RX2, Cond.code yX2_forget cX2_forget 2 none, Cond.fieldLink RX2 23 "SelfRows$Row" "made" "I", Cond.fieldLink RX2 20 "SelfRows$Row" "counts" "[I"]
def wsX5_alphabet : List Cond := .code yX5_alphabet cX5_alphabet 8 (some .int) :: ((wsX5_alphabet_r1 ++ wsX5_alphabet_r2) ++ wsX50 ++ wsX10 ++ wsX00 ++ wsX20)
def wsX5_ring_r1 : List Cond := [Cond.fieldLink RX5 10 "SelfRows" "circle" "LSelfRows$Ring;", Cond.methodLink RX5 56 yX1_hasAlphabet, Cond.instanceMethod yX1_hasAlphabet, Cond.selects RX1 yX1_hasAlphabet yX1_hasAlphabet, Cond.initialized RX1, Cond.code yX1_hasAlphabet cX1_hasAlphabet 2 (some .boolean), Cond.fieldLink RX1 11 "SelfRows$Ring" "alphabets" "[LSelfRows$Alphabet;", Cond.methodLink RX5 60 yX1_join, Cond.instanceMethod yX1_join, Cond.selects RX1 yX1_join yX1_join, Cond.code yX1_join cX1_join 5 none, Cond.fieldLink RX1 27 "SelfRows$Ring" "size" "I", Cond.fieldLink RX1 23 "SelfRows$Ring" "alphabetOfRow" "[I", Cond.methodLink RX1 33 yX1_forgetNumbers, Cond.instanceMethod yX1_forgetNumbers, Cond.selects RX1 yX1_forgetNumbers yX1_forgetNumbers, Cond.code yX1_forgetNumbers cX1_forgetNumbers 2 none, Cond.fieldLink RX1 19 "SelfRows$Ring" "rows" "[LSelfRows$Row;", Cond.methodLink RX1 36 yX2_forget, Cond.instanceMethod yX2_forget, Cond.selects RX2 yX2_forget yX2_forget, Cond.initialized RX2, Cond.code yX2_forget cX2_forget 2 none, Cond.fieldLink RX2 23 "SelfRows$Row" "made" "I"]
def wsX5_ring_r2 : List Cond := [Cond.fieldLink RX2 20 "SelfRows$Row" "counts" "[I"]
def wsX5_ring : List Cond := .code yX5_ring cX5_ring 6 (some .int) :: ((wsX5_ring_r1 ++ wsX5_ring_r2) ++ wsX50 ++ wsX10 ++ wsX20)
def wsX5_isOutside : List Cond := .code yX5_isOutside cX5_isOutside 2 (some .boolean) :: ([])
def wsX5_at_r1 : List Cond := [Cond.fieldLink RX5 10 "SelfRows" "circle" "LSelfRows$Ring;", Cond.constant RX5 67 (100000), Cond.methodLink RX5 64 yX1_hasRow, Cond.instanceMethod yX1_hasRow, Cond.selects RX1 yX1_hasRow yX1_hasRow, Cond.initialized RX1, Cond.code yX1_hasRow cX1_hasRow 2 (some .boolean), Cond.fieldLink RX1 27 "SelfRows$Ring" "size" "I", Cond.fieldLink RX1 19 "SelfRows$Ring" "rows" "[LSelfRows$Row;", Cond.methodLink RX5 68 yX5_isOutside, Cond.static yX5_isOutside, Cond.initialized RX5, Cond.code yX5_isOutside cX5_isOutside 2 (some .boolean), Cond.methodLink RX5 72 yX1_rowOf, Cond.instanceMethod yX1_rowOf, Cond.selects RX1 yX1_rowOf yX1_rowOf, Cond.code yX1_rowOf cX1_rowOf 5 (some (.object "SelfRows$Row")), Cond.constant RX1 43 (300003), Cond.methodLink RX1 39 yX1_hasRow, Cond.methodLink RX1 44 yX2_made, Cond.instanceMethod yX2_made, Cond.selects RX2 yX2_made yX2_made, Cond.initialized RX2, Cond.code yX2_made cX2_made 1 (some .int)]
def wsX5_at_r2 : List Cond := [Cond.fieldLink RX2 23 "SelfRows$Row" "made" "I", Cond.methodLink RX1 48 yX1_ripeFrom, Cond.instanceMethod yX1_ripeFrom, Cond.selects RX1 yX1_ripeFrom yX1_ripeFrom, Cond.code yX1_ripeFrom cX1_ripeFrom 4 (some .int), Cond.methodLink RX1 56 yX1_waits, Cond.instanceMethod yX1_waits, Cond.selects RX1 yX1_waits yX1_waits, Cond.code yX1_waits cX1_waits 3 (some .boolean), Cond.methodLink RX1 59 yX1_nextOf, Cond.instanceMethod yX1_nextOf, Cond.selects RX1 yX1_nextOf yX1_nextOf, Cond.code yX1_nextOf cX1_nextOf 2 (some .int), Cond.methodLink RX1 62 yX2_runsMade, Cond.instanceMethod yX2_runsMade, Cond.selects RX2 yX2_runsMade yX2_runsMade, Cond.code yX2_runsMade cX2_runsMade 1 (some .int), Cond.fieldLink RX2 20 "SelfRows$Row" "counts" "[I", Cond.methodLink RX1 52 yX1_grow, Cond.instanceMethod yX1_grow, Cond.selects RX1 yX1_grow yX1_grow, Cond.code yX1_grow cX1_grow 6 none, Cond.methodLink RX1 65 yX1_lettersOf, Cond.instanceMethod yX1_lettersOf]
def wsX5_at_r3 : List Cond := [Cond.selects RX1 yX1_lettersOf yX1_lettersOf, Cond.code yX1_lettersOf cX1_lettersOf 3 (some (.object "SelfRows$Alphabet")), Cond.fieldLink RX1 23 "SelfRows$Ring" "alphabetOfRow" "[I", Cond.fieldLink RX1 11 "SelfRows$Ring" "alphabets" "[LSelfRows$Alphabet;", Cond.methodLink RX1 86 yX1_hasAlphabet, Cond.instanceMethod yX1_hasAlphabet, Cond.selects RX1 yX1_hasAlphabet yX1_hasAlphabet, Cond.code yX1_hasAlphabet cX1_hasAlphabet 2 (some .boolean), Cond.methodLink RX1 69 yX0_letterOfRun, Cond.instanceMethod yX0_letterOfRun, Cond.selects RX0 yX0_letterOfRun yX0_letterOfRun, Cond.initialized RX0, Cond.code yX0_letterOfRun cX0_letterOfRun 3 (some .int), Cond.fieldLink RX0 15 "SelfRows$Alphabet" "size" "I", Cond.fieldLink RX0 11 "SelfRows$Alphabet" "letters" "[I", Cond.methodLink RX1 72 yX1_lengthTold, Cond.instanceMethod yX1_lengthTold, Cond.selects RX1 yX1_lengthTold yX1_lengthTold, Cond.code yX1_lengthTold cX1_lengthTold 4 (some .int), Cond.methodLink RX1 83 yX2_number, Cond.instanceMethod yX2_number, Cond.selects RX2 yX2_number yX2_number, Cond.code yX2_number cX2_number 2 (some .int), Cond.fieldLink RX2 10 "SelfRows$Row" "numbers" "[B"]
def wsX5_at_r4 : List Cond := [Cond.methodLink RX1 76 yX2_putRun, Cond.instanceMethod yX2_putRun, Cond.selects RX2 yX2_putRun yX2_putRun, Cond.code yX2_putRun cX2_putRun 4 none, Cond.static yX5_isLetter, Cond.code yX5_isLetter cX5_isLetter 1 (some .boolean), Cond.methodLink RX2 31 yX2_keepCounts, Cond.instanceMethod yX2_keepCounts, Cond.selects RX2 yX2_keepCounts yX2_keepCounts, Cond.code yX2_keepCounts cX2_keepCounts 3 none, Cond.fieldLink RX2 16 "SelfRows$Row" "kept" "[I", Cond.methodLink RX1 79 yX2_putRunsToldBy, Cond.instanceMethod yX2_putRunsToldBy, Cond.selects RX2 yX2_putRunsToldBy yX2_putRunsToldBy, Cond.code yX2_putRunsToldBy cX2_putRunsToldBy 5 none, Cond.methodLink RX2 34 yX2_runsMade, Cond.methodLink RX2 38 yX2_made, Cond.methodLink RX2 40 yX0_letterOfRun, Cond.methodLink RX2 46 yX2_number, Cond.methodLink RX2 49 yX2_putRun, Cond.methodLink RX5 76 yX2_number]
def wsX5_at : List Cond := .code yX5_at cX5_at 3 (some .int) :: ((wsX5_at_r1 ++ (wsX5_at_r2 ++ (wsX5_at_r3 ++ wsX5_at_r4))) ++ wsX50 ++ wsX10 ++ wsX20 ++ wsX00)
def wsX5_count_r1 : List Cond := [Cond.fieldLink RX5 10 "SelfRows" "circle" "LSelfRows$Ring;", Cond.constant RX5 67 (100000), Cond.methodLink RX5 64 yX1_hasRow, Cond.instanceMethod yX1_hasRow, Cond.selects RX1 yX1_hasRow yX1_hasRow, Cond.initialized RX1, Cond.code yX1_hasRow cX1_hasRow 2 (some .boolean), Cond.fieldLink RX1 27 "SelfRows$Ring" "size" "I", Cond.fieldLink RX1 19 "SelfRows$Ring" "rows" "[LSelfRows$Row;", Cond.methodLink RX5 68 yX5_isOutside, Cond.static yX5_isOutside, Cond.initialized RX5, Cond.code yX5_isOutside cX5_isOutside 2 (some .boolean), Cond.methodLink RX5 72 yX1_rowOf, Cond.instanceMethod yX1_rowOf, Cond.selects RX1 yX1_rowOf yX1_rowOf, Cond.code yX1_rowOf cX1_rowOf 5 (some (.object "SelfRows$Row")), Cond.constant RX1 43 (300003), Cond.methodLink RX1 39 yX1_hasRow, Cond.methodLink RX1 44 yX2_made, Cond.instanceMethod yX2_made, Cond.selects RX2 yX2_made yX2_made, Cond.initialized RX2, Cond.code yX2_made cX2_made 1 (some .int)]
def wsX5_count_r2 : List Cond := [Cond.fieldLink RX2 23 "SelfRows$Row" "made" "I", Cond.methodLink RX1 48 yX1_ripeFrom, Cond.instanceMethod yX1_ripeFrom, Cond.selects RX1 yX1_ripeFrom yX1_ripeFrom, Cond.code yX1_ripeFrom cX1_ripeFrom 4 (some .int), Cond.methodLink RX1 56 yX1_waits, Cond.instanceMethod yX1_waits, Cond.selects RX1 yX1_waits yX1_waits, Cond.code yX1_waits cX1_waits 3 (some .boolean), Cond.methodLink RX1 59 yX1_nextOf, Cond.instanceMethod yX1_nextOf, Cond.selects RX1 yX1_nextOf yX1_nextOf, Cond.code yX1_nextOf cX1_nextOf 2 (some .int), Cond.methodLink RX1 62 yX2_runsMade, Cond.instanceMethod yX2_runsMade, Cond.selects RX2 yX2_runsMade yX2_runsMade, Cond.code yX2_runsMade cX2_runsMade 1 (some .int), Cond.fieldLink RX2 20 "SelfRows$Row" "counts" "[I", Cond.methodLink RX1 52 yX1_grow, Cond.instanceMethod yX1_grow, Cond.selects RX1 yX1_grow yX1_grow, Cond.code yX1_grow cX1_grow 6 none, Cond.methodLink RX1 65 yX1_lettersOf, Cond.instanceMethod yX1_lettersOf]
def wsX5_count_r3 : List Cond := [Cond.selects RX1 yX1_lettersOf yX1_lettersOf, Cond.code yX1_lettersOf cX1_lettersOf 3 (some (.object "SelfRows$Alphabet")), Cond.fieldLink RX1 23 "SelfRows$Ring" "alphabetOfRow" "[I", Cond.fieldLink RX1 11 "SelfRows$Ring" "alphabets" "[LSelfRows$Alphabet;", Cond.methodLink RX1 86 yX1_hasAlphabet, Cond.instanceMethod yX1_hasAlphabet, Cond.selects RX1 yX1_hasAlphabet yX1_hasAlphabet, Cond.code yX1_hasAlphabet cX1_hasAlphabet 2 (some .boolean), Cond.methodLink RX1 69 yX0_letterOfRun, Cond.instanceMethod yX0_letterOfRun, Cond.selects RX0 yX0_letterOfRun yX0_letterOfRun, Cond.initialized RX0, Cond.code yX0_letterOfRun cX0_letterOfRun 3 (some .int), Cond.fieldLink RX0 15 "SelfRows$Alphabet" "size" "I", Cond.fieldLink RX0 11 "SelfRows$Alphabet" "letters" "[I", Cond.methodLink RX1 72 yX1_lengthTold, Cond.instanceMethod yX1_lengthTold, Cond.selects RX1 yX1_lengthTold yX1_lengthTold, Cond.code yX1_lengthTold cX1_lengthTold 4 (some .int), Cond.methodLink RX1 83 yX2_number, Cond.instanceMethod yX2_number, Cond.selects RX2 yX2_number yX2_number, Cond.code yX2_number cX2_number 2 (some .int), Cond.fieldLink RX2 10 "SelfRows$Row" "numbers" "[B"]
def wsX5_count_r4 : List Cond := [Cond.methodLink RX1 76 yX2_putRun, Cond.instanceMethod yX2_putRun, Cond.selects RX2 yX2_putRun yX2_putRun, Cond.code yX2_putRun cX2_putRun 4 none, Cond.static yX5_isLetter, Cond.code yX5_isLetter cX5_isLetter 1 (some .boolean), Cond.methodLink RX2 31 yX2_keepCounts, Cond.instanceMethod yX2_keepCounts, Cond.selects RX2 yX2_keepCounts yX2_keepCounts, Cond.code yX2_keepCounts cX2_keepCounts 3 none, Cond.fieldLink RX2 16 "SelfRows$Row" "kept" "[I", Cond.methodLink RX1 79 yX2_putRunsToldBy, Cond.instanceMethod yX2_putRunsToldBy, Cond.selects RX2 yX2_putRunsToldBy yX2_putRunsToldBy, Cond.code yX2_putRunsToldBy cX2_putRunsToldBy 5 none, Cond.methodLink RX2 34 yX2_runsMade, Cond.methodLink RX2 38 yX2_made, Cond.methodLink RX2 40 yX0_letterOfRun, Cond.methodLink RX2 46 yX2_number, Cond.methodLink RX2 49 yX2_putRun, Cond.methodLink RX5 82 yX2_lettersWithin, Cond.instanceMethod yX2_lettersWithin, Cond.selects RX2 yX2_lettersWithin yX2_lettersWithin, Cond.code yX2_lettersWithin cX2_lettersWithin 5 (some .int)]
def wsX5_count_r5 : List Cond := [Cond.methodLink RX2 53 yX2_keptBefore, Cond.instanceMethod yX2_keptBefore, Cond.selects RX2 yX2_keptBefore yX2_keptBefore, Cond.code yX2_keptBefore cX2_keptBefore 4 (some .int)]
def wsX5_count : List Cond := .code yX5_count cX5_count 4 (some .int) :: ((wsX5_count_r1 ++ (wsX5_count_r2 ++ (wsX5_count_r3 ++ (wsX5_count_r4 ++ wsX5_count_r5)))) ++ wsX50 ++ wsX10 ++ wsX20 ++ wsX00)
def wsX5_sum_r1 : List Cond := [Cond.fieldLink RX5 10 "SelfRows" "circle" "LSelfRows$Ring;", Cond.constant RX5 67 (100000), Cond.methodLink RX5 64 yX1_hasRow, Cond.instanceMethod yX1_hasRow, Cond.selects RX1 yX1_hasRow yX1_hasRow, Cond.initialized RX1, Cond.code yX1_hasRow cX1_hasRow 2 (some .boolean), Cond.fieldLink RX1 27 "SelfRows$Ring" "size" "I", Cond.fieldLink RX1 19 "SelfRows$Ring" "rows" "[LSelfRows$Row;", Cond.methodLink RX5 68 yX5_isOutside, Cond.static yX5_isOutside, Cond.initialized RX5, Cond.code yX5_isOutside cX5_isOutside 2 (some .boolean), Cond.methodLink RX5 72 yX1_rowOf, Cond.instanceMethod yX1_rowOf, Cond.selects RX1 yX1_rowOf yX1_rowOf, Cond.code yX1_rowOf cX1_rowOf 5 (some (.object "SelfRows$Row")), Cond.constant RX1 43 (300003), Cond.methodLink RX1 39 yX1_hasRow, Cond.methodLink RX1 44 yX2_made, Cond.instanceMethod yX2_made, Cond.selects RX2 yX2_made yX2_made, Cond.initialized RX2, Cond.code yX2_made cX2_made 1 (some .int)]
def wsX5_sum_r2 : List Cond := [Cond.fieldLink RX2 23 "SelfRows$Row" "made" "I", Cond.methodLink RX1 48 yX1_ripeFrom, Cond.instanceMethod yX1_ripeFrom, Cond.selects RX1 yX1_ripeFrom yX1_ripeFrom, Cond.code yX1_ripeFrom cX1_ripeFrom 4 (some .int), Cond.methodLink RX1 56 yX1_waits, Cond.instanceMethod yX1_waits, Cond.selects RX1 yX1_waits yX1_waits, Cond.code yX1_waits cX1_waits 3 (some .boolean), Cond.methodLink RX1 59 yX1_nextOf, Cond.instanceMethod yX1_nextOf, Cond.selects RX1 yX1_nextOf yX1_nextOf, Cond.code yX1_nextOf cX1_nextOf 2 (some .int), Cond.methodLink RX1 62 yX2_runsMade, Cond.instanceMethod yX2_runsMade, Cond.selects RX2 yX2_runsMade yX2_runsMade, Cond.code yX2_runsMade cX2_runsMade 1 (some .int), Cond.fieldLink RX2 20 "SelfRows$Row" "counts" "[I", Cond.methodLink RX1 52 yX1_grow, Cond.instanceMethod yX1_grow, Cond.selects RX1 yX1_grow yX1_grow, Cond.code yX1_grow cX1_grow 6 none, Cond.methodLink RX1 65 yX1_lettersOf, Cond.instanceMethod yX1_lettersOf]
def wsX5_sum_r3 : List Cond := [Cond.selects RX1 yX1_lettersOf yX1_lettersOf, Cond.code yX1_lettersOf cX1_lettersOf 3 (some (.object "SelfRows$Alphabet")), Cond.fieldLink RX1 23 "SelfRows$Ring" "alphabetOfRow" "[I", Cond.fieldLink RX1 11 "SelfRows$Ring" "alphabets" "[LSelfRows$Alphabet;", Cond.methodLink RX1 86 yX1_hasAlphabet, Cond.instanceMethod yX1_hasAlphabet, Cond.selects RX1 yX1_hasAlphabet yX1_hasAlphabet, Cond.code yX1_hasAlphabet cX1_hasAlphabet 2 (some .boolean), Cond.methodLink RX1 69 yX0_letterOfRun, Cond.instanceMethod yX0_letterOfRun, Cond.selects RX0 yX0_letterOfRun yX0_letterOfRun, Cond.initialized RX0, Cond.code yX0_letterOfRun cX0_letterOfRun 3 (some .int), Cond.fieldLink RX0 15 "SelfRows$Alphabet" "size" "I", Cond.fieldLink RX0 11 "SelfRows$Alphabet" "letters" "[I", Cond.methodLink RX1 72 yX1_lengthTold, Cond.instanceMethod yX1_lengthTold, Cond.selects RX1 yX1_lengthTold yX1_lengthTold, Cond.code yX1_lengthTold cX1_lengthTold 4 (some .int), Cond.methodLink RX1 83 yX2_number, Cond.instanceMethod yX2_number, Cond.selects RX2 yX2_number yX2_number, Cond.code yX2_number cX2_number 2 (some .int), Cond.fieldLink RX2 10 "SelfRows$Row" "numbers" "[B"]
def wsX5_sum_r4 : List Cond := [Cond.methodLink RX1 76 yX2_putRun, Cond.instanceMethod yX2_putRun, Cond.selects RX2 yX2_putRun yX2_putRun, Cond.code yX2_putRun cX2_putRun 4 none, Cond.static yX5_isLetter, Cond.code yX5_isLetter cX5_isLetter 1 (some .boolean), Cond.methodLink RX2 31 yX2_keepCounts, Cond.instanceMethod yX2_keepCounts, Cond.selects RX2 yX2_keepCounts yX2_keepCounts, Cond.code yX2_keepCounts cX2_keepCounts 3 none, Cond.fieldLink RX2 16 "SelfRows$Row" "kept" "[I", Cond.methodLink RX1 79 yX2_putRunsToldBy, Cond.instanceMethod yX2_putRunsToldBy, Cond.selects RX2 yX2_putRunsToldBy yX2_putRunsToldBy, Cond.code yX2_putRunsToldBy cX2_putRunsToldBy 5 none, Cond.methodLink RX2 34 yX2_runsMade, Cond.methodLink RX2 38 yX2_made, Cond.methodLink RX2 40 yX0_letterOfRun, Cond.methodLink RX2 46 yX2_number, Cond.methodLink RX2 49 yX2_putRun, Cond.methodLink RX5 86 yX2_sumWithin, Cond.instanceMethod yX2_sumWithin, Cond.selects RX2 yX2_sumWithin yX2_sumWithin, Cond.code yX2_sumWithin cX2_sumWithin 4 (some .int)]
def wsX5_sum_r5 : List Cond := [Cond.methodLink RX2 57 yX2_lettersWithin, Cond.instanceMethod yX2_lettersWithin, Cond.selects RX2 yX2_lettersWithin yX2_lettersWithin, Cond.code yX2_lettersWithin cX2_lettersWithin 5 (some .int), Cond.methodLink RX2 53 yX2_keptBefore, Cond.instanceMethod yX2_keptBefore, Cond.selects RX2 yX2_keptBefore yX2_keptBefore, Cond.code yX2_keptBefore cX2_keptBefore 4 (some .int)]
def wsX5_sum : List Cond := .code yX5_sum cX5_sum 3 (some .int) :: ((wsX5_sum_r1 ++ (wsX5_sum_r2 ++ (wsX5_sum_r3 ++ (wsX5_sum_r4 ++ wsX5_sum_r5)))) ++ wsX50 ++ wsX10 ++ wsX20 ++ wsX00)
def wsX5_run_r1 : List Cond := [Cond.fieldLink RX5 10 "SelfRows" "circle" "LSelfRows$Ring;", Cond.constant RX5 67 (100000), Cond.methodLink RX5 64 yX1_hasRow, Cond.instanceMethod yX1_hasRow, Cond.selects RX1 yX1_hasRow yX1_hasRow, Cond.initialized RX1, Cond.code yX1_hasRow cX1_hasRow 2 (some .boolean), Cond.fieldLink RX1 27 "SelfRows$Ring" "size" "I", Cond.fieldLink RX1 19 "SelfRows$Ring" "rows" "[LSelfRows$Row;", Cond.methodLink RX5 68 yX5_isOutside, Cond.static yX5_isOutside, Cond.initialized RX5, Cond.code yX5_isOutside cX5_isOutside 2 (some .boolean), Cond.methodLink RX5 72 yX1_rowOf, Cond.instanceMethod yX1_rowOf, Cond.selects RX1 yX1_rowOf yX1_rowOf, Cond.code yX1_rowOf cX1_rowOf 5 (some (.object "SelfRows$Row")), Cond.constant RX1 43 (300003), Cond.methodLink RX1 39 yX1_hasRow, Cond.methodLink RX1 44 yX2_made, Cond.instanceMethod yX2_made, Cond.selects RX2 yX2_made yX2_made, Cond.initialized RX2, Cond.code yX2_made cX2_made 1 (some .int)]
def wsX5_run_r2 : List Cond := [Cond.fieldLink RX2 23 "SelfRows$Row" "made" "I", Cond.methodLink RX1 48 yX1_ripeFrom, Cond.instanceMethod yX1_ripeFrom, Cond.selects RX1 yX1_ripeFrom yX1_ripeFrom, Cond.code yX1_ripeFrom cX1_ripeFrom 4 (some .int), Cond.methodLink RX1 56 yX1_waits, Cond.instanceMethod yX1_waits, Cond.selects RX1 yX1_waits yX1_waits, Cond.code yX1_waits cX1_waits 3 (some .boolean), Cond.methodLink RX1 59 yX1_nextOf, Cond.instanceMethod yX1_nextOf, Cond.selects RX1 yX1_nextOf yX1_nextOf, Cond.code yX1_nextOf cX1_nextOf 2 (some .int), Cond.methodLink RX1 62 yX2_runsMade, Cond.instanceMethod yX2_runsMade, Cond.selects RX2 yX2_runsMade yX2_runsMade, Cond.code yX2_runsMade cX2_runsMade 1 (some .int), Cond.fieldLink RX2 20 "SelfRows$Row" "counts" "[I", Cond.methodLink RX1 52 yX1_grow, Cond.instanceMethod yX1_grow, Cond.selects RX1 yX1_grow yX1_grow, Cond.code yX1_grow cX1_grow 6 none, Cond.methodLink RX1 65 yX1_lettersOf, Cond.instanceMethod yX1_lettersOf]
def wsX5_run_r3 : List Cond := [Cond.selects RX1 yX1_lettersOf yX1_lettersOf, Cond.code yX1_lettersOf cX1_lettersOf 3 (some (.object "SelfRows$Alphabet")), Cond.fieldLink RX1 23 "SelfRows$Ring" "alphabetOfRow" "[I", Cond.fieldLink RX1 11 "SelfRows$Ring" "alphabets" "[LSelfRows$Alphabet;", Cond.methodLink RX1 86 yX1_hasAlphabet, Cond.instanceMethod yX1_hasAlphabet, Cond.selects RX1 yX1_hasAlphabet yX1_hasAlphabet, Cond.code yX1_hasAlphabet cX1_hasAlphabet 2 (some .boolean), Cond.methodLink RX1 69 yX0_letterOfRun, Cond.instanceMethod yX0_letterOfRun, Cond.selects RX0 yX0_letterOfRun yX0_letterOfRun, Cond.initialized RX0, Cond.code yX0_letterOfRun cX0_letterOfRun 3 (some .int), Cond.fieldLink RX0 15 "SelfRows$Alphabet" "size" "I", Cond.fieldLink RX0 11 "SelfRows$Alphabet" "letters" "[I", Cond.methodLink RX1 72 yX1_lengthTold, Cond.instanceMethod yX1_lengthTold, Cond.selects RX1 yX1_lengthTold yX1_lengthTold, Cond.code yX1_lengthTold cX1_lengthTold 4 (some .int), Cond.methodLink RX1 83 yX2_number, Cond.instanceMethod yX2_number, Cond.selects RX2 yX2_number yX2_number, Cond.code yX2_number cX2_number 2 (some .int), Cond.fieldLink RX2 10 "SelfRows$Row" "numbers" "[B"]
def wsX5_run_r4 : List Cond := [Cond.methodLink RX1 76 yX2_putRun, Cond.instanceMethod yX2_putRun, Cond.selects RX2 yX2_putRun yX2_putRun, Cond.code yX2_putRun cX2_putRun 4 none, Cond.static yX5_isLetter, Cond.code yX5_isLetter cX5_isLetter 1 (some .boolean), Cond.methodLink RX2 31 yX2_keepCounts, Cond.instanceMethod yX2_keepCounts, Cond.selects RX2 yX2_keepCounts yX2_keepCounts, Cond.code yX2_keepCounts cX2_keepCounts 3 none, Cond.fieldLink RX2 16 "SelfRows$Row" "kept" "[I", Cond.methodLink RX1 79 yX2_putRunsToldBy, Cond.instanceMethod yX2_putRunsToldBy, Cond.selects RX2 yX2_putRunsToldBy yX2_putRunsToldBy, Cond.code yX2_putRunsToldBy cX2_putRunsToldBy 5 none, Cond.methodLink RX2 34 yX2_runsMade, Cond.methodLink RX2 38 yX2_made, Cond.methodLink RX2 40 yX0_letterOfRun, Cond.methodLink RX2 46 yX2_number, Cond.methodLink RX2 49 yX2_putRun, Cond.methodLink RX5 89 yX2_runsWithin, Cond.instanceMethod yX2_runsWithin, Cond.selects RX2 yX2_runsWithin yX2_runsWithin, Cond.code yX2_runsWithin cX2_runsWithin 4 (some .int)]
def wsX5_run_r5 : List Cond := [Cond.methodLink RX2 53 yX2_keptBefore, Cond.instanceMethod yX2_keptBefore, Cond.selects RX2 yX2_keptBefore yX2_keptBefore, Cond.code yX2_keptBefore cX2_keptBefore 4 (some .int)]
def wsX5_run : List Cond := .code yX5_run cX5_run 3 (some .int) :: ((wsX5_run_r1 ++ (wsX5_run_r2 ++ (wsX5_run_r3 ++ (wsX5_run_r4 ++ wsX5_run_r5)))) ++ wsX50 ++ wsX10 ++ wsX20 ++ wsX00)
def wsX5_begins_r1 : List Cond := [Cond.fieldLink RX5 10 "SelfRows" "circle" "LSelfRows$Ring;", Cond.constant RX5 67 (100000), Cond.methodLink RX5 64 yX1_hasRow, Cond.instanceMethod yX1_hasRow, Cond.selects RX1 yX1_hasRow yX1_hasRow, Cond.initialized RX1, Cond.code yX1_hasRow cX1_hasRow 2 (some .boolean), Cond.fieldLink RX1 27 "SelfRows$Ring" "size" "I", Cond.fieldLink RX1 19 "SelfRows$Ring" "rows" "[LSelfRows$Row;", Cond.methodLink RX5 68 yX5_isOutside, Cond.static yX5_isOutside, Cond.initialized RX5, Cond.code yX5_isOutside cX5_isOutside 2 (some .boolean), Cond.methodLink RX5 92 yX1_nextOf, Cond.instanceMethod yX1_nextOf, Cond.selects RX1 yX1_nextOf yX1_nextOf, Cond.code yX1_nextOf cX1_nextOf 2 (some .int), Cond.methodLink RX5 72 yX1_rowOf, Cond.instanceMethod yX1_rowOf, Cond.selects RX1 yX1_rowOf yX1_rowOf, Cond.code yX1_rowOf cX1_rowOf 5 (some (.object "SelfRows$Row")), Cond.constant RX1 43 (300003), Cond.methodLink RX1 39 yX1_hasRow, Cond.methodLink RX1 44 yX2_made]
def wsX5_begins_r2 : List Cond := [Cond.instanceMethod yX2_made, Cond.selects RX2 yX2_made yX2_made, Cond.initialized RX2, Cond.code yX2_made cX2_made 1 (some .int), Cond.fieldLink RX2 23 "SelfRows$Row" "made" "I", Cond.methodLink RX1 48 yX1_ripeFrom, Cond.instanceMethod yX1_ripeFrom, Cond.selects RX1 yX1_ripeFrom yX1_ripeFrom, Cond.code yX1_ripeFrom cX1_ripeFrom 4 (some .int), Cond.methodLink RX1 56 yX1_waits, Cond.instanceMethod yX1_waits, Cond.selects RX1 yX1_waits yX1_waits, Cond.code yX1_waits cX1_waits 3 (some .boolean), Cond.methodLink RX1 59 yX1_nextOf, Cond.methodLink RX1 62 yX2_runsMade, Cond.instanceMethod yX2_runsMade, Cond.selects RX2 yX2_runsMade yX2_runsMade, Cond.code yX2_runsMade cX2_runsMade 1 (some .int), Cond.fieldLink RX2 20 "SelfRows$Row" "counts" "[I", Cond.methodLink RX1 52 yX1_grow, Cond.instanceMethod yX1_grow, Cond.selects RX1 yX1_grow yX1_grow, Cond.code yX1_grow cX1_grow 6 none, Cond.methodLink RX1 65 yX1_lettersOf]
def wsX5_begins_r3 : List Cond := [Cond.instanceMethod yX1_lettersOf, Cond.selects RX1 yX1_lettersOf yX1_lettersOf, Cond.code yX1_lettersOf cX1_lettersOf 3 (some (.object "SelfRows$Alphabet")), Cond.fieldLink RX1 23 "SelfRows$Ring" "alphabetOfRow" "[I", Cond.fieldLink RX1 11 "SelfRows$Ring" "alphabets" "[LSelfRows$Alphabet;", Cond.methodLink RX1 86 yX1_hasAlphabet, Cond.instanceMethod yX1_hasAlphabet, Cond.selects RX1 yX1_hasAlphabet yX1_hasAlphabet, Cond.code yX1_hasAlphabet cX1_hasAlphabet 2 (some .boolean), Cond.methodLink RX1 69 yX0_letterOfRun, Cond.instanceMethod yX0_letterOfRun, Cond.selects RX0 yX0_letterOfRun yX0_letterOfRun, Cond.initialized RX0, Cond.code yX0_letterOfRun cX0_letterOfRun 3 (some .int), Cond.fieldLink RX0 15 "SelfRows$Alphabet" "size" "I", Cond.fieldLink RX0 11 "SelfRows$Alphabet" "letters" "[I", Cond.methodLink RX1 72 yX1_lengthTold, Cond.instanceMethod yX1_lengthTold, Cond.selects RX1 yX1_lengthTold yX1_lengthTold, Cond.code yX1_lengthTold cX1_lengthTold 4 (some .int), Cond.methodLink RX1 83 yX2_number, Cond.instanceMethod yX2_number, Cond.selects RX2 yX2_number yX2_number, Cond.code yX2_number cX2_number 2 (some .int)]
def wsX5_begins_r4 : List Cond := [Cond.fieldLink RX2 10 "SelfRows$Row" "numbers" "[B", Cond.methodLink RX1 76 yX2_putRun, Cond.instanceMethod yX2_putRun, Cond.selects RX2 yX2_putRun yX2_putRun, Cond.code yX2_putRun cX2_putRun 4 none, Cond.static yX5_isLetter, Cond.code yX5_isLetter cX5_isLetter 1 (some .boolean), Cond.methodLink RX2 31 yX2_keepCounts, Cond.instanceMethod yX2_keepCounts, Cond.selects RX2 yX2_keepCounts yX2_keepCounts, Cond.code yX2_keepCounts cX2_keepCounts 3 none, Cond.fieldLink RX2 16 "SelfRows$Row" "kept" "[I", Cond.methodLink RX1 79 yX2_putRunsToldBy, Cond.instanceMethod yX2_putRunsToldBy, Cond.selects RX2 yX2_putRunsToldBy yX2_putRunsToldBy, Cond.code yX2_putRunsToldBy cX2_putRunsToldBy 5 none, Cond.methodLink RX2 34 yX2_runsMade, Cond.methodLink RX2 38 yX2_made, Cond.methodLink RX2 40 yX0_letterOfRun, Cond.methodLink RX2 46 yX2_number, Cond.methodLink RX2 49 yX2_putRun, Cond.methodLink RX5 86 yX2_sumWithin, Cond.instanceMethod yX2_sumWithin, Cond.selects RX2 yX2_sumWithin yX2_sumWithin]
def wsX5_begins_r5 : List Cond := [Cond.code yX2_sumWithin cX2_sumWithin 4 (some .int), Cond.methodLink RX2 57 yX2_lettersWithin, Cond.instanceMethod yX2_lettersWithin, Cond.selects RX2 yX2_lettersWithin yX2_lettersWithin, Cond.code yX2_lettersWithin cX2_lettersWithin 5 (some .int), Cond.methodLink RX2 53 yX2_keptBefore, Cond.instanceMethod yX2_keptBefore, Cond.selects RX2 yX2_keptBefore yX2_keptBefore, Cond.code yX2_keptBefore cX2_keptBefore 4 (some .int)]
def wsX5_begins : List Cond := .code yX5_begins cX5_begins 4 (some .int) :: ((wsX5_begins_r1 ++ (wsX5_begins_r2 ++ (wsX5_begins_r3 ++ (wsX5_begins_r4 ++ wsX5_begins_r5)))) ++ wsX50 ++ wsX10 ++ wsX20 ++ wsX00)
def wsX5_off_r1 : List Cond := [Cond.fieldLink RX5 10 "SelfRows" "circle" "LSelfRows$Ring;", Cond.constant RX5 67 (100000), Cond.methodLink RX5 64 yX1_hasRow, Cond.instanceMethod yX1_hasRow, Cond.selects RX1 yX1_hasRow yX1_hasRow, Cond.initialized RX1, Cond.code yX1_hasRow cX1_hasRow 2 (some .boolean), Cond.fieldLink RX1 27 "SelfRows$Ring" "size" "I", Cond.fieldLink RX1 19 "SelfRows$Ring" "rows" "[LSelfRows$Row;", Cond.methodLink RX5 68 yX5_isOutside, Cond.static yX5_isOutside, Cond.initialized RX5, Cond.code yX5_isOutside cX5_isOutside 2 (some .boolean), Cond.methodLink RX5 72 yX1_rowOf, Cond.instanceMethod yX1_rowOf, Cond.selects RX1 yX1_rowOf yX1_rowOf, Cond.code yX1_rowOf cX1_rowOf 5 (some (.object "SelfRows$Row")), Cond.constant RX1 43 (300003), Cond.methodLink RX1 39 yX1_hasRow, Cond.methodLink RX1 44 yX2_made, Cond.instanceMethod yX2_made, Cond.selects RX2 yX2_made yX2_made, Cond.initialized RX2, Cond.code yX2_made cX2_made 1 (some .int)]
def wsX5_off_r2 : List Cond := [Cond.fieldLink RX2 23 "SelfRows$Row" "made" "I", Cond.methodLink RX1 48 yX1_ripeFrom, Cond.instanceMethod yX1_ripeFrom, Cond.selects RX1 yX1_ripeFrom yX1_ripeFrom, Cond.code yX1_ripeFrom cX1_ripeFrom 4 (some .int), Cond.methodLink RX1 56 yX1_waits, Cond.instanceMethod yX1_waits, Cond.selects RX1 yX1_waits yX1_waits, Cond.code yX1_waits cX1_waits 3 (some .boolean), Cond.methodLink RX1 59 yX1_nextOf, Cond.instanceMethod yX1_nextOf, Cond.selects RX1 yX1_nextOf yX1_nextOf, Cond.code yX1_nextOf cX1_nextOf 2 (some .int), Cond.methodLink RX1 62 yX2_runsMade, Cond.instanceMethod yX2_runsMade, Cond.selects RX2 yX2_runsMade yX2_runsMade, Cond.code yX2_runsMade cX2_runsMade 1 (some .int), Cond.fieldLink RX2 20 "SelfRows$Row" "counts" "[I", Cond.methodLink RX1 52 yX1_grow, Cond.instanceMethod yX1_grow, Cond.selects RX1 yX1_grow yX1_grow, Cond.code yX1_grow cX1_grow 6 none, Cond.methodLink RX1 65 yX1_lettersOf, Cond.instanceMethod yX1_lettersOf]
def wsX5_off_r3 : List Cond := [Cond.selects RX1 yX1_lettersOf yX1_lettersOf, Cond.code yX1_lettersOf cX1_lettersOf 3 (some (.object "SelfRows$Alphabet")), Cond.fieldLink RX1 23 "SelfRows$Ring" "alphabetOfRow" "[I", Cond.fieldLink RX1 11 "SelfRows$Ring" "alphabets" "[LSelfRows$Alphabet;", Cond.methodLink RX1 86 yX1_hasAlphabet, Cond.instanceMethod yX1_hasAlphabet, Cond.selects RX1 yX1_hasAlphabet yX1_hasAlphabet, Cond.code yX1_hasAlphabet cX1_hasAlphabet 2 (some .boolean), Cond.methodLink RX1 69 yX0_letterOfRun, Cond.instanceMethod yX0_letterOfRun, Cond.selects RX0 yX0_letterOfRun yX0_letterOfRun, Cond.initialized RX0, Cond.code yX0_letterOfRun cX0_letterOfRun 3 (some .int), Cond.fieldLink RX0 15 "SelfRows$Alphabet" "size" "I", Cond.fieldLink RX0 11 "SelfRows$Alphabet" "letters" "[I", Cond.methodLink RX1 72 yX1_lengthTold, Cond.instanceMethod yX1_lengthTold, Cond.selects RX1 yX1_lengthTold yX1_lengthTold, Cond.code yX1_lengthTold cX1_lengthTold 4 (some .int), Cond.methodLink RX1 83 yX2_number, Cond.instanceMethod yX2_number, Cond.selects RX2 yX2_number yX2_number, Cond.code yX2_number cX2_number 2 (some .int), Cond.fieldLink RX2 10 "SelfRows$Row" "numbers" "[B"]
def wsX5_off_r4 : List Cond := [Cond.methodLink RX1 76 yX2_putRun, Cond.instanceMethod yX2_putRun, Cond.selects RX2 yX2_putRun yX2_putRun, Cond.code yX2_putRun cX2_putRun 4 none, Cond.static yX5_isLetter, Cond.code yX5_isLetter cX5_isLetter 1 (some .boolean), Cond.methodLink RX2 31 yX2_keepCounts, Cond.instanceMethod yX2_keepCounts, Cond.selects RX2 yX2_keepCounts yX2_keepCounts, Cond.code yX2_keepCounts cX2_keepCounts 3 none, Cond.fieldLink RX2 16 "SelfRows$Row" "kept" "[I", Cond.methodLink RX1 79 yX2_putRunsToldBy, Cond.instanceMethod yX2_putRunsToldBy, Cond.selects RX2 yX2_putRunsToldBy yX2_putRunsToldBy, Cond.code yX2_putRunsToldBy cX2_putRunsToldBy 5 none, Cond.methodLink RX2 34 yX2_runsMade, Cond.methodLink RX2 38 yX2_made, Cond.methodLink RX2 40 yX0_letterOfRun, Cond.methodLink RX2 46 yX2_number, Cond.methodLink RX2 49 yX2_putRun, Cond.methodLink RX5 95 yX2_greatestOff, Cond.instanceMethod yX2_greatestOff, Cond.selects RX2 yX2_greatestOff yX2_greatestOff, Cond.code yX2_greatestOff cX2_greatestOff 7 (some .int)]
def wsX5_off_r5 : List Cond := [Cond.methodLink RX2 60 Lib.Math.abs.name, Cond.static Lib.Math.abs.name, Cond.initialized "java/lang/Math", Cond.code Lib.Math.abs.name Lib.Math.abs.code 1 (some .int), Cond.methodLink RX2 65 Lib.Math.max.name, Cond.static Lib.Math.max.name, Cond.code Lib.Math.max.name Lib.Math.max.code 2 (some .int)]
def wsX5_off : List Cond := .code yX5_off cX5_off 5 (some .int) :: ((wsX5_off_r1 ++ (wsX5_off_r2 ++ (wsX5_off_r3 ++ (wsX5_off_r4 ++ wsX5_off_r5)))) ++ wsX50 ++ wsX10 ++ wsX20 ++ wsX00)
def wsX5_add : List Cond := .code yX5_add cX5_add 2 (some .int) :: ([.fieldLink RX5 19 "SelfRows" "word" "LSelfRows$Word;", .methodLink RX5 99 yX5_isLetter, .static yX5_isLetter, .initialized RX5, .code yX5_isLetter cX5_isLetter 1 (some .boolean), .methodLink RX5 102 yX4_put, .instanceMethod yX4_put, .selects RX4 yX4_put yX4_put, .initialized RX4, .code yX4_put cX4_put 2 (some .boolean), .fieldLink RX4 15 "SelfRows$Word" "size" "I", .fieldLink RX4 9 "SelfRows$Word" "letters" "[I", .methodLink RX5 105 yX4_size, .instanceMethod yX4_size, .selects RX4 yX4_size yX4_size, .code yX4_size cX4_size 1 (some .int)] ++ wsX50 ++ wsX40)
def wsX5_take_r1 : List Cond := [Cond.fieldLink RX5 10 "SelfRows" "circle" "LSelfRows$Ring;", Cond.constant RX5 67 (100000), Cond.fieldLink RX5 19 "SelfRows" "word" "LSelfRows$Word;", Cond.methodLink RX5 64 yX1_hasRow, Cond.instanceMethod yX1_hasRow, Cond.selects RX1 yX1_hasRow yX1_hasRow, Cond.initialized RX1, Cond.code yX1_hasRow cX1_hasRow 2 (some .boolean), Cond.fieldLink RX1 27 "SelfRows$Ring" "size" "I", Cond.fieldLink RX1 19 "SelfRows$Ring" "rows" "[LSelfRows$Row;", Cond.methodLink RX5 68 yX5_isOutside, Cond.static yX5_isOutside, Cond.initialized RX5, Cond.code yX5_isOutside cX5_isOutside 2 (some .boolean), Cond.methodLink RX5 72 yX1_rowOf, Cond.instanceMethod yX1_rowOf, Cond.selects RX1 yX1_rowOf yX1_rowOf, Cond.code yX1_rowOf cX1_rowOf 5 (some (.object "SelfRows$Row")), Cond.constant RX1 43 (300003), Cond.methodLink RX1 39 yX1_hasRow, Cond.methodLink RX1 44 yX2_made, Cond.instanceMethod yX2_made, Cond.selects RX2 yX2_made yX2_made, Cond.initialized RX2]
def wsX5_take_r2 : List Cond := [Cond.code yX2_made cX2_made 1 (some .int), Cond.fieldLink RX2 23 "SelfRows$Row" "made" "I", Cond.methodLink RX1 48 yX1_ripeFrom, Cond.instanceMethod yX1_ripeFrom, Cond.selects RX1 yX1_ripeFrom yX1_ripeFrom, Cond.code yX1_ripeFrom cX1_ripeFrom 4 (some .int), Cond.methodLink RX1 56 yX1_waits, Cond.instanceMethod yX1_waits, Cond.selects RX1 yX1_waits yX1_waits, Cond.code yX1_waits cX1_waits 3 (some .boolean), Cond.methodLink RX1 59 yX1_nextOf, Cond.instanceMethod yX1_nextOf, Cond.selects RX1 yX1_nextOf yX1_nextOf, Cond.code yX1_nextOf cX1_nextOf 2 (some .int), Cond.methodLink RX1 62 yX2_runsMade, Cond.instanceMethod yX2_runsMade, Cond.selects RX2 yX2_runsMade yX2_runsMade, Cond.code yX2_runsMade cX2_runsMade 1 (some .int), Cond.fieldLink RX2 20 "SelfRows$Row" "counts" "[I", Cond.methodLink RX1 52 yX1_grow, Cond.instanceMethod yX1_grow, Cond.selects RX1 yX1_grow yX1_grow, Cond.code yX1_grow cX1_grow 6 none, Cond.methodLink RX1 65 yX1_lettersOf]
def wsX5_take_r3 : List Cond := [Cond.instanceMethod yX1_lettersOf, Cond.selects RX1 yX1_lettersOf yX1_lettersOf, Cond.code yX1_lettersOf cX1_lettersOf 3 (some (.object "SelfRows$Alphabet")), Cond.fieldLink RX1 23 "SelfRows$Ring" "alphabetOfRow" "[I", Cond.fieldLink RX1 11 "SelfRows$Ring" "alphabets" "[LSelfRows$Alphabet;", Cond.methodLink RX1 86 yX1_hasAlphabet, Cond.instanceMethod yX1_hasAlphabet, Cond.selects RX1 yX1_hasAlphabet yX1_hasAlphabet, Cond.code yX1_hasAlphabet cX1_hasAlphabet 2 (some .boolean), Cond.methodLink RX1 69 yX0_letterOfRun, Cond.instanceMethod yX0_letterOfRun, Cond.selects RX0 yX0_letterOfRun yX0_letterOfRun, Cond.initialized RX0, Cond.code yX0_letterOfRun cX0_letterOfRun 3 (some .int), Cond.fieldLink RX0 15 "SelfRows$Alphabet" "size" "I", Cond.fieldLink RX0 11 "SelfRows$Alphabet" "letters" "[I", Cond.methodLink RX1 72 yX1_lengthTold, Cond.instanceMethod yX1_lengthTold, Cond.selects RX1 yX1_lengthTold yX1_lengthTold, Cond.code yX1_lengthTold cX1_lengthTold 4 (some .int), Cond.methodLink RX1 83 yX2_number, Cond.instanceMethod yX2_number, Cond.selects RX2 yX2_number yX2_number, Cond.code yX2_number cX2_number 2 (some .int)]
def wsX5_take_r4 : List Cond := [Cond.fieldLink RX2 10 "SelfRows$Row" "numbers" "[B", Cond.methodLink RX1 76 yX2_putRun, Cond.instanceMethod yX2_putRun, Cond.selects RX2 yX2_putRun yX2_putRun, Cond.code yX2_putRun cX2_putRun 4 none, Cond.static yX5_isLetter, Cond.code yX5_isLetter cX5_isLetter 1 (some .boolean), Cond.methodLink RX2 31 yX2_keepCounts, Cond.instanceMethod yX2_keepCounts, Cond.selects RX2 yX2_keepCounts yX2_keepCounts, Cond.code yX2_keepCounts cX2_keepCounts 3 none, Cond.fieldLink RX2 16 "SelfRows$Row" "kept" "[I", Cond.methodLink RX1 79 yX2_putRunsToldBy, Cond.instanceMethod yX2_putRunsToldBy, Cond.selects RX2 yX2_putRunsToldBy yX2_putRunsToldBy, Cond.code yX2_putRunsToldBy cX2_putRunsToldBy 5 none, Cond.methodLink RX2 34 yX2_runsMade, Cond.methodLink RX2 38 yX2_made, Cond.methodLink RX2 40 yX0_letterOfRun, Cond.methodLink RX2 46 yX2_number, Cond.methodLink RX2 49 yX2_putRun, Cond.methodLink RX5 109 yX4_empty, Cond.instanceMethod yX4_empty, Cond.selects RX4 yX4_empty yX4_empty]
def wsX5_take_r5 : List Cond := [Cond.initialized RX4, Cond.code yX4_empty cX4_empty 1 none, Cond.fieldLink RX4 15 "SelfRows$Word" "size" "I", Cond.methodLink RX5 76 yX2_number, Cond.methodLink RX5 102 yX4_put, Cond.instanceMethod yX4_put, Cond.selects RX4 yX4_put yX4_put, Cond.code yX4_put cX4_put 2 (some .boolean), Cond.fieldLink RX4 9 "SelfRows$Word" "letters" "[I"]
def wsX5_take : List Cond := .code yX5_take cX5_take 6 (some .int) :: ((wsX5_take_r1 ++ (wsX5_take_r2 ++ (wsX5_take_r3 ++ (wsX5_take_r4 ++ wsX5_take_r5)))) ++ wsX50 ++ wsX10 ++ wsX20 ++ wsX00 ++ wsX40)
def wsX5_clear : List Cond := .code yX5_clear cX5_clear 2 (some .int) :: ([.fieldLink RX5 19 "SelfRows" "word" "LSelfRows$Word;", .methodLink RX5 105 yX4_size, .instanceMethod yX4_size, .selects RX4 yX4_size yX4_size, .initialized RX4, .code yX4_size cX4_size 1 (some .int), .fieldLink RX4 15 "SelfRows$Word" "size" "I", .methodLink RX5 109 yX4_empty, .instanceMethod yX4_empty, .selects RX4 yX4_empty yX4_empty, .code yX4_empty cX4_empty 1 none] ++ wsX50 ++ wsX40)
def wsX5_letter : List Cond := .code yX5_letter cX5_letter 2 (some .int) :: ([.fieldLink RX5 19 "SelfRows" "word" "LSelfRows$Word;", .methodLink RX5 112 yX4_letterAt, .instanceMethod yX4_letterAt, .selects RX4 yX4_letterAt yX4_letterAt, .initialized RX4, .code yX4_letterAt cX4_letterAt 2 (some .int), .fieldLink RX4 15 "SelfRows$Word" "size" "I", .fieldLink RX4 9 "SelfRows$Word" "letters" "[I"] ++ wsX50 ++ wsX40)
def wsX5_runs : List Cond := .code yX5_runs cX5_runs 1 (some .int) :: ([.fieldLink RX5 19 "SelfRows" "word" "LSelfRows$Word;", .methodLink RX5 115 yX4_runsInIt, .instanceMethod yX4_runsInIt, .selects RX4 yX4_runsInIt yX4_runsInIt, .initialized RX4, .code yX4_runsInIt cX4_runsInIt 3 (some .int), .fieldLink RX4 15 "SelfRows$Word" "size" "I", .methodLink RX4 39 yX4_isEndOfRun, .instanceMethod yX4_isEndOfRun, .selects RX4 yX4_isEndOfRun yX4_isEndOfRun, .code yX4_isEndOfRun cX4_isEndOfRun 2 (some .boolean), .methodLink RX4 29 yX4_letterAt, .instanceMethod yX4_letterAt, .selects RX4 yX4_letterAt yX4_letterAt, .code yX4_letterAt cX4_letterAt 2 (some .int), .fieldLink RX4 9 "SelfRows$Word" "letters" "[I"] ++ wsX50 ++ wsX40)
def wsX5_shorten_r1 : List Cond := [Cond.fieldLink RX5 19 "SelfRows" "word" "LSelfRows$Word;", Cond.methodLink RX5 99 yX5_isLetter, Cond.static yX5_isLetter, Cond.initialized RX5, Cond.code yX5_isLetter cX5_isLetter 1 (some .boolean), Cond.methodLink RX5 118 yX4_longestRun, Cond.instanceMethod yX4_longestRun, Cond.selects RX4 yX4_longestRun yX4_longestRun, Cond.initialized RX4, Cond.code yX4_longestRun cX4_longestRun 4 (some .int), Cond.fieldLink RX4 15 "SelfRows$Word" "size" "I", Cond.methodLink RX4 33 Lib.Math.max.name, Cond.static Lib.Math.max.name, Cond.initialized "java/lang/Math", Cond.code Lib.Math.max.name Lib.Math.max.code 2 (some .int), Cond.methodLink RX4 39 yX4_isEndOfRun, Cond.instanceMethod yX4_isEndOfRun, Cond.selects RX4 yX4_isEndOfRun yX4_isEndOfRun, Cond.code yX4_isEndOfRun cX4_isEndOfRun 2 (some .boolean), Cond.methodLink RX4 29 yX4_letterAt, Cond.instanceMethod yX4_letterAt, Cond.selects RX4 yX4_letterAt yX4_letterAt, Cond.code yX4_letterAt cX4_letterAt 2 (some .int), Cond.fieldLink RX4 9 "SelfRows$Word" "letters" "[I"]
def wsX5_shorten_r2 : List Cond := [Cond.methodLink RX5 121 yX4_becomeShorter, Cond.instanceMethod yX4_becomeShorter, Cond.selects RX4 yX4_becomeShorter yX4_becomeShorter, Cond.code yX4_becomeShorter cX4_becomeShorter 7 none, Cond.methodLink RX4 42 yX4_change, Cond.instanceMethod yX4_change, Cond.selects RX4 yX4_change yX4_change, Cond.code yX4_change cX4_change 3 none, Cond.methodLink RX5 105 yX4_size, Cond.instanceMethod yX4_size, Cond.selects RX4 yX4_size yX4_size, Cond.code yX4_size cX4_size 1 (some .int)]
def wsX5_shorten : List Cond := .code yX5_shorten cX5_shorten 2 (some .int) :: ((wsX5_shorten_r1 ++ wsX5_shorten_r2) ++ wsX50 ++ wsX40)
def wsX5_lengthen_r1 : List Cond := [Cond.fieldLink RX5 10 "SelfRows" "circle" "LSelfRows$Ring;", Cond.fieldLink RX5 19 "SelfRows" "word" "LSelfRows$Word;", Cond.fieldLink RX5 23 "SelfRows" "spare" "LSelfRows$Word;", Cond.methodLink RX5 43 yX1_alphabetNamed, Cond.instanceMethod yX1_alphabetNamed, Cond.selects RX1 yX1_alphabetNamed yX1_alphabetNamed, Cond.initialized RX1, Cond.code yX1_alphabetNamed cX1_alphabetNamed 3 (some (.object "SelfRows$Alphabet")), Cond.fieldLink RX1 11 "SelfRows$Ring" "alphabets" "[LSelfRows$Alphabet;", Cond.methodLink RX5 125 yX0_size, Cond.instanceMethod yX0_size, Cond.selects RX0 yX0_size yX0_size, Cond.initialized RX0, Cond.code yX0_size cX0_size 1 (some .int), Cond.fieldLink RX0 15 "SelfRows$Alphabet" "size" "I", Cond.methodLink RX5 126 yX4_total, Cond.instanceMethod yX4_total, Cond.selects RX4 yX4_total yX4_total, Cond.initialized RX4, Cond.code yX4_total cX4_total 3 (some .int), Cond.fieldLink RX4 15 "SelfRows$Word" "size" "I", Cond.methodLink RX4 29 yX4_letterAt, Cond.instanceMethod yX4_letterAt, Cond.selects RX4 yX4_letterAt yX4_letterAt]
def wsX5_lengthen_r2 : List Cond := [Cond.code yX4_letterAt cX4_letterAt 2 (some .int), Cond.fieldLink RX4 9 "SelfRows$Word" "letters" "[I", Cond.methodLink RX5 129 yX4_become, Cond.instanceMethod yX4_become, Cond.selects RX4 yX4_become yX4_become, Cond.code yX4_become cX4_become 3 none, Cond.methodLink RX4 23 yX4_empty, Cond.instanceMethod yX4_empty, Cond.selects RX4 yX4_empty yX4_empty, Cond.code yX4_empty cX4_empty 1 none, Cond.methodLink RX4 26 yX4_size, Cond.instanceMethod yX4_size, Cond.selects RX4 yX4_size yX4_size, Cond.code yX4_size cX4_size 1 (some .int), Cond.methodLink RX4 19 yX4_put, Cond.instanceMethod yX4_put, Cond.selects RX4 yX4_put yX4_put, Cond.code yX4_put cX4_put 2 (some .boolean), Cond.methodLink RX5 109 yX4_empty, Cond.methodLink RX5 105 yX4_size, Cond.methodLink RX5 133 yX0_letterOfRun, Cond.instanceMethod yX0_letterOfRun, Cond.selects RX0 yX0_letterOfRun yX0_letterOfRun, Cond.code yX0_letterOfRun cX0_letterOfRun 3 (some .int)]
def wsX5_lengthen_r3 : List Cond := [Cond.fieldLink RX0 11 "SelfRows$Alphabet" "letters" "[I", Cond.methodLink RX5 112 yX4_letterAt, Cond.methodLink RX5 136 yX4_putTimes, Cond.instanceMethod yX4_putTimes, Cond.selects RX4 yX4_putTimes yX4_putTimes, Cond.code yX4_putTimes cX4_putTimes 4 none]
def wsX5_lengthen : List Cond := .code yX5_lengthen cX5_lengthen 5 (some .int) :: ((wsX5_lengthen_r1 ++ (wsX5_lengthen_r2 ++ wsX5_lengthen_r3)) ++ wsX50 ++ wsX10 ++ wsX00 ++ wsX40)
def wsX5_mirror : List Cond := .code yX5_mirror cX5_mirror 1 (some .int) :: ([.fieldLink RX5 19 "SelfRows" "word" "LSelfRows$Word;", .methodLink RX5 140 yX4_turnRound, .instanceMethod yX4_turnRound, .selects RX4 yX4_turnRound yX4_turnRound, .initialized RX4, .code yX4_turnRound cX4_turnRound 4 none, .fieldLink RX4 15 "SelfRows$Word" "size" "I", .methodLink RX4 29 yX4_letterAt, .instanceMethod yX4_letterAt, .selects RX4 yX4_letterAt yX4_letterAt, .code yX4_letterAt cX4_letterAt 2 (some .int), .fieldLink RX4 9 "SelfRows$Word" "letters" "[I", .methodLink RX4 42 yX4_change, .instanceMethod yX4_change, .selects RX4 yX4_change yX4_change, .code yX4_change cX4_change 3 none, .methodLink RX5 105 yX4_size, .instanceMethod yX4_size, .selects RX4 yX4_size yX4_size, .code yX4_size cX4_size 1 (some .int)] ++ wsX50 ++ wsX40)
def wsX5_turn_r1 : List Cond := [Cond.fieldLink RX5 10 "SelfRows" "circle" "LSelfRows$Ring;", Cond.fieldLink RX5 19 "SelfRows" "word" "LSelfRows$Word;", Cond.methodLink RX5 43 yX1_alphabetNamed, Cond.instanceMethod yX1_alphabetNamed, Cond.selects RX1 yX1_alphabetNamed yX1_alphabetNamed, Cond.initialized RX1, Cond.code yX1_alphabetNamed cX1_alphabetNamed 3 (some (.object "SelfRows$Alphabet")), Cond.fieldLink RX1 11 "SelfRows$Ring" "alphabets" "[LSelfRows$Alphabet;", Cond.methodLink RX5 143 yX4_replaceBy, Cond.instanceMethod yX4_replaceBy, Cond.selects RX4 yX4_replaceBy yX4_replaceBy, Cond.initialized RX4, Cond.code yX4_replaceBy cX4_replaceBy 5 (some .int), Cond.fieldLink RX4 15 "SelfRows$Word" "size" "I", Cond.methodLink RX4 29 yX4_letterAt, Cond.instanceMethod yX4_letterAt, Cond.selects RX4 yX4_letterAt yX4_letterAt, Cond.code yX4_letterAt cX4_letterAt 2 (some .int), Cond.fieldLink RX4 9 "SelfRows$Word" "letters" "[I", Cond.methodLink RX4 46 yX0_letterBehind, Cond.instanceMethod yX0_letterBehind, Cond.selects RX0 yX0_letterBehind yX0_letterBehind, Cond.initialized RX0, Cond.code yX0_letterBehind cX0_letterBehind 3 (some .int)]
def wsX5_turn_r2 : List Cond := [Cond.fieldLink RX0 15 "SelfRows$Alphabet" "size" "I", Cond.methodLink RX0 19 yX0_letterOfRun, Cond.instanceMethod yX0_letterOfRun, Cond.selects RX0 yX0_letterOfRun yX0_letterOfRun, Cond.code yX0_letterOfRun cX0_letterOfRun 3 (some .int), Cond.fieldLink RX0 11 "SelfRows$Alphabet" "letters" "[I", Cond.methodLink RX4 42 yX4_change, Cond.instanceMethod yX4_change, Cond.selects RX4 yX4_change yX4_change, Cond.code yX4_change cX4_change 3 none]
def wsX5_turn : List Cond := .code yX5_turn cX5_turn 3 (some .int) :: ((wsX5_turn_r1 ++ wsX5_turn_r2) ++ wsX50 ++ wsX10 ++ wsX40 ++ wsX00)
def wsX5_depthSpent_r1 : List Cond := [Cond.methodLink RX5 105 yX4_size, Cond.instanceMethod yX4_size, Cond.selects RX4 yX4_size yX4_size, Cond.initialized RX4, Cond.code yX4_size cX4_size 1 (some .int), Cond.fieldLink RX4 15 "SelfRows$Word" "size" "I", Cond.methodLink RX5 185 yX4_greatestLetter, Cond.instanceMethod yX4_greatestLetter, Cond.selects RX4 yX4_greatestLetter yX4_greatestLetter, Cond.code yX4_greatestLetter cX4_greatestLetter 3 (some .int), Cond.methodLink RX4 33 Lib.Math.max.name, Cond.static Lib.Math.max.name, Cond.initialized "java/lang/Math", Cond.code Lib.Math.max.name Lib.Math.max.code 2 (some .int), Cond.methodLink RX4 29 yX4_letterAt, Cond.instanceMethod yX4_letterAt, Cond.selects RX4 yX4_letterAt yX4_letterAt, Cond.code yX4_letterAt cX4_letterAt 2 (some .int), Cond.fieldLink RX4 9 "SelfRows$Word" "letters" "[I", Cond.methodLink RX5 118 yX4_longestRun, Cond.instanceMethod yX4_longestRun, Cond.selects RX4 yX4_longestRun yX4_longestRun, Cond.code yX4_longestRun cX4_longestRun 4 (some .int), Cond.methodLink RX4 39 yX4_isEndOfRun]
def wsX5_depthSpent_r2 : List Cond := [Cond.instanceMethod yX4_isEndOfRun, Cond.selects RX4 yX4_isEndOfRun yX4_isEndOfRun, Cond.code yX4_isEndOfRun cX4_isEndOfRun 2 (some .boolean), Cond.methodLink RX5 121 yX4_becomeShorter, Cond.instanceMethod yX4_becomeShorter, Cond.selects RX4 yX4_becomeShorter yX4_becomeShorter, Cond.code yX4_becomeShorter cX4_becomeShorter 7 none, Cond.methodLink RX4 42 yX4_change, Cond.instanceMethod yX4_change, Cond.selects RX4 yX4_change yX4_change, Cond.code yX4_change cX4_change 3 none]
def wsX5_depthSpent : List Cond := .code yX5_depthSpent cX5_depthSpent 3 (some .int) :: ((wsX5_depthSpent_r1 ++ wsX5_depthSpent_r2) ++ wsX40)
def wsX5_depth_r1 : List Cond := [Cond.fieldLink RX5 23 "SelfRows" "spare" "LSelfRows$Word;", Cond.fieldLink RX5 19 "SelfRows" "word" "LSelfRows$Word;", Cond.methodLink RX5 129 yX4_become, Cond.instanceMethod yX4_become, Cond.selects RX4 yX4_become yX4_become, Cond.initialized RX4, Cond.code yX4_become cX4_become 3 none, Cond.methodLink RX4 23 yX4_empty, Cond.instanceMethod yX4_empty, Cond.selects RX4 yX4_empty yX4_empty, Cond.code yX4_empty cX4_empty 1 none, Cond.fieldLink RX4 15 "SelfRows$Word" "size" "I", Cond.methodLink RX4 26 yX4_size, Cond.instanceMethod yX4_size, Cond.selects RX4 yX4_size yX4_size, Cond.code yX4_size cX4_size 1 (some .int), Cond.methodLink RX4 29 yX4_letterAt, Cond.instanceMethod yX4_letterAt, Cond.selects RX4 yX4_letterAt yX4_letterAt, Cond.code yX4_letterAt cX4_letterAt 2 (some .int), Cond.fieldLink RX4 9 "SelfRows$Word" "letters" "[I", Cond.methodLink RX4 19 yX4_put, Cond.instanceMethod yX4_put, Cond.selects RX4 yX4_put yX4_put]
def wsX5_depth_r2 : List Cond := [Cond.code yX4_put cX4_put 2 (some .boolean), Cond.methodLink RX5 147 yX5_depthSpent, Cond.static yX5_depthSpent, Cond.initialized RX5, Cond.code yX5_depthSpent cX5_depthSpent 3 (some .int), Cond.methodLink RX5 105 yX4_size, Cond.methodLink RX5 185 yX4_greatestLetter, Cond.instanceMethod yX4_greatestLetter, Cond.selects RX4 yX4_greatestLetter yX4_greatestLetter, Cond.code yX4_greatestLetter cX4_greatestLetter 3 (some .int), Cond.methodLink RX4 33 Lib.Math.max.name, Cond.static Lib.Math.max.name, Cond.initialized "java/lang/Math", Cond.code Lib.Math.max.name Lib.Math.max.code 2 (some .int), Cond.methodLink RX5 118 yX4_longestRun, Cond.instanceMethod yX4_longestRun, Cond.selects RX4 yX4_longestRun yX4_longestRun, Cond.code yX4_longestRun cX4_longestRun 4 (some .int), Cond.methodLink RX4 39 yX4_isEndOfRun, Cond.instanceMethod yX4_isEndOfRun, Cond.selects RX4 yX4_isEndOfRun yX4_isEndOfRun, Cond.code yX4_isEndOfRun cX4_isEndOfRun 2 (some .boolean), Cond.methodLink RX5 121 yX4_becomeShorter, Cond.instanceMethod yX4_becomeShorter]
def wsX5_depth_r3 : List Cond := [Cond.selects RX4 yX4_becomeShorter yX4_becomeShorter, Cond.code yX4_becomeShorter cX4_becomeShorter 7 none, Cond.methodLink RX4 42 yX4_change, Cond.instanceMethod yX4_change, Cond.selects RX4 yX4_change yX4_change, Cond.code yX4_change cX4_change 3 none]
def wsX5_depth : List Cond := .code yX5_depth cX5_depth 2 (some .int) :: ((wsX5_depth_r1 ++ (wsX5_depth_r2 ++ wsX5_depth_r3)) ++ wsX50 ++ wsX40)
def wsX5_manyMost : List Cond := .code yX5_manyMost cX5_manyMost 1 (some .int) :: ([])
def wsX5_standing_r1 : List Cond := [Cond.methodLink RX5 129 yX4_become, Cond.instanceMethod yX4_become, Cond.selects RX4 yX4_become yX4_become, Cond.initialized RX4, Cond.code yX4_become cX4_become 3 none, Cond.methodLink RX4 23 yX4_empty, Cond.instanceMethod yX4_empty, Cond.selects RX4 yX4_empty yX4_empty, Cond.code yX4_empty cX4_empty 1 none, Cond.fieldLink RX4 15 "SelfRows$Word" "size" "I", Cond.methodLink RX4 26 yX4_size, Cond.instanceMethod yX4_size, Cond.selects RX4 yX4_size yX4_size, Cond.code yX4_size cX4_size 1 (some .int), Cond.methodLink RX4 29 yX4_letterAt, Cond.instanceMethod yX4_letterAt, Cond.selects RX4 yX4_letterAt yX4_letterAt, Cond.code yX4_letterAt cX4_letterAt 2 (some .int), Cond.fieldLink RX4 9 "SelfRows$Word" "letters" "[I", Cond.methodLink RX4 19 yX4_put, Cond.instanceMethod yX4_put, Cond.selects RX4 yX4_put yX4_put, Cond.code yX4_put cX4_put 2 (some .boolean), Cond.methodLink RX5 147 yX5_depthSpent]
def wsX5_standing_r2 : List Cond := [Cond.static yX5_depthSpent, Cond.initialized RX5, Cond.code yX5_depthSpent cX5_depthSpent 3 (some .int), Cond.methodLink RX5 105 yX4_size, Cond.methodLink RX5 185 yX4_greatestLetter, Cond.instanceMethod yX4_greatestLetter, Cond.selects RX4 yX4_greatestLetter yX4_greatestLetter, Cond.code yX4_greatestLetter cX4_greatestLetter 3 (some .int), Cond.methodLink RX4 33 Lib.Math.max.name, Cond.static Lib.Math.max.name, Cond.initialized "java/lang/Math", Cond.code Lib.Math.max.name Lib.Math.max.code 2 (some .int), Cond.methodLink RX5 118 yX4_longestRun, Cond.instanceMethod yX4_longestRun, Cond.selects RX4 yX4_longestRun yX4_longestRun, Cond.code yX4_longestRun cX4_longestRun 4 (some .int), Cond.methodLink RX4 39 yX4_isEndOfRun, Cond.instanceMethod yX4_isEndOfRun, Cond.selects RX4 yX4_isEndOfRun yX4_isEndOfRun, Cond.code yX4_isEndOfRun cX4_isEndOfRun 2 (some .boolean), Cond.methodLink RX5 121 yX4_becomeShorter, Cond.instanceMethod yX4_becomeShorter, Cond.selects RX4 yX4_becomeShorter yX4_becomeShorter, Cond.code yX4_becomeShorter cX4_becomeShorter 7 none]
def wsX5_standing_r3 : List Cond := [Cond.methodLink RX4 42 yX4_change, Cond.instanceMethod yX4_change, Cond.selects RX4 yX4_change yX4_change, Cond.code yX4_change cX4_change 3 none, Cond.methodLink RX5 112 yX4_letterAt, Cond.methodLink RX5 102 yX4_put, Cond.methodLink RX5 154 yX5_standing, Cond.static yX5_standing, Cond.methodLink RX5 188 yX4_drop, Cond.instanceMethod yX4_drop, Cond.selects RX4 yX4_drop yX4_drop, Cond.code yX4_drop cX4_drop 1 none]
def wsX5_standing : List Cond := .code yX5_standing cX5_standing 9 (some .int) :: ((wsX5_standing_r1 ++ (wsX5_standing_r2 ++ wsX5_standing_r3)) ++ wsX40)
def wsX5_many_r1 : List Cond := [Cond.fieldLink RX5 36 "SelfRows" "manyDone" "I", Cond.fieldLink RX5 26 "SelfRows" "trial" "LSelfRows$Word;", Cond.fieldLink RX5 23 "SelfRows" "spare" "LSelfRows$Word;", Cond.methodLink RX5 151 yX5_manyMost, Cond.static yX5_manyMost, Cond.initialized RX5, Cond.code yX5_manyMost cX5_manyMost 1 (some .int), Cond.methodLink RX5 68 yX5_isOutside, Cond.static yX5_isOutside, Cond.code yX5_isOutside cX5_isOutside 2 (some .boolean), Cond.methodLink RX5 109 yX4_empty, Cond.instanceMethod yX4_empty, Cond.selects RX4 yX4_empty yX4_empty, Cond.initialized RX4, Cond.code yX4_empty cX4_empty 1 none, Cond.fieldLink RX4 15 "SelfRows$Word" "size" "I", Cond.methodLink RX5 154 yX5_standing, Cond.static yX5_standing, Cond.code yX5_standing cX5_standing 9 (some .int), Cond.methodLink RX5 129 yX4_become, Cond.instanceMethod yX4_become, Cond.selects RX4 yX4_become yX4_become, Cond.code yX4_become cX4_become 3 none, Cond.methodLink RX4 23 yX4_empty]
def wsX5_many_r2 : List Cond := [Cond.methodLink RX4 26 yX4_size, Cond.instanceMethod yX4_size, Cond.selects RX4 yX4_size yX4_size, Cond.code yX4_size cX4_size 1 (some .int), Cond.methodLink RX4 29 yX4_letterAt, Cond.instanceMethod yX4_letterAt, Cond.selects RX4 yX4_letterAt yX4_letterAt, Cond.code yX4_letterAt cX4_letterAt 2 (some .int), Cond.fieldLink RX4 9 "SelfRows$Word" "letters" "[I", Cond.methodLink RX4 19 yX4_put, Cond.instanceMethod yX4_put, Cond.selects RX4 yX4_put yX4_put, Cond.code yX4_put cX4_put 2 (some .boolean), Cond.methodLink RX5 147 yX5_depthSpent, Cond.static yX5_depthSpent, Cond.code yX5_depthSpent cX5_depthSpent 3 (some .int), Cond.methodLink RX5 105 yX4_size, Cond.methodLink RX5 185 yX4_greatestLetter, Cond.instanceMethod yX4_greatestLetter, Cond.selects RX4 yX4_greatestLetter yX4_greatestLetter, Cond.code yX4_greatestLetter cX4_greatestLetter 3 (some .int), Cond.methodLink RX4 33 Lib.Math.max.name, Cond.static Lib.Math.max.name, Cond.initialized "java/lang/Math"]
def wsX5_many_r3 : List Cond := [Cond.code Lib.Math.max.name Lib.Math.max.code 2 (some .int), Cond.methodLink RX5 118 yX4_longestRun, Cond.instanceMethod yX4_longestRun, Cond.selects RX4 yX4_longestRun yX4_longestRun, Cond.code yX4_longestRun cX4_longestRun 4 (some .int), Cond.methodLink RX4 39 yX4_isEndOfRun, Cond.instanceMethod yX4_isEndOfRun, Cond.selects RX4 yX4_isEndOfRun yX4_isEndOfRun, Cond.code yX4_isEndOfRun cX4_isEndOfRun 2 (some .boolean), Cond.methodLink RX5 121 yX4_becomeShorter, Cond.instanceMethod yX4_becomeShorter, Cond.selects RX4 yX4_becomeShorter yX4_becomeShorter, Cond.code yX4_becomeShorter cX4_becomeShorter 7 none, Cond.methodLink RX4 42 yX4_change, Cond.instanceMethod yX4_change, Cond.selects RX4 yX4_change yX4_change, Cond.code yX4_change cX4_change 3 none, Cond.methodLink RX5 112 yX4_letterAt, Cond.methodLink RX5 102 yX4_put, Cond.methodLink RX5 188 yX4_drop, Cond.instanceMethod yX4_drop, Cond.selects RX4 yX4_drop yX4_drop, Cond.code yX4_drop cX4_drop 1 none]
def wsX5_many : List Cond := .code yX5_many cX5_many 3 (some .int) :: ((wsX5_many_r1 ++ (wsX5_many_r2 ++ wsX5_many_r3)) ++ wsX50 ++ wsX40)
def wsX5_isMirror : List Cond := .code yX5_isMirror cX5_isMirror 1 (some .int) :: ([.fieldLink RX5 19 "SelfRows" "word" "LSelfRows$Word;", .methodLink RX5 158 yX4_isSameMirrored, .instanceMethod yX4_isSameMirrored, .selects RX4 yX4_isSameMirrored yX4_isSameMirrored, .initialized RX4, .code yX4_isSameMirrored cX4_isSameMirrored 3 (some .boolean), .fieldLink RX4 15 "SelfRows$Word" "size" "I", .methodLink RX4 29 yX4_letterAt, .instanceMethod yX4_letterAt, .selects RX4 yX4_letterAt yX4_letterAt, .code yX4_letterAt cX4_letterAt 2 (some .int), .fieldLink RX4 9 "SelfRows$Word" "letters" "[I"] ++ wsX50 ++ wsX40)
def wsX5_twice : List Cond := .code yX5_twice cX5_twice 1 (some .int) :: ([.fieldLink RX5 19 "SelfRows" "word" "LSelfRows$Word;", .methodLink RX5 162 yX4_leastTwice, .instanceMethod yX4_leastTwice, .selects RX4 yX4_leastTwice yX4_leastTwice, .initialized RX4, .code yX4_leastTwice cX4_leastTwice 2 (some .int), .fieldLink RX4 15 "SelfRows$Word" "size" "I", .methodLink RX4 51 yX4_hasTwice, .instanceMethod yX4_hasTwice, .selects RX4 yX4_hasTwice yX4_hasTwice, .code yX4_hasTwice cX4_hasTwice 4 (some .boolean), .methodLink RX4 29 yX4_letterAt, .instanceMethod yX4_letterAt, .selects RX4 yX4_letterAt yX4_letterAt, .code yX4_letterAt cX4_letterAt 2 (some .int), .fieldLink RX4 9 "SelfRows$Word" "letters" "[I"] ++ wsX50 ++ wsX40)
def wsX5_find_r1 : List Cond := [Cond.fieldLink RX5 10 "SelfRows" "circle" "LSelfRows$Ring;", Cond.constant RX5 67 (100000), Cond.fieldLink RX5 19 "SelfRows" "word" "LSelfRows$Word;", Cond.methodLink RX5 64 yX1_hasRow, Cond.instanceMethod yX1_hasRow, Cond.selects RX1 yX1_hasRow yX1_hasRow, Cond.initialized RX1, Cond.code yX1_hasRow cX1_hasRow 2 (some .boolean), Cond.fieldLink RX1 27 "SelfRows$Ring" "size" "I", Cond.fieldLink RX1 19 "SelfRows$Ring" "rows" "[LSelfRows$Row;", Cond.methodLink RX5 68 yX5_isOutside, Cond.static yX5_isOutside, Cond.initialized RX5, Cond.code yX5_isOutside cX5_isOutside 2 (some .boolean), Cond.methodLink RX5 72 yX1_rowOf, Cond.instanceMethod yX1_rowOf, Cond.selects RX1 yX1_rowOf yX1_rowOf, Cond.code yX1_rowOf cX1_rowOf 5 (some (.object "SelfRows$Row")), Cond.constant RX1 43 (300003), Cond.methodLink RX1 39 yX1_hasRow, Cond.methodLink RX1 44 yX2_made, Cond.instanceMethod yX2_made, Cond.selects RX2 yX2_made yX2_made, Cond.initialized RX2]
def wsX5_find_r2 : List Cond := [Cond.code yX2_made cX2_made 1 (some .int), Cond.fieldLink RX2 23 "SelfRows$Row" "made" "I", Cond.methodLink RX1 48 yX1_ripeFrom, Cond.instanceMethod yX1_ripeFrom, Cond.selects RX1 yX1_ripeFrom yX1_ripeFrom, Cond.code yX1_ripeFrom cX1_ripeFrom 4 (some .int), Cond.methodLink RX1 56 yX1_waits, Cond.instanceMethod yX1_waits, Cond.selects RX1 yX1_waits yX1_waits, Cond.code yX1_waits cX1_waits 3 (some .boolean), Cond.methodLink RX1 59 yX1_nextOf, Cond.instanceMethod yX1_nextOf, Cond.selects RX1 yX1_nextOf yX1_nextOf, Cond.code yX1_nextOf cX1_nextOf 2 (some .int), Cond.methodLink RX1 62 yX2_runsMade, Cond.instanceMethod yX2_runsMade, Cond.selects RX2 yX2_runsMade yX2_runsMade, Cond.code yX2_runsMade cX2_runsMade 1 (some .int), Cond.fieldLink RX2 20 "SelfRows$Row" "counts" "[I", Cond.methodLink RX1 52 yX1_grow, Cond.instanceMethod yX1_grow, Cond.selects RX1 yX1_grow yX1_grow, Cond.code yX1_grow cX1_grow 6 none, Cond.methodLink RX1 65 yX1_lettersOf]
def wsX5_find_r3 : List Cond := [Cond.instanceMethod yX1_lettersOf, Cond.selects RX1 yX1_lettersOf yX1_lettersOf, Cond.code yX1_lettersOf cX1_lettersOf 3 (some (.object "SelfRows$Alphabet")), Cond.fieldLink RX1 23 "SelfRows$Ring" "alphabetOfRow" "[I", Cond.fieldLink RX1 11 "SelfRows$Ring" "alphabets" "[LSelfRows$Alphabet;", Cond.methodLink RX1 86 yX1_hasAlphabet, Cond.instanceMethod yX1_hasAlphabet, Cond.selects RX1 yX1_hasAlphabet yX1_hasAlphabet, Cond.code yX1_hasAlphabet cX1_hasAlphabet 2 (some .boolean), Cond.methodLink RX1 69 yX0_letterOfRun, Cond.instanceMethod yX0_letterOfRun, Cond.selects RX0 yX0_letterOfRun yX0_letterOfRun, Cond.initialized RX0, Cond.code yX0_letterOfRun cX0_letterOfRun 3 (some .int), Cond.fieldLink RX0 15 "SelfRows$Alphabet" "size" "I", Cond.fieldLink RX0 11 "SelfRows$Alphabet" "letters" "[I", Cond.methodLink RX1 72 yX1_lengthTold, Cond.instanceMethod yX1_lengthTold, Cond.selects RX1 yX1_lengthTold yX1_lengthTold, Cond.code yX1_lengthTold cX1_lengthTold 4 (some .int), Cond.methodLink RX1 83 yX2_number, Cond.instanceMethod yX2_number, Cond.selects RX2 yX2_number yX2_number, Cond.code yX2_number cX2_number 2 (some .int)]
def wsX5_find_r4 : List Cond := [Cond.fieldLink RX2 10 "SelfRows$Row" "numbers" "[B", Cond.methodLink RX1 76 yX2_putRun, Cond.instanceMethod yX2_putRun, Cond.selects RX2 yX2_putRun yX2_putRun, Cond.code yX2_putRun cX2_putRun 4 none, Cond.static yX5_isLetter, Cond.code yX5_isLetter cX5_isLetter 1 (some .boolean), Cond.methodLink RX2 31 yX2_keepCounts, Cond.instanceMethod yX2_keepCounts, Cond.selects RX2 yX2_keepCounts yX2_keepCounts, Cond.code yX2_keepCounts cX2_keepCounts 3 none, Cond.fieldLink RX2 16 "SelfRows$Row" "kept" "[I", Cond.methodLink RX1 79 yX2_putRunsToldBy, Cond.instanceMethod yX2_putRunsToldBy, Cond.selects RX2 yX2_putRunsToldBy yX2_putRunsToldBy, Cond.code yX2_putRunsToldBy cX2_putRunsToldBy 5 none, Cond.methodLink RX2 34 yX2_runsMade, Cond.methodLink RX2 38 yX2_made, Cond.methodLink RX2 40 yX0_letterOfRun, Cond.methodLink RX2 46 yX2_number, Cond.methodLink RX2 49 yX2_putRun, Cond.methodLink RX5 105 yX4_size, Cond.instanceMethod yX4_size, Cond.selects RX4 yX4_size yX4_size]
def wsX5_find_r5 : List Cond := [Cond.initialized RX4, Cond.code yX4_size cX4_size 1 (some .int), Cond.fieldLink RX4 15 "SelfRows$Word" "size" "I", Cond.methodLink RX5 165 yX2_holds, Cond.instanceMethod yX2_holds, Cond.selects RX2 yX2_holds yX2_holds, Cond.code yX2_holds cX2_holds 4 (some .boolean), Cond.methodLink RX2 68 yX4_size, Cond.methodLink RX2 73 yX4_letterAt, Cond.instanceMethod yX4_letterAt, Cond.selects RX4 yX4_letterAt yX4_letterAt, Cond.code yX4_letterAt cX4_letterAt 2 (some .int), Cond.fieldLink RX4 9 "SelfRows$Word" "letters" "[I"]
def wsX5_find : List Cond := .code yX5_find cX5_find 6 (some .int) :: ((wsX5_find_r1 ++ (wsX5_find_r2 ++ (wsX5_find_r3 ++ (wsX5_find_r4 ++ wsX5_find_r5)))) ++ wsX50 ++ wsX10 ++ wsX20 ++ wsX00 ++ wsX40)
def wsX5_unlike_r1 : List Cond := [Cond.fieldLink RX5 10 "SelfRows" "circle" "LSelfRows$Ring;", Cond.fieldLink RX5 40 "SelfRows" "unlikeDone" "I", Cond.fieldLink RX5 32 "SelfRows" "stretches" "LSelfRows$Stretches;", Cond.methodLink RX5 64 yX1_hasRow, Cond.instanceMethod yX1_hasRow, Cond.selects RX1 yX1_hasRow yX1_hasRow, Cond.initialized RX1, Cond.code yX1_hasRow cX1_hasRow 2 (some .boolean), Cond.fieldLink RX1 27 "SelfRows$Ring" "size" "I", Cond.fieldLink RX1 19 "SelfRows$Ring" "rows" "[LSelfRows$Row;", Cond.methodLink RX5 68 yX5_isOutside, Cond.static yX5_isOutside, Cond.initialized RX5, Cond.code yX5_isOutside cX5_isOutside 2 (some .boolean), Cond.methodLink RX5 72 yX1_rowOf, Cond.instanceMethod yX1_rowOf, Cond.selects RX1 yX1_rowOf yX1_rowOf, Cond.code yX1_rowOf cX1_rowOf 5 (some (.object "SelfRows$Row")), Cond.constant RX1 43 (300003), Cond.methodLink RX1 39 yX1_hasRow, Cond.methodLink RX1 44 yX2_made, Cond.instanceMethod yX2_made, Cond.selects RX2 yX2_made yX2_made, Cond.initialized RX2]
def wsX5_unlike_r2 : List Cond := [Cond.code yX2_made cX2_made 1 (some .int), Cond.fieldLink RX2 23 "SelfRows$Row" "made" "I", Cond.methodLink RX1 48 yX1_ripeFrom, Cond.instanceMethod yX1_ripeFrom, Cond.selects RX1 yX1_ripeFrom yX1_ripeFrom, Cond.code yX1_ripeFrom cX1_ripeFrom 4 (some .int), Cond.methodLink RX1 56 yX1_waits, Cond.instanceMethod yX1_waits, Cond.selects RX1 yX1_waits yX1_waits, Cond.code yX1_waits cX1_waits 3 (some .boolean), Cond.methodLink RX1 59 yX1_nextOf, Cond.instanceMethod yX1_nextOf, Cond.selects RX1 yX1_nextOf yX1_nextOf, Cond.code yX1_nextOf cX1_nextOf 2 (some .int), Cond.methodLink RX1 62 yX2_runsMade, Cond.instanceMethod yX2_runsMade, Cond.selects RX2 yX2_runsMade yX2_runsMade, Cond.code yX2_runsMade cX2_runsMade 1 (some .int), Cond.fieldLink RX2 20 "SelfRows$Row" "counts" "[I", Cond.methodLink RX1 52 yX1_grow, Cond.instanceMethod yX1_grow, Cond.selects RX1 yX1_grow yX1_grow, Cond.code yX1_grow cX1_grow 6 none, Cond.methodLink RX1 65 yX1_lettersOf]
def wsX5_unlike_r3 : List Cond := [Cond.instanceMethod yX1_lettersOf, Cond.selects RX1 yX1_lettersOf yX1_lettersOf, Cond.code yX1_lettersOf cX1_lettersOf 3 (some (.object "SelfRows$Alphabet")), Cond.fieldLink RX1 23 "SelfRows$Ring" "alphabetOfRow" "[I", Cond.fieldLink RX1 11 "SelfRows$Ring" "alphabets" "[LSelfRows$Alphabet;", Cond.methodLink RX1 86 yX1_hasAlphabet, Cond.instanceMethod yX1_hasAlphabet, Cond.selects RX1 yX1_hasAlphabet yX1_hasAlphabet, Cond.code yX1_hasAlphabet cX1_hasAlphabet 2 (some .boolean), Cond.methodLink RX1 69 yX0_letterOfRun, Cond.instanceMethod yX0_letterOfRun, Cond.selects RX0 yX0_letterOfRun yX0_letterOfRun, Cond.initialized RX0, Cond.code yX0_letterOfRun cX0_letterOfRun 3 (some .int), Cond.fieldLink RX0 15 "SelfRows$Alphabet" "size" "I", Cond.fieldLink RX0 11 "SelfRows$Alphabet" "letters" "[I", Cond.methodLink RX1 72 yX1_lengthTold, Cond.instanceMethod yX1_lengthTold, Cond.selects RX1 yX1_lengthTold yX1_lengthTold, Cond.code yX1_lengthTold cX1_lengthTold 4 (some .int), Cond.methodLink RX1 83 yX2_number, Cond.instanceMethod yX2_number, Cond.selects RX2 yX2_number yX2_number, Cond.code yX2_number cX2_number 2 (some .int)]
def wsX5_unlike_r4 : List Cond := [Cond.fieldLink RX2 10 "SelfRows$Row" "numbers" "[B", Cond.methodLink RX1 76 yX2_putRun, Cond.instanceMethod yX2_putRun, Cond.selects RX2 yX2_putRun yX2_putRun, Cond.code yX2_putRun cX2_putRun 4 none, Cond.static yX5_isLetter, Cond.code yX5_isLetter cX5_isLetter 1 (some .boolean), Cond.methodLink RX2 31 yX2_keepCounts, Cond.instanceMethod yX2_keepCounts, Cond.selects RX2 yX2_keepCounts yX2_keepCounts, Cond.code yX2_keepCounts cX2_keepCounts 3 none, Cond.fieldLink RX2 16 "SelfRows$Row" "kept" "[I", Cond.methodLink RX1 79 yX2_putRunsToldBy, Cond.instanceMethod yX2_putRunsToldBy, Cond.selects RX2 yX2_putRunsToldBy yX2_putRunsToldBy, Cond.code yX2_putRunsToldBy cX2_putRunsToldBy 5 none, Cond.methodLink RX2 34 yX2_runsMade, Cond.methodLink RX2 38 yX2_made, Cond.methodLink RX2 40 yX0_letterOfRun, Cond.methodLink RX2 46 yX2_number, Cond.methodLink RX2 49 yX2_putRun, Cond.methodLink RX5 169 yX3_unlikeWithin, Cond.instanceMethod yX3_unlikeWithin, Cond.selects RX3 yX3_unlikeWithin yX3_unlikeWithin]
def wsX5_unlike_r5 : List Cond := [Cond.initialized RX3, Cond.code yX3_unlikeWithin cX3_unlikeWithin 10 (some .int), Cond.fieldLink RX3 9 "SelfRows$Stretches" "seats" "[J", Cond.methodLink RX3 13 yX2_number, Cond.methodLink RX3 19 yX3_takesSeat, Cond.instanceMethod yX3_takesSeat, Cond.selects RX3 yX3_takesSeat yX3_takesSeat, Cond.code yX3_takesSeat cX3_takesSeat 5 (some .boolean), Cond.constantLong RX3 23 (-7046029254386353131)]
def wsX5_unlike : List Cond := .code yX5_unlike cX5_unlike 4 (some .int) :: ((wsX5_unlike_r1 ++ (wsX5_unlike_r2 ++ (wsX5_unlike_r3 ++ (wsX5_unlike_r4 ++ wsX5_unlike_r5)))) ++ wsX50 ++ wsX10 ++ wsX20 ++ wsX00 ++ wsX30)
def wsX5_told_r1 : List Cond := [Cond.fieldLink RX5 10 "SelfRows" "circle" "LSelfRows$Ring;", Cond.fieldLink RX5 19 "SelfRows" "word" "LSelfRows$Word;", Cond.fieldLink RX5 36 "SelfRows" "manyDone" "I", Cond.fieldLink RX5 40 "SelfRows" "unlikeDone" "I", Cond.constantLong RX5 174 (4), Cond.methodLink RX5 173 yX1_size, Cond.instanceMethod yX1_size, Cond.selects RX1 yX1_size yX1_size, Cond.initialized RX1, Cond.code yX1_size cX1_size 1 (some .int), Cond.fieldLink RX1 27 "SelfRows$Ring" "size" "I", Cond.methodLink RX5 105 yX4_size, Cond.instanceMethod yX4_size, Cond.selects RX4 yX4_size yX4_size, Cond.initialized RX4, Cond.code yX4_size cX4_size 1 (some .int), Cond.fieldLink RX4 15 "SelfRows$Word" "size" "I", Cond.methodLink RX5 43 yX1_alphabetNamed, Cond.instanceMethod yX1_alphabetNamed, Cond.selects RX1 yX1_alphabetNamed yX1_alphabetNamed, Cond.code yX1_alphabetNamed cX1_alphabetNamed 3 (some (.object "SelfRows$Alphabet")), Cond.fieldLink RX1 11 "SelfRows$Ring" "alphabets" "[LSelfRows$Alphabet;", Cond.methodLink RX5 125 yX0_size, Cond.instanceMethod yX0_size]
def wsX5_told_r2 : List Cond := [Cond.selects RX0 yX0_size yX0_size, Cond.initialized RX0, Cond.code yX0_size cX0_size 1 (some .int), Cond.fieldLink RX0 15 "SelfRows$Alphabet" "size" "I"]
def wsX5_told : List Cond := .code yX5_told cX5_told 3 (some .int) :: ((wsX5_told_r1 ++ wsX5_told_r2) ++ wsX50 ++ wsX10 ++ wsX40 ++ wsX00)
def wsX5_digest_r1 : List Cond := [Cond.fieldLink RX5 10 "SelfRows" "circle" "LSelfRows$Ring;", Cond.constantLong RX5 176 (163), Cond.fieldLink RX5 19 "SelfRows" "word" "LSelfRows$Word;", Cond.constantLong RX5 183 (31), Cond.fieldLink RX5 36 "SelfRows" "manyDone" "I", Cond.fieldLink RX5 40 "SelfRows" "unlikeDone" "I", Cond.methodLink RX5 178 yX1_mixInto, Cond.instanceMethod yX1_mixInto, Cond.selects RX1 yX1_mixInto yX1_mixInto, Cond.initialized RX1, Cond.code yX1_mixInto cX1_mixInto 6 (some .long), Cond.fieldLink RX1 11 "SelfRows$Ring" "alphabets" "[LSelfRows$Alphabet;", Cond.fieldLink RX1 27 "SelfRows$Ring" "size" "I", Cond.fieldLink RX1 23 "SelfRows$Ring" "alphabetOfRow" "[I", Cond.constantLong RX1 93 (31), Cond.methodLink RX1 89 yX0_mixInto, Cond.instanceMethod yX0_mixInto, Cond.selects RX0 yX0_mixInto yX0_mixInto, Cond.initialized RX0, Cond.code yX0_mixInto cX0_mixInto 6 (some .long), Cond.fieldLink RX0 15 "SelfRows$Alphabet" "size" "I", Cond.constantLong RX0 27 (31), Cond.methodLink RX0 19 yX0_letterOfRun, Cond.instanceMethod yX0_letterOfRun]
def wsX5_digest_r2 : List Cond := [Cond.selects RX0 yX0_letterOfRun yX0_letterOfRun, Cond.code yX0_letterOfRun cX0_letterOfRun 3 (some .int), Cond.fieldLink RX0 11 "SelfRows$Alphabet" "letters" "[I", Cond.methodLink RX5 182 yX4_mixInto, Cond.instanceMethod yX4_mixInto, Cond.selects RX4 yX4_mixInto yX4_mixInto, Cond.initialized RX4, Cond.code yX4_mixInto cX4_mixInto 6 (some .long), Cond.fieldLink RX4 15 "SelfRows$Word" "size" "I", Cond.constantLong RX4 54 (31), Cond.methodLink RX4 29 yX4_letterAt, Cond.instanceMethod yX4_letterAt, Cond.selects RX4 yX4_letterAt yX4_letterAt, Cond.code yX4_letterAt cX4_letterAt 2 (some .int), Cond.fieldLink RX4 9 "SelfRows$Word" "letters" "[I"]
def wsX5_digest : List Cond := .code yX5_digest cX5_digest 3 (some .long) :: ((wsX5_digest_r1 ++ wsX5_digest_r2) ++ wsX50 ++ wsX10 ++ wsX00 ++ wsX40)
def wsX6_init : List Cond := .code yX6_init cX6_init 2 none :: ([.methodLink RX6 1 objectInit, .instanceMethod objectInit, .code objectInit ⟨#[0xb1]⟩ 1 none, .arrayClass .int, .fieldLink RX6 7 "SelfRowsModel" "letters" "[I", .fieldLink RX6 13 "SelfRowsModel" "sizes" "[I", .fieldLink RX6 16 "SelfRowsModel" "alphabetOf" "[I", .constant RX6 19 (100001), .arrayClass .byte, .fieldLink RX6 20 "SelfRowsModel" "first" "[B", .fieldLink RX6 24 "SelfRowsModel" "second" "[B", .fieldLink RX6 27 "SelfRowsModel" "third" "[B", .fieldLink RX6 30 "SelfRowsModel" "made" "[I", .fieldLink RX6 33 "SelfRowsModel" "word" "[I", .fieldLink RX6 36 "SelfRowsModel" "now" "[I", .fieldLink RX6 39 "SelfRowsModel" "then" "[I", .fieldLink RX6 42 "SelfRowsModel" "trial" "[I", .arrayClass .long, .fieldLink RX6 45 "SelfRowsModel" "keys" "[J", .fieldLink RX6 49 "SelfRowsModel" "rowMany" "I", .fieldLink RX6 53 "SelfRowsModel" "stale" "Z"] ++ wsX60)
def wsX6_in : List Cond := .code yX6_in cX6_in 6 (some .boolean) :: ([])
def wsX6_isAlphabet : List Cond := .code yX6_isAlphabet cX6_isAlphabet 1 (some .boolean) :: ([.constantLong RX6 57 (3), .methodLink RX6 59 yX6_in, .static yX6_in, .initialized RX6, .code yX6_in cX6_in 6 (some .boolean)])
def wsX6_alphabet : List Cond := .code yX6_alphabet cX6_alphabet 11 (some .int) :: ([.constantLong RX6 67 (2), .constantLong RX6 69 (4), .constantLong RX6 71 (6), .fieldLink RX6 7 "SelfRowsModel" "letters" "[I", .fieldLink RX6 13 "SelfRowsModel" "sizes" "[I", .fieldLink RX6 53 "SelfRowsModel" "stale" "Z", .methodLink RX6 63 yX6_isAlphabet, .static yX6_isAlphabet, .initialized RX6, .code yX6_isAlphabet cX6_isAlphabet 1 (some .boolean), .constantLong RX6 57 (3), .methodLink RX6 59 yX6_in, .static yX6_in, .code yX6_in cX6_in 6 (some .boolean)] ++ wsX60)
def wsX6_ring : List Cond := .code yX6_ring cX6_ring 5 (some .int) :: ([.constantLong RX6 57 (3), .fieldLink RX6 49 "SelfRowsModel" "rowMany" "I", .fieldLink RX6 16 "SelfRowsModel" "alphabetOf" "[I", .fieldLink RX6 53 "SelfRowsModel" "stale" "Z", .methodLink RX6 59 yX6_in, .static yX6_in, .initialized RX6, .code yX6_in cX6_in 6 (some .boolean), .methodLink RX6 63 yX6_isAlphabet, .static yX6_isAlphabet, .code yX6_isAlphabet cX6_isAlphabet 1 (some .boolean)] ++ wsX60)
def wsX6_number : List Cond := .code yX6_number cX6_number 3 (some .int) :: ([.fieldLink RX6 20 "SelfRowsModel" "first" "[B", .fieldLink RX6 24 "SelfRowsModel" "second" "[B", .fieldLink RX6 27 "SelfRowsModel" "third" "[B"] ++ wsX60)
def wsX6_put : List Cond := .code yX6_put cX6_put 4 none :: ([.fieldLink RX6 20 "SelfRowsModel" "first" "[B", .fieldLink RX6 24 "SelfRowsModel" "second" "[B", .fieldLink RX6 27 "SelfRowsModel" "third" "[B"] ++ wsX60)
def wsX6_letterOf : List Cond := .code yX6_letterOf cX6_letterOf 4 (some .int) :: ([.fieldLink RX6 16 "SelfRowsModel" "alphabetOf" "[I", .fieldLink RX6 7 "SelfRowsModel" "letters" "[I", .fieldLink RX6 13 "SelfRowsModel" "sizes" "[I"] ++ wsX60)
def wsX6_make : List Cond := .code yX6_make cX6_make 8 none :: ([.fieldLink RX6 53 "SelfRowsModel" "stale" "Z", .fieldLink RX6 73 "SelfRowsModel" "runMade" "I", .fieldLink RX6 30 "SelfRowsModel" "made" "[I", .fieldLink RX6 49 "SelfRowsModel" "rowMany" "I", .constant RX6 83 (100000), .methodLink RX6 76 yX6_number, .instanceMethod yX6_number, .selects RX6 yX6_number yX6_number, .initialized RX6, .code yX6_number cX6_number 3 (some .int), .fieldLink RX6 20 "SelfRowsModel" "first" "[B", .fieldLink RX6 24 "SelfRowsModel" "second" "[B", .fieldLink RX6 27 "SelfRowsModel" "third" "[B", .methodLink RX6 80 yX6_letterOf, .instanceMethod yX6_letterOf, .selects RX6 yX6_letterOf yX6_letterOf, .code yX6_letterOf cX6_letterOf 4 (some .int), .fieldLink RX6 16 "SelfRowsModel" "alphabetOf" "[I", .fieldLink RX6 7 "SelfRowsModel" "letters" "[I", .fieldLink RX6 13 "SelfRowsModel" "sizes" "[I", .methodLink RX6 84 yX6_put, .instanceMethod yX6_put, .selects RX6 yX6_put yX6_put, .code yX6_put cX6_put 4 none] ++ wsX60)
def wsX6_isRow : List Cond := .code yX6_isRow cX6_isRow 2 (some .boolean) :: ([.fieldLink RX6 49 "SelfRowsModel" "rowMany" "I", .methodLink RX6 59 yX6_in, .static yX6_in, .initialized RX6, .code yX6_in cX6_in 6 (some .boolean)] ++ wsX60)
def wsX6_isPlace : List Cond := .code yX6_isPlace cX6_isPlace 1 (some .boolean) :: ([.constantLong RX6 88 (100000), .methodLink RX6 59 yX6_in, .static yX6_in, .initialized RX6, .code yX6_in cX6_in 6 (some .boolean)])
def wsX6_at_r1 : List Cond := [Cond.methodLink RX6 90 yX6_isRow, Cond.instanceMethod yX6_isRow, Cond.selects RX6 yX6_isRow yX6_isRow, Cond.initialized RX6, Cond.code yX6_isRow cX6_isRow 2 (some .boolean), Cond.fieldLink RX6 49 "SelfRowsModel" "rowMany" "I", Cond.methodLink RX6 59 yX6_in, Cond.static yX6_in, Cond.code yX6_in cX6_in 6 (some .boolean), Cond.methodLink RX6 93 yX6_isPlace, Cond.static yX6_isPlace, Cond.code yX6_isPlace cX6_isPlace 1 (some .boolean), Cond.constantLong RX6 88 (100000), Cond.methodLink RX6 96 yX6_make, Cond.instanceMethod yX6_make, Cond.selects RX6 yX6_make yX6_make, Cond.code yX6_make cX6_make 8 none, Cond.fieldLink RX6 53 "SelfRowsModel" "stale" "Z", Cond.fieldLink RX6 73 "SelfRowsModel" "runMade" "I", Cond.fieldLink RX6 30 "SelfRowsModel" "made" "[I", Cond.constant RX6 83 (100000), Cond.methodLink RX6 76 yX6_number, Cond.instanceMethod yX6_number, Cond.selects RX6 yX6_number yX6_number]
def wsX6_at_r2 : List Cond := [Cond.code yX6_number cX6_number 3 (some .int), Cond.fieldLink RX6 20 "SelfRowsModel" "first" "[B", Cond.fieldLink RX6 24 "SelfRowsModel" "second" "[B", Cond.fieldLink RX6 27 "SelfRowsModel" "third" "[B", Cond.methodLink RX6 80 yX6_letterOf, Cond.instanceMethod yX6_letterOf, Cond.selects RX6 yX6_letterOf yX6_letterOf, Cond.code yX6_letterOf cX6_letterOf 4 (some .int), Cond.fieldLink RX6 16 "SelfRowsModel" "alphabetOf" "[I", Cond.fieldLink RX6 7 "SelfRowsModel" "letters" "[I", Cond.fieldLink RX6 13 "SelfRowsModel" "sizes" "[I", Cond.methodLink RX6 84 yX6_put, Cond.instanceMethod yX6_put, Cond.selects RX6 yX6_put yX6_put, Cond.code yX6_put cX6_put 4 none]
def wsX6_at : List Cond := .code yX6_at cX6_at 3 (some .int) :: ((wsX6_at_r1 ++ wsX6_at_r2) ++ wsX60)
def wsX6_count_r1 : List Cond := [Cond.methodLink RX6 90 yX6_isRow, Cond.instanceMethod yX6_isRow, Cond.selects RX6 yX6_isRow yX6_isRow, Cond.initialized RX6, Cond.code yX6_isRow cX6_isRow 2 (some .boolean), Cond.fieldLink RX6 49 "SelfRowsModel" "rowMany" "I", Cond.methodLink RX6 59 yX6_in, Cond.static yX6_in, Cond.code yX6_in cX6_in 6 (some .boolean), Cond.methodLink RX6 93 yX6_isPlace, Cond.static yX6_isPlace, Cond.code yX6_isPlace cX6_isPlace 1 (some .boolean), Cond.constantLong RX6 88 (100000), Cond.methodLink RX6 96 yX6_make, Cond.instanceMethod yX6_make, Cond.selects RX6 yX6_make yX6_make, Cond.code yX6_make cX6_make 8 none, Cond.fieldLink RX6 53 "SelfRowsModel" "stale" "Z", Cond.fieldLink RX6 73 "SelfRowsModel" "runMade" "I", Cond.fieldLink RX6 30 "SelfRowsModel" "made" "[I", Cond.constant RX6 83 (100000), Cond.methodLink RX6 76 yX6_number, Cond.instanceMethod yX6_number, Cond.selects RX6 yX6_number yX6_number]
def wsX6_count_r2 : List Cond := [Cond.code yX6_number cX6_number 3 (some .int), Cond.fieldLink RX6 20 "SelfRowsModel" "first" "[B", Cond.fieldLink RX6 24 "SelfRowsModel" "second" "[B", Cond.fieldLink RX6 27 "SelfRowsModel" "third" "[B", Cond.methodLink RX6 80 yX6_letterOf, Cond.instanceMethod yX6_letterOf, Cond.selects RX6 yX6_letterOf yX6_letterOf, Cond.code yX6_letterOf cX6_letterOf 4 (some .int), Cond.fieldLink RX6 16 "SelfRowsModel" "alphabetOf" "[I", Cond.fieldLink RX6 7 "SelfRowsModel" "letters" "[I", Cond.fieldLink RX6 13 "SelfRowsModel" "sizes" "[I", Cond.methodLink RX6 84 yX6_put, Cond.instanceMethod yX6_put, Cond.selects RX6 yX6_put yX6_put, Cond.code yX6_put cX6_put 4 none]
def wsX6_count : List Cond := .code yX6_count cX6_count 6 (some .int) :: ((wsX6_count_r1 ++ wsX6_count_r2) ++ wsX60)
def wsX6_sum_r1 : List Cond := [Cond.methodLink RX6 90 yX6_isRow, Cond.instanceMethod yX6_isRow, Cond.selects RX6 yX6_isRow yX6_isRow, Cond.initialized RX6, Cond.code yX6_isRow cX6_isRow 2 (some .boolean), Cond.fieldLink RX6 49 "SelfRowsModel" "rowMany" "I", Cond.methodLink RX6 59 yX6_in, Cond.static yX6_in, Cond.code yX6_in cX6_in 6 (some .boolean), Cond.methodLink RX6 93 yX6_isPlace, Cond.static yX6_isPlace, Cond.code yX6_isPlace cX6_isPlace 1 (some .boolean), Cond.constantLong RX6 88 (100000), Cond.methodLink RX6 96 yX6_make, Cond.instanceMethod yX6_make, Cond.selects RX6 yX6_make yX6_make, Cond.code yX6_make cX6_make 8 none, Cond.fieldLink RX6 53 "SelfRowsModel" "stale" "Z", Cond.fieldLink RX6 73 "SelfRowsModel" "runMade" "I", Cond.fieldLink RX6 30 "SelfRowsModel" "made" "[I", Cond.constant RX6 83 (100000), Cond.methodLink RX6 76 yX6_number, Cond.instanceMethod yX6_number, Cond.selects RX6 yX6_number yX6_number]
def wsX6_sum_r2 : List Cond := [Cond.code yX6_number cX6_number 3 (some .int), Cond.fieldLink RX6 20 "SelfRowsModel" "first" "[B", Cond.fieldLink RX6 24 "SelfRowsModel" "second" "[B", Cond.fieldLink RX6 27 "SelfRowsModel" "third" "[B", Cond.methodLink RX6 80 yX6_letterOf, Cond.instanceMethod yX6_letterOf, Cond.selects RX6 yX6_letterOf yX6_letterOf, Cond.code yX6_letterOf cX6_letterOf 4 (some .int), Cond.fieldLink RX6 16 "SelfRowsModel" "alphabetOf" "[I", Cond.fieldLink RX6 7 "SelfRowsModel" "letters" "[I", Cond.fieldLink RX6 13 "SelfRowsModel" "sizes" "[I", Cond.methodLink RX6 84 yX6_put, Cond.instanceMethod yX6_put, Cond.selects RX6 yX6_put yX6_put, Cond.code yX6_put cX6_put 4 none]
def wsX6_sum : List Cond := .code yX6_sum cX6_sum 5 (some .int) :: ((wsX6_sum_r1 ++ wsX6_sum_r2) ++ wsX60)
def wsX6_run_r1 : List Cond := [Cond.methodLink RX6 90 yX6_isRow, Cond.instanceMethod yX6_isRow, Cond.selects RX6 yX6_isRow yX6_isRow, Cond.initialized RX6, Cond.code yX6_isRow cX6_isRow 2 (some .boolean), Cond.fieldLink RX6 49 "SelfRowsModel" "rowMany" "I", Cond.methodLink RX6 59 yX6_in, Cond.static yX6_in, Cond.code yX6_in cX6_in 6 (some .boolean), Cond.methodLink RX6 93 yX6_isPlace, Cond.static yX6_isPlace, Cond.code yX6_isPlace cX6_isPlace 1 (some .boolean), Cond.constantLong RX6 88 (100000), Cond.methodLink RX6 96 yX6_make, Cond.instanceMethod yX6_make, Cond.selects RX6 yX6_make yX6_make, Cond.code yX6_make cX6_make 8 none, Cond.fieldLink RX6 53 "SelfRowsModel" "stale" "Z", Cond.fieldLink RX6 73 "SelfRowsModel" "runMade" "I", Cond.fieldLink RX6 30 "SelfRowsModel" "made" "[I", Cond.constant RX6 83 (100000), Cond.methodLink RX6 76 yX6_number, Cond.instanceMethod yX6_number, Cond.selects RX6 yX6_number yX6_number]
def wsX6_run_r2 : List Cond := [Cond.code yX6_number cX6_number 3 (some .int), Cond.fieldLink RX6 20 "SelfRowsModel" "first" "[B", Cond.fieldLink RX6 24 "SelfRowsModel" "second" "[B", Cond.fieldLink RX6 27 "SelfRowsModel" "third" "[B", Cond.methodLink RX6 80 yX6_letterOf, Cond.instanceMethod yX6_letterOf, Cond.selects RX6 yX6_letterOf yX6_letterOf, Cond.code yX6_letterOf cX6_letterOf 4 (some .int), Cond.fieldLink RX6 16 "SelfRowsModel" "alphabetOf" "[I", Cond.fieldLink RX6 7 "SelfRowsModel" "letters" "[I", Cond.fieldLink RX6 13 "SelfRowsModel" "sizes" "[I", Cond.methodLink RX6 84 yX6_put, Cond.instanceMethod yX6_put, Cond.selects RX6 yX6_put yX6_put, Cond.code yX6_put cX6_put 4 none]
def wsX6_run : List Cond := .code yX6_run cX6_run 5 (some .int) :: ((wsX6_run_r1 ++ wsX6_run_r2) ++ wsX60)
def wsX6_begins_r1 : List Cond := [Cond.constant RX6 83 (100000), Cond.methodLink RX6 90 yX6_isRow, Cond.instanceMethod yX6_isRow, Cond.selects RX6 yX6_isRow yX6_isRow, Cond.initialized RX6, Cond.code yX6_isRow cX6_isRow 2 (some .boolean), Cond.fieldLink RX6 49 "SelfRowsModel" "rowMany" "I", Cond.methodLink RX6 59 yX6_in, Cond.static yX6_in, Cond.code yX6_in cX6_in 6 (some .boolean), Cond.methodLink RX6 93 yX6_isPlace, Cond.static yX6_isPlace, Cond.code yX6_isPlace cX6_isPlace 1 (some .boolean), Cond.constantLong RX6 88 (100000), Cond.methodLink RX6 96 yX6_make, Cond.instanceMethod yX6_make, Cond.selects RX6 yX6_make yX6_make, Cond.code yX6_make cX6_make 8 none, Cond.fieldLink RX6 53 "SelfRowsModel" "stale" "Z", Cond.fieldLink RX6 73 "SelfRowsModel" "runMade" "I", Cond.fieldLink RX6 30 "SelfRowsModel" "made" "[I", Cond.methodLink RX6 76 yX6_number, Cond.instanceMethod yX6_number, Cond.selects RX6 yX6_number yX6_number]
def wsX6_begins_r2 : List Cond := [Cond.code yX6_number cX6_number 3 (some .int), Cond.fieldLink RX6 20 "SelfRowsModel" "first" "[B", Cond.fieldLink RX6 24 "SelfRowsModel" "second" "[B", Cond.fieldLink RX6 27 "SelfRowsModel" "third" "[B", Cond.methodLink RX6 80 yX6_letterOf, Cond.instanceMethod yX6_letterOf, Cond.selects RX6 yX6_letterOf yX6_letterOf, Cond.code yX6_letterOf cX6_letterOf 4 (some .int), Cond.fieldLink RX6 16 "SelfRowsModel" "alphabetOf" "[I", Cond.fieldLink RX6 7 "SelfRowsModel" "letters" "[I", Cond.fieldLink RX6 13 "SelfRowsModel" "sizes" "[I", Cond.methodLink RX6 84 yX6_put, Cond.instanceMethod yX6_put, Cond.selects RX6 yX6_put yX6_put, Cond.code yX6_put cX6_put 4 none]
def wsX6_begins : List Cond := .code yX6_begins cX6_begins 5 (some .int) :: ((wsX6_begins_r1 ++ wsX6_begins_r2) ++ wsX60)
def wsX6_off_r1 : List Cond := [Cond.constantLong RX6 67 (2), Cond.constantLong RX6 71 (6), Cond.methodLink RX6 90 yX6_isRow, Cond.instanceMethod yX6_isRow, Cond.selects RX6 yX6_isRow yX6_isRow, Cond.initialized RX6, Cond.code yX6_isRow cX6_isRow 2 (some .boolean), Cond.fieldLink RX6 49 "SelfRowsModel" "rowMany" "I", Cond.methodLink RX6 59 yX6_in, Cond.static yX6_in, Cond.code yX6_in cX6_in 6 (some .boolean), Cond.methodLink RX6 93 yX6_isPlace, Cond.static yX6_isPlace, Cond.code yX6_isPlace cX6_isPlace 1 (some .boolean), Cond.constantLong RX6 88 (100000), Cond.methodLink RX6 96 yX6_make, Cond.instanceMethod yX6_make, Cond.selects RX6 yX6_make yX6_make, Cond.code yX6_make cX6_make 8 none, Cond.fieldLink RX6 53 "SelfRowsModel" "stale" "Z", Cond.fieldLink RX6 73 "SelfRowsModel" "runMade" "I", Cond.fieldLink RX6 30 "SelfRowsModel" "made" "[I", Cond.constant RX6 83 (100000), Cond.methodLink RX6 76 yX6_number]
def wsX6_off_r2 : List Cond := [Cond.instanceMethod yX6_number, Cond.selects RX6 yX6_number yX6_number, Cond.code yX6_number cX6_number 3 (some .int), Cond.fieldLink RX6 20 "SelfRowsModel" "first" "[B", Cond.fieldLink RX6 24 "SelfRowsModel" "second" "[B", Cond.fieldLink RX6 27 "SelfRowsModel" "third" "[B", Cond.methodLink RX6 80 yX6_letterOf, Cond.instanceMethod yX6_letterOf, Cond.selects RX6 yX6_letterOf yX6_letterOf, Cond.code yX6_letterOf cX6_letterOf 4 (some .int), Cond.fieldLink RX6 16 "SelfRowsModel" "alphabetOf" "[I", Cond.fieldLink RX6 7 "SelfRowsModel" "letters" "[I", Cond.fieldLink RX6 13 "SelfRowsModel" "sizes" "[I", Cond.methodLink RX6 84 yX6_put, Cond.instanceMethod yX6_put, Cond.selects RX6 yX6_put yX6_put, Cond.code yX6_put cX6_put 4 none]
def wsX6_off : List Cond := .code yX6_off cX6_off 9 (some .int) :: ((wsX6_off_r1 ++ wsX6_off_r2) ++ wsX60)
def wsX6_add : List Cond := .code yX6_add cX6_add 2 (some .int) :: ([.constantLong RX6 71 (6), .fieldLink RX6 100 "SelfRowsModel" "size" "I", .fieldLink RX6 33 "SelfRowsModel" "word" "[I", .methodLink RX6 59 yX6_in, .static yX6_in, .initialized RX6, .code yX6_in cX6_in 6 (some .boolean)] ++ wsX60)
def wsX6_take_r1 : List Cond := [Cond.constantLong RX6 103 (60), Cond.constant RX6 19 (100001), Cond.fieldLink RX6 33 "SelfRowsModel" "word" "[I", Cond.fieldLink RX6 100 "SelfRowsModel" "size" "I", Cond.methodLink RX6 90 yX6_isRow, Cond.instanceMethod yX6_isRow, Cond.selects RX6 yX6_isRow yX6_isRow, Cond.initialized RX6, Cond.code yX6_isRow cX6_isRow 2 (some .boolean), Cond.fieldLink RX6 49 "SelfRowsModel" "rowMany" "I", Cond.methodLink RX6 59 yX6_in, Cond.static yX6_in, Cond.code yX6_in cX6_in 6 (some .boolean), Cond.methodLink RX6 93 yX6_isPlace, Cond.static yX6_isPlace, Cond.code yX6_isPlace cX6_isPlace 1 (some .boolean), Cond.constantLong RX6 88 (100000), Cond.methodLink RX6 96 yX6_make, Cond.instanceMethod yX6_make, Cond.selects RX6 yX6_make yX6_make, Cond.code yX6_make cX6_make 8 none, Cond.fieldLink RX6 53 "SelfRowsModel" "stale" "Z", Cond.fieldLink RX6 73 "SelfRowsModel" "runMade" "I", Cond.fieldLink RX6 30 "SelfRowsModel" "made" "[I"]
def wsX6_take_r2 : List Cond := [Cond.constant RX6 83 (100000), Cond.methodLink RX6 76 yX6_number, Cond.instanceMethod yX6_number, Cond.selects RX6 yX6_number yX6_number, Cond.code yX6_number cX6_number 3 (some .int), Cond.fieldLink RX6 20 "SelfRowsModel" "first" "[B", Cond.fieldLink RX6 24 "SelfRowsModel" "second" "[B", Cond.fieldLink RX6 27 "SelfRowsModel" "third" "[B", Cond.methodLink RX6 80 yX6_letterOf, Cond.instanceMethod yX6_letterOf, Cond.selects RX6 yX6_letterOf yX6_letterOf, Cond.code yX6_letterOf cX6_letterOf 4 (some .int), Cond.fieldLink RX6 16 "SelfRowsModel" "alphabetOf" "[I", Cond.fieldLink RX6 7 "SelfRowsModel" "letters" "[I", Cond.fieldLink RX6 13 "SelfRowsModel" "sizes" "[I", Cond.methodLink RX6 84 yX6_put, Cond.instanceMethod yX6_put, Cond.selects RX6 yX6_put yX6_put, Cond.code yX6_put cX6_put 4 none]
def wsX6_take : List Cond := .code yX6_take cX6_take 5 (some .int) :: ((wsX6_take_r1 ++ wsX6_take_r2) ++ wsX60)
def wsX6_clear : List Cond := .code yX6_clear cX6_clear 2 (some .int) :: ([.fieldLink RX6 100 "SelfRowsModel" "size" "I"] ++ wsX60)
def wsX6_letter : List Cond := .code yX6_letter cX6_letter 2 (some .int) :: ([.fieldLink RX6 100 "SelfRowsModel" "size" "I", .fieldLink RX6 33 "SelfRowsModel" "word" "[I", .methodLink RX6 59 yX6_in, .static yX6_in, .initialized RX6, .code yX6_in cX6_in 6 (some .boolean)] ++ wsX60)
def wsX6_load : List Cond := .code yX6_load cX6_load 2 none :: ([.fieldLink RX6 100 "SelfRowsModel" "size" "I", .fieldLink RX6 105 "SelfRowsModel" "nowMany" "I", .fieldLink RX6 36 "SelfRowsModel" "now" "[I", .fieldLink RX6 33 "SelfRowsModel" "word" "[I"] ++ wsX60)
def wsX6_measure : List Cond := .code yX6_measure cX6_measure 3 (some .int) :: ([.fieldLink RX6 108 "SelfRowsModel" "thenMany" "I", .fieldLink RX6 105 "SelfRowsModel" "nowMany" "I", .fieldLink RX6 36 "SelfRowsModel" "now" "[I", .fieldLink RX6 39 "SelfRowsModel" "then" "[I"] ++ wsX60)
def wsX6_cut : List Cond := .code yX6_cut cX6_cut 5 none :: ([.fieldLink RX6 108 "SelfRowsModel" "thenMany" "I", .fieldLink RX6 39 "SelfRowsModel" "then" "[I", .fieldLink RX6 105 "SelfRowsModel" "nowMany" "I", .fieldLink RX6 36 "SelfRowsModel" "now" "[I"] ++ wsX60)
def wsX6_keep : List Cond := .code yX6_keep cX6_keep 2 none :: ([.fieldLink RX6 105 "SelfRowsModel" "nowMany" "I", .fieldLink RX6 100 "SelfRowsModel" "size" "I", .fieldLink RX6 33 "SelfRowsModel" "word" "[I", .fieldLink RX6 36 "SelfRowsModel" "now" "[I"] ++ wsX60)
def wsX6_runs : List Cond := .code yX6_runs cX6_runs 2 (some .int) :: ([.fieldLink RX6 108 "SelfRowsModel" "thenMany" "I", .methodLink RX6 111 yX6_load, .instanceMethod yX6_load, .selects RX6 yX6_load yX6_load, .initialized RX6, .code yX6_load cX6_load 2 none, .fieldLink RX6 100 "SelfRowsModel" "size" "I", .fieldLink RX6 105 "SelfRowsModel" "nowMany" "I", .fieldLink RX6 36 "SelfRowsModel" "now" "[I", .fieldLink RX6 33 "SelfRowsModel" "word" "[I", .methodLink RX6 114 yX6_measure, .instanceMethod yX6_measure, .selects RX6 yX6_measure yX6_measure, .code yX6_measure cX6_measure 3 (some .int), .fieldLink RX6 39 "SelfRowsModel" "then" "[I"] ++ wsX60)
def wsX6_shorten_r1 : List Cond := [Cond.constantLong RX6 71 (6), Cond.fieldLink RX6 100 "SelfRowsModel" "size" "I", Cond.methodLink RX6 59 yX6_in, Cond.static yX6_in, Cond.initialized RX6, Cond.code yX6_in cX6_in 6 (some .boolean), Cond.methodLink RX6 111 yX6_load, Cond.instanceMethod yX6_load, Cond.selects RX6 yX6_load yX6_load, Cond.code yX6_load cX6_load 2 none, Cond.fieldLink RX6 105 "SelfRowsModel" "nowMany" "I", Cond.fieldLink RX6 36 "SelfRowsModel" "now" "[I", Cond.fieldLink RX6 33 "SelfRowsModel" "word" "[I", Cond.methodLink RX6 114 yX6_measure, Cond.instanceMethod yX6_measure, Cond.selects RX6 yX6_measure yX6_measure, Cond.code yX6_measure cX6_measure 3 (some .int), Cond.fieldLink RX6 108 "SelfRowsModel" "thenMany" "I", Cond.fieldLink RX6 39 "SelfRowsModel" "then" "[I", Cond.methodLink RX6 118 yX6_cut, Cond.instanceMethod yX6_cut, Cond.selects RX6 yX6_cut yX6_cut, Cond.code yX6_cut cX6_cut 5 none, Cond.methodLink RX6 122 yX6_keep]
def wsX6_shorten_r2 : List Cond := [Cond.instanceMethod yX6_keep, Cond.selects RX6 yX6_keep yX6_keep, Cond.code yX6_keep cX6_keep 2 none]
def wsX6_shorten : List Cond := .code yX6_shorten cX6_shorten 2 (some .int) :: ((wsX6_shorten_r1 ++ wsX6_shorten_r2) ++ wsX60)
def wsX6_lengthen : List Cond := .code yX6_lengthen cX6_lengthen 6 (some .int) :: ([.fieldLink RX6 13 "SelfRowsModel" "sizes" "[I", .fieldLink RX6 100 "SelfRowsModel" "size" "I", .fieldLink RX6 33 "SelfRowsModel" "word" "[I", .fieldLink RX6 105 "SelfRowsModel" "nowMany" "I", .fieldLink RX6 36 "SelfRowsModel" "now" "[I", .fieldLink RX6 7 "SelfRowsModel" "letters" "[I", .methodLink RX6 63 yX6_isAlphabet, .static yX6_isAlphabet, .initialized RX6, .code yX6_isAlphabet cX6_isAlphabet 1 (some .boolean), .constantLong RX6 57 (3), .methodLink RX6 59 yX6_in, .static yX6_in, .code yX6_in cX6_in 6 (some .boolean), .methodLink RX6 122 yX6_keep, .instanceMethod yX6_keep, .selects RX6 yX6_keep yX6_keep, .code yX6_keep cX6_keep 2 none] ++ wsX60)
def wsX6_mirror : List Cond := .code yX6_mirror cX6_mirror 2 (some .int) :: ([.fieldLink RX6 100 "SelfRowsModel" "size" "I", .fieldLink RX6 33 "SelfRowsModel" "word" "[I", .fieldLink RX6 36 "SelfRowsModel" "now" "[I", .methodLink RX6 111 yX6_load, .instanceMethod yX6_load, .selects RX6 yX6_load yX6_load, .initialized RX6, .code yX6_load cX6_load 2 none, .fieldLink RX6 105 "SelfRowsModel" "nowMany" "I"] ++ wsX60)
def wsX6_turn : List Cond := .code yX6_turn cX6_turn 6 (some .int) :: ([.fieldLink RX6 100 "SelfRowsModel" "size" "I", .fieldLink RX6 13 "SelfRowsModel" "sizes" "[I", .fieldLink RX6 7 "SelfRowsModel" "letters" "[I", .fieldLink RX6 33 "SelfRowsModel" "word" "[I", .methodLink RX6 63 yX6_isAlphabet, .static yX6_isAlphabet, .initialized RX6, .code yX6_isAlphabet cX6_isAlphabet 1 (some .boolean), .constantLong RX6 57 (3), .methodLink RX6 59 yX6_in, .static yX6_in, .code yX6_in cX6_in 6 (some .boolean)] ++ wsX60)
def wsX6_depthOf : List Cond := .code yX6_depthOf cX6_depthOf 4 (some .int) :: ([.fieldLink RX6 105 "SelfRowsModel" "nowMany" "I", .fieldLink RX6 36 "SelfRowsModel" "now" "[I", .methodLink RX6 114 yX6_measure, .instanceMethod yX6_measure, .selects RX6 yX6_measure yX6_measure, .initialized RX6, .code yX6_measure cX6_measure 3 (some .int), .fieldLink RX6 108 "SelfRowsModel" "thenMany" "I", .fieldLink RX6 39 "SelfRowsModel" "then" "[I", .methodLink RX6 118 yX6_cut, .instanceMethod yX6_cut, .selects RX6 yX6_cut yX6_cut, .code yX6_cut cX6_cut 5 none] ++ wsX60)
def wsX6_depth_r1 : List Cond := [Cond.constantLong RX6 67 (2), Cond.constantLong RX6 71 (6), Cond.methodLink RX6 59 yX6_in, Cond.static yX6_in, Cond.initialized RX6, Cond.code yX6_in cX6_in 6 (some .boolean), Cond.methodLink RX6 111 yX6_load, Cond.instanceMethod yX6_load, Cond.selects RX6 yX6_load yX6_load, Cond.code yX6_load cX6_load 2 none, Cond.fieldLink RX6 100 "SelfRowsModel" "size" "I", Cond.fieldLink RX6 105 "SelfRowsModel" "nowMany" "I", Cond.fieldLink RX6 36 "SelfRowsModel" "now" "[I", Cond.fieldLink RX6 33 "SelfRowsModel" "word" "[I", Cond.methodLink RX6 125 yX6_depthOf, Cond.instanceMethod yX6_depthOf, Cond.selects RX6 yX6_depthOf yX6_depthOf, Cond.code yX6_depthOf cX6_depthOf 4 (some .int), Cond.methodLink RX6 114 yX6_measure, Cond.instanceMethod yX6_measure, Cond.selects RX6 yX6_measure yX6_measure, Cond.code yX6_measure cX6_measure 3 (some .int), Cond.fieldLink RX6 108 "SelfRowsModel" "thenMany" "I", Cond.fieldLink RX6 39 "SelfRowsModel" "then" "[I"]
def wsX6_depth_r2 : List Cond := [Cond.methodLink RX6 118 yX6_cut, Cond.instanceMethod yX6_cut, Cond.selects RX6 yX6_cut yX6_cut, Cond.code yX6_cut cX6_cut 5 none]
def wsX6_depth : List Cond := .code yX6_depth cX6_depth 2 (some .int) :: ((wsX6_depth_r1 ++ wsX6_depth_r2) ++ wsX60)
def wsX6_many_r1 : List Cond := [Cond.constantLong RX6 67 (2), Cond.constantLong RX6 57 (3), Cond.constantLong RX6 129 (14), Cond.constantLong RX6 131 (9), Cond.fieldLink RX6 133 "SelfRowsModel" "manyDone" "I", Cond.fieldLink RX6 42 "SelfRowsModel" "trial" "[I", Cond.fieldLink RX6 105 "SelfRowsModel" "nowMany" "I", Cond.fieldLink RX6 36 "SelfRowsModel" "now" "[I", Cond.methodLink RX6 59 yX6_in, Cond.static yX6_in, Cond.initialized RX6, Cond.code yX6_in cX6_in 6 (some .boolean), Cond.methodLink RX6 125 yX6_depthOf, Cond.instanceMethod yX6_depthOf, Cond.selects RX6 yX6_depthOf yX6_depthOf, Cond.code yX6_depthOf cX6_depthOf 4 (some .int), Cond.methodLink RX6 114 yX6_measure, Cond.instanceMethod yX6_measure, Cond.selects RX6 yX6_measure yX6_measure, Cond.code yX6_measure cX6_measure 3 (some .int), Cond.fieldLink RX6 108 "SelfRowsModel" "thenMany" "I", Cond.fieldLink RX6 39 "SelfRowsModel" "then" "[I", Cond.methodLink RX6 118 yX6_cut, Cond.instanceMethod yX6_cut]
def wsX6_many_r2 : List Cond := [Cond.selects RX6 yX6_cut yX6_cut, Cond.code yX6_cut cX6_cut 5 none]
def wsX6_many : List Cond := .code yX6_many cX6_many 6 (some .int) :: ((wsX6_many_r1 ++ wsX6_many_r2) ++ wsX60)
def wsX6_isMirror : List Cond := .code yX6_isMirror cX6_isMirror 3 (some .int) :: ([.fieldLink RX6 100 "SelfRowsModel" "size" "I", .fieldLink RX6 33 "SelfRowsModel" "word" "[I"] ++ wsX60)
def wsX6_twice : List Cond := .code yX6_twice cX6_twice 4 (some .int) :: ([.fieldLink RX6 100 "SelfRowsModel" "size" "I", .fieldLink RX6 33 "SelfRowsModel" "word" "[I"] ++ wsX60)
def wsX6_find_r1 : List Cond := [Cond.fieldLink RX6 100 "SelfRowsModel" "size" "I", Cond.fieldLink RX6 33 "SelfRowsModel" "word" "[I", Cond.methodLink RX6 90 yX6_isRow, Cond.instanceMethod yX6_isRow, Cond.selects RX6 yX6_isRow yX6_isRow, Cond.initialized RX6, Cond.code yX6_isRow cX6_isRow 2 (some .boolean), Cond.fieldLink RX6 49 "SelfRowsModel" "rowMany" "I", Cond.methodLink RX6 59 yX6_in, Cond.static yX6_in, Cond.code yX6_in cX6_in 6 (some .boolean), Cond.methodLink RX6 93 yX6_isPlace, Cond.static yX6_isPlace, Cond.code yX6_isPlace cX6_isPlace 1 (some .boolean), Cond.constantLong RX6 88 (100000), Cond.methodLink RX6 96 yX6_make, Cond.instanceMethod yX6_make, Cond.selects RX6 yX6_make yX6_make, Cond.code yX6_make cX6_make 8 none, Cond.fieldLink RX6 53 "SelfRowsModel" "stale" "Z", Cond.fieldLink RX6 73 "SelfRowsModel" "runMade" "I", Cond.fieldLink RX6 30 "SelfRowsModel" "made" "[I", Cond.constant RX6 83 (100000), Cond.methodLink RX6 76 yX6_number]
def wsX6_find_r2 : List Cond := [Cond.instanceMethod yX6_number, Cond.selects RX6 yX6_number yX6_number, Cond.code yX6_number cX6_number 3 (some .int), Cond.fieldLink RX6 20 "SelfRowsModel" "first" "[B", Cond.fieldLink RX6 24 "SelfRowsModel" "second" "[B", Cond.fieldLink RX6 27 "SelfRowsModel" "third" "[B", Cond.methodLink RX6 80 yX6_letterOf, Cond.instanceMethod yX6_letterOf, Cond.selects RX6 yX6_letterOf yX6_letterOf, Cond.code yX6_letterOf cX6_letterOf 4 (some .int), Cond.fieldLink RX6 16 "SelfRowsModel" "alphabetOf" "[I", Cond.fieldLink RX6 7 "SelfRowsModel" "letters" "[I", Cond.fieldLink RX6 13 "SelfRowsModel" "sizes" "[I", Cond.methodLink RX6 84 yX6_put, Cond.instanceMethod yX6_put, Cond.selects RX6 yX6_put yX6_put, Cond.code yX6_put cX6_put 4 none]
def wsX6_find : List Cond := .code yX6_find cX6_find 6 (some .int) :: ((wsX6_find_r1 ++ wsX6_find_r2) ++ wsX60)
def wsX6_unlike_r1 : List Cond := [Cond.constantLong RX6 136 (20), Cond.constantLong RX6 138 (2000), Cond.fieldLink RX6 140 "SelfRowsModel" "unlikeDone" "I", Cond.constantLong RX6 143 (7), Cond.fieldLink RX6 45 "SelfRowsModel" "keys" "[J", Cond.methodLink RX6 90 yX6_isRow, Cond.instanceMethod yX6_isRow, Cond.selects RX6 yX6_isRow yX6_isRow, Cond.initialized RX6, Cond.code yX6_isRow cX6_isRow 2 (some .boolean), Cond.fieldLink RX6 49 "SelfRowsModel" "rowMany" "I", Cond.methodLink RX6 59 yX6_in, Cond.static yX6_in, Cond.code yX6_in cX6_in 6 (some .boolean), Cond.methodLink RX6 96 yX6_make, Cond.instanceMethod yX6_make, Cond.selects RX6 yX6_make yX6_make, Cond.code yX6_make cX6_make 8 none, Cond.fieldLink RX6 53 "SelfRowsModel" "stale" "Z", Cond.fieldLink RX6 73 "SelfRowsModel" "runMade" "I", Cond.fieldLink RX6 30 "SelfRowsModel" "made" "[I", Cond.constant RX6 83 (100000), Cond.methodLink RX6 76 yX6_number, Cond.instanceMethod yX6_number]
def wsX6_unlike_r2 : List Cond := [Cond.selects RX6 yX6_number yX6_number, Cond.code yX6_number cX6_number 3 (some .int), Cond.fieldLink RX6 20 "SelfRowsModel" "first" "[B", Cond.fieldLink RX6 24 "SelfRowsModel" "second" "[B", Cond.fieldLink RX6 27 "SelfRowsModel" "third" "[B", Cond.methodLink RX6 80 yX6_letterOf, Cond.instanceMethod yX6_letterOf, Cond.selects RX6 yX6_letterOf yX6_letterOf, Cond.code yX6_letterOf cX6_letterOf 4 (some .int), Cond.fieldLink RX6 16 "SelfRowsModel" "alphabetOf" "[I", Cond.fieldLink RX6 7 "SelfRowsModel" "letters" "[I", Cond.fieldLink RX6 13 "SelfRowsModel" "sizes" "[I", Cond.methodLink RX6 84 yX6_put, Cond.instanceMethod yX6_put, Cond.selects RX6 yX6_put yX6_put, Cond.code yX6_put cX6_put 4 none]
def wsX6_unlike : List Cond := .code yX6_unlike cX6_unlike 11 (some .int) :: ((wsX6_unlike_r1 ++ wsX6_unlike_r2) ++ wsX60)
def wsX6_told : List Cond := .code yX6_told cX6_told 2 (some .int) :: ([.constantLong RX6 69 (4), .constantLong RX6 143 (7), .fieldLink RX6 13 "SelfRowsModel" "sizes" "[I", .fieldLink RX6 49 "SelfRowsModel" "rowMany" "I", .fieldLink RX6 100 "SelfRowsModel" "size" "I", .fieldLink RX6 133 "SelfRowsModel" "manyDone" "I", .fieldLink RX6 140 "SelfRowsModel" "unlikeDone" "I", .methodLink RX6 59 yX6_in, .static yX6_in, .initialized RX6, .code yX6_in cX6_in 6 (some .boolean)] ++ wsX60)
def wsX6_digest : List Cond := .code yX6_digest cX6_digest 5 (some .long) :: ([.constantLong RX6 145 (163), .fieldLink RX6 13 "SelfRowsModel" "sizes" "[I", .constantLong RX6 147 (31), .fieldLink RX6 7 "SelfRowsModel" "letters" "[I", .fieldLink RX6 49 "SelfRowsModel" "rowMany" "I", .fieldLink RX6 16 "SelfRowsModel" "alphabetOf" "[I", .fieldLink RX6 100 "SelfRowsModel" "size" "I", .fieldLink RX6 33 "SelfRowsModel" "word" "[I", .fieldLink RX6 133 "SelfRowsModel" "manyDone" "I", .fieldLink RX6 140 "SelfRowsModel" "unlikeDone" "I"] ++ wsX60)
def wsJ9_abs_0f7a4 : List Cond := .code yJ9_abs_0f7a4 cJ9_abs_0f7a4 1 (some .int) :: ([])
def wsJ9_max_7cf53 : List Cond := .code yJ9_max_7cf53 cJ9_max_7cf53 2 (some .int) :: ([])
def wsL_law_r1 : List Cond := [Cond.classLink RL 7 RX5, Cond.instantiable RX5 7, Cond.initialized RX5, Cond.classLink RL 10 RX6, Cond.instantiable RX6 20, Cond.initialized RX6, Cond.methodLink RL 9 yX5_init, Cond.instanceMethod yX5_init, Cond.code yX5_init cX5_init 1 none, Cond.methodLink RX5 1 objectInit, Cond.instanceMethod objectInit, Cond.code objectInit ⟨#[0xb1]⟩ 1 none, Cond.classLink RX5 7 RX1, Cond.instantiable RX1 4, Cond.initialized RX1, Cond.fieldLink RX5 10 "SelfRows" "circle" "LSelfRows$Ring;", Cond.classLink RX5 16 RX4, Cond.instantiable RX4 2, Cond.initialized RX4, Cond.fieldLink RX5 19 "SelfRows" "word" "LSelfRows$Word;", Cond.fieldLink RX5 23 "SelfRows" "spare" "LSelfRows$Word;", Cond.fieldLink RX5 26 "SelfRows" "trial" "LSelfRows$Word;", Cond.classLink RX5 29 RX3, Cond.instantiable RX3 1]
def wsL_law_r2 : List Cond := [Cond.initialized RX3, Cond.fieldLink RX5 32 "SelfRows" "stretches" "LSelfRows$Stretches;", Cond.fieldLink RX5 36 "SelfRows" "manyDone" "I", Cond.fieldLink RX5 40 "SelfRows" "unlikeDone" "I", Cond.methodLink RX5 9 yX1_init, Cond.instanceMethod yX1_init, Cond.code yX1_init cX1_init 2 none, Cond.methodLink RX1 3 objectInit, Cond.classLink RX1 9 RX0, Cond.fieldLink RX1 11 "SelfRows$Ring" "alphabets" "[LSelfRows$Alphabet;", Cond.classLink RX1 17 RX2, Cond.fieldLink RX1 19 "SelfRows$Ring" "rows" "[LSelfRows$Row;", Cond.arrayClass .int, Cond.fieldLink RX1 23 "SelfRows$Ring" "alphabetOfRow" "[I", Cond.fieldLink RX1 27 "SelfRows$Ring" "size" "I", Cond.instantiable RX0 2, Cond.initialized RX0, Cond.instantiable RX2 4, Cond.initialized RX2, Cond.methodLink RX1 31 yX0_init, Cond.instanceMethod yX0_init, Cond.code yX0_init cX0_init 1 none, Cond.methodLink RX0 3 objectInit, Cond.fieldLink RX0 11 "SelfRows$Alphabet" "letters" "[I"]
def wsL_law_r3 : List Cond := [Cond.fieldLink RX0 15 "SelfRows$Alphabet" "size" "I", Cond.instanceMethod yX2_init, Cond.code yX2_init cX2_init 1 none, Cond.methodLink RX2 3 objectInit, Cond.constant RX2 9 (100001), Cond.arrayClass .byte, Cond.fieldLink RX2 10 "SelfRows$Row" "numbers" "[B", Cond.fieldLink RX2 16 "SelfRows$Row" "kept" "[I", Cond.fieldLink RX2 20 "SelfRows$Row" "counts" "[I", Cond.fieldLink RX2 23 "SelfRows$Row" "made" "I", Cond.instanceMethod yX4_init, Cond.code yX4_init cX4_init 1 none, Cond.methodLink RX4 3 objectInit, Cond.fieldLink RX4 9 "SelfRows$Word" "letters" "[I", Cond.fieldLink RX4 15 "SelfRows$Word" "size" "I", Cond.instanceMethod yX3_init, Cond.code yX3_init cX3_init 1 none, Cond.methodLink RX3 1 objectInit, Cond.arrayClass .long, Cond.fieldLink RX3 9 "SelfRows$Stretches" "seats" "[J", Cond.methodLink RL 12 yX6_init, Cond.instanceMethod yX6_init, Cond.code yX6_init cX6_init 2 none, Cond.methodLink RX6 1 objectInit]
def wsL_law_r4 : List Cond := [Cond.fieldLink RX6 7 "SelfRowsModel" "letters" "[I", Cond.fieldLink RX6 13 "SelfRowsModel" "sizes" "[I", Cond.fieldLink RX6 16 "SelfRowsModel" "alphabetOf" "[I", Cond.constant RX6 19 (100001), Cond.fieldLink RX6 20 "SelfRowsModel" "first" "[B", Cond.fieldLink RX6 24 "SelfRowsModel" "second" "[B", Cond.fieldLink RX6 27 "SelfRowsModel" "third" "[B", Cond.fieldLink RX6 30 "SelfRowsModel" "made" "[I", Cond.fieldLink RX6 33 "SelfRowsModel" "word" "[I", Cond.fieldLink RX6 36 "SelfRowsModel" "now" "[I", Cond.fieldLink RX6 39 "SelfRowsModel" "then" "[I", Cond.fieldLink RX6 42 "SelfRowsModel" "trial" "[I", Cond.fieldLink RX6 45 "SelfRowsModel" "keys" "[J", Cond.fieldLink RX6 49 "SelfRowsModel" "rowMany" "I", Cond.fieldLink RX6 53 "SelfRowsModel" "stale" "Z", Cond.methodLink RL 13 yX5_alphabet, Cond.instanceMethod yX5_alphabet, Cond.selects RX5 yX5_alphabet yX5_alphabet, Cond.code yX5_alphabet cX5_alphabet 8 (some .int), Cond.methodLink RX5 43 yX1_alphabetNamed, Cond.instanceMethod yX1_alphabetNamed, Cond.selects RX1 yX1_alphabetNamed yX1_alphabetNamed, Cond.code yX1_alphabetNamed cX1_alphabetNamed 3 (some (.object "SelfRows$Alphabet")), Cond.methodLink RX5 47 yX0_change]
def wsL_law_r5 : List Cond := [Cond.instanceMethod yX0_change, Cond.selects RX0 yX0_change yX0_change, Cond.code yX0_change cX0_change 7 (some .boolean), Cond.static yX5_isLetter, Cond.code yX5_isLetter cX5_isLetter 1 (some .boolean), Cond.methodLink RX5 53 yX1_forgetNumbers, Cond.instanceMethod yX1_forgetNumbers, Cond.selects RX1 yX1_forgetNumbers yX1_forgetNumbers, Cond.code yX1_forgetNumbers cX1_forgetNumbers 2 none, Cond.methodLink RX1 36 yX2_forget, Cond.instanceMethod yX2_forget, Cond.selects RX2 yX2_forget yX2_forget, Cond.code yX2_forget cX2_forget 2 none, Cond.methodLink RL 17 yX6_alphabet, Cond.instanceMethod yX6_alphabet, Cond.selects RX6 yX6_alphabet yX6_alphabet, Cond.code yX6_alphabet cX6_alphabet 11 (some .int), Cond.constantLong RX6 67 (2), Cond.constantLong RX6 69 (4), Cond.constantLong RX6 71 (6), Cond.methodLink RX6 63 yX6_isAlphabet, Cond.static yX6_isAlphabet, Cond.code yX6_isAlphabet cX6_isAlphabet 1 (some .boolean), Cond.constantLong RX6 57 (3)]
def wsL_law_r6 : List Cond := [Cond.methodLink RX6 59 yX6_in, Cond.static yX6_in, Cond.code yX6_in cX6_in 6 (some .boolean), Cond.methodLink RL 18 yX5_ring, Cond.instanceMethod yX5_ring, Cond.selects RX5 yX5_ring yX5_ring, Cond.code yX5_ring cX5_ring 6 (some .int), Cond.methodLink RX5 56 yX1_hasAlphabet, Cond.instanceMethod yX1_hasAlphabet, Cond.selects RX1 yX1_hasAlphabet yX1_hasAlphabet, Cond.code yX1_hasAlphabet cX1_hasAlphabet 2 (some .boolean), Cond.methodLink RX5 60 yX1_join, Cond.instanceMethod yX1_join, Cond.selects RX1 yX1_join yX1_join, Cond.code yX1_join cX1_join 5 none, Cond.methodLink RX1 33 yX1_forgetNumbers, Cond.methodLink RL 22 yX6_ring, Cond.instanceMethod yX6_ring, Cond.selects RX6 yX6_ring yX6_ring, Cond.code yX6_ring cX6_ring 5 (some .int), Cond.methodLink RL 23 yX5_at, Cond.instanceMethod yX5_at, Cond.selects RX5 yX5_at yX5_at, Cond.code yX5_at cX5_at 3 (some .int)]
def wsL_law_r7 : List Cond := [Cond.constant RX5 67 (100000), Cond.methodLink RX5 64 yX1_hasRow, Cond.instanceMethod yX1_hasRow, Cond.selects RX1 yX1_hasRow yX1_hasRow, Cond.code yX1_hasRow cX1_hasRow 2 (some .boolean), Cond.methodLink RX5 68 yX5_isOutside, Cond.static yX5_isOutside, Cond.code yX5_isOutside cX5_isOutside 2 (some .boolean), Cond.methodLink RX5 72 yX1_rowOf, Cond.instanceMethod yX1_rowOf, Cond.selects RX1 yX1_rowOf yX1_rowOf, Cond.code yX1_rowOf cX1_rowOf 5 (some (.object "SelfRows$Row")), Cond.constant RX1 43 (300003), Cond.methodLink RX1 39 yX1_hasRow, Cond.methodLink RX1 44 yX2_made, Cond.instanceMethod yX2_made, Cond.selects RX2 yX2_made yX2_made, Cond.code yX2_made cX2_made 1 (some .int), Cond.methodLink RX1 48 yX1_ripeFrom, Cond.instanceMethod yX1_ripeFrom, Cond.selects RX1 yX1_ripeFrom yX1_ripeFrom, Cond.code yX1_ripeFrom cX1_ripeFrom 4 (some .int), Cond.methodLink RX1 56 yX1_waits, Cond.instanceMethod yX1_waits]
def wsL_law_r8 : List Cond := [Cond.selects RX1 yX1_waits yX1_waits, Cond.code yX1_waits cX1_waits 3 (some .boolean), Cond.methodLink RX1 59 yX1_nextOf, Cond.instanceMethod yX1_nextOf, Cond.selects RX1 yX1_nextOf yX1_nextOf, Cond.code yX1_nextOf cX1_nextOf 2 (some .int), Cond.methodLink RX1 62 yX2_runsMade, Cond.instanceMethod yX2_runsMade, Cond.selects RX2 yX2_runsMade yX2_runsMade, Cond.code yX2_runsMade cX2_runsMade 1 (some .int), Cond.methodLink RX1 52 yX1_grow, Cond.instanceMethod yX1_grow, Cond.selects RX1 yX1_grow yX1_grow, Cond.code yX1_grow cX1_grow 6 none, Cond.methodLink RX1 65 yX1_lettersOf, Cond.instanceMethod yX1_lettersOf, Cond.selects RX1 yX1_lettersOf yX1_lettersOf, Cond.code yX1_lettersOf cX1_lettersOf 3 (some (.object "SelfRows$Alphabet")), Cond.methodLink RX1 86 yX1_hasAlphabet, Cond.methodLink RX1 69 yX0_letterOfRun, Cond.instanceMethod yX0_letterOfRun, Cond.selects RX0 yX0_letterOfRun yX0_letterOfRun, Cond.code yX0_letterOfRun cX0_letterOfRun 3 (some .int), Cond.methodLink RX1 72 yX1_lengthTold]
def wsL_law_r9 : List Cond := [Cond.instanceMethod yX1_lengthTold, Cond.selects RX1 yX1_lengthTold yX1_lengthTold, Cond.code yX1_lengthTold cX1_lengthTold 4 (some .int), Cond.methodLink RX1 83 yX2_number, Cond.instanceMethod yX2_number, Cond.selects RX2 yX2_number yX2_number, Cond.code yX2_number cX2_number 2 (some .int), Cond.methodLink RX1 76 yX2_putRun, Cond.instanceMethod yX2_putRun, Cond.selects RX2 yX2_putRun yX2_putRun, Cond.code yX2_putRun cX2_putRun 4 none, Cond.methodLink RX2 31 yX2_keepCounts, Cond.instanceMethod yX2_keepCounts, Cond.selects RX2 yX2_keepCounts yX2_keepCounts, Cond.code yX2_keepCounts cX2_keepCounts 3 none, Cond.methodLink RX1 79 yX2_putRunsToldBy, Cond.instanceMethod yX2_putRunsToldBy, Cond.selects RX2 yX2_putRunsToldBy yX2_putRunsToldBy, Cond.code yX2_putRunsToldBy cX2_putRunsToldBy 5 none, Cond.methodLink RX2 34 yX2_runsMade, Cond.methodLink RX2 38 yX2_made, Cond.methodLink RX2 40 yX0_letterOfRun, Cond.methodLink RX2 46 yX2_number, Cond.methodLink RX2 49 yX2_putRun]
def wsL_law_r10 : List Cond := [Cond.methodLink RX5 76 yX2_number, Cond.methodLink RL 27 yX6_at, Cond.instanceMethod yX6_at, Cond.selects RX6 yX6_at yX6_at, Cond.code yX6_at cX6_at 3 (some .int), Cond.methodLink RX6 90 yX6_isRow, Cond.instanceMethod yX6_isRow, Cond.selects RX6 yX6_isRow yX6_isRow, Cond.code yX6_isRow cX6_isRow 2 (some .boolean), Cond.methodLink RX6 93 yX6_isPlace, Cond.static yX6_isPlace, Cond.code yX6_isPlace cX6_isPlace 1 (some .boolean), Cond.constantLong RX6 88 (100000), Cond.methodLink RX6 96 yX6_make, Cond.instanceMethod yX6_make, Cond.selects RX6 yX6_make yX6_make, Cond.code yX6_make cX6_make 8 none, Cond.fieldLink RX6 73 "SelfRowsModel" "runMade" "I", Cond.constant RX6 83 (100000), Cond.methodLink RX6 76 yX6_number, Cond.instanceMethod yX6_number, Cond.selects RX6 yX6_number yX6_number, Cond.code yX6_number cX6_number 3 (some .int), Cond.methodLink RX6 80 yX6_letterOf]
def wsL_law_r11 : List Cond := [Cond.instanceMethod yX6_letterOf, Cond.selects RX6 yX6_letterOf yX6_letterOf, Cond.code yX6_letterOf cX6_letterOf 4 (some .int), Cond.methodLink RX6 84 yX6_put, Cond.instanceMethod yX6_put, Cond.selects RX6 yX6_put yX6_put, Cond.code yX6_put cX6_put 4 none, Cond.methodLink RL 28 yX5_count, Cond.instanceMethod yX5_count, Cond.selects RX5 yX5_count yX5_count, Cond.code yX5_count cX5_count 4 (some .int), Cond.methodLink RX5 82 yX2_lettersWithin, Cond.instanceMethod yX2_lettersWithin, Cond.selects RX2 yX2_lettersWithin yX2_lettersWithin, Cond.code yX2_lettersWithin cX2_lettersWithin 5 (some .int), Cond.methodLink RX2 53 yX2_keptBefore, Cond.instanceMethod yX2_keptBefore, Cond.selects RX2 yX2_keptBefore yX2_keptBefore, Cond.code yX2_keptBefore cX2_keptBefore 4 (some .int), Cond.methodLink RL 32 yX6_count, Cond.instanceMethod yX6_count, Cond.selects RX6 yX6_count yX6_count, Cond.code yX6_count cX6_count 6 (some .int), Cond.methodLink RL 33 yX5_sum]
def wsL_law_r12 : List Cond := [Cond.instanceMethod yX5_sum, Cond.selects RX5 yX5_sum yX5_sum, Cond.code yX5_sum cX5_sum 3 (some .int), Cond.methodLink RX5 86 yX2_sumWithin, Cond.instanceMethod yX2_sumWithin, Cond.selects RX2 yX2_sumWithin yX2_sumWithin, Cond.code yX2_sumWithin cX2_sumWithin 4 (some .int), Cond.methodLink RX2 57 yX2_lettersWithin, Cond.methodLink RL 36 yX6_sum, Cond.instanceMethod yX6_sum, Cond.selects RX6 yX6_sum yX6_sum, Cond.code yX6_sum cX6_sum 5 (some .int), Cond.methodLink RL 37 yX5_run, Cond.instanceMethod yX5_run, Cond.selects RX5 yX5_run yX5_run, Cond.code yX5_run cX5_run 3 (some .int), Cond.methodLink RX5 89 yX2_runsWithin, Cond.instanceMethod yX2_runsWithin, Cond.selects RX2 yX2_runsWithin yX2_runsWithin, Cond.code yX2_runsWithin cX2_runsWithin 4 (some .int), Cond.methodLink RL 40 yX6_run, Cond.instanceMethod yX6_run, Cond.selects RX6 yX6_run yX6_run, Cond.code yX6_run cX6_run 5 (some .int)]
def wsL_law_r13 : List Cond := [Cond.methodLink RL 41 yX5_begins, Cond.instanceMethod yX5_begins, Cond.selects RX5 yX5_begins yX5_begins, Cond.code yX5_begins cX5_begins 4 (some .int), Cond.methodLink RX5 92 yX1_nextOf, Cond.methodLink RL 44 yX6_begins, Cond.instanceMethod yX6_begins, Cond.selects RX6 yX6_begins yX6_begins, Cond.code yX6_begins cX6_begins 5 (some .int), Cond.methodLink RL 45 yX5_off, Cond.instanceMethod yX5_off, Cond.selects RX5 yX5_off yX5_off, Cond.code yX5_off cX5_off 5 (some .int), Cond.methodLink RX5 95 yX2_greatestOff, Cond.instanceMethod yX2_greatestOff, Cond.selects RX2 yX2_greatestOff yX2_greatestOff, Cond.code yX2_greatestOff cX2_greatestOff 7 (some .int), Cond.methodLink RX2 60 Lib.Math.abs.name, Cond.static Lib.Math.abs.name, Cond.initialized "java/lang/Math", Cond.code Lib.Math.abs.name Lib.Math.abs.code 1 (some .int), Cond.methodLink RX2 65 Lib.Math.max.name, Cond.static Lib.Math.max.name, Cond.code Lib.Math.max.name Lib.Math.max.code 2 (some .int)]
def wsL_law_r14 : List Cond := [Cond.methodLink RL 48 yX6_off, Cond.instanceMethod yX6_off, Cond.selects RX6 yX6_off yX6_off, Cond.code yX6_off cX6_off 9 (some .int), Cond.methodLink RL 49 yX5_add, Cond.instanceMethod yX5_add, Cond.selects RX5 yX5_add yX5_add, Cond.code yX5_add cX5_add 2 (some .int), Cond.methodLink RX5 99 yX5_isLetter, Cond.methodLink RX5 102 yX4_put, Cond.instanceMethod yX4_put, Cond.selects RX4 yX4_put yX4_put, Cond.code yX4_put cX4_put 2 (some .boolean), Cond.methodLink RX5 105 yX4_size, Cond.instanceMethod yX4_size, Cond.selects RX4 yX4_size yX4_size, Cond.code yX4_size cX4_size 1 (some .int), Cond.methodLink RL 53 yX6_add, Cond.instanceMethod yX6_add, Cond.selects RX6 yX6_add yX6_add, Cond.code yX6_add cX6_add 2 (some .int), Cond.fieldLink RX6 100 "SelfRowsModel" "size" "I", Cond.methodLink RL 54 yX5_take, Cond.instanceMethod yX5_take]
def wsL_law_r15 : List Cond := [Cond.selects RX5 yX5_take yX5_take, Cond.code yX5_take cX5_take 6 (some .int), Cond.methodLink RX5 109 yX4_empty, Cond.instanceMethod yX4_empty, Cond.selects RX4 yX4_empty yX4_empty, Cond.code yX4_empty cX4_empty 1 none, Cond.methodLink RL 57 yX6_take, Cond.instanceMethod yX6_take, Cond.selects RX6 yX6_take yX6_take, Cond.code yX6_take cX6_take 5 (some .int), Cond.constantLong RX6 103 (60), Cond.methodLink RL 58 yX5_clear, Cond.instanceMethod yX5_clear, Cond.selects RX5 yX5_clear yX5_clear, Cond.code yX5_clear cX5_clear 2 (some .int), Cond.methodLink RL 62 yX6_clear, Cond.instanceMethod yX6_clear, Cond.selects RX6 yX6_clear yX6_clear, Cond.code yX6_clear cX6_clear 2 (some .int), Cond.methodLink RL 63 yX5_letter, Cond.instanceMethod yX5_letter, Cond.selects RX5 yX5_letter yX5_letter, Cond.code yX5_letter cX5_letter 2 (some .int), Cond.methodLink RX5 112 yX4_letterAt]
def wsL_law_r16 : List Cond := [Cond.instanceMethod yX4_letterAt, Cond.selects RX4 yX4_letterAt yX4_letterAt, Cond.code yX4_letterAt cX4_letterAt 2 (some .int), Cond.methodLink RL 66 yX6_letter, Cond.instanceMethod yX6_letter, Cond.selects RX6 yX6_letter yX6_letter, Cond.code yX6_letter cX6_letter 2 (some .int), Cond.methodLink RL 67 yX5_runs, Cond.instanceMethod yX5_runs, Cond.selects RX5 yX5_runs yX5_runs, Cond.code yX5_runs cX5_runs 1 (some .int), Cond.methodLink RX5 115 yX4_runsInIt, Cond.instanceMethod yX4_runsInIt, Cond.selects RX4 yX4_runsInIt yX4_runsInIt, Cond.code yX4_runsInIt cX4_runsInIt 3 (some .int), Cond.methodLink RX4 39 yX4_isEndOfRun, Cond.instanceMethod yX4_isEndOfRun, Cond.selects RX4 yX4_isEndOfRun yX4_isEndOfRun, Cond.code yX4_isEndOfRun cX4_isEndOfRun 2 (some .boolean), Cond.methodLink RX4 29 yX4_letterAt, Cond.methodLink RL 70 yX6_runs, Cond.instanceMethod yX6_runs, Cond.selects RX6 yX6_runs yX6_runs, Cond.code yX6_runs cX6_runs 2 (some .int)]
def wsL_law_r17 : List Cond := [Cond.fieldLink RX6 108 "SelfRowsModel" "thenMany" "I", Cond.methodLink RX6 111 yX6_load, Cond.instanceMethod yX6_load, Cond.selects RX6 yX6_load yX6_load, Cond.code yX6_load cX6_load 2 none, Cond.fieldLink RX6 105 "SelfRowsModel" "nowMany" "I", Cond.methodLink RX6 114 yX6_measure, Cond.instanceMethod yX6_measure, Cond.selects RX6 yX6_measure yX6_measure, Cond.code yX6_measure cX6_measure 3 (some .int), Cond.methodLink RL 71 yX5_shorten, Cond.instanceMethod yX5_shorten, Cond.selects RX5 yX5_shorten yX5_shorten, Cond.code yX5_shorten cX5_shorten 2 (some .int), Cond.methodLink RX5 118 yX4_longestRun, Cond.instanceMethod yX4_longestRun, Cond.selects RX4 yX4_longestRun yX4_longestRun, Cond.code yX4_longestRun cX4_longestRun 4 (some .int), Cond.methodLink RX4 33 Lib.Math.max.name, Cond.methodLink RX5 121 yX4_becomeShorter, Cond.instanceMethod yX4_becomeShorter, Cond.selects RX4 yX4_becomeShorter yX4_becomeShorter, Cond.code yX4_becomeShorter cX4_becomeShorter 7 none, Cond.methodLink RX4 42 yX4_change]
def wsL_law_r18 : List Cond := [Cond.instanceMethod yX4_change, Cond.selects RX4 yX4_change yX4_change, Cond.code yX4_change cX4_change 3 none, Cond.methodLink RL 74 yX6_shorten, Cond.instanceMethod yX6_shorten, Cond.selects RX6 yX6_shorten yX6_shorten, Cond.code yX6_shorten cX6_shorten 2 (some .int), Cond.methodLink RX6 118 yX6_cut, Cond.instanceMethod yX6_cut, Cond.selects RX6 yX6_cut yX6_cut, Cond.code yX6_cut cX6_cut 5 none, Cond.methodLink RX6 122 yX6_keep, Cond.instanceMethod yX6_keep, Cond.selects RX6 yX6_keep yX6_keep, Cond.code yX6_keep cX6_keep 2 none, Cond.methodLink RL 75 yX5_lengthen, Cond.instanceMethod yX5_lengthen, Cond.selects RX5 yX5_lengthen yX5_lengthen, Cond.code yX5_lengthen cX5_lengthen 5 (some .int), Cond.methodLink RX5 125 yX0_size, Cond.instanceMethod yX0_size, Cond.selects RX0 yX0_size yX0_size, Cond.code yX0_size cX0_size 1 (some .int), Cond.methodLink RX5 126 yX4_total]
def wsL_law_r19 : List Cond := [Cond.instanceMethod yX4_total, Cond.selects RX4 yX4_total yX4_total, Cond.code yX4_total cX4_total 3 (some .int), Cond.methodLink RX5 129 yX4_become, Cond.instanceMethod yX4_become, Cond.selects RX4 yX4_become yX4_become, Cond.code yX4_become cX4_become 3 none, Cond.methodLink RX4 23 yX4_empty, Cond.methodLink RX4 26 yX4_size, Cond.methodLink RX4 19 yX4_put, Cond.methodLink RX5 133 yX0_letterOfRun, Cond.methodLink RX5 136 yX4_putTimes, Cond.instanceMethod yX4_putTimes, Cond.selects RX4 yX4_putTimes yX4_putTimes, Cond.code yX4_putTimes cX4_putTimes 4 none, Cond.methodLink RL 78 yX6_lengthen, Cond.instanceMethod yX6_lengthen, Cond.selects RX6 yX6_lengthen yX6_lengthen, Cond.code yX6_lengthen cX6_lengthen 6 (some .int), Cond.methodLink RL 79 yX5_mirror, Cond.instanceMethod yX5_mirror, Cond.selects RX5 yX5_mirror yX5_mirror, Cond.code yX5_mirror cX5_mirror 1 (some .int), Cond.methodLink RX5 140 yX4_turnRound]
def wsL_law_r20 : List Cond := [Cond.instanceMethod yX4_turnRound, Cond.selects RX4 yX4_turnRound yX4_turnRound, Cond.code yX4_turnRound cX4_turnRound 4 none, Cond.methodLink RL 82 yX6_mirror, Cond.instanceMethod yX6_mirror, Cond.selects RX6 yX6_mirror yX6_mirror, Cond.code yX6_mirror cX6_mirror 2 (some .int), Cond.methodLink RL 83 yX5_turn, Cond.instanceMethod yX5_turn, Cond.selects RX5 yX5_turn yX5_turn, Cond.code yX5_turn cX5_turn 3 (some .int), Cond.methodLink RX5 143 yX4_replaceBy, Cond.instanceMethod yX4_replaceBy, Cond.selects RX4 yX4_replaceBy yX4_replaceBy, Cond.code yX4_replaceBy cX4_replaceBy 5 (some .int), Cond.methodLink RX4 46 yX0_letterBehind, Cond.instanceMethod yX0_letterBehind, Cond.selects RX0 yX0_letterBehind yX0_letterBehind, Cond.code yX0_letterBehind cX0_letterBehind 3 (some .int), Cond.methodLink RX0 19 yX0_letterOfRun, Cond.methodLink RL 86 yX6_turn, Cond.instanceMethod yX6_turn, Cond.selects RX6 yX6_turn yX6_turn, Cond.code yX6_turn cX6_turn 6 (some .int)]
def wsL_law_r21 : List Cond := [Cond.methodLink RL 87 yX5_depth, Cond.instanceMethod yX5_depth, Cond.selects RX5 yX5_depth yX5_depth, Cond.code yX5_depth cX5_depth 2 (some .int), Cond.methodLink RX5 147 yX5_depthSpent, Cond.static yX5_depthSpent, Cond.code yX5_depthSpent cX5_depthSpent 3 (some .int), Cond.methodLink RX5 185 yX4_greatestLetter, Cond.instanceMethod yX4_greatestLetter, Cond.selects RX4 yX4_greatestLetter yX4_greatestLetter, Cond.code yX4_greatestLetter cX4_greatestLetter 3 (some .int), Cond.methodLink RL 90 yX6_depth, Cond.instanceMethod yX6_depth, Cond.selects RX6 yX6_depth yX6_depth, Cond.code yX6_depth cX6_depth 2 (some .int), Cond.methodLink RX6 125 yX6_depthOf, Cond.instanceMethod yX6_depthOf, Cond.selects RX6 yX6_depthOf yX6_depthOf, Cond.code yX6_depthOf cX6_depthOf 4 (some .int), Cond.methodLink RL 91 yX5_many, Cond.instanceMethod yX5_many, Cond.selects RX5 yX5_many yX5_many, Cond.code yX5_many cX5_many 3 (some .int), Cond.methodLink RX5 151 yX5_manyMost]
def wsL_law_r22 : List Cond := [Cond.static yX5_manyMost, Cond.code yX5_manyMost cX5_manyMost 1 (some .int), Cond.methodLink RX5 154 yX5_standing, Cond.static yX5_standing, Cond.code yX5_standing cX5_standing 9 (some .int), Cond.methodLink RX5 188 yX4_drop, Cond.instanceMethod yX4_drop, Cond.selects RX4 yX4_drop yX4_drop, Cond.code yX4_drop cX4_drop 1 none, Cond.methodLink RL 94 yX6_many, Cond.instanceMethod yX6_many, Cond.selects RX6 yX6_many yX6_many, Cond.code yX6_many cX6_many 6 (some .int), Cond.constantLong RX6 129 (14), Cond.constantLong RX6 131 (9), Cond.fieldLink RX6 133 "SelfRowsModel" "manyDone" "I", Cond.methodLink RL 95 yX5_isMirror, Cond.instanceMethod yX5_isMirror, Cond.selects RX5 yX5_isMirror yX5_isMirror, Cond.code yX5_isMirror cX5_isMirror 1 (some .int), Cond.methodLink RX5 158 yX4_isSameMirrored, Cond.instanceMethod yX4_isSameMirrored, Cond.selects RX4 yX4_isSameMirrored yX4_isSameMirrored, Cond.code yX4_isSameMirrored cX4_isSameMirrored 3 (some .boolean)]
def wsL_law_r23 : List Cond := [Cond.methodLink RL 98 yX6_isMirror, Cond.instanceMethod yX6_isMirror, Cond.selects RX6 yX6_isMirror yX6_isMirror, Cond.code yX6_isMirror cX6_isMirror 3 (some .int), Cond.methodLink RL 99 yX5_twice, Cond.instanceMethod yX5_twice, Cond.selects RX5 yX5_twice yX5_twice, Cond.code yX5_twice cX5_twice 1 (some .int), Cond.methodLink RX5 162 yX4_leastTwice, Cond.instanceMethod yX4_leastTwice, Cond.selects RX4 yX4_leastTwice yX4_leastTwice, Cond.code yX4_leastTwice cX4_leastTwice 2 (some .int), Cond.methodLink RX4 51 yX4_hasTwice, Cond.instanceMethod yX4_hasTwice, Cond.selects RX4 yX4_hasTwice yX4_hasTwice, Cond.code yX4_hasTwice cX4_hasTwice 4 (some .boolean), Cond.methodLink RL 102 yX6_twice, Cond.instanceMethod yX6_twice, Cond.selects RX6 yX6_twice yX6_twice, Cond.code yX6_twice cX6_twice 4 (some .int), Cond.methodLink RL 103 yX5_find, Cond.instanceMethod yX5_find, Cond.selects RX5 yX5_find yX5_find, Cond.code yX5_find cX5_find 6 (some .int)]
def wsL_law_r24 : List Cond := [Cond.methodLink RX5 165 yX2_holds, Cond.instanceMethod yX2_holds, Cond.selects RX2 yX2_holds yX2_holds, Cond.code yX2_holds cX2_holds 4 (some .boolean), Cond.methodLink RX2 68 yX4_size, Cond.methodLink RX2 73 yX4_letterAt, Cond.methodLink RL 106 yX6_find, Cond.instanceMethod yX6_find, Cond.selects RX6 yX6_find yX6_find, Cond.code yX6_find cX6_find 6 (some .int), Cond.methodLink RL 107 yX5_unlike, Cond.instanceMethod yX5_unlike, Cond.selects RX5 yX5_unlike yX5_unlike, Cond.code yX5_unlike cX5_unlike 4 (some .int), Cond.methodLink RX5 169 yX3_unlikeWithin, Cond.instanceMethod yX3_unlikeWithin, Cond.selects RX3 yX3_unlikeWithin yX3_unlikeWithin, Cond.code yX3_unlikeWithin cX3_unlikeWithin 10 (some .int), Cond.methodLink RX3 13 yX2_number, Cond.methodLink RX3 19 yX3_takesSeat, Cond.instanceMethod yX3_takesSeat, Cond.selects RX3 yX3_takesSeat yX3_takesSeat, Cond.code yX3_takesSeat cX3_takesSeat 5 (some .boolean), Cond.constantLong RX3 23 (-7046029254386353131)]
def wsL_law_r25 : List Cond := [Cond.methodLink RL 110 yX6_unlike, Cond.instanceMethod yX6_unlike, Cond.selects RX6 yX6_unlike yX6_unlike, Cond.code yX6_unlike cX6_unlike 11 (some .int), Cond.constantLong RX6 136 (20), Cond.constantLong RX6 138 (2000), Cond.fieldLink RX6 140 "SelfRowsModel" "unlikeDone" "I", Cond.constantLong RX6 143 (7), Cond.methodLink RL 111 yX5_told, Cond.instanceMethod yX5_told, Cond.selects RX5 yX5_told yX5_told, Cond.code yX5_told cX5_told 3 (some .int), Cond.constantLong RX5 174 (4), Cond.methodLink RX5 173 yX1_size, Cond.instanceMethod yX1_size, Cond.selects RX1 yX1_size yX1_size, Cond.code yX1_size cX1_size 1 (some .int), Cond.methodLink RL 114 yX6_told, Cond.instanceMethod yX6_told, Cond.selects RX6 yX6_told yX6_told, Cond.code yX6_told cX6_told 2 (some .int), Cond.methodLink RL 115 yX5_digest, Cond.instanceMethod yX5_digest, Cond.selects RX5 yX5_digest yX5_digest]
def wsL_law_r26 : List Cond := [Cond.code yX5_digest cX5_digest 3 (some .long), Cond.constantLong RX5 176 (163), Cond.constantLong RX5 183 (31), Cond.methodLink RX5 178 yX1_mixInto, Cond.instanceMethod yX1_mixInto, Cond.selects RX1 yX1_mixInto yX1_mixInto, Cond.code yX1_mixInto cX1_mixInto 6 (some .long), Cond.constantLong RX1 93 (31), Cond.methodLink RX1 89 yX0_mixInto, Cond.instanceMethod yX0_mixInto, Cond.selects RX0 yX0_mixInto yX0_mixInto, Cond.code yX0_mixInto cX0_mixInto 6 (some .long), Cond.constantLong RX0 27 (31), Cond.methodLink RX5 182 yX4_mixInto, Cond.instanceMethod yX4_mixInto, Cond.selects RX4 yX4_mixInto yX4_mixInto, Cond.code yX4_mixInto cX4_mixInto 6 (some .long), Cond.constantLong RX4 54 (31), Cond.methodLink RL 119 yX6_digest, Cond.instanceMethod yX6_digest, Cond.selects RX6 yX6_digest yX6_digest, Cond.code yX6_digest cX6_digest 5 (some .long), Cond.constantLong RX6 145 (163), Cond.constantLong RX6 147 (31)]
def wsL_law : List Cond := (wsL_law_r1 ++ (wsL_law_r2 ++ (wsL_law_r3 ++ (wsL_law_r4 ++ (wsL_law_r5 ++ (wsL_law_r6 ++ (wsL_law_r7 ++ (wsL_law_r8 ++ (wsL_law_r9 ++ (wsL_law_r10 ++ (wsL_law_r11 ++ (wsL_law_r12 ++ (wsL_law_r13 ++ (wsL_law_r14 ++ (wsL_law_r15 ++ (wsL_law_r16 ++ (wsL_law_r17 ++ (wsL_law_r18 ++ (wsL_law_r19 ++ (wsL_law_r20 ++ (wsL_law_r21 ++ (wsL_law_r22 ++ (wsL_law_r23 ++ (wsL_law_r24 ++ (wsL_law_r25 ++ wsL_law_r26))))))))))))))))))))))))) ++ wsX50 ++ wsX60 ++ wsX10 ++ wsX40 ++ wsX30 ++ wsX00 ++ wsX20 ++ ([] : List Cond)
abbrev vwCl : List vw_C := [(RX0, TX0, 2), (RX1, TX1, 4), (RX2, TX2, 4), (RX3, TX3, 1), (RX4, TX4, 2), (RX5, TX5, 7), (RX6, TX6, 20)]
end
section
theorem dX0_init_0 : decode cX0_init 0 = .ok (.aload_n 0, 1) := by decide +kernel
theorem dX0_init_1 : decode cX0_init 1 = .ok (.invokespecial 3, 3) := by decide +kernel
theorem dX0_init_4 : decode cX0_init 4 = .ok (.aload_n 0, 1) := by decide +kernel
theorem dX0_init_5 : decode cX0_init 5 = .ok (.iconst 4, 1) := by decide +kernel
theorem dX0_init_6 : decode cX0_init 6 = .ok (.newarray .int, 2) := by decide +kernel
theorem dX0_init_8 : decode cX0_init 8 = .ok (.putfield 11, 3) := by decide +kernel
theorem dX0_init_11 : decode cX0_init 11 = .ok (.aload_n 0, 1) := by decide +kernel
theorem dX0_init_12 : decode cX0_init 12 = .ok (.iconst 2, 1) := by decide +kernel
theorem dX0_init_13 : decode cX0_init 13 = .ok (.putfield 15, 3) := by decide +kernel
theorem dX0_init_16 : decode cX0_init 16 = .ok (.aload_n 0, 1) := by decide +kernel
theorem dX0_init_17 : decode cX0_init 17 = .ok (.getfield 11, 3) := by decide +kernel
theorem dX0_init_20 : decode cX0_init 20 = .ok (.iconst 0, 1) := by decide +kernel
theorem dX0_init_21 : decode cX0_init 21 = .ok (.iconst 1, 1) := by decide +kernel
theorem dX0_init_22 : decode cX0_init 22 = .ok (.iastore, 1) := by decide +kernel
theorem dX0_init_23 : decode cX0_init 23 = .ok (.aload_n 0, 1) := by decide +kernel
theorem dX0_init_24 : decode cX0_init 24 = .ok (.getfield 11, 3) := by decide +kernel
theorem dX0_init_27 : decode cX0_init 27 = .ok (.iconst 1, 1) := by decide +kernel
theorem dX0_init_28 : decode cX0_init 28 = .ok (.iconst 2, 1) := by decide +kernel
theorem dX0_init_29 : decode cX0_init 29 = .ok (.iastore, 1) := by decide +kernel
theorem dX0_init_30 : decode cX0_init 30 = .ok (.return_, 1) := by decide +kernel
theorem dX0_size_0 : decode cX0_size 0 = .ok (.aload_n 0, 1) := by decide +kernel
theorem dX0_size_1 : decode cX0_size 1 = .ok (.getfield 15, 3) := by decide +kernel
theorem dX0_size_4 : decode cX0_size 4 = .ok (.ireturn, 1) := by decide +kernel
theorem dX0_letterOfRun_0 : decode cX0_letterOfRun 0 = .ok (.aload_n 0, 1) := by decide +kernel
theorem dX0_letterOfRun_1 : decode cX0_letterOfRun 1 = .ok (.getfield 15, 3) := by decide +kernel
theorem dX0_letterOfRun_4 : decode cX0_letterOfRun 4 = .ok (.iconst 1, 1) := by decide +kernel
theorem dX0_letterOfRun_5 : decode cX0_letterOfRun 5 = .ok (.if_icmp .lt 7, 3) := by decide +kernel
theorem dX0_letterOfRun_8 : decode cX0_letterOfRun 8 = .ok (.iload_n 1, 1) := by decide +kernel
theorem dX0_letterOfRun_9 : decode cX0_letterOfRun 9 = .ok (.ifCond .ge 5, 3) := by decide +kernel
theorem dX0_letterOfRun_12 : decode cX0_letterOfRun 12 = .ok (.iconst (-1), 1) := by decide +kernel
theorem dX0_letterOfRun_13 : decode cX0_letterOfRun 13 = .ok (.ireturn, 1) := by decide +kernel
theorem dX0_letterOfRun_14 : decode cX0_letterOfRun 14 = .ok (.iload_n 1, 1) := by decide +kernel
theorem dX0_letterOfRun_15 : decode cX0_letterOfRun 15 = .ok (.aload_n 0, 1) := by decide +kernel
theorem dX0_letterOfRun_16 : decode cX0_letterOfRun 16 = .ok (.getfield 15, 3) := by decide +kernel
theorem dX0_letterOfRun_19 : decode cX0_letterOfRun 19 = .ok (.irem, 1) := by decide +kernel
theorem dX0_letterOfRun_20 : decode cX0_letterOfRun 20 = .ok (.istore_n 2, 1) := by decide +kernel
theorem dX0_letterOfRun_21 : decode cX0_letterOfRun 21 = .ok (.iload_n 2, 1) := by decide +kernel
theorem dX0_letterOfRun_22 : decode cX0_letterOfRun 22 = .ok (.aload_n 0, 1) := by decide +kernel
theorem dX0_letterOfRun_23 : decode cX0_letterOfRun 23 = .ok (.getfield 11, 3) := by decide +kernel
theorem dX0_letterOfRun_26 : decode cX0_letterOfRun 26 = .ok (.arraylength, 1) := by decide +kernel
theorem dX0_letterOfRun_27 : decode cX0_letterOfRun 27 = .ok (.if_icmp .ge 12, 3) := by decide +kernel
theorem dX0_letterOfRun_30 : decode cX0_letterOfRun 30 = .ok (.aload_n 0, 1) := by decide +kernel
theorem dX0_letterOfRun_31 : decode cX0_letterOfRun 31 = .ok (.getfield 11, 3) := by decide +kernel
theorem dX0_letterOfRun_34 : decode cX0_letterOfRun 34 = .ok (.iload_n 2, 1) := by decide +kernel
theorem dX0_letterOfRun_35 : decode cX0_letterOfRun 35 = .ok (.iaload, 1) := by decide +kernel
theorem dX0_letterOfRun_36 : decode cX0_letterOfRun 36 = .ok (.goto 4, 3) := by decide +kernel
theorem dX0_letterOfRun_39 : decode cX0_letterOfRun 39 = .ok (.iconst (-1), 1) := by decide +kernel
theorem dX0_letterOfRun_40 : decode cX0_letterOfRun 40 = .ok (.ireturn, 1) := by decide +kernel
set_option maxRecDepth 20000 in
theorem ggX0_letterBehind_X0_letterOfRun : GoodIn wsX0_letterBehind wsX0_letterOfRun := goodIn_r _ [6, 1, 7, 8, 9] (by decide +kernel) (by decide +kernel)
set_option maxRecDepth 20000 in
theorem gX0_letterBehind_X0_letterOfRun : GoodIn wsX0_letterBehind (wsV RX0 19 RX0 yX0_letterOfRun wsX0_letterOfRun) := goodIn_app (goodIn_of _ (by decide +kernel)) ggX0_letterBehind_X0_letterOfRun
theorem dX0_letterBehind_0 : decode cX0_letterBehind 0 = .ok (.iconst 0, 1) := by decide +kernel
theorem dX0_letterBehind_1 : decode cX0_letterBehind 1 = .ok (.istore_n 2, 1) := by decide +kernel
theorem dX0_letterBehind_2 : decode cX0_letterBehind 2 = .ok (.iload_n 2, 1) := by decide +kernel
theorem dX0_letterBehind_3 : decode cX0_letterBehind 3 = .ok (.aload_n 0, 1) := by decide +kernel
theorem dX0_letterBehind_4 : decode cX0_letterBehind 4 = .ok (.getfield 15, 3) := by decide +kernel
theorem dX0_letterBehind_7 : decode cX0_letterBehind 7 = .ok (.if_icmp .ge 26, 3) := by decide +kernel
theorem dX0_letterBehind_10 : decode cX0_letterBehind 10 = .ok (.aload_n 0, 1) := by decide +kernel
theorem dX0_letterBehind_11 : decode cX0_letterBehind 11 = .ok (.iload_n 2, 1) := by decide +kernel
theorem dX0_letterBehind_12 : decode cX0_letterBehind 12 = .ok (.invokevirtual 19, 3) := by decide +kernel
theorem dX0_letterBehind_15 : decode cX0_letterBehind 15 = .ok (.iload_n 1, 1) := by decide +kernel
theorem dX0_letterBehind_16 : decode cX0_letterBehind 16 = .ok (.if_icmp .ne 11, 3) := by decide +kernel
theorem dX0_letterBehind_19 : decode cX0_letterBehind 19 = .ok (.aload_n 0, 1) := by decide +kernel
theorem dX0_letterBehind_20 : decode cX0_letterBehind 20 = .ok (.iload_n 2, 1) := by decide +kernel
theorem dX0_letterBehind_21 : decode cX0_letterBehind 21 = .ok (.iconst 1, 1) := by decide +kernel
theorem dX0_letterBehind_22 : decode cX0_letterBehind 22 = .ok (.iadd, 1) := by decide +kernel
theorem dX0_letterBehind_23 : decode cX0_letterBehind 23 = .ok (.invokevirtual 19, 3) := by decide +kernel
theorem dX0_letterBehind_26 : decode cX0_letterBehind 26 = .ok (.ireturn, 1) := by decide +kernel
theorem dX0_letterBehind_27 : decode cX0_letterBehind 27 = .ok (.iinc 2 1, 3) := by decide +kernel
theorem dX0_letterBehind_30 : decode cX0_letterBehind 30 = .ok (.goto (-28), 3) := by decide +kernel
theorem dX0_letterBehind_33 : decode cX0_letterBehind 33 = .ok (.iconst (-1), 1) := by decide +kernel
theorem dX0_letterBehind_34 : decode cX0_letterBehind 34 = .ok (.ireturn, 1) := by decide +kernel
set_option maxRecDepth 20000 in
theorem ggX0_change_X5_isLetter : GoodIn wsX0_change wsX5_isLetter := goodIn_r _ [5] (by decide +kernel) (by decide +kernel)
set_option maxRecDepth 20000 in
theorem gX0_change_X5_isLetter_n23 : GoodIn wsX0_change (wsX5_isLetter) := ggX0_change_X5_isLetter
theorem dX0_change_0 : decode cX0_change 0 = .ok (.iload_n 1, 1) := by decide +kernel
theorem dX0_change_1 : decode cX0_change 1 = .ok (.iconst 2, 1) := by decide +kernel
theorem dX0_change_2 : decode cX0_change 2 = .ok (.if_icmp .lt 8, 3) := by decide +kernel
theorem dX0_change_5 : decode cX0_change 5 = .ok (.iload_n 1, 1) := by decide +kernel
theorem dX0_change_6 : decode cX0_change 6 = .ok (.iconst 4, 1) := by decide +kernel
theorem dX0_change_7 : decode cX0_change 7 = .ok (.if_icmp .le 5, 3) := by decide +kernel
theorem dX0_change_10 : decode cX0_change 10 = .ok (.iconst 0, 1) := by decide +kernel
theorem dX0_change_11 : decode cX0_change 11 = .ok (.ireturn, 1) := by decide +kernel
theorem dX0_change_12 : decode cX0_change 12 = .ok (.iload_n 1, 1) := by decide +kernel
theorem dX0_change_13 : decode cX0_change 13 = .ok (.iconst 2, 1) := by decide +kernel
theorem dX0_change_14 : decode cX0_change 14 = .ok (.if_icmp .ne 7, 3) := by decide +kernel
theorem dX0_change_17 : decode cX0_change 17 = .ok (.iload_n 3, 1) := by decide +kernel
theorem dX0_change_18 : decode cX0_change 18 = .ok (.goto 15, 3) := by decide +kernel
theorem dX0_change_21 : decode cX0_change 21 = .ok (.iload_n 1, 1) := by decide +kernel
theorem dX0_change_22 : decode cX0_change 22 = .ok (.iconst 3, 1) := by decide +kernel
theorem dX0_change_23 : decode cX0_change 23 = .ok (.if_icmp .ne 8, 3) := by decide +kernel
theorem dX0_change_26 : decode cX0_change 26 = .ok (.iload 4, 2) := by decide +kernel
theorem dX0_change_28 : decode cX0_change 28 = .ok (.goto 5, 3) := by decide +kernel
theorem dX0_change_31 : decode cX0_change 31 = .ok (.iload 5, 2) := by decide +kernel
theorem dX0_change_33 : decode cX0_change 33 = .ok (.istore 6, 2) := by decide +kernel
theorem dX0_change_35 : decode cX0_change 35 = .ok (.iload_n 2, 1) := by decide +kernel
theorem dX0_change_36 : decode cX0_change 36 = .ok (.invokestatic 23, 3) := by decide +kernel
theorem dX0_change_39 : decode cX0_change 39 = .ok (.ifCond .eq 21, 3) := by decide +kernel
theorem dX0_change_42 : decode cX0_change 42 = .ok (.iload_n 3, 1) := by decide +kernel
theorem dX0_change_43 : decode cX0_change 43 = .ok (.invokestatic 23, 3) := by decide +kernel
theorem dX0_change_46 : decode cX0_change 46 = .ok (.ifCond .eq 14, 3) := by decide +kernel
theorem dX0_change_49 : decode cX0_change 49 = .ok (.iload_n 2, 1) := by decide +kernel
theorem dX0_change_50 : decode cX0_change 50 = .ok (.iload_n 3, 1) := by decide +kernel
theorem dX0_change_51 : decode cX0_change 51 = .ok (.if_icmp .eq 9, 3) := by decide +kernel
theorem dX0_change_54 : decode cX0_change 54 = .ok (.iload 6, 2) := by decide +kernel
theorem dX0_change_56 : decode cX0_change 56 = .ok (.iload_n 2, 1) := by decide +kernel
theorem dX0_change_57 : decode cX0_change 57 = .ok (.if_icmp .ne 5, 3) := by decide +kernel
theorem dX0_change_60 : decode cX0_change 60 = .ok (.iconst 0, 1) := by decide +kernel
theorem dX0_change_61 : decode cX0_change 61 = .ok (.ireturn, 1) := by decide +kernel
theorem dX0_change_62 : decode cX0_change 62 = .ok (.iload_n 1, 1) := by decide +kernel
theorem dX0_change_63 : decode cX0_change 63 = .ok (.iconst 3, 1) := by decide +kernel
theorem dX0_change_64 : decode cX0_change 64 = .ok (.if_icmp .lt 19, 3) := by decide +kernel
theorem dX0_change_67 : decode cX0_change 67 = .ok (.iload 4, 2) := by decide +kernel
theorem dX0_change_69 : decode cX0_change 69 = .ok (.invokestatic 23, 3) := by decide +kernel
theorem dX0_change_72 : decode cX0_change 72 = .ok (.ifCond .eq 9, 3) := by decide +kernel
theorem dX0_change_75 : decode cX0_change 75 = .ok (.iload_n 3, 1) := by decide +kernel
theorem dX0_change_76 : decode cX0_change 76 = .ok (.iload 4, 2) := by decide +kernel
theorem dX0_change_78 : decode cX0_change 78 = .ok (.if_icmp .ne 5, 3) := by decide +kernel
theorem dX0_change_81 : decode cX0_change 81 = .ok (.iconst 0, 1) := by decide +kernel
theorem dX0_change_82 : decode cX0_change 82 = .ok (.ireturn, 1) := by decide +kernel
theorem dX0_change_83 : decode cX0_change 83 = .ok (.iload_n 1, 1) := by decide +kernel
theorem dX0_change_84 : decode cX0_change 84 = .ok (.iconst 4, 1) := by decide +kernel
theorem dX0_change_85 : decode cX0_change 85 = .ok (.if_icmp .lt 20, 3) := by decide +kernel
theorem dX0_change_88 : decode cX0_change 88 = .ok (.iload 5, 2) := by decide +kernel
theorem dX0_change_90 : decode cX0_change 90 = .ok (.invokestatic 23, 3) := by decide +kernel
theorem dX0_change_93 : decode cX0_change 93 = .ok (.ifCond .eq 10, 3) := by decide +kernel
theorem dX0_change_96 : decode cX0_change 96 = .ok (.iload 4, 2) := by decide +kernel
theorem dX0_change_98 : decode cX0_change 98 = .ok (.iload 5, 2) := by decide +kernel
theorem dX0_change_100 : decode cX0_change 100 = .ok (.if_icmp .ne 5, 3) := by decide +kernel
theorem dX0_change_103 : decode cX0_change 103 = .ok (.iconst 0, 1) := by decide +kernel
theorem dX0_change_104 : decode cX0_change 104 = .ok (.ireturn, 1) := by decide +kernel
theorem dX0_change_105 : decode cX0_change 105 = .ok (.aload_n 0, 1) := by decide +kernel
theorem dX0_change_106 : decode cX0_change 106 = .ok (.getfield 11, 3) := by decide +kernel
theorem dX0_change_109 : decode cX0_change 109 = .ok (.iconst 0, 1) := by decide +kernel
theorem dX0_change_110 : decode cX0_change 110 = .ok (.iload_n 2, 1) := by decide +kernel
theorem dX0_change_111 : decode cX0_change 111 = .ok (.iastore, 1) := by decide +kernel
theorem dX0_change_112 : decode cX0_change 112 = .ok (.aload_n 0, 1) := by decide +kernel
theorem dX0_change_113 : decode cX0_change 113 = .ok (.getfield 11, 3) := by decide +kernel
theorem dX0_change_116 : decode cX0_change 116 = .ok (.iconst 1, 1) := by decide +kernel
theorem dX0_change_117 : decode cX0_change 117 = .ok (.iload_n 3, 1) := by decide +kernel
theorem dX0_change_118 : decode cX0_change 118 = .ok (.iastore, 1) := by decide +kernel
theorem dX0_change_119 : decode cX0_change 119 = .ok (.aload_n 0, 1) := by decide +kernel
theorem dX0_change_120 : decode cX0_change 120 = .ok (.getfield 11, 3) := by decide +kernel
theorem dX0_change_123 : decode cX0_change 123 = .ok (.iconst 2, 1) := by decide +kernel
theorem dX0_change_124 : decode cX0_change 124 = .ok (.iload 4, 2) := by decide +kernel
theorem dX0_change_126 : decode cX0_change 126 = .ok (.iastore, 1) := by decide +kernel
theorem dX0_change_127 : decode cX0_change 127 = .ok (.aload_n 0, 1) := by decide +kernel
theorem dX0_change_128 : decode cX0_change 128 = .ok (.getfield 11, 3) := by decide +kernel
theorem dX0_change_131 : decode cX0_change 131 = .ok (.iconst 3, 1) := by decide +kernel
theorem dX0_change_132 : decode cX0_change 132 = .ok (.iload 5, 2) := by decide +kernel
theorem dX0_change_134 : decode cX0_change 134 = .ok (.iastore, 1) := by decide +kernel
theorem dX0_change_135 : decode cX0_change 135 = .ok (.aload_n 0, 1) := by decide +kernel
theorem dX0_change_136 : decode cX0_change 136 = .ok (.iload_n 1, 1) := by decide +kernel
theorem dX0_change_137 : decode cX0_change 137 = .ok (.putfield 15, 3) := by decide +kernel
theorem dX0_change_140 : decode cX0_change 140 = .ok (.iconst 1, 1) := by decide +kernel
theorem dX0_change_141 : decode cX0_change 141 = .ok (.ireturn, 1) := by decide +kernel
set_option maxRecDepth 20000 in
theorem ggX0_mixInto_X0_letterOfRun : GoodIn wsX0_mixInto wsX0_letterOfRun := goodIn_r _ [7, 1, 8, 9, 10] (by decide +kernel) (by decide +kernel)
set_option maxRecDepth 20000 in
theorem gX0_mixInto_X0_letterOfRun : GoodIn wsX0_mixInto (wsV RX0 19 RX0 yX0_letterOfRun wsX0_letterOfRun) := goodIn_app (goodIn_of _ (by decide +kernel)) ggX0_mixInto_X0_letterOfRun
theorem dX0_mixInto_0 : decode cX0_mixInto 0 = .ok (.lload_n 1, 1) := by decide +kernel
theorem dX0_mixInto_1 : decode cX0_mixInto 1 = .ok (.lstore_n 3, 1) := by decide +kernel
theorem dX0_mixInto_2 : decode cX0_mixInto 2 = .ok (.iconst 0, 1) := by decide +kernel
theorem dX0_mixInto_3 : decode cX0_mixInto 3 = .ok (.istore 5, 2) := by decide +kernel
theorem dX0_mixInto_5 : decode cX0_mixInto 5 = .ok (.iload 5, 2) := by decide +kernel
theorem dX0_mixInto_7 : decode cX0_mixInto 7 = .ok (.aload_n 0, 1) := by decide +kernel
theorem dX0_mixInto_8 : decode cX0_mixInto 8 = .ok (.getfield 15, 3) := by decide +kernel
theorem dX0_mixInto_11 : decode cX0_mixInto 11 = .ok (.if_icmp .ge 23, 3) := by decide +kernel
theorem dX0_mixInto_14 : decode cX0_mixInto 14 = .ok (.ldc2_w 27, 3) := by decide +kernel
theorem dX0_mixInto_17 : decode cX0_mixInto 17 = .ok (.lload_n 3, 1) := by decide +kernel
theorem dX0_mixInto_18 : decode cX0_mixInto 18 = .ok (.lmul, 1) := by decide +kernel
theorem dX0_mixInto_19 : decode cX0_mixInto 19 = .ok (.aload_n 0, 1) := by decide +kernel
theorem dX0_mixInto_20 : decode cX0_mixInto 20 = .ok (.iload 5, 2) := by decide +kernel
theorem dX0_mixInto_22 : decode cX0_mixInto 22 = .ok (.invokevirtual 19, 3) := by decide +kernel
theorem dX0_mixInto_25 : decode cX0_mixInto 25 = .ok (.i2l, 1) := by decide +kernel
theorem dX0_mixInto_26 : decode cX0_mixInto 26 = .ok (.ladd, 1) := by decide +kernel
theorem dX0_mixInto_27 : decode cX0_mixInto 27 = .ok (.lstore_n 3, 1) := by decide +kernel
theorem dX0_mixInto_28 : decode cX0_mixInto 28 = .ok (.iinc 5 1, 3) := by decide +kernel
theorem dX0_mixInto_31 : decode cX0_mixInto 31 = .ok (.goto (-26), 3) := by decide +kernel
theorem dX0_mixInto_34 : decode cX0_mixInto 34 = .ok (.lload_n 3, 1) := by decide +kernel
theorem dX0_mixInto_35 : decode cX0_mixInto 35 = .ok (.lreturn, 1) := by decide +kernel
set_option maxRecDepth 20000 in
theorem ggX1_init_X0_init : GoodIn wsX1_init wsX0_init := goodIn_r _ [17, 18, 2, 3, 8, 19, 20, 34, 35] (by decide +kernel) (by decide +kernel)
set_option maxRecDepth 20000 in
theorem gX1_init_X0_init : GoodIn wsX1_init (wsX0_init) := ggX1_init_X0_init
set_option maxRecDepth 20000 in
theorem ggX1_init_X2_init : GoodIn wsX1_init wsX2_init := goodIn_r _ [22, 23, 2, 3, 24, 25, 26, 8, 27, 28, 29, 36, 37, 38, 39] (by decide +kernel) (by decide +kernel)
set_option maxRecDepth 20000 in
theorem gX1_init_X2_init_n32 : GoodIn wsX1_init (wsX2_init) := ggX1_init_X2_init
theorem dX1_init_0 : decode cX1_init 0 = .ok (.aload_n 0, 1) := by decide +kernel
theorem dX1_init_1 : decode cX1_init 1 = .ok (.invokespecial 3, 3) := by decide +kernel
theorem dX1_init_4 : decode cX1_init 4 = .ok (.aload_n 0, 1) := by decide +kernel
theorem dX1_init_5 : decode cX1_init 5 = .ok (.iconst 4, 1) := by decide +kernel
theorem dX1_init_6 : decode cX1_init 6 = .ok (.anewarray 9, 3) := by decide +kernel
theorem dX1_init_9 : decode cX1_init 9 = .ok (.putfield 11, 3) := by decide +kernel
theorem dX1_init_12 : decode cX1_init 12 = .ok (.aload_n 0, 1) := by decide +kernel
theorem dX1_init_13 : decode cX1_init 13 = .ok (.iconst 3, 1) := by decide +kernel
theorem dX1_init_14 : decode cX1_init 14 = .ok (.anewarray 17, 3) := by decide +kernel
theorem dX1_init_17 : decode cX1_init 17 = .ok (.putfield 19, 3) := by decide +kernel
theorem dX1_init_20 : decode cX1_init 20 = .ok (.aload_n 0, 1) := by decide +kernel
theorem dX1_init_21 : decode cX1_init 21 = .ok (.iconst 3, 1) := by decide +kernel
theorem dX1_init_22 : decode cX1_init 22 = .ok (.newarray .int, 2) := by decide +kernel
theorem dX1_init_24 : decode cX1_init 24 = .ok (.putfield 23, 3) := by decide +kernel
theorem dX1_init_27 : decode cX1_init 27 = .ok (.aload_n 0, 1) := by decide +kernel
theorem dX1_init_28 : decode cX1_init 28 = .ok (.iconst 1, 1) := by decide +kernel
theorem dX1_init_29 : decode cX1_init 29 = .ok (.putfield 27, 3) := by decide +kernel
theorem dX1_init_32 : decode cX1_init 32 = .ok (.iconst 0, 1) := by decide +kernel
theorem dX1_init_33 : decode cX1_init 33 = .ok (.istore_n 1, 1) := by decide +kernel
theorem dX1_init_34 : decode cX1_init 34 = .ok (.iload_n 1, 1) := by decide +kernel
theorem dX1_init_35 : decode cX1_init 35 = .ok (.aload_n 0, 1) := by decide +kernel
theorem dX1_init_36 : decode cX1_init 36 = .ok (.getfield 11, 3) := by decide +kernel
theorem dX1_init_39 : decode cX1_init 39 = .ok (.arraylength, 1) := by decide +kernel
theorem dX1_init_40 : decode cX1_init 40 = .ok (.if_icmp .ge 22, 3) := by decide +kernel
theorem dX1_init_43 : decode cX1_init 43 = .ok (.aload_n 0, 1) := by decide +kernel
theorem dX1_init_44 : decode cX1_init 44 = .ok (.getfield 11, 3) := by decide +kernel
theorem dX1_init_47 : decode cX1_init 47 = .ok (.iload_n 1, 1) := by decide +kernel
theorem dX1_init_48 : decode cX1_init 48 = .ok (.new 9, 3) := by decide +kernel
theorem dX1_init_51 : decode cX1_init 51 = .ok (.dup, 1) := by decide +kernel
theorem dX1_init_52 : decode cX1_init 52 = .ok (.invokespecial 31, 3) := by decide +kernel
theorem dX1_init_55 : decode cX1_init 55 = .ok (.aastore, 1) := by decide +kernel
theorem dX1_init_56 : decode cX1_init 56 = .ok (.iinc 1 1, 3) := by decide +kernel
theorem dX1_init_59 : decode cX1_init 59 = .ok (.goto (-25), 3) := by decide +kernel
theorem dX1_init_62 : decode cX1_init 62 = .ok (.iconst 0, 1) := by decide +kernel
theorem dX1_init_63 : decode cX1_init 63 = .ok (.istore_n 1, 1) := by decide +kernel
theorem dX1_init_64 : decode cX1_init 64 = .ok (.iload_n 1, 1) := by decide +kernel
theorem dX1_init_65 : decode cX1_init 65 = .ok (.aload_n 0, 1) := by decide +kernel
theorem dX1_init_66 : decode cX1_init 66 = .ok (.getfield 19, 3) := by decide +kernel
theorem dX1_init_69 : decode cX1_init 69 = .ok (.arraylength, 1) := by decide +kernel
theorem dX1_init_70 : decode cX1_init 70 = .ok (.if_icmp .ge 22, 3) := by decide +kernel
theorem dX1_init_73 : decode cX1_init 73 = .ok (.aload_n 0, 1) := by decide +kernel
theorem dX1_init_74 : decode cX1_init 74 = .ok (.getfield 19, 3) := by decide +kernel
theorem dX1_init_77 : decode cX1_init 77 = .ok (.iload_n 1, 1) := by decide +kernel
theorem dX1_init_78 : decode cX1_init 78 = .ok (.new 17, 3) := by decide +kernel
theorem dX1_init_81 : decode cX1_init 81 = .ok (.dup, 1) := by decide +kernel
theorem dX1_init_82 : decode cX1_init 82 = .ok (.invokespecial 32, 3) := by decide +kernel
theorem dX1_init_85 : decode cX1_init 85 = .ok (.aastore, 1) := by decide +kernel
theorem dX1_init_86 : decode cX1_init 86 = .ok (.iinc 1 1, 3) := by decide +kernel
theorem dX1_init_89 : decode cX1_init 89 = .ok (.goto (-25), 3) := by decide +kernel
theorem dX1_init_92 : decode cX1_init 92 = .ok (.return_, 1) := by decide +kernel
theorem dX1_size_0 : decode cX1_size 0 = .ok (.aload_n 0, 1) := by decide +kernel
theorem dX1_size_1 : decode cX1_size 1 = .ok (.getfield 27, 3) := by decide +kernel
theorem dX1_size_4 : decode cX1_size 4 = .ok (.ireturn, 1) := by decide +kernel
theorem dX1_hasAlphabet_0 : decode cX1_hasAlphabet 0 = .ok (.iload_n 1, 1) := by decide +kernel
theorem dX1_hasAlphabet_1 : decode cX1_hasAlphabet 1 = .ok (.ifCond .lt 16, 3) := by decide +kernel
theorem dX1_hasAlphabet_4 : decode cX1_hasAlphabet 4 = .ok (.iload_n 1, 1) := by decide +kernel
theorem dX1_hasAlphabet_5 : decode cX1_hasAlphabet 5 = .ok (.aload_n 0, 1) := by decide +kernel
theorem dX1_hasAlphabet_6 : decode cX1_hasAlphabet 6 = .ok (.getfield 11, 3) := by decide +kernel
theorem dX1_hasAlphabet_9 : decode cX1_hasAlphabet 9 = .ok (.arraylength, 1) := by decide +kernel
theorem dX1_hasAlphabet_10 : decode cX1_hasAlphabet 10 = .ok (.if_icmp .ge 7, 3) := by decide +kernel
theorem dX1_hasAlphabet_13 : decode cX1_hasAlphabet 13 = .ok (.iconst 1, 1) := by decide +kernel
theorem dX1_hasAlphabet_14 : decode cX1_hasAlphabet 14 = .ok (.goto 4, 3) := by decide +kernel
theorem dX1_hasAlphabet_17 : decode cX1_hasAlphabet 17 = .ok (.iconst 0, 1) := by decide +kernel
theorem dX1_hasAlphabet_18 : decode cX1_hasAlphabet 18 = .ok (.ireturn, 1) := by decide +kernel
theorem dX1_hasRow_0 : decode cX1_hasRow 0 = .ok (.iload_n 1, 1) := by decide +kernel
theorem dX1_hasRow_1 : decode cX1_hasRow 1 = .ok (.ifCond .lt 24, 3) := by decide +kernel
theorem dX1_hasRow_4 : decode cX1_hasRow 4 = .ok (.iload_n 1, 1) := by decide +kernel
theorem dX1_hasRow_5 : decode cX1_hasRow 5 = .ok (.aload_n 0, 1) := by decide +kernel
theorem dX1_hasRow_6 : decode cX1_hasRow 6 = .ok (.getfield 27, 3) := by decide +kernel
theorem dX1_hasRow_9 : decode cX1_hasRow 9 = .ok (.if_icmp .ge 16, 3) := by decide +kernel
theorem dX1_hasRow_12 : decode cX1_hasRow 12 = .ok (.iload_n 1, 1) := by decide +kernel
theorem dX1_hasRow_13 : decode cX1_hasRow 13 = .ok (.aload_n 0, 1) := by decide +kernel
theorem dX1_hasRow_14 : decode cX1_hasRow 14 = .ok (.getfield 19, 3) := by decide +kernel
theorem dX1_hasRow_17 : decode cX1_hasRow 17 = .ok (.arraylength, 1) := by decide +kernel
theorem dX1_hasRow_18 : decode cX1_hasRow 18 = .ok (.if_icmp .ge 7, 3) := by decide +kernel
theorem dX1_hasRow_21 : decode cX1_hasRow 21 = .ok (.iconst 1, 1) := by decide +kernel
theorem dX1_hasRow_22 : decode cX1_hasRow 22 = .ok (.goto 4, 3) := by decide +kernel
theorem dX1_hasRow_25 : decode cX1_hasRow 25 = .ok (.iconst 0, 1) := by decide +kernel
theorem dX1_hasRow_26 : decode cX1_hasRow 26 = .ok (.ireturn, 1) := by decide +kernel
theorem dX1_alphabetNamed_0 : decode cX1_alphabetNamed 0 = .ok (.lload_n 1, 1) := by decide +kernel
theorem dX1_alphabetNamed_1 : decode cX1_alphabetNamed 1 = .ok (.lconst 0, 1) := by decide +kernel
theorem dX1_alphabetNamed_2 : decode cX1_alphabetNamed 2 = .ok (.lcmp, 1) := by decide +kernel
theorem dX1_alphabetNamed_3 : decode cX1_alphabetNamed 3 = .ok (.ifCond .lt 24, 3) := by decide +kernel
theorem dX1_alphabetNamed_6 : decode cX1_alphabetNamed 6 = .ok (.lload_n 1, 1) := by decide +kernel
theorem dX1_alphabetNamed_7 : decode cX1_alphabetNamed 7 = .ok (.aload_n 0, 1) := by decide +kernel
theorem dX1_alphabetNamed_8 : decode cX1_alphabetNamed 8 = .ok (.getfield 11, 3) := by decide +kernel
theorem dX1_alphabetNamed_11 : decode cX1_alphabetNamed 11 = .ok (.arraylength, 1) := by decide +kernel
theorem dX1_alphabetNamed_12 : decode cX1_alphabetNamed 12 = .ok (.i2l, 1) := by decide +kernel
theorem dX1_alphabetNamed_13 : decode cX1_alphabetNamed 13 = .ok (.lcmp, 1) := by decide +kernel
theorem dX1_alphabetNamed_14 : decode cX1_alphabetNamed 14 = .ok (.ifCond .ge 13, 3) := by decide +kernel
theorem dX1_alphabetNamed_17 : decode cX1_alphabetNamed 17 = .ok (.aload_n 0, 1) := by decide +kernel
theorem dX1_alphabetNamed_18 : decode cX1_alphabetNamed 18 = .ok (.getfield 11, 3) := by decide +kernel
theorem dX1_alphabetNamed_21 : decode cX1_alphabetNamed 21 = .ok (.lload_n 1, 1) := by decide +kernel
theorem dX1_alphabetNamed_22 : decode cX1_alphabetNamed 22 = .ok (.l2i, 1) := by decide +kernel
theorem dX1_alphabetNamed_23 : decode cX1_alphabetNamed 23 = .ok (.aaload, 1) := by decide +kernel
theorem dX1_alphabetNamed_24 : decode cX1_alphabetNamed 24 = .ok (.goto 4, 3) := by decide +kernel
theorem dX1_alphabetNamed_27 : decode cX1_alphabetNamed 27 = .ok (.aconst_null, 1) := by decide +kernel
theorem dX1_alphabetNamed_28 : decode cX1_alphabetNamed 28 = .ok (.areturn, 1) := by decide +kernel
set_option maxRecDepth 20000 in
theorem ggX1_join_X1_forgetNumbers : GoodIn wsX1_join wsX1_forgetNumbers := goodIn_r _ [7, 8, 9, 10, 11, 12, 13, 14, 15, 16, 17, 18, 19, 20, 21, 22, 23] (by decide +kernel) (by decide +kernel)
set_option maxRecDepth 20000 in
theorem gX1_join_X1_forgetNumbers : GoodIn wsX1_join (wsV RX1 33 RX1 yX1_forgetNumbers wsX1_forgetNumbers) := goodIn_app (goodIn_of _ (by decide +kernel)) ggX1_join_X1_forgetNumbers
theorem dX1_join_0 : decode cX1_join 0 = .ok (.aload_n 0, 1) := by decide +kernel
theorem dX1_join_1 : decode cX1_join 1 = .ok (.iload_n 1, 1) := by decide +kernel
theorem dX1_join_2 : decode cX1_join 2 = .ok (.putfield 27, 3) := by decide +kernel
theorem dX1_join_5 : decode cX1_join 5 = .ok (.aload_n 0, 1) := by decide +kernel
theorem dX1_join_6 : decode cX1_join 6 = .ok (.getfield 23, 3) := by decide +kernel
theorem dX1_join_9 : decode cX1_join 9 = .ok (.iconst 0, 1) := by decide +kernel
theorem dX1_join_10 : decode cX1_join 10 = .ok (.iload_n 2, 1) := by decide +kernel
theorem dX1_join_11 : decode cX1_join 11 = .ok (.iastore, 1) := by decide +kernel
theorem dX1_join_12 : decode cX1_join 12 = .ok (.aload_n 0, 1) := by decide +kernel
theorem dX1_join_13 : decode cX1_join 13 = .ok (.getfield 23, 3) := by decide +kernel
theorem dX1_join_16 : decode cX1_join 16 = .ok (.iconst 1, 1) := by decide +kernel
theorem dX1_join_17 : decode cX1_join 17 = .ok (.iload_n 3, 1) := by decide +kernel
theorem dX1_join_18 : decode cX1_join 18 = .ok (.iastore, 1) := by decide +kernel
theorem dX1_join_19 : decode cX1_join 19 = .ok (.aload_n 0, 1) := by decide +kernel
theorem dX1_join_20 : decode cX1_join 20 = .ok (.getfield 23, 3) := by decide +kernel
theorem dX1_join_23 : decode cX1_join 23 = .ok (.iconst 2, 1) := by decide +kernel
theorem dX1_join_24 : decode cX1_join 24 = .ok (.iload 4, 2) := by decide +kernel
theorem dX1_join_26 : decode cX1_join 26 = .ok (.iastore, 1) := by decide +kernel
theorem dX1_join_27 : decode cX1_join 27 = .ok (.aload_n 0, 1) := by decide +kernel
theorem dX1_join_28 : decode cX1_join 28 = .ok (.invokevirtual 33, 3) := by decide +kernel
theorem dX1_join_31 : decode cX1_join 31 = .ok (.return_, 1) := by decide +kernel
set_option maxRecDepth 20000 in
theorem ggX1_forgetNumbers_X2_forget : GoodIn wsX1_forgetNumbers wsX2_forget := goodIn_r _ [6, 7, 8, 13, 14, 15, 16] (by decide +kernel) (by decide +kernel)
set_option maxRecDepth 20000 in
theorem gX1_forgetNumbers_X2_forget : GoodIn wsX1_forgetNumbers (wsV RX1 36 RX2 yX2_forget wsX2_forget) := goodIn_app (goodIn_of _ (by decide +kernel)) ggX1_forgetNumbers_X2_forget
theorem dX1_forgetNumbers_0 : decode cX1_forgetNumbers 0 = .ok (.iconst 0, 1) := by decide +kernel
theorem dX1_forgetNumbers_1 : decode cX1_forgetNumbers 1 = .ok (.istore_n 1, 1) := by decide +kernel
theorem dX1_forgetNumbers_2 : decode cX1_forgetNumbers 2 = .ok (.iload_n 1, 1) := by decide +kernel
theorem dX1_forgetNumbers_3 : decode cX1_forgetNumbers 3 = .ok (.aload_n 0, 1) := by decide +kernel
theorem dX1_forgetNumbers_4 : decode cX1_forgetNumbers 4 = .ok (.getfield 19, 3) := by decide +kernel
theorem dX1_forgetNumbers_7 : decode cX1_forgetNumbers 7 = .ok (.arraylength, 1) := by decide +kernel
theorem dX1_forgetNumbers_8 : decode cX1_forgetNumbers 8 = .ok (.if_icmp .ge 18, 3) := by decide +kernel
theorem dX1_forgetNumbers_11 : decode cX1_forgetNumbers 11 = .ok (.aload_n 0, 1) := by decide +kernel
theorem dX1_forgetNumbers_12 : decode cX1_forgetNumbers 12 = .ok (.getfield 19, 3) := by decide +kernel
theorem dX1_forgetNumbers_15 : decode cX1_forgetNumbers 15 = .ok (.iload_n 1, 1) := by decide +kernel
theorem dX1_forgetNumbers_16 : decode cX1_forgetNumbers 16 = .ok (.aaload, 1) := by decide +kernel
theorem dX1_forgetNumbers_17 : decode cX1_forgetNumbers 17 = .ok (.invokevirtual 36, 3) := by decide +kernel
theorem dX1_forgetNumbers_20 : decode cX1_forgetNumbers 20 = .ok (.iinc 1 1, 3) := by decide +kernel
theorem dX1_forgetNumbers_23 : decode cX1_forgetNumbers 23 = .ok (.goto (-21), 3) := by decide +kernel
theorem dX1_forgetNumbers_26 : decode cX1_forgetNumbers 26 = .ok (.return_, 1) := by decide +kernel
theorem dX1_nextOf_0 : decode cX1_nextOf 0 = .ok (.iload_n 1, 1) := by decide +kernel
theorem dX1_nextOf_1 : decode cX1_nextOf 1 = .ok (.iconst 1, 1) := by decide +kernel
theorem dX1_nextOf_2 : decode cX1_nextOf 2 = .ok (.iadd, 1) := by decide +kernel
theorem dX1_nextOf_3 : decode cX1_nextOf 3 = .ok (.aload_n 0, 1) := by decide +kernel
theorem dX1_nextOf_4 : decode cX1_nextOf 4 = .ok (.getfield 27, 3) := by decide +kernel
theorem dX1_nextOf_7 : decode cX1_nextOf 7 = .ok (.if_icmp .ge 9, 3) := by decide +kernel
theorem dX1_nextOf_10 : decode cX1_nextOf 10 = .ok (.iload_n 1, 1) := by decide +kernel
theorem dX1_nextOf_11 : decode cX1_nextOf 11 = .ok (.iconst 1, 1) := by decide +kernel
theorem dX1_nextOf_12 : decode cX1_nextOf 12 = .ok (.iadd, 1) := by decide +kernel
theorem dX1_nextOf_13 : decode cX1_nextOf 13 = .ok (.goto 4, 3) := by decide +kernel
theorem dX1_nextOf_16 : decode cX1_nextOf 16 = .ok (.iconst 0, 1) := by decide +kernel
theorem dX1_nextOf_17 : decode cX1_nextOf 17 = .ok (.ireturn, 1) := by decide +kernel
set_option maxRecDepth 20000 in
theorem ggX1_rowOf_X1_hasRow : GoodIn wsX1_rowOf wsX1_hasRow := goodIn_r _ [7, 8, 1, 83, 84, 85, 86] (by decide +kernel) (by decide +kernel)
set_option maxRecDepth 20000 in
theorem gX1_rowOf_X1_hasRow : GoodIn wsX1_rowOf (wsV RX1 39 RX1 yX1_hasRow wsX1_hasRow) := goodIn_app (goodIn_of _ (by decide +kernel)) ggX1_rowOf_X1_hasRow
set_option maxRecDepth 20000 in
theorem ggX1_rowOf_X2_made : GoodIn wsX1_rowOf wsX2_made := goodIn_r _ [13, 14, 87, 88, 89, 90] (by decide +kernel) (by decide +kernel)
set_option maxRecDepth 20000 in
theorem gX1_rowOf_X2_made : GoodIn wsX1_rowOf (wsV RX1 44 RX2 yX2_made wsX2_made) := goodIn_app (goodIn_of _ (by decide +kernel)) ggX1_rowOf_X2_made
set_option maxRecDepth 20000 in
theorem ggX1_rowOf_X1_ripeFrom : GoodIn wsX1_rowOf wsX1_ripeFrom := goodIn_r _ [18, 8, 19, 20, 21, 6, 22, 1, 23, 24, 25, 26, 3, 4, 5, 7, 27, 28, 29, 12, 30, 31, 9, 10, 11, 13, 14, 83, 84, 85, 86, 87, 88, 89, 90] (by decide +kernel) (by decide +kernel)
set_option maxRecDepth 20000 in
theorem gX1_rowOf_X1_ripeFrom : GoodIn wsX1_rowOf (wsV RX1 48 RX1 yX1_ripeFrom wsX1_ripeFrom) := goodIn_app (goodIn_of _ (by decide +kernel)) ggX1_rowOf_X1_ripeFrom
set_option maxRecDepth 20000 in
theorem ggX1_rowOf_X1_grow : GoodIn wsX1_rowOf wsX1_grow := goodIn_r _ [35, 1, 23, 24, 25, 6, 26, 8, 3, 4, 5, 7, 27, 28, 29, 12, 30, 31, 36, 37, 38, 39, 40, 41, 42, 43, 44, 45, 46, 47, 48, 49, 50, 51, 52, 53, 54, 55, 56, 9, 10, 11, 13, 14, 57, 58, 59, 60, 61, 62, 63, 64, 65, 66, 67, 68, 69, 70, 71, 72, 73, 74, 75, 76, 77, 78, 79, 80, 81, 82, 83, 84, 85, 86, 87, 88, 89, 90, 91, 92] (by decide +kernel) (by decide +kernel)
set_option maxRecDepth 20000 in
theorem gX1_rowOf_X1_grow : GoodIn wsX1_rowOf (wsV RX1 52 RX1 yX1_grow wsX1_grow) := goodIn_app (goodIn_of _ (by decide +kernel)) ggX1_rowOf_X1_grow
theorem dX1_rowOf_0 : decode cX1_rowOf 0 = .ok (.aload_n 0, 1) := by decide +kernel
theorem dX1_rowOf_1 : decode cX1_rowOf 1 = .ok (.getfield 19, 3) := by decide +kernel
theorem dX1_rowOf_4 : decode cX1_rowOf 4 = .ok (.aload_n 0, 1) := by decide +kernel
theorem dX1_rowOf_5 : decode cX1_rowOf 5 = .ok (.iload_n 1, 1) := by decide +kernel
theorem dX1_rowOf_6 : decode cX1_rowOf 6 = .ok (.invokevirtual 39, 3) := by decide +kernel
theorem dX1_rowOf_9 : decode cX1_rowOf 9 = .ok (.ifCond .eq 7, 3) := by decide +kernel
theorem dX1_rowOf_12 : decode cX1_rowOf 12 = .ok (.iload_n 1, 1) := by decide +kernel
theorem dX1_rowOf_13 : decode cX1_rowOf 13 = .ok (.goto 4, 3) := by decide +kernel
theorem dX1_rowOf_16 : decode cX1_rowOf 16 = .ok (.iconst 0, 1) := by decide +kernel
theorem dX1_rowOf_17 : decode cX1_rowOf 17 = .ok (.aaload, 1) := by decide +kernel
theorem dX1_rowOf_18 : decode cX1_rowOf 18 = .ok (.astore_n 3, 1) := by decide +kernel
theorem dX1_rowOf_19 : decode cX1_rowOf 19 = .ok (.iconst 0, 1) := by decide +kernel
theorem dX1_rowOf_20 : decode cX1_rowOf 20 = .ok (.istore 4, 2) := by decide +kernel
theorem dX1_rowOf_22 : decode cX1_rowOf 22 = .ok (.iload 4, 2) := by decide +kernel
theorem dX1_rowOf_24 : decode cX1_rowOf 24 = .ok (.ldc 43, 2) := by decide +kernel
theorem dX1_rowOf_26 : decode cX1_rowOf 26 = .ok (.if_icmp .ge 27, 3) := by decide +kernel
theorem dX1_rowOf_29 : decode cX1_rowOf 29 = .ok (.aload_n 3, 1) := by decide +kernel
theorem dX1_rowOf_30 : decode cX1_rowOf 30 = .ok (.invokevirtual 44, 3) := by decide +kernel
theorem dX1_rowOf_33 : decode cX1_rowOf 33 = .ok (.iload_n 2, 1) := by decide +kernel
theorem dX1_rowOf_34 : decode cX1_rowOf 34 = .ok (.if_icmp .ge 19, 3) := by decide +kernel
theorem dX1_rowOf_37 : decode cX1_rowOf 37 = .ok (.aload_n 0, 1) := by decide +kernel
theorem dX1_rowOf_38 : decode cX1_rowOf 38 = .ok (.aload_n 0, 1) := by decide +kernel
theorem dX1_rowOf_39 : decode cX1_rowOf 39 = .ok (.iload_n 1, 1) := by decide +kernel
theorem dX1_rowOf_40 : decode cX1_rowOf 40 = .ok (.invokevirtual 48, 3) := by decide +kernel
theorem dX1_rowOf_43 : decode cX1_rowOf 43 = .ok (.iload_n 2, 1) := by decide +kernel
theorem dX1_rowOf_44 : decode cX1_rowOf 44 = .ok (.invokevirtual 52, 3) := by decide +kernel
theorem dX1_rowOf_47 : decode cX1_rowOf 47 = .ok (.iinc 4 1, 3) := by decide +kernel
theorem dX1_rowOf_50 : decode cX1_rowOf 50 = .ok (.goto (-28), 3) := by decide +kernel
theorem dX1_rowOf_53 : decode cX1_rowOf 53 = .ok (.aload_n 3, 1) := by decide +kernel
theorem dX1_rowOf_54 : decode cX1_rowOf 54 = .ok (.areturn, 1) := by decide +kernel
set_option maxRecDepth 20000 in
theorem ggX1_ripeFrom_X1_waits : GoodIn wsX1_ripeFrom wsX1_waits := goodIn_r _ [6, 7, 8, 9, 10, 5, 11, 1, 12, 13, 14, 15, 16, 17, 18, 19, 20, 21, 22, 23, 24, 25, 26, 27, 28, 29, 30, 31, 32, 33, 34] (by decide +kernel) (by decide +kernel)
set_option maxRecDepth 20000 in
theorem gX1_ripeFrom_X1_waits : GoodIn wsX1_ripeFrom (wsV RX1 56 RX1 yX1_waits wsX1_waits) := goodIn_app (goodIn_of _ (by decide +kernel)) ggX1_ripeFrom_X1_waits
set_option maxRecDepth 20000 in
theorem ggX1_ripeFrom_X1_nextOf : GoodIn wsX1_ripeFrom wsX1_nextOf := goodIn_r _ [11, 1, 27, 28, 29, 30] (by decide +kernel) (by decide +kernel)
set_option maxRecDepth 20000 in
theorem gX1_ripeFrom_X1_nextOf : GoodIn wsX1_ripeFrom (wsV RX1 59 RX1 yX1_nextOf wsX1_nextOf) := goodIn_app (goodIn_of _ (by decide +kernel)) ggX1_ripeFrom_X1_nextOf
theorem dX1_ripeFrom_0 : decode cX1_ripeFrom 0 = .ok (.iload_n 1, 1) := by decide +kernel
theorem dX1_ripeFrom_1 : decode cX1_ripeFrom 1 = .ok (.istore_n 2, 1) := by decide +kernel
theorem dX1_ripeFrom_2 : decode cX1_ripeFrom 2 = .ok (.iconst 1, 1) := by decide +kernel
theorem dX1_ripeFrom_3 : decode cX1_ripeFrom 3 = .ok (.istore_n 3, 1) := by decide +kernel
theorem dX1_ripeFrom_4 : decode cX1_ripeFrom 4 = .ok (.iload_n 3, 1) := by decide +kernel
theorem dX1_ripeFrom_5 : decode cX1_ripeFrom 5 = .ok (.aload_n 0, 1) := by decide +kernel
theorem dX1_ripeFrom_6 : decode cX1_ripeFrom 6 = .ok (.getfield 27, 3) := by decide +kernel
theorem dX1_ripeFrom_9 : decode cX1_ripeFrom 9 = .ok (.if_icmp .ge 23, 3) := by decide +kernel
theorem dX1_ripeFrom_12 : decode cX1_ripeFrom 12 = .ok (.aload_n 0, 1) := by decide +kernel
theorem dX1_ripeFrom_13 : decode cX1_ripeFrom 13 = .ok (.iload_n 2, 1) := by decide +kernel
theorem dX1_ripeFrom_14 : decode cX1_ripeFrom 14 = .ok (.invokevirtual 56, 3) := by decide +kernel
theorem dX1_ripeFrom_17 : decode cX1_ripeFrom 17 = .ok (.ifCond .eq 15, 3) := by decide +kernel
theorem dX1_ripeFrom_20 : decode cX1_ripeFrom 20 = .ok (.aload_n 0, 1) := by decide +kernel
theorem dX1_ripeFrom_21 : decode cX1_ripeFrom 21 = .ok (.iload_n 2, 1) := by decide +kernel
theorem dX1_ripeFrom_22 : decode cX1_ripeFrom 22 = .ok (.invokevirtual 59, 3) := by decide +kernel
theorem dX1_ripeFrom_25 : decode cX1_ripeFrom 25 = .ok (.istore_n 2, 1) := by decide +kernel
theorem dX1_ripeFrom_26 : decode cX1_ripeFrom 26 = .ok (.iinc 3 1, 3) := by decide +kernel
theorem dX1_ripeFrom_29 : decode cX1_ripeFrom 29 = .ok (.goto (-25), 3) := by decide +kernel
theorem dX1_ripeFrom_32 : decode cX1_ripeFrom 32 = .ok (.iload_n 2, 1) := by decide +kernel
theorem dX1_ripeFrom_33 : decode cX1_ripeFrom 33 = .ok (.ireturn, 1) := by decide +kernel
set_option maxRecDepth 20000 in
theorem ggX1_waits_X1_nextOf : GoodIn wsX1_waits wsX1_nextOf := goodIn_r _ [6, 7, 23, 24, 25, 26] (by decide +kernel) (by decide +kernel)
set_option maxRecDepth 20000 in
theorem gX1_waits_X1_nextOf : GoodIn wsX1_waits (wsV RX1 59 RX1 yX1_nextOf wsX1_nextOf) := goodIn_app (goodIn_of _ (by decide +kernel)) ggX1_waits_X1_nextOf
set_option maxRecDepth 20000 in
theorem ggX1_waits_X1_hasRow : GoodIn wsX1_waits wsX1_hasRow := goodIn_r _ [11, 7, 1, 23, 24, 25, 26] (by decide +kernel) (by decide +kernel)
set_option maxRecDepth 20000 in
theorem gX1_waits_X1_hasRow : GoodIn wsX1_waits (wsV RX1 39 RX1 yX1_hasRow wsX1_hasRow) := goodIn_app (goodIn_of _ (by decide +kernel)) ggX1_waits_X1_hasRow
set_option maxRecDepth 20000 in
theorem ggX1_waits_X2_runsMade : GoodIn wsX1_waits wsX2_runsMade := goodIn_r _ [16, 17, 27, 28, 29, 30] (by decide +kernel) (by decide +kernel)
set_option maxRecDepth 20000 in
theorem gX1_waits_X2_runsMade : GoodIn wsX1_waits (wsV RX1 62 RX2 yX2_runsMade wsX2_runsMade) := goodIn_app (goodIn_of _ (by decide +kernel)) ggX1_waits_X2_runsMade
set_option maxRecDepth 20000 in
theorem ggX1_waits_X2_made : GoodIn wsX1_waits wsX2_made := goodIn_r _ [21, 22, 27, 28, 29, 30] (by decide +kernel) (by decide +kernel)
set_option maxRecDepth 20000 in
theorem gX1_waits_X2_made : GoodIn wsX1_waits (wsV RX1 44 RX2 yX2_made wsX2_made) := goodIn_app (goodIn_of _ (by decide +kernel)) ggX1_waits_X2_made
theorem dX1_waits_0 : decode cX1_waits 0 = .ok (.aload_n 0, 1) := by decide +kernel
theorem dX1_waits_1 : decode cX1_waits 1 = .ok (.iload_n 1, 1) := by decide +kernel
theorem dX1_waits_2 : decode cX1_waits 2 = .ok (.invokevirtual 59, 3) := by decide +kernel
theorem dX1_waits_5 : decode cX1_waits 5 = .ok (.istore_n 2, 1) := by decide +kernel
theorem dX1_waits_6 : decode cX1_waits 6 = .ok (.aload_n 0, 1) := by decide +kernel
theorem dX1_waits_7 : decode cX1_waits 7 = .ok (.iload_n 1, 1) := by decide +kernel
theorem dX1_waits_8 : decode cX1_waits 8 = .ok (.invokevirtual 39, 3) := by decide +kernel
theorem dX1_waits_11 : decode cX1_waits 11 = .ok (.ifCond .eq 36, 3) := by decide +kernel
theorem dX1_waits_14 : decode cX1_waits 14 = .ok (.aload_n 0, 1) := by decide +kernel
theorem dX1_waits_15 : decode cX1_waits 15 = .ok (.iload_n 2, 1) := by decide +kernel
theorem dX1_waits_16 : decode cX1_waits 16 = .ok (.invokevirtual 39, 3) := by decide +kernel
theorem dX1_waits_19 : decode cX1_waits 19 = .ok (.ifCond .eq 28, 3) := by decide +kernel
theorem dX1_waits_22 : decode cX1_waits 22 = .ok (.aload_n 0, 1) := by decide +kernel
theorem dX1_waits_23 : decode cX1_waits 23 = .ok (.getfield 19, 3) := by decide +kernel
theorem dX1_waits_26 : decode cX1_waits 26 = .ok (.iload_n 1, 1) := by decide +kernel
theorem dX1_waits_27 : decode cX1_waits 27 = .ok (.aaload, 1) := by decide +kernel
theorem dX1_waits_28 : decode cX1_waits 28 = .ok (.invokevirtual 62, 3) := by decide +kernel
theorem dX1_waits_31 : decode cX1_waits 31 = .ok (.aload_n 0, 1) := by decide +kernel
theorem dX1_waits_32 : decode cX1_waits 32 = .ok (.getfield 19, 3) := by decide +kernel
theorem dX1_waits_35 : decode cX1_waits 35 = .ok (.iload_n 2, 1) := by decide +kernel
theorem dX1_waits_36 : decode cX1_waits 36 = .ok (.aaload, 1) := by decide +kernel
theorem dX1_waits_37 : decode cX1_waits 37 = .ok (.invokevirtual 44, 3) := by decide +kernel
theorem dX1_waits_40 : decode cX1_waits 40 = .ok (.if_icmp .le 7, 3) := by decide +kernel
theorem dX1_waits_43 : decode cX1_waits 43 = .ok (.iconst 1, 1) := by decide +kernel
theorem dX1_waits_44 : decode cX1_waits 44 = .ok (.goto 4, 3) := by decide +kernel
theorem dX1_waits_47 : decode cX1_waits 47 = .ok (.iconst 0, 1) := by decide +kernel
theorem dX1_waits_48 : decode cX1_waits 48 = .ok (.ireturn, 1) := by decide +kernel
set_option maxRecDepth 20000 in
theorem ggX1_grow_X1_nextOf : GoodIn wsX1_grow wsX1_nextOf := goodIn_r _ [6, 7, 70, 71, 72, 73] (by decide +kernel) (by decide +kernel)
set_option maxRecDepth 20000 in
theorem gX1_grow_X1_nextOf : GoodIn wsX1_grow (wsV RX1 59 RX1 yX1_nextOf wsX1_nextOf) := goodIn_app (goodIn_of _ (by decide +kernel)) ggX1_grow_X1_nextOf
set_option maxRecDepth 20000 in
theorem ggX1_grow_X1_hasRow : GoodIn wsX1_grow wsX1_hasRow := goodIn_r _ [11, 7, 1, 70, 71, 72, 73] (by decide +kernel) (by decide +kernel)
set_option maxRecDepth 20000 in
theorem gX1_grow_X1_hasRow : GoodIn wsX1_grow (wsV RX1 39 RX1 yX1_hasRow wsX1_hasRow) := goodIn_app (goodIn_of _ (by decide +kernel)) ggX1_grow_X1_hasRow
set_option maxRecDepth 20000 in
theorem ggX1_grow_X2_runsMade : GoodIn wsX1_grow wsX2_runsMade := goodIn_r _ [16, 17, 74, 75, 76, 77] (by decide +kernel) (by decide +kernel)
set_option maxRecDepth 20000 in
theorem gX1_grow_X2_runsMade : GoodIn wsX1_grow (wsV RX1 62 RX2 yX2_runsMade wsX2_runsMade) := goodIn_app (goodIn_of _ (by decide +kernel)) ggX1_grow_X2_runsMade
set_option maxRecDepth 20000 in
theorem ggX1_grow_X1_lettersOf : GoodIn wsX1_grow wsX1_lettersOf := goodIn_r _ [21, 22, 23, 8, 9, 10, 5, 11, 7, 1, 24, 25, 26, 27, 70, 71, 72, 73] (by decide +kernel) (by decide +kernel)
set_option maxRecDepth 20000 in
theorem gX1_grow_X1_lettersOf : GoodIn wsX1_grow (wsV RX1 65 RX1 yX1_lettersOf wsX1_lettersOf) := goodIn_app (goodIn_of _ (by decide +kernel)) ggX1_grow_X1_lettersOf
set_option maxRecDepth 20000 in
theorem ggX1_grow_X0_letterOfRun : GoodIn wsX1_grow wsX0_letterOfRun := goodIn_r _ [32, 33, 34, 78, 79] (by decide +kernel) (by decide +kernel)
set_option maxRecDepth 20000 in
theorem gX1_grow_X0_letterOfRun : GoodIn wsX1_grow (wsV RX1 69 RX0 yX0_letterOfRun wsX0_letterOfRun) := goodIn_app (goodIn_of _ (by decide +kernel)) ggX1_grow_X0_letterOfRun
set_option maxRecDepth 20000 in
theorem ggX1_grow_X1_lengthTold : GoodIn wsX1_grow wsX1_lengthTold := goodIn_r _ [38, 1, 8, 9, 10, 5, 11, 7, 39, 40, 41, 15, 42, 43, 44, 45, 46, 47, 48, 18, 19, 20, 21, 22, 23, 24, 25, 26, 27, 12, 13, 14, 16, 17, 28, 29, 30, 31, 32, 33, 34, 70, 71, 72, 73, 74, 75, 76, 77, 78, 79] (by decide +kernel) (by decide +kernel)
set_option maxRecDepth 20000 in
theorem gX1_grow_X1_lengthTold : GoodIn wsX1_grow (wsV RX1 72 RX1 yX1_lengthTold wsX1_lengthTold) := goodIn_app (goodIn_of _ (by decide +kernel)) ggX1_grow_X1_lengthTold
set_option maxRecDepth 20000 in
theorem ggX1_grow_X2_putRun : GoodIn wsX1_grow wsX2_putRun := goodIn_r _ [52, 17, 43, 48, 53, 54, 55, 56, 57, 58, 15, 59, 60, 74, 75, 76, 77] (by decide +kernel) (by decide +kernel)
set_option maxRecDepth 20000 in
theorem gX1_grow_X2_putRun : GoodIn wsX1_grow (wsV RX1 76 RX2 yX2_putRun wsX2_putRun) := goodIn_app (goodIn_of _ (by decide +kernel)) ggX1_grow_X2_putRun
set_option maxRecDepth 20000 in
theorem ggX1_grow_X2_putRunsToldBy : GoodIn wsX1_grow wsX2_putRunsToldBy := goodIn_r _ [64, 43, 48, 65, 13, 14, 15, 16, 17, 66, 40, 41, 42, 67, 29, 30, 31, 32, 33, 34, 68, 45, 46, 47, 69, 50, 51, 52, 53, 54, 55, 56, 57, 58, 59, 60, 74, 75, 76, 77, 78, 79] (by decide +kernel) (by decide +kernel)
set_option maxRecDepth 20000 in
theorem gX1_grow_X2_putRunsToldBy : GoodIn wsX1_grow (wsV RX1 79 RX2 yX2_putRunsToldBy wsX2_putRunsToldBy) := goodIn_app (goodIn_of _ (by decide +kernel)) ggX1_grow_X2_putRunsToldBy
theorem dX1_grow_0 : decode cX1_grow 0 = .ok (.aload_n 0, 1) := by decide +kernel
theorem dX1_grow_1 : decode cX1_grow 1 = .ok (.iload_n 1, 1) := by decide +kernel
theorem dX1_grow_2 : decode cX1_grow 2 = .ok (.invokevirtual 59, 3) := by decide +kernel
theorem dX1_grow_5 : decode cX1_grow 5 = .ok (.istore_n 3, 1) := by decide +kernel
theorem dX1_grow_6 : decode cX1_grow 6 = .ok (.aload_n 0, 1) := by decide +kernel
theorem dX1_grow_7 : decode cX1_grow 7 = .ok (.iload_n 1, 1) := by decide +kernel
theorem dX1_grow_8 : decode cX1_grow 8 = .ok (.invokevirtual 39, 3) := by decide +kernel
theorem dX1_grow_11 : decode cX1_grow 11 = .ok (.ifCond .eq 11, 3) := by decide +kernel
theorem dX1_grow_14 : decode cX1_grow 14 = .ok (.aload_n 0, 1) := by decide +kernel
theorem dX1_grow_15 : decode cX1_grow 15 = .ok (.iload_n 3, 1) := by decide +kernel
theorem dX1_grow_16 : decode cX1_grow 16 = .ok (.invokevirtual 39, 3) := by decide +kernel
theorem dX1_grow_19 : decode cX1_grow 19 = .ok (.ifCond .ne 4, 3) := by decide +kernel
theorem dX1_grow_22 : decode cX1_grow 22 = .ok (.return_, 1) := by decide +kernel
theorem dX1_grow_23 : decode cX1_grow 23 = .ok (.aload_n 0, 1) := by decide +kernel
theorem dX1_grow_24 : decode cX1_grow 24 = .ok (.getfield 19, 3) := by decide +kernel
theorem dX1_grow_27 : decode cX1_grow 27 = .ok (.iload_n 1, 1) := by decide +kernel
theorem dX1_grow_28 : decode cX1_grow 28 = .ok (.aaload, 1) := by decide +kernel
theorem dX1_grow_29 : decode cX1_grow 29 = .ok (.astore 4, 2) := by decide +kernel
theorem dX1_grow_31 : decode cX1_grow 31 = .ok (.aload 4, 2) := by decide +kernel
theorem dX1_grow_33 : decode cX1_grow 33 = .ok (.invokevirtual 62, 3) := by decide +kernel
theorem dX1_grow_36 : decode cX1_grow 36 = .ok (.istore 5, 2) := by decide +kernel
theorem dX1_grow_38 : decode cX1_grow 38 = .ok (.aload 4, 2) := by decide +kernel
theorem dX1_grow_40 : decode cX1_grow 40 = .ok (.aload_n 0, 1) := by decide +kernel
theorem dX1_grow_41 : decode cX1_grow 41 = .ok (.iload_n 1, 1) := by decide +kernel
theorem dX1_grow_42 : decode cX1_grow 42 = .ok (.invokevirtual 65, 3) := by decide +kernel
theorem dX1_grow_45 : decode cX1_grow 45 = .ok (.iload 5, 2) := by decide +kernel
theorem dX1_grow_47 : decode cX1_grow 47 = .ok (.invokevirtual 69, 3) := by decide +kernel
theorem dX1_grow_50 : decode cX1_grow 50 = .ok (.aload_n 0, 1) := by decide +kernel
theorem dX1_grow_51 : decode cX1_grow 51 = .ok (.iload_n 3, 1) := by decide +kernel
theorem dX1_grow_52 : decode cX1_grow 52 = .ok (.iload 5, 2) := by decide +kernel
theorem dX1_grow_54 : decode cX1_grow 54 = .ok (.invokevirtual 72, 3) := by decide +kernel
theorem dX1_grow_57 : decode cX1_grow 57 = .ok (.invokevirtual 76, 3) := by decide +kernel
theorem dX1_grow_60 : decode cX1_grow 60 = .ok (.aload 4, 2) := by decide +kernel
theorem dX1_grow_62 : decode cX1_grow 62 = .ok (.aload_n 0, 1) := by decide +kernel
theorem dX1_grow_63 : decode cX1_grow 63 = .ok (.getfield 19, 3) := by decide +kernel
theorem dX1_grow_66 : decode cX1_grow 66 = .ok (.iload_n 3, 1) := by decide +kernel
theorem dX1_grow_67 : decode cX1_grow 67 = .ok (.aaload, 1) := by decide +kernel
theorem dX1_grow_68 : decode cX1_grow 68 = .ok (.aload_n 0, 1) := by decide +kernel
theorem dX1_grow_69 : decode cX1_grow 69 = .ok (.iload_n 1, 1) := by decide +kernel
theorem dX1_grow_70 : decode cX1_grow 70 = .ok (.invokevirtual 65, 3) := by decide +kernel
theorem dX1_grow_73 : decode cX1_grow 73 = .ok (.iload_n 2, 1) := by decide +kernel
theorem dX1_grow_74 : decode cX1_grow 74 = .ok (.invokevirtual 79, 3) := by decide +kernel
theorem dX1_grow_77 : decode cX1_grow 77 = .ok (.return_, 1) := by decide +kernel
set_option maxRecDepth 20000 in
theorem ggX1_lengthTold_X1_hasRow : GoodIn wsX1_lengthTold wsX1_hasRow := goodIn_r _ [6, 7, 1, 41, 42, 43, 44] (by decide +kernel) (by decide +kernel)
set_option maxRecDepth 20000 in
theorem gX1_lengthTold_X1_hasRow : GoodIn wsX1_lengthTold (wsV RX1 39 RX1 yX1_hasRow wsX1_hasRow) := goodIn_app (goodIn_of _ (by decide +kernel)) ggX1_lengthTold_X1_hasRow
set_option maxRecDepth 20000 in
theorem ggX1_lengthTold_X2_made : GoodIn wsX1_lengthTold wsX2_made := goodIn_r _ [12, 13, 45, 46, 47, 48] (by decide +kernel) (by decide +kernel)
set_option maxRecDepth 20000 in
theorem gX1_lengthTold_X2_made : GoodIn wsX1_lengthTold (wsV RX1 44 RX2 yX2_made wsX2_made) := goodIn_app (goodIn_of _ (by decide +kernel)) ggX1_lengthTold_X2_made
set_option maxRecDepth 20000 in
theorem ggX1_lengthTold_X2_number : GoodIn wsX1_lengthTold wsX2_number := goodIn_r _ [17, 13, 18, 45, 46, 47, 48] (by decide +kernel) (by decide +kernel)
set_option maxRecDepth 20000 in
theorem gX1_lengthTold_X2_number : GoodIn wsX1_lengthTold (wsV RX1 83 RX2 yX2_number wsX2_number) := goodIn_app (goodIn_of _ (by decide +kernel)) ggX1_lengthTold_X2_number
set_option maxRecDepth 20000 in
theorem ggX1_lengthTold_X1_lettersOf : GoodIn wsX1_lengthTold wsX1_lettersOf := goodIn_r _ [22, 23, 24, 2, 3, 4, 5, 6, 7, 1, 25, 26, 27, 28, 41, 42, 43, 44] (by decide +kernel) (by decide +kernel)
set_option maxRecDepth 20000 in
theorem gX1_lengthTold_X1_lettersOf : GoodIn wsX1_lengthTold (wsV RX1 65 RX1 yX1_lettersOf wsX1_lettersOf) := goodIn_app (goodIn_of _ (by decide +kernel)) ggX1_lengthTold_X1_lettersOf
set_option maxRecDepth 20000 in
theorem ggX1_lengthTold_X2_runsMade : GoodIn wsX1_lengthTold wsX2_runsMade := goodIn_r _ [32, 33, 45, 46, 47, 48] (by decide +kernel) (by decide +kernel)
set_option maxRecDepth 20000 in
theorem gX1_lengthTold_X2_runsMade : GoodIn wsX1_lengthTold (wsV RX1 62 RX2 yX2_runsMade wsX2_runsMade) := goodIn_app (goodIn_of _ (by decide +kernel)) ggX1_lengthTold_X2_runsMade
set_option maxRecDepth 20000 in
theorem ggX1_lengthTold_X0_letterOfRun : GoodIn wsX1_lengthTold wsX0_letterOfRun := goodIn_r _ [38, 39, 40, 49, 50] (by decide +kernel) (by decide +kernel)
set_option maxRecDepth 20000 in
theorem gX1_lengthTold_X0_letterOfRun : GoodIn wsX1_lengthTold (wsV RX1 69 RX0 yX0_letterOfRun wsX0_letterOfRun) := goodIn_app (goodIn_of _ (by decide +kernel)) ggX1_lengthTold_X0_letterOfRun
theorem dX1_lengthTold_0 : decode cX1_lengthTold 0 = .ok (.aload_n 0, 1) := by decide +kernel
theorem dX1_lengthTold_1 : decode cX1_lengthTold 1 = .ok (.getfield 19, 3) := by decide +kernel
theorem dX1_lengthTold_4 : decode cX1_lengthTold 4 = .ok (.aload_n 0, 1) := by decide +kernel
theorem dX1_lengthTold_5 : decode cX1_lengthTold 5 = .ok (.iload_n 1, 1) := by decide +kernel
theorem dX1_lengthTold_6 : decode cX1_lengthTold 6 = .ok (.invokevirtual 39, 3) := by decide +kernel
theorem dX1_lengthTold_9 : decode cX1_lengthTold 9 = .ok (.ifCond .eq 7, 3) := by decide +kernel
theorem dX1_lengthTold_12 : decode cX1_lengthTold 12 = .ok (.iload_n 1, 1) := by decide +kernel
theorem dX1_lengthTold_13 : decode cX1_lengthTold 13 = .ok (.goto 4, 3) := by decide +kernel
theorem dX1_lengthTold_16 : decode cX1_lengthTold 16 = .ok (.iconst 0, 1) := by decide +kernel
theorem dX1_lengthTold_17 : decode cX1_lengthTold 17 = .ok (.aaload, 1) := by decide +kernel
theorem dX1_lengthTold_18 : decode cX1_lengthTold 18 = .ok (.astore_n 3, 1) := by decide +kernel
theorem dX1_lengthTold_19 : decode cX1_lengthTold 19 = .ok (.iload_n 2, 1) := by decide +kernel
theorem dX1_lengthTold_20 : decode cX1_lengthTold 20 = .ok (.aload_n 3, 1) := by decide +kernel
theorem dX1_lengthTold_21 : decode cX1_lengthTold 21 = .ok (.invokevirtual 44, 3) := by decide +kernel
theorem dX1_lengthTold_24 : decode cX1_lengthTold 24 = .ok (.if_icmp .ge 11, 3) := by decide +kernel
theorem dX1_lengthTold_27 : decode cX1_lengthTold 27 = .ok (.aload_n 3, 1) := by decide +kernel
theorem dX1_lengthTold_28 : decode cX1_lengthTold 28 = .ok (.iload_n 2, 1) := by decide +kernel
theorem dX1_lengthTold_29 : decode cX1_lengthTold 29 = .ok (.invokevirtual 83, 3) := by decide +kernel
theorem dX1_lengthTold_32 : decode cX1_lengthTold 32 = .ok (.goto 15, 3) := by decide +kernel
theorem dX1_lengthTold_35 : decode cX1_lengthTold 35 = .ok (.aload_n 0, 1) := by decide +kernel
theorem dX1_lengthTold_36 : decode cX1_lengthTold 36 = .ok (.iload_n 1, 1) := by decide +kernel
theorem dX1_lengthTold_37 : decode cX1_lengthTold 37 = .ok (.invokevirtual 65, 3) := by decide +kernel
theorem dX1_lengthTold_40 : decode cX1_lengthTold 40 = .ok (.aload_n 3, 1) := by decide +kernel
theorem dX1_lengthTold_41 : decode cX1_lengthTold 41 = .ok (.invokevirtual 62, 3) := by decide +kernel
theorem dX1_lengthTold_44 : decode cX1_lengthTold 44 = .ok (.invokevirtual 69, 3) := by decide +kernel
theorem dX1_lengthTold_47 : decode cX1_lengthTold 47 = .ok (.ireturn, 1) := by decide +kernel
set_option maxRecDepth 20000 in
theorem ggX1_lettersOf_X1_hasRow : GoodIn wsX1_lettersOf wsX1_hasRow := goodIn_r _ [7, 8, 9, 14, 15, 16, 17] (by decide +kernel) (by decide +kernel)
set_option maxRecDepth 20000 in
theorem gX1_lettersOf_X1_hasRow : GoodIn wsX1_lettersOf (wsV RX1 39 RX1 yX1_hasRow wsX1_hasRow) := goodIn_app (goodIn_of _ (by decide +kernel)) ggX1_lettersOf_X1_hasRow
set_option maxRecDepth 20000 in
theorem ggX1_lettersOf_X1_hasAlphabet : GoodIn wsX1_lettersOf wsX1_hasAlphabet := goodIn_r _ [13, 2, 14, 15, 16, 17] (by decide +kernel) (by decide +kernel)
set_option maxRecDepth 20000 in
theorem gX1_lettersOf_X1_hasAlphabet : GoodIn wsX1_lettersOf (wsV RX1 86 RX1 yX1_hasAlphabet wsX1_hasAlphabet) := goodIn_app (goodIn_of _ (by decide +kernel)) ggX1_lettersOf_X1_hasAlphabet
theorem dX1_lettersOf_0 : decode cX1_lettersOf 0 = .ok (.aload_n 0, 1) := by decide +kernel
theorem dX1_lettersOf_1 : decode cX1_lettersOf 1 = .ok (.iload_n 1, 1) := by decide +kernel
theorem dX1_lettersOf_2 : decode cX1_lettersOf 2 = .ok (.invokevirtual 39, 3) := by decide +kernel
theorem dX1_lettersOf_5 : decode cX1_lettersOf 5 = .ok (.ifCond .eq 12, 3) := by decide +kernel
theorem dX1_lettersOf_8 : decode cX1_lettersOf 8 = .ok (.aload_n 0, 1) := by decide +kernel
theorem dX1_lettersOf_9 : decode cX1_lettersOf 9 = .ok (.getfield 23, 3) := by decide +kernel
theorem dX1_lettersOf_12 : decode cX1_lettersOf 12 = .ok (.iload_n 1, 1) := by decide +kernel
theorem dX1_lettersOf_13 : decode cX1_lettersOf 13 = .ok (.iaload, 1) := by decide +kernel
theorem dX1_lettersOf_14 : decode cX1_lettersOf 14 = .ok (.goto 4, 3) := by decide +kernel
theorem dX1_lettersOf_17 : decode cX1_lettersOf 17 = .ok (.iconst 0, 1) := by decide +kernel
theorem dX1_lettersOf_18 : decode cX1_lettersOf 18 = .ok (.istore_n 2, 1) := by decide +kernel
theorem dX1_lettersOf_19 : decode cX1_lettersOf 19 = .ok (.aload_n 0, 1) := by decide +kernel
theorem dX1_lettersOf_20 : decode cX1_lettersOf 20 = .ok (.getfield 11, 3) := by decide +kernel
theorem dX1_lettersOf_23 : decode cX1_lettersOf 23 = .ok (.aload_n 0, 1) := by decide +kernel
theorem dX1_lettersOf_24 : decode cX1_lettersOf 24 = .ok (.iload_n 2, 1) := by decide +kernel
theorem dX1_lettersOf_25 : decode cX1_lettersOf 25 = .ok (.invokevirtual 86, 3) := by decide +kernel
theorem dX1_lettersOf_28 : decode cX1_lettersOf 28 = .ok (.ifCond .eq 7, 3) := by decide +kernel
theorem dX1_lettersOf_31 : decode cX1_lettersOf 31 = .ok (.iload_n 2, 1) := by decide +kernel
theorem dX1_lettersOf_32 : decode cX1_lettersOf 32 = .ok (.goto 4, 3) := by decide +kernel
theorem dX1_lettersOf_35 : decode cX1_lettersOf 35 = .ok (.iconst 0, 1) := by decide +kernel
theorem dX1_lettersOf_36 : decode cX1_lettersOf 36 = .ok (.aaload, 1) := by decide +kernel
theorem dX1_lettersOf_37 : decode cX1_lettersOf 37 = .ok (.areturn, 1) := by decide +kernel
set_option maxRecDepth 20000 in
theorem ggX1_mixInto_X0_mixInto : GoodIn wsX1_mixInto wsX0_mixInto := goodIn_r _ [9, 10, 11, 12, 13, 14, 8, 15, 16, 21, 22] (by decide +kernel) (by decide +kernel)
set_option maxRecDepth 20000 in
theorem gX1_mixInto_X0_mixInto : GoodIn wsX1_mixInto (wsV RX1 89 RX0 yX0_mixInto wsX0_mixInto) := goodIn_app (goodIn_of _ (by decide +kernel)) ggX1_mixInto_X0_mixInto
theorem dX1_mixInto_0 : decode cX1_mixInto 0 = .ok (.lload_n 1, 1) := by decide +kernel
theorem dX1_mixInto_1 : decode cX1_mixInto 1 = .ok (.lstore_n 3, 1) := by decide +kernel
theorem dX1_mixInto_2 : decode cX1_mixInto 2 = .ok (.iconst 0, 1) := by decide +kernel
theorem dX1_mixInto_3 : decode cX1_mixInto 3 = .ok (.istore 5, 2) := by decide +kernel
theorem dX1_mixInto_5 : decode cX1_mixInto 5 = .ok (.iload 5, 2) := by decide +kernel
theorem dX1_mixInto_7 : decode cX1_mixInto 7 = .ok (.aload_n 0, 1) := by decide +kernel
theorem dX1_mixInto_8 : decode cX1_mixInto 8 = .ok (.getfield 11, 3) := by decide +kernel
theorem dX1_mixInto_11 : decode cX1_mixInto 11 = .ok (.arraylength, 1) := by decide +kernel
theorem dX1_mixInto_12 : decode cX1_mixInto 12 = .ok (.if_icmp .ge 21, 3) := by decide +kernel
theorem dX1_mixInto_15 : decode cX1_mixInto 15 = .ok (.aload_n 0, 1) := by decide +kernel
theorem dX1_mixInto_16 : decode cX1_mixInto 16 = .ok (.getfield 11, 3) := by decide +kernel
theorem dX1_mixInto_19 : decode cX1_mixInto 19 = .ok (.iload 5, 2) := by decide +kernel
theorem dX1_mixInto_21 : decode cX1_mixInto 21 = .ok (.aaload, 1) := by decide +kernel
theorem dX1_mixInto_22 : decode cX1_mixInto 22 = .ok (.lload_n 3, 1) := by decide +kernel
theorem dX1_mixInto_23 : decode cX1_mixInto 23 = .ok (.invokevirtual 89, 3) := by decide +kernel
theorem dX1_mixInto_26 : decode cX1_mixInto 26 = .ok (.lstore_n 3, 1) := by decide +kernel
theorem dX1_mixInto_27 : decode cX1_mixInto 27 = .ok (.iinc 5 1, 3) := by decide +kernel
theorem dX1_mixInto_30 : decode cX1_mixInto 30 = .ok (.goto (-25), 3) := by decide +kernel
theorem dX1_mixInto_33 : decode cX1_mixInto 33 = .ok (.iconst 0, 1) := by decide +kernel
theorem dX1_mixInto_34 : decode cX1_mixInto 34 = .ok (.istore 5, 2) := by decide +kernel
theorem dX1_mixInto_36 : decode cX1_mixInto 36 = .ok (.iload 5, 2) := by decide +kernel
theorem dX1_mixInto_38 : decode cX1_mixInto 38 = .ok (.aload_n 0, 1) := by decide +kernel
theorem dX1_mixInto_39 : decode cX1_mixInto 39 = .ok (.getfield 27, 3) := by decide +kernel
theorem dX1_mixInto_42 : decode cX1_mixInto 42 = .ok (.if_icmp .ge 34, 3) := by decide +kernel
theorem dX1_mixInto_45 : decode cX1_mixInto 45 = .ok (.iload 5, 2) := by decide +kernel
theorem dX1_mixInto_47 : decode cX1_mixInto 47 = .ok (.aload_n 0, 1) := by decide +kernel
theorem dX1_mixInto_48 : decode cX1_mixInto 48 = .ok (.getfield 23, 3) := by decide +kernel
theorem dX1_mixInto_51 : decode cX1_mixInto 51 = .ok (.arraylength, 1) := by decide +kernel
theorem dX1_mixInto_52 : decode cX1_mixInto 52 = .ok (.if_icmp .ge 24, 3) := by decide +kernel
theorem dX1_mixInto_55 : decode cX1_mixInto 55 = .ok (.ldc2_w 93, 3) := by decide +kernel
theorem dX1_mixInto_58 : decode cX1_mixInto 58 = .ok (.lload_n 3, 1) := by decide +kernel
theorem dX1_mixInto_59 : decode cX1_mixInto 59 = .ok (.lmul, 1) := by decide +kernel
theorem dX1_mixInto_60 : decode cX1_mixInto 60 = .ok (.aload_n 0, 1) := by decide +kernel
theorem dX1_mixInto_61 : decode cX1_mixInto 61 = .ok (.getfield 23, 3) := by decide +kernel
theorem dX1_mixInto_64 : decode cX1_mixInto 64 = .ok (.iload 5, 2) := by decide +kernel
theorem dX1_mixInto_66 : decode cX1_mixInto 66 = .ok (.iaload, 1) := by decide +kernel
theorem dX1_mixInto_67 : decode cX1_mixInto 67 = .ok (.i2l, 1) := by decide +kernel
theorem dX1_mixInto_68 : decode cX1_mixInto 68 = .ok (.ladd, 1) := by decide +kernel
theorem dX1_mixInto_69 : decode cX1_mixInto 69 = .ok (.lstore_n 3, 1) := by decide +kernel
theorem dX1_mixInto_70 : decode cX1_mixInto 70 = .ok (.iinc 5 1, 3) := by decide +kernel
theorem dX1_mixInto_73 : decode cX1_mixInto 73 = .ok (.goto (-37), 3) := by decide +kernel
theorem dX1_mixInto_76 : decode cX1_mixInto 76 = .ok (.lload_n 3, 1) := by decide +kernel
theorem dX1_mixInto_77 : decode cX1_mixInto 77 = .ok (.lreturn, 1) := by decide +kernel
theorem dX2_init_0 : decode cX2_init 0 = .ok (.aload_n 0, 1) := by decide +kernel
theorem dX2_init_1 : decode cX2_init 1 = .ok (.invokespecial 3, 3) := by decide +kernel
theorem dX2_init_4 : decode cX2_init 4 = .ok (.aload_n 0, 1) := by decide +kernel
theorem dX2_init_5 : decode cX2_init 5 = .ok (.ldc 9, 2) := by decide +kernel
theorem dX2_init_7 : decode cX2_init 7 = .ok (.newarray .byte, 2) := by decide +kernel
theorem dX2_init_9 : decode cX2_init 9 = .ok (.putfield 10, 3) := by decide +kernel
theorem dX2_init_12 : decode cX2_init 12 = .ok (.aload_n 0, 1) := by decide +kernel
theorem dX2_init_13 : decode cX2_init 13 = .ok (.sipush 2737, 3) := by decide +kernel
theorem dX2_init_16 : decode cX2_init 16 = .ok (.newarray .int, 2) := by decide +kernel
theorem dX2_init_18 : decode cX2_init 18 = .ok (.putfield 16, 3) := by decide +kernel
theorem dX2_init_21 : decode cX2_init 21 = .ok (.aload_n 0, 1) := by decide +kernel
theorem dX2_init_22 : decode cX2_init 22 = .ok (.bipush 7, 2) := by decide +kernel
theorem dX2_init_24 : decode cX2_init 24 = .ok (.newarray .int, 2) := by decide +kernel
theorem dX2_init_26 : decode cX2_init 26 = .ok (.putfield 20, 3) := by decide +kernel
theorem dX2_init_29 : decode cX2_init 29 = .ok (.aload_n 0, 1) := by decide +kernel
theorem dX2_init_30 : decode cX2_init 30 = .ok (.iconst 0, 1) := by decide +kernel
theorem dX2_init_31 : decode cX2_init 31 = .ok (.putfield 23, 3) := by decide +kernel
theorem dX2_init_34 : decode cX2_init 34 = .ok (.return_, 1) := by decide +kernel
theorem dX2_made_0 : decode cX2_made 0 = .ok (.aload_n 0, 1) := by decide +kernel
theorem dX2_made_1 : decode cX2_made 1 = .ok (.getfield 23, 3) := by decide +kernel
theorem dX2_made_4 : decode cX2_made 4 = .ok (.ireturn, 1) := by decide +kernel
theorem dX2_runsMade_0 : decode cX2_runsMade 0 = .ok (.aload_n 0, 1) := by decide +kernel
theorem dX2_runsMade_1 : decode cX2_runsMade 1 = .ok (.getfield 20, 3) := by decide +kernel
theorem dX2_runsMade_4 : decode cX2_runsMade 4 = .ok (.iconst 0, 1) := by decide +kernel
theorem dX2_runsMade_5 : decode cX2_runsMade 5 = .ok (.iaload, 1) := by decide +kernel
theorem dX2_runsMade_6 : decode cX2_runsMade 6 = .ok (.ireturn, 1) := by decide +kernel
theorem dX2_number_0 : decode cX2_number 0 = .ok (.iload_n 1, 1) := by decide +kernel
theorem dX2_number_1 : decode cX2_number 1 = .ok (.ifCond .lt 29, 3) := by decide +kernel
theorem dX2_number_4 : decode cX2_number 4 = .ok (.iload_n 1, 1) := by decide +kernel
theorem dX2_number_5 : decode cX2_number 5 = .ok (.aload_n 0, 1) := by decide +kernel
theorem dX2_number_6 : decode cX2_number 6 = .ok (.getfield 23, 3) := by decide +kernel
theorem dX2_number_9 : decode cX2_number 9 = .ok (.if_icmp .ge 21, 3) := by decide +kernel
theorem dX2_number_12 : decode cX2_number 12 = .ok (.iload_n 1, 1) := by decide +kernel
theorem dX2_number_13 : decode cX2_number 13 = .ok (.aload_n 0, 1) := by decide +kernel
theorem dX2_number_14 : decode cX2_number 14 = .ok (.getfield 10, 3) := by decide +kernel
theorem dX2_number_17 : decode cX2_number 17 = .ok (.arraylength, 1) := by decide +kernel
theorem dX2_number_18 : decode cX2_number 18 = .ok (.if_icmp .ge 12, 3) := by decide +kernel
theorem dX2_number_21 : decode cX2_number 21 = .ok (.aload_n 0, 1) := by decide +kernel
theorem dX2_number_22 : decode cX2_number 22 = .ok (.getfield 10, 3) := by decide +kernel
theorem dX2_number_25 : decode cX2_number 25 = .ok (.iload_n 1, 1) := by decide +kernel
theorem dX2_number_26 : decode cX2_number 26 = .ok (.baload, 1) := by decide +kernel
theorem dX2_number_27 : decode cX2_number 27 = .ok (.goto 4, 3) := by decide +kernel
theorem dX2_number_30 : decode cX2_number 30 = .ok (.iconst (-1), 1) := by decide +kernel
theorem dX2_number_31 : decode cX2_number 31 = .ok (.ireturn, 1) := by decide +kernel
theorem dX2_forget_0 : decode cX2_forget 0 = .ok (.aload_n 0, 1) := by decide +kernel
theorem dX2_forget_1 : decode cX2_forget 1 = .ok (.iconst 0, 1) := by decide +kernel
theorem dX2_forget_2 : decode cX2_forget 2 = .ok (.putfield 23, 3) := by decide +kernel
theorem dX2_forget_5 : decode cX2_forget 5 = .ok (.iconst 0, 1) := by decide +kernel
theorem dX2_forget_6 : decode cX2_forget 6 = .ok (.istore_n 1, 1) := by decide +kernel
theorem dX2_forget_7 : decode cX2_forget 7 = .ok (.iload_n 1, 1) := by decide +kernel
theorem dX2_forget_8 : decode cX2_forget 8 = .ok (.aload_n 0, 1) := by decide +kernel
theorem dX2_forget_9 : decode cX2_forget 9 = .ok (.getfield 20, 3) := by decide +kernel
theorem dX2_forget_12 : decode cX2_forget 12 = .ok (.arraylength, 1) := by decide +kernel
theorem dX2_forget_13 : decode cX2_forget 13 = .ok (.if_icmp .ge 16, 3) := by decide +kernel
theorem dX2_forget_16 : decode cX2_forget 16 = .ok (.aload_n 0, 1) := by decide +kernel
theorem dX2_forget_17 : decode cX2_forget 17 = .ok (.getfield 20, 3) := by decide +kernel
theorem dX2_forget_20 : decode cX2_forget 20 = .ok (.iload_n 1, 1) := by decide +kernel
theorem dX2_forget_21 : decode cX2_forget 21 = .ok (.iconst 0, 1) := by decide +kernel
theorem dX2_forget_22 : decode cX2_forget 22 = .ok (.iastore, 1) := by decide +kernel
theorem dX2_forget_23 : decode cX2_forget 23 = .ok (.iinc 1 1, 3) := by decide +kernel
theorem dX2_forget_26 : decode cX2_forget 26 = .ok (.goto (-19), 3) := by decide +kernel
theorem dX2_forget_29 : decode cX2_forget 29 = .ok (.return_, 1) := by decide +kernel
set_option maxRecDepth 20000 in
theorem ggX2_putRun_X5_isLetter : GoodIn wsX2_putRun wsX5_isLetter := goodIn_r _ [6] (by decide +kernel) (by decide +kernel)
set_option maxRecDepth 20000 in
theorem gX2_putRun_X5_isLetter_n27 : GoodIn wsX2_putRun (wsX5_isLetter) := ggX2_putRun_X5_isLetter
set_option maxRecDepth 20000 in
theorem ggX2_putRun_X2_keepCounts : GoodIn wsX2_putRun wsX2_keepCounts := goodIn_r _ [11, 2, 12, 1, 13, 14, 15, 16] (by decide +kernel) (by decide +kernel)
set_option maxRecDepth 20000 in
theorem gX2_putRun_X2_keepCounts : GoodIn wsX2_putRun (wsV RX2 31 RX2 yX2_keepCounts wsX2_keepCounts) := goodIn_app (goodIn_of _ (by decide +kernel)) ggX2_putRun_X2_keepCounts
theorem dX2_putRun_0 : decode cX2_putRun 0 = .ok (.iload_n 1, 1) := by decide +kernel
theorem dX2_putRun_1 : decode cX2_putRun 1 = .ok (.invokestatic 27, 3) := by decide +kernel
theorem dX2_putRun_4 : decode cX2_putRun 4 = .ok (.ifCond .eq 24, 3) := by decide +kernel
theorem dX2_putRun_7 : decode cX2_putRun 7 = .ok (.iload_n 1, 1) := by decide +kernel
theorem dX2_putRun_8 : decode cX2_putRun 8 = .ok (.aload_n 0, 1) := by decide +kernel
theorem dX2_putRun_9 : decode cX2_putRun 9 = .ok (.getfield 20, 3) := by decide +kernel
theorem dX2_putRun_12 : decode cX2_putRun 12 = .ok (.arraylength, 1) := by decide +kernel
theorem dX2_putRun_13 : decode cX2_putRun 13 = .ok (.if_icmp .ge 15, 3) := by decide +kernel
theorem dX2_putRun_16 : decode cX2_putRun 16 = .ok (.aload_n 0, 1) := by decide +kernel
theorem dX2_putRun_17 : decode cX2_putRun 17 = .ok (.getfield 23, 3) := by decide +kernel
theorem dX2_putRun_20 : decode cX2_putRun 20 = .ok (.aload_n 0, 1) := by decide +kernel
theorem dX2_putRun_21 : decode cX2_putRun 21 = .ok (.getfield 10, 3) := by decide +kernel
theorem dX2_putRun_24 : decode cX2_putRun 24 = .ok (.arraylength, 1) := by decide +kernel
theorem dX2_putRun_25 : decode cX2_putRun 25 = .ok (.if_icmp .lt 4, 3) := by decide +kernel
theorem dX2_putRun_28 : decode cX2_putRun 28 = .ok (.return_, 1) := by decide +kernel
theorem dX2_putRun_29 : decode cX2_putRun 29 = .ok (.aload_n 0, 1) := by decide +kernel
theorem dX2_putRun_30 : decode cX2_putRun 30 = .ok (.getfield 20, 3) := by decide +kernel
theorem dX2_putRun_33 : decode cX2_putRun 33 = .ok (.iconst 0, 1) := by decide +kernel
theorem dX2_putRun_34 : decode cX2_putRun 34 = .ok (.dup2, 1) := by decide +kernel
theorem dX2_putRun_35 : decode cX2_putRun 35 = .ok (.iaload, 1) := by decide +kernel
theorem dX2_putRun_36 : decode cX2_putRun 36 = .ok (.iconst 1, 1) := by decide +kernel
theorem dX2_putRun_37 : decode cX2_putRun 37 = .ok (.iadd, 1) := by decide +kernel
theorem dX2_putRun_38 : decode cX2_putRun 38 = .ok (.iastore, 1) := by decide +kernel
theorem dX2_putRun_39 : decode cX2_putRun 39 = .ok (.iconst 0, 1) := by decide +kernel
theorem dX2_putRun_40 : decode cX2_putRun 40 = .ok (.istore_n 3, 1) := by decide +kernel
theorem dX2_putRun_41 : decode cX2_putRun 41 = .ok (.iload_n 3, 1) := by decide +kernel
theorem dX2_putRun_42 : decode cX2_putRun 42 = .ok (.iload_n 2, 1) := by decide +kernel
theorem dX2_putRun_43 : decode cX2_putRun 43 = .ok (.if_icmp .ge 67, 3) := by decide +kernel
theorem dX2_putRun_46 : decode cX2_putRun 46 = .ok (.aload_n 0, 1) := by decide +kernel
theorem dX2_putRun_47 : decode cX2_putRun 47 = .ok (.getfield 23, 3) := by decide +kernel
theorem dX2_putRun_50 : decode cX2_putRun 50 = .ok (.aload_n 0, 1) := by decide +kernel
theorem dX2_putRun_51 : decode cX2_putRun 51 = .ok (.getfield 10, 3) := by decide +kernel
theorem dX2_putRun_54 : decode cX2_putRun 54 = .ok (.arraylength, 1) := by decide +kernel
theorem dX2_putRun_55 : decode cX2_putRun 55 = .ok (.if_icmp .ge 55, 3) := by decide +kernel
theorem dX2_putRun_58 : decode cX2_putRun 58 = .ok (.aload_n 0, 1) := by decide +kernel
theorem dX2_putRun_59 : decode cX2_putRun 59 = .ok (.getfield 10, 3) := by decide +kernel
theorem dX2_putRun_62 : decode cX2_putRun 62 = .ok (.aload_n 0, 1) := by decide +kernel
theorem dX2_putRun_63 : decode cX2_putRun 63 = .ok (.getfield 23, 3) := by decide +kernel
theorem dX2_putRun_66 : decode cX2_putRun 66 = .ok (.iload_n 1, 1) := by decide +kernel
theorem dX2_putRun_67 : decode cX2_putRun 67 = .ok (.i2b, 1) := by decide +kernel
theorem dX2_putRun_68 : decode cX2_putRun 68 = .ok (.bastore, 1) := by decide +kernel
theorem dX2_putRun_69 : decode cX2_putRun 69 = .ok (.aload_n 0, 1) := by decide +kernel
theorem dX2_putRun_70 : decode cX2_putRun 70 = .ok (.getfield 20, 3) := by decide +kernel
theorem dX2_putRun_73 : decode cX2_putRun 73 = .ok (.iload_n 1, 1) := by decide +kernel
theorem dX2_putRun_74 : decode cX2_putRun 74 = .ok (.dup2, 1) := by decide +kernel
theorem dX2_putRun_75 : decode cX2_putRun 75 = .ok (.iaload, 1) := by decide +kernel
theorem dX2_putRun_76 : decode cX2_putRun 76 = .ok (.iconst 1, 1) := by decide +kernel
theorem dX2_putRun_77 : decode cX2_putRun 77 = .ok (.iadd, 1) := by decide +kernel
theorem dX2_putRun_78 : decode cX2_putRun 78 = .ok (.iastore, 1) := by decide +kernel
theorem dX2_putRun_79 : decode cX2_putRun 79 = .ok (.aload_n 0, 1) := by decide +kernel
theorem dX2_putRun_80 : decode cX2_putRun 80 = .ok (.dup, 1) := by decide +kernel
theorem dX2_putRun_81 : decode cX2_putRun 81 = .ok (.getfield 23, 3) := by decide +kernel
theorem dX2_putRun_84 : decode cX2_putRun 84 = .ok (.iconst 1, 1) := by decide +kernel
theorem dX2_putRun_85 : decode cX2_putRun 85 = .ok (.iadd, 1) := by decide +kernel
theorem dX2_putRun_86 : decode cX2_putRun 86 = .ok (.putfield 23, 3) := by decide +kernel
theorem dX2_putRun_89 : decode cX2_putRun 89 = .ok (.aload_n 0, 1) := by decide +kernel
theorem dX2_putRun_90 : decode cX2_putRun 90 = .ok (.getfield 23, 3) := by decide +kernel
theorem dX2_putRun_93 : decode cX2_putRun 93 = .ok (.sipush 256, 3) := by decide +kernel
theorem dX2_putRun_96 : decode cX2_putRun 96 = .ok (.irem, 1) := by decide +kernel
theorem dX2_putRun_97 : decode cX2_putRun 97 = .ok (.ifCond .ne 7, 3) := by decide +kernel
theorem dX2_putRun_100 : decode cX2_putRun 100 = .ok (.aload_n 0, 1) := by decide +kernel
theorem dX2_putRun_101 : decode cX2_putRun 101 = .ok (.invokevirtual 31, 3) := by decide +kernel
theorem dX2_putRun_104 : decode cX2_putRun 104 = .ok (.iinc 3 1, 3) := by decide +kernel
theorem dX2_putRun_107 : decode cX2_putRun 107 = .ok (.goto (-66), 3) := by decide +kernel
theorem dX2_putRun_110 : decode cX2_putRun 110 = .ok (.return_, 1) := by decide +kernel
set_option maxRecDepth 20000 in
theorem ggX2_putRunsToldBy_X2_runsMade : GoodIn wsX2_putRunsToldBy wsX2_runsMade := goodIn_r _ [7, 8, 36, 37, 38, 39] (by decide +kernel) (by decide +kernel)
set_option maxRecDepth 20000 in
theorem gX2_putRunsToldBy_X2_runsMade : GoodIn wsX2_putRunsToldBy (wsV RX2 34 RX2 yX2_runsMade wsX2_runsMade) := goodIn_app (goodIn_of _ (by decide +kernel)) ggX2_putRunsToldBy_X2_runsMade
set_option maxRecDepth 20000 in
theorem ggX2_putRunsToldBy_X2_made : GoodIn wsX2_putRunsToldBy wsX2_made := goodIn_r _ [12, 1, 36, 37, 38, 39] (by decide +kernel) (by decide +kernel)
set_option maxRecDepth 20000 in
theorem gX2_putRunsToldBy_X2_made : GoodIn wsX2_putRunsToldBy (wsV RX2 38 RX2 yX2_made wsX2_made) := goodIn_app (goodIn_of _ (by decide +kernel)) ggX2_putRunsToldBy_X2_made
set_option maxRecDepth 20000 in
theorem ggX2_putRunsToldBy_X0_letterOfRun : GoodIn wsX2_putRunsToldBy wsX0_letterOfRun := goodIn_r _ [17, 18, 19, 40, 41] (by decide +kernel) (by decide +kernel)
set_option maxRecDepth 20000 in
theorem gX2_putRunsToldBy_X0_letterOfRun : GoodIn wsX2_putRunsToldBy (wsV RX2 40 RX0 yX0_letterOfRun wsX0_letterOfRun) := goodIn_app (goodIn_of _ (by decide +kernel)) ggX2_putRunsToldBy_X0_letterOfRun
set_option maxRecDepth 20000 in
theorem ggX2_putRunsToldBy_X2_number : GoodIn wsX2_putRunsToldBy wsX2_number := goodIn_r _ [23, 1, 2, 36, 37, 38, 39] (by decide +kernel) (by decide +kernel)
set_option maxRecDepth 20000 in
theorem gX2_putRunsToldBy_X2_number : GoodIn wsX2_putRunsToldBy (wsV RX2 46 RX2 yX2_number wsX2_number) := goodIn_app (goodIn_of _ (by decide +kernel)) ggX2_putRunsToldBy_X2_number
set_option maxRecDepth 20000 in
theorem ggX2_putRunsToldBy_X2_putRun : GoodIn wsX2_putRunsToldBy wsX2_putRun := goodIn_r _ [27, 8, 1, 2, 28, 29, 30, 31, 32, 33, 6, 34, 35, 36, 37, 38, 39] (by decide +kernel) (by decide +kernel)
set_option maxRecDepth 20000 in
theorem gX2_putRunsToldBy_X2_putRun : GoodIn wsX2_putRunsToldBy (wsV RX2 49 RX2 yX2_putRun wsX2_putRun) := goodIn_app (goodIn_of _ (by decide +kernel)) ggX2_putRunsToldBy_X2_putRun
theorem dX2_putRunsToldBy_0 : decode cX2_putRunsToldBy 0 = .ok (.aload_n 0, 1) := by decide +kernel
theorem dX2_putRunsToldBy_1 : decode cX2_putRunsToldBy 1 = .ok (.invokevirtual 34, 3) := by decide +kernel
theorem dX2_putRunsToldBy_4 : decode cX2_putRunsToldBy 4 = .ok (.istore 4, 2) := by decide +kernel
theorem dX2_putRunsToldBy_6 : decode cX2_putRunsToldBy 6 = .ok (.iload 4, 2) := by decide +kernel
theorem dX2_putRunsToldBy_8 : decode cX2_putRunsToldBy 8 = .ok (.aload_n 1, 1) := by decide +kernel
theorem dX2_putRunsToldBy_9 : decode cX2_putRunsToldBy 9 = .ok (.invokevirtual 38, 3) := by decide +kernel
theorem dX2_putRunsToldBy_12 : decode cX2_putRunsToldBy 12 = .ok (.if_icmp .ge 45, 3) := by decide +kernel
theorem dX2_putRunsToldBy_15 : decode cX2_putRunsToldBy 15 = .ok (.aload_n 0, 1) := by decide +kernel
theorem dX2_putRunsToldBy_16 : decode cX2_putRunsToldBy 16 = .ok (.getfield 23, 3) := by decide +kernel
theorem dX2_putRunsToldBy_19 : decode cX2_putRunsToldBy 19 = .ok (.iload_n 3, 1) := by decide +kernel
theorem dX2_putRunsToldBy_20 : decode cX2_putRunsToldBy 20 = .ok (.if_icmp .ge 37, 3) := by decide +kernel
theorem dX2_putRunsToldBy_23 : decode cX2_putRunsToldBy 23 = .ok (.aload_n 0, 1) := by decide +kernel
theorem dX2_putRunsToldBy_24 : decode cX2_putRunsToldBy 24 = .ok (.getfield 23, 3) := by decide +kernel
theorem dX2_putRunsToldBy_27 : decode cX2_putRunsToldBy 27 = .ok (.aload_n 0, 1) := by decide +kernel
theorem dX2_putRunsToldBy_28 : decode cX2_putRunsToldBy 28 = .ok (.getfield 10, 3) := by decide +kernel
theorem dX2_putRunsToldBy_31 : decode cX2_putRunsToldBy 31 = .ok (.arraylength, 1) := by decide +kernel
theorem dX2_putRunsToldBy_32 : decode cX2_putRunsToldBy 32 = .ok (.if_icmp .ge 25, 3) := by decide +kernel
theorem dX2_putRunsToldBy_35 : decode cX2_putRunsToldBy 35 = .ok (.aload_n 0, 1) := by decide +kernel
theorem dX2_putRunsToldBy_36 : decode cX2_putRunsToldBy 36 = .ok (.aload_n 2, 1) := by decide +kernel
theorem dX2_putRunsToldBy_37 : decode cX2_putRunsToldBy 37 = .ok (.iload 4, 2) := by decide +kernel
theorem dX2_putRunsToldBy_39 : decode cX2_putRunsToldBy 39 = .ok (.invokevirtual 40, 3) := by decide +kernel
theorem dX2_putRunsToldBy_42 : decode cX2_putRunsToldBy 42 = .ok (.aload_n 1, 1) := by decide +kernel
theorem dX2_putRunsToldBy_43 : decode cX2_putRunsToldBy 43 = .ok (.iload 4, 2) := by decide +kernel
theorem dX2_putRunsToldBy_45 : decode cX2_putRunsToldBy 45 = .ok (.invokevirtual 46, 3) := by decide +kernel
theorem dX2_putRunsToldBy_48 : decode cX2_putRunsToldBy 48 = .ok (.invokevirtual 49, 3) := by decide +kernel
theorem dX2_putRunsToldBy_51 : decode cX2_putRunsToldBy 51 = .ok (.iinc 4 1, 3) := by decide +kernel
theorem dX2_putRunsToldBy_54 : decode cX2_putRunsToldBy 54 = .ok (.goto (-48), 3) := by decide +kernel
theorem dX2_putRunsToldBy_57 : decode cX2_putRunsToldBy 57 = .ok (.return_, 1) := by decide +kernel
theorem dX2_keepCounts_0 : decode cX2_keepCounts 0 = .ok (.aload_n 0, 1) := by decide +kernel
theorem dX2_keepCounts_1 : decode cX2_keepCounts 1 = .ok (.getfield 23, 3) := by decide +kernel
theorem dX2_keepCounts_4 : decode cX2_keepCounts 4 = .ok (.sipush 256, 3) := by decide +kernel
theorem dX2_keepCounts_7 : decode cX2_keepCounts 7 = .ok (.idiv, 1) := by decide +kernel
theorem dX2_keepCounts_8 : decode cX2_keepCounts 8 = .ok (.bipush 7, 2) := by decide +kernel
theorem dX2_keepCounts_10 : decode cX2_keepCounts 10 = .ok (.imul, 1) := by decide +kernel
theorem dX2_keepCounts_11 : decode cX2_keepCounts 11 = .ok (.istore_n 1, 1) := by decide +kernel
theorem dX2_keepCounts_12 : decode cX2_keepCounts 12 = .ok (.iload_n 1, 1) := by decide +kernel
theorem dX2_keepCounts_13 : decode cX2_keepCounts 13 = .ok (.ifCond .lt 15, 3) := by decide +kernel
theorem dX2_keepCounts_16 : decode cX2_keepCounts 16 = .ok (.iload_n 1, 1) := by decide +kernel
theorem dX2_keepCounts_17 : decode cX2_keepCounts 17 = .ok (.bipush 7, 2) := by decide +kernel
theorem dX2_keepCounts_19 : decode cX2_keepCounts 19 = .ok (.iadd, 1) := by decide +kernel
theorem dX2_keepCounts_20 : decode cX2_keepCounts 20 = .ok (.aload_n 0, 1) := by decide +kernel
theorem dX2_keepCounts_21 : decode cX2_keepCounts 21 = .ok (.getfield 16, 3) := by decide +kernel
theorem dX2_keepCounts_24 : decode cX2_keepCounts 24 = .ok (.arraylength, 1) := by decide +kernel
theorem dX2_keepCounts_25 : decode cX2_keepCounts 25 = .ok (.if_icmp .le 4, 3) := by decide +kernel
theorem dX2_keepCounts_28 : decode cX2_keepCounts 28 = .ok (.return_, 1) := by decide +kernel
theorem dX2_keepCounts_29 : decode cX2_keepCounts 29 = .ok (.iconst 0, 1) := by decide +kernel
theorem dX2_keepCounts_30 : decode cX2_keepCounts 30 = .ok (.istore_n 2, 1) := by decide +kernel
theorem dX2_keepCounts_31 : decode cX2_keepCounts 31 = .ok (.iload_n 2, 1) := by decide +kernel
theorem dX2_keepCounts_32 : decode cX2_keepCounts 32 = .ok (.aload_n 0, 1) := by decide +kernel
theorem dX2_keepCounts_33 : decode cX2_keepCounts 33 = .ok (.getfield 20, 3) := by decide +kernel
theorem dX2_keepCounts_36 : decode cX2_keepCounts 36 = .ok (.arraylength, 1) := by decide +kernel
theorem dX2_keepCounts_37 : decode cX2_keepCounts 37 = .ok (.if_icmp .ge 23, 3) := by decide +kernel
theorem dX2_keepCounts_40 : decode cX2_keepCounts 40 = .ok (.aload_n 0, 1) := by decide +kernel
theorem dX2_keepCounts_41 : decode cX2_keepCounts 41 = .ok (.getfield 16, 3) := by decide +kernel
theorem dX2_keepCounts_44 : decode cX2_keepCounts 44 = .ok (.iload_n 1, 1) := by decide +kernel
theorem dX2_keepCounts_45 : decode cX2_keepCounts 45 = .ok (.iload_n 2, 1) := by decide +kernel
theorem dX2_keepCounts_46 : decode cX2_keepCounts 46 = .ok (.iadd, 1) := by decide +kernel
theorem dX2_keepCounts_47 : decode cX2_keepCounts 47 = .ok (.aload_n 0, 1) := by decide +kernel
theorem dX2_keepCounts_48 : decode cX2_keepCounts 48 = .ok (.getfield 20, 3) := by decide +kernel
theorem dX2_keepCounts_51 : decode cX2_keepCounts 51 = .ok (.iload_n 2, 1) := by decide +kernel
theorem dX2_keepCounts_52 : decode cX2_keepCounts 52 = .ok (.iaload, 1) := by decide +kernel
theorem dX2_keepCounts_53 : decode cX2_keepCounts 53 = .ok (.iastore, 1) := by decide +kernel
theorem dX2_keepCounts_54 : decode cX2_keepCounts 54 = .ok (.iinc 2 1, 3) := by decide +kernel
theorem dX2_keepCounts_57 : decode cX2_keepCounts 57 = .ok (.goto (-26), 3) := by decide +kernel
theorem dX2_keepCounts_60 : decode cX2_keepCounts 60 = .ok (.return_, 1) := by decide +kernel
theorem dX2_keptBefore_0 : decode cX2_keptBefore 0 = .ok (.iload_n 1, 1) := by decide +kernel
theorem dX2_keptBefore_1 : decode cX2_keptBefore 1 = .ok (.sipush 256, 3) := by decide +kernel
theorem dX2_keptBefore_4 : decode cX2_keptBefore 4 = .ok (.idiv, 1) := by decide +kernel
theorem dX2_keptBefore_5 : decode cX2_keptBefore 5 = .ok (.bipush 7, 2) := by decide +kernel
theorem dX2_keptBefore_7 : decode cX2_keptBefore 7 = .ok (.imul, 1) := by decide +kernel
theorem dX2_keptBefore_8 : decode cX2_keptBefore 8 = .ok (.iload_n 2, 1) := by decide +kernel
theorem dX2_keptBefore_9 : decode cX2_keptBefore 9 = .ok (.iadd, 1) := by decide +kernel
theorem dX2_keptBefore_10 : decode cX2_keptBefore 10 = .ok (.istore_n 3, 1) := by decide +kernel
theorem dX2_keptBefore_11 : decode cX2_keptBefore 11 = .ok (.iload_n 3, 1) := by decide +kernel
theorem dX2_keptBefore_12 : decode cX2_keptBefore 12 = .ok (.ifCond .lt 21, 3) := by decide +kernel
theorem dX2_keptBefore_15 : decode cX2_keptBefore 15 = .ok (.iload_n 3, 1) := by decide +kernel
theorem dX2_keptBefore_16 : decode cX2_keptBefore 16 = .ok (.aload_n 0, 1) := by decide +kernel
theorem dX2_keptBefore_17 : decode cX2_keptBefore 17 = .ok (.getfield 16, 3) := by decide +kernel
theorem dX2_keptBefore_20 : decode cX2_keptBefore 20 = .ok (.arraylength, 1) := by decide +kernel
theorem dX2_keptBefore_21 : decode cX2_keptBefore 21 = .ok (.if_icmp .ge 12, 3) := by decide +kernel
theorem dX2_keptBefore_24 : decode cX2_keptBefore 24 = .ok (.aload_n 0, 1) := by decide +kernel
theorem dX2_keptBefore_25 : decode cX2_keptBefore 25 = .ok (.getfield 16, 3) := by decide +kernel
theorem dX2_keptBefore_28 : decode cX2_keptBefore 28 = .ok (.iload_n 3, 1) := by decide +kernel
theorem dX2_keptBefore_29 : decode cX2_keptBefore 29 = .ok (.iaload, 1) := by decide +kernel
theorem dX2_keptBefore_30 : decode cX2_keptBefore 30 = .ok (.goto 4, 3) := by decide +kernel
theorem dX2_keptBefore_33 : decode cX2_keptBefore 33 = .ok (.iconst 0, 1) := by decide +kernel
theorem dX2_keptBefore_34 : decode cX2_keptBefore 34 = .ok (.ireturn, 1) := by decide +kernel
set_option maxRecDepth 20000 in
theorem ggX2_lettersWithin_X5_isLetter : GoodIn wsX2_lettersWithin wsX5_isLetter := goodIn_r _ [3] (by decide +kernel) (by decide +kernel)
set_option maxRecDepth 20000 in
theorem gX2_lettersWithin_X5_isLetter_n27 : GoodIn wsX2_lettersWithin (wsX5_isLetter) := ggX2_lettersWithin_X5_isLetter
set_option maxRecDepth 20000 in
theorem ggX2_lettersWithin_X2_keptBefore : GoodIn wsX2_lettersWithin wsX2_keptBefore := goodIn_r _ [8, 9, 16, 17, 18, 19] (by decide +kernel) (by decide +kernel)
set_option maxRecDepth 20000 in
theorem gX2_lettersWithin_X2_keptBefore : GoodIn wsX2_lettersWithin (wsV RX2 53 RX2 yX2_keptBefore wsX2_keptBefore) := goodIn_app (goodIn_of _ (by decide +kernel)) ggX2_lettersWithin_X2_keptBefore
set_option maxRecDepth 20000 in
theorem ggX2_lettersWithin_X2_number : GoodIn wsX2_lettersWithin wsX2_number := goodIn_r _ [13, 14, 15, 16, 17, 18, 19] (by decide +kernel) (by decide +kernel)
set_option maxRecDepth 20000 in
theorem gX2_lettersWithin_X2_number : GoodIn wsX2_lettersWithin (wsV RX2 46 RX2 yX2_number wsX2_number) := goodIn_app (goodIn_of _ (by decide +kernel)) ggX2_lettersWithin_X2_number
theorem dX2_lettersWithin_0 : decode cX2_lettersWithin 0 = .ok (.iload_n 1, 1) := by decide +kernel
theorem dX2_lettersWithin_1 : decode cX2_lettersWithin 1 = .ok (.invokestatic 27, 3) := by decide +kernel
theorem dX2_lettersWithin_4 : decode cX2_lettersWithin 4 = .ok (.ifCond .eq 7, 3) := by decide +kernel
theorem dX2_lettersWithin_7 : decode cX2_lettersWithin 7 = .ok (.iload_n 2, 1) := by decide +kernel
theorem dX2_lettersWithin_8 : decode cX2_lettersWithin 8 = .ok (.ifCond .ge 5, 3) := by decide +kernel
theorem dX2_lettersWithin_11 : decode cX2_lettersWithin 11 = .ok (.iconst 0, 1) := by decide +kernel
theorem dX2_lettersWithin_12 : decode cX2_lettersWithin 12 = .ok (.ireturn, 1) := by decide +kernel
theorem dX2_lettersWithin_13 : decode cX2_lettersWithin 13 = .ok (.aload_n 0, 1) := by decide +kernel
theorem dX2_lettersWithin_14 : decode cX2_lettersWithin 14 = .ok (.iload_n 2, 1) := by decide +kernel
theorem dX2_lettersWithin_15 : decode cX2_lettersWithin 15 = .ok (.iload_n 1, 1) := by decide +kernel
theorem dX2_lettersWithin_16 : decode cX2_lettersWithin 16 = .ok (.invokevirtual 53, 3) := by decide +kernel
theorem dX2_lettersWithin_19 : decode cX2_lettersWithin 19 = .ok (.istore_n 3, 1) := by decide +kernel
theorem dX2_lettersWithin_20 : decode cX2_lettersWithin 20 = .ok (.iload_n 2, 1) := by decide +kernel
theorem dX2_lettersWithin_21 : decode cX2_lettersWithin 21 = .ok (.iload_n 2, 1) := by decide +kernel
theorem dX2_lettersWithin_22 : decode cX2_lettersWithin 22 = .ok (.sipush 256, 3) := by decide +kernel
theorem dX2_lettersWithin_25 : decode cX2_lettersWithin 25 = .ok (.irem, 1) := by decide +kernel
theorem dX2_lettersWithin_26 : decode cX2_lettersWithin 26 = .ok (.isub, 1) := by decide +kernel
theorem dX2_lettersWithin_27 : decode cX2_lettersWithin 27 = .ok (.istore 4, 2) := by decide +kernel
theorem dX2_lettersWithin_29 : decode cX2_lettersWithin 29 = .ok (.iload 4, 2) := by decide +kernel
theorem dX2_lettersWithin_31 : decode cX2_lettersWithin 31 = .ok (.iload_n 2, 1) := by decide +kernel
theorem dX2_lettersWithin_32 : decode cX2_lettersWithin 32 = .ok (.if_icmp .ge 22, 3) := by decide +kernel
theorem dX2_lettersWithin_35 : decode cX2_lettersWithin 35 = .ok (.aload_n 0, 1) := by decide +kernel
theorem dX2_lettersWithin_36 : decode cX2_lettersWithin 36 = .ok (.iload 4, 2) := by decide +kernel
theorem dX2_lettersWithin_38 : decode cX2_lettersWithin 38 = .ok (.invokevirtual 46, 3) := by decide +kernel
theorem dX2_lettersWithin_41 : decode cX2_lettersWithin 41 = .ok (.iload_n 1, 1) := by decide +kernel
theorem dX2_lettersWithin_42 : decode cX2_lettersWithin 42 = .ok (.if_icmp .ne 6, 3) := by decide +kernel
theorem dX2_lettersWithin_45 : decode cX2_lettersWithin 45 = .ok (.iinc 3 1, 3) := by decide +kernel
theorem dX2_lettersWithin_48 : decode cX2_lettersWithin 48 = .ok (.iinc 4 1, 3) := by decide +kernel
theorem dX2_lettersWithin_51 : decode cX2_lettersWithin 51 = .ok (.goto (-22), 3) := by decide +kernel
theorem dX2_lettersWithin_54 : decode cX2_lettersWithin 54 = .ok (.iload_n 3, 1) := by decide +kernel
theorem dX2_lettersWithin_55 : decode cX2_lettersWithin 55 = .ok (.ireturn, 1) := by decide +kernel
set_option maxRecDepth 20000 in
theorem ggX2_sumWithin_X2_lettersWithin : GoodIn wsX2_sumWithin wsX2_lettersWithin := goodIn_r _ [5, 6, 7, 8, 9, 10, 11, 4, 12, 13, 14, 15, 16, 17, 18, 19, 20, 21, 22, 23] (by decide +kernel) (by decide +kernel)
set_option maxRecDepth 20000 in
theorem gX2_sumWithin_X2_lettersWithin : GoodIn wsX2_sumWithin (wsV RX2 57 RX2 yX2_lettersWithin wsX2_lettersWithin) := goodIn_app (goodIn_of _ (by decide +kernel)) ggX2_sumWithin_X2_lettersWithin
theorem dX2_sumWithin_0 : decode cX2_sumWithin 0 = .ok (.iconst 0, 1) := by decide +kernel
theorem dX2_sumWithin_1 : decode cX2_sumWithin 1 = .ok (.istore_n 2, 1) := by decide +kernel
theorem dX2_sumWithin_2 : decode cX2_sumWithin 2 = .ok (.iconst 1, 1) := by decide +kernel
theorem dX2_sumWithin_3 : decode cX2_sumWithin 3 = .ok (.istore_n 3, 1) := by decide +kernel
theorem dX2_sumWithin_4 : decode cX2_sumWithin 4 = .ok (.iload_n 3, 1) := by decide +kernel
theorem dX2_sumWithin_5 : decode cX2_sumWithin 5 = .ok (.bipush 6, 2) := by decide +kernel
theorem dX2_sumWithin_7 : decode cX2_sumWithin 7 = .ok (.if_icmp .gt 20, 3) := by decide +kernel
theorem dX2_sumWithin_10 : decode cX2_sumWithin 10 = .ok (.iload_n 2, 1) := by decide +kernel
theorem dX2_sumWithin_11 : decode cX2_sumWithin 11 = .ok (.iload_n 3, 1) := by decide +kernel
theorem dX2_sumWithin_12 : decode cX2_sumWithin 12 = .ok (.aload_n 0, 1) := by decide +kernel
theorem dX2_sumWithin_13 : decode cX2_sumWithin 13 = .ok (.iload_n 3, 1) := by decide +kernel
theorem dX2_sumWithin_14 : decode cX2_sumWithin 14 = .ok (.iload_n 1, 1) := by decide +kernel
theorem dX2_sumWithin_15 : decode cX2_sumWithin 15 = .ok (.invokevirtual 57, 3) := by decide +kernel
theorem dX2_sumWithin_18 : decode cX2_sumWithin 18 = .ok (.imul, 1) := by decide +kernel
theorem dX2_sumWithin_19 : decode cX2_sumWithin 19 = .ok (.iadd, 1) := by decide +kernel
theorem dX2_sumWithin_20 : decode cX2_sumWithin 20 = .ok (.istore_n 2, 1) := by decide +kernel
theorem dX2_sumWithin_21 : decode cX2_sumWithin 21 = .ok (.iinc 3 1, 3) := by decide +kernel
theorem dX2_sumWithin_24 : decode cX2_sumWithin 24 = .ok (.goto (-20), 3) := by decide +kernel
theorem dX2_sumWithin_27 : decode cX2_sumWithin 27 = .ok (.iload_n 2, 1) := by decide +kernel
theorem dX2_sumWithin_28 : decode cX2_sumWithin 28 = .ok (.ireturn, 1) := by decide +kernel
set_option maxRecDepth 20000 in
theorem ggX2_runsWithin_X2_keptBefore : GoodIn wsX2_runsWithin wsX2_keptBefore := goodIn_r _ [5, 6, 13, 14, 15, 16] (by decide +kernel) (by decide +kernel)
set_option maxRecDepth 20000 in
theorem gX2_runsWithin_X2_keptBefore : GoodIn wsX2_runsWithin (wsV RX2 53 RX2 yX2_keptBefore wsX2_keptBefore) := goodIn_app (goodIn_of _ (by decide +kernel)) ggX2_runsWithin_X2_keptBefore
set_option maxRecDepth 20000 in
theorem ggX2_runsWithin_X2_number : GoodIn wsX2_runsWithin wsX2_number := goodIn_r _ [10, 11, 12, 13, 14, 15, 16] (by decide +kernel) (by decide +kernel)
set_option maxRecDepth 20000 in
theorem gX2_runsWithin_X2_number : GoodIn wsX2_runsWithin (wsV RX2 46 RX2 yX2_number wsX2_number) := goodIn_app (goodIn_of _ (by decide +kernel)) ggX2_runsWithin_X2_number
theorem dX2_runsWithin_0 : decode cX2_runsWithin 0 = .ok (.iload_n 1, 1) := by decide +kernel
theorem dX2_runsWithin_1 : decode cX2_runsWithin 1 = .ok (.ifCond .ge 5, 3) := by decide +kernel
theorem dX2_runsWithin_4 : decode cX2_runsWithin 4 = .ok (.iconst 0, 1) := by decide +kernel
theorem dX2_runsWithin_5 : decode cX2_runsWithin 5 = .ok (.ireturn, 1) := by decide +kernel
theorem dX2_runsWithin_6 : decode cX2_runsWithin 6 = .ok (.aload_n 0, 1) := by decide +kernel
theorem dX2_runsWithin_7 : decode cX2_runsWithin 7 = .ok (.iload_n 1, 1) := by decide +kernel
theorem dX2_runsWithin_8 : decode cX2_runsWithin 8 = .ok (.iconst 0, 1) := by decide +kernel
theorem dX2_runsWithin_9 : decode cX2_runsWithin 9 = .ok (.invokevirtual 53, 3) := by decide +kernel
theorem dX2_runsWithin_12 : decode cX2_runsWithin 12 = .ok (.istore_n 2, 1) := by decide +kernel
theorem dX2_runsWithin_13 : decode cX2_runsWithin 13 = .ok (.iload_n 1, 1) := by decide +kernel
theorem dX2_runsWithin_14 : decode cX2_runsWithin 14 = .ok (.iload_n 1, 1) := by decide +kernel
theorem dX2_runsWithin_15 : decode cX2_runsWithin 15 = .ok (.sipush 256, 3) := by decide +kernel
theorem dX2_runsWithin_18 : decode cX2_runsWithin 18 = .ok (.irem, 1) := by decide +kernel
theorem dX2_runsWithin_19 : decode cX2_runsWithin 19 = .ok (.isub, 1) := by decide +kernel
theorem dX2_runsWithin_20 : decode cX2_runsWithin 20 = .ok (.istore_n 3, 1) := by decide +kernel
theorem dX2_runsWithin_21 : decode cX2_runsWithin 21 = .ok (.iload_n 3, 1) := by decide +kernel
theorem dX2_runsWithin_22 : decode cX2_runsWithin 22 = .ok (.iload_n 1, 1) := by decide +kernel
theorem dX2_runsWithin_23 : decode cX2_runsWithin 23 = .ok (.if_icmp .ge 27, 3) := by decide +kernel
theorem dX2_runsWithin_26 : decode cX2_runsWithin 26 = .ok (.aload_n 0, 1) := by decide +kernel
theorem dX2_runsWithin_27 : decode cX2_runsWithin 27 = .ok (.iload_n 3, 1) := by decide +kernel
theorem dX2_runsWithin_28 : decode cX2_runsWithin 28 = .ok (.invokevirtual 46, 3) := by decide +kernel
theorem dX2_runsWithin_31 : decode cX2_runsWithin 31 = .ok (.aload_n 0, 1) := by decide +kernel
theorem dX2_runsWithin_32 : decode cX2_runsWithin 32 = .ok (.iload_n 3, 1) := by decide +kernel
theorem dX2_runsWithin_33 : decode cX2_runsWithin 33 = .ok (.iconst 1, 1) := by decide +kernel
theorem dX2_runsWithin_34 : decode cX2_runsWithin 34 = .ok (.isub, 1) := by decide +kernel
theorem dX2_runsWithin_35 : decode cX2_runsWithin 35 = .ok (.invokevirtual 46, 3) := by decide +kernel
theorem dX2_runsWithin_38 : decode cX2_runsWithin 38 = .ok (.if_icmp .eq 6, 3) := by decide +kernel
theorem dX2_runsWithin_41 : decode cX2_runsWithin 41 = .ok (.iinc 2 1, 3) := by decide +kernel
theorem dX2_runsWithin_44 : decode cX2_runsWithin 44 = .ok (.iinc 3 1, 3) := by decide +kernel
theorem dX2_runsWithin_47 : decode cX2_runsWithin 47 = .ok (.goto (-26), 3) := by decide +kernel
theorem dX2_runsWithin_50 : decode cX2_runsWithin 50 = .ok (.iload_n 2, 1) := by decide +kernel
theorem dX2_runsWithin_51 : decode cX2_runsWithin 51 = .ok (.ireturn, 1) := by decide +kernel
set_option maxRecDepth 20000 in
theorem ggX2_greatestOff_X2_number : GoodIn wsX2_greatestOff wsX2_number := goodIn_r _ [12, 13, 14, 15, 16, 17, 18] (by decide +kernel) (by decide +kernel)
set_option maxRecDepth 20000 in
theorem gX2_greatestOff_X2_number : GoodIn wsX2_greatestOff (wsV RX2 46 RX2 yX2_number wsX2_number) := goodIn_app (goodIn_of _ (by decide +kernel)) ggX2_greatestOff_X2_number
theorem dX2_greatestOff_0 : decode cX2_greatestOff 0 = .ok (.iconst 0, 1) := by decide +kernel
theorem dX2_greatestOff_1 : decode cX2_greatestOff 1 = .ok (.istore 4, 2) := by decide +kernel
theorem dX2_greatestOff_3 : decode cX2_greatestOff 3 = .ok (.iconst 0, 1) := by decide +kernel
theorem dX2_greatestOff_4 : decode cX2_greatestOff 4 = .ok (.istore 5, 2) := by decide +kernel
theorem dX2_greatestOff_6 : decode cX2_greatestOff 6 = .ok (.iconst 1, 1) := by decide +kernel
theorem dX2_greatestOff_7 : decode cX2_greatestOff 7 = .ok (.istore 6, 2) := by decide +kernel
theorem dX2_greatestOff_9 : decode cX2_greatestOff 9 = .ok (.iload 6, 2) := by decide +kernel
theorem dX2_greatestOff_11 : decode cX2_greatestOff 11 = .ok (.iload_n 3, 1) := by decide +kernel
theorem dX2_greatestOff_12 : decode cX2_greatestOff 12 = .ok (.if_icmp .gt 41, 3) := by decide +kernel
theorem dX2_greatestOff_15 : decode cX2_greatestOff 15 = .ok (.aload_n 0, 1) := by decide +kernel
theorem dX2_greatestOff_16 : decode cX2_greatestOff 16 = .ok (.iload 6, 2) := by decide +kernel
theorem dX2_greatestOff_18 : decode cX2_greatestOff 18 = .ok (.iconst 1, 1) := by decide +kernel
theorem dX2_greatestOff_19 : decode cX2_greatestOff 19 = .ok (.isub, 1) := by decide +kernel
theorem dX2_greatestOff_20 : decode cX2_greatestOff 20 = .ok (.invokevirtual 46, 3) := by decide +kernel
theorem dX2_greatestOff_23 : decode cX2_greatestOff 23 = .ok (.iload_n 1, 1) := by decide +kernel
theorem dX2_greatestOff_24 : decode cX2_greatestOff 24 = .ok (.if_icmp .ne 6, 3) := by decide +kernel
theorem dX2_greatestOff_27 : decode cX2_greatestOff 27 = .ok (.iinc 4 1, 3) := by decide +kernel
theorem dX2_greatestOff_30 : decode cX2_greatestOff 30 = .ok (.iload 5, 2) := by decide +kernel
theorem dX2_greatestOff_32 : decode cX2_greatestOff 32 = .ok (.iload 4, 2) := by decide +kernel
theorem dX2_greatestOff_34 : decode cX2_greatestOff 34 = .ok (.iload_n 2, 1) := by decide +kernel
theorem dX2_greatestOff_35 : decode cX2_greatestOff 35 = .ok (.imul, 1) := by decide +kernel
theorem dX2_greatestOff_36 : decode cX2_greatestOff 36 = .ok (.iload 6, 2) := by decide +kernel
theorem dX2_greatestOff_38 : decode cX2_greatestOff 38 = .ok (.isub, 1) := by decide +kernel
theorem dX2_greatestOff_39 : decode cX2_greatestOff 39 = .ok (.invokestatic 60, 3) := by decide +kernel
theorem dX2_greatestOff_42 : decode cX2_greatestOff 42 = .ok (.invokestatic 65, 3) := by decide +kernel
theorem dX2_greatestOff_45 : decode cX2_greatestOff 45 = .ok (.istore 5, 2) := by decide +kernel
theorem dX2_greatestOff_47 : decode cX2_greatestOff 47 = .ok (.iinc 6 1, 3) := by decide +kernel
theorem dX2_greatestOff_50 : decode cX2_greatestOff 50 = .ok (.goto (-41), 3) := by decide +kernel
theorem dX2_greatestOff_53 : decode cX2_greatestOff 53 = .ok (.iload 5, 2) := by decide +kernel
theorem dX2_greatestOff_55 : decode cX2_greatestOff 55 = .ok (.ireturn, 1) := by decide +kernel
set_option maxRecDepth 20000 in
theorem ggX2_holds_X4_size : GoodIn wsX2_holds wsX4_size := goodIn_r _ [5, 6, 19, 20] (by decide +kernel) (by decide +kernel)
set_option maxRecDepth 20000 in
theorem gX2_holds_X4_size : GoodIn wsX2_holds (wsV RX2 68 RX4 yX4_size wsX4_size) := goodIn_app (goodIn_of _ (by decide +kernel)) ggX2_holds_X4_size
set_option maxRecDepth 20000 in
theorem ggX2_holds_X2_number : GoodIn wsX2_holds wsX2_number := goodIn_r _ [11, 12, 13, 21, 22, 23, 24] (by decide +kernel) (by decide +kernel)
set_option maxRecDepth 20000 in
theorem gX2_holds_X2_number : GoodIn wsX2_holds (wsV RX2 46 RX2 yX2_number wsX2_number) := goodIn_app (goodIn_of _ (by decide +kernel)) ggX2_holds_X2_number
set_option maxRecDepth 20000 in
theorem ggX2_holds_X4_letterAt : GoodIn wsX2_holds wsX4_letterAt := goodIn_r _ [17, 6, 18, 19, 20] (by decide +kernel) (by decide +kernel)
set_option maxRecDepth 20000 in
theorem gX2_holds_X4_letterAt : GoodIn wsX2_holds (wsV RX2 73 RX4 yX4_letterAt wsX4_letterAt) := goodIn_app (goodIn_of _ (by decide +kernel)) ggX2_holds_X4_letterAt
theorem dX2_holds_0 : decode cX2_holds 0 = .ok (.iconst 0, 1) := by decide +kernel
theorem dX2_holds_1 : decode cX2_holds 1 = .ok (.istore_n 3, 1) := by decide +kernel
theorem dX2_holds_2 : decode cX2_holds 2 = .ok (.iload_n 3, 1) := by decide +kernel
theorem dX2_holds_3 : decode cX2_holds 3 = .ok (.aload_n 1, 1) := by decide +kernel
theorem dX2_holds_4 : decode cX2_holds 4 = .ok (.invokevirtual 68, 3) := by decide +kernel
theorem dX2_holds_7 : decode cX2_holds 7 = .ok (.if_icmp .ge 26, 3) := by decide +kernel
theorem dX2_holds_10 : decode cX2_holds 10 = .ok (.aload_n 0, 1) := by decide +kernel
theorem dX2_holds_11 : decode cX2_holds 11 = .ok (.iload_n 2, 1) := by decide +kernel
theorem dX2_holds_12 : decode cX2_holds 12 = .ok (.iload_n 3, 1) := by decide +kernel
theorem dX2_holds_13 : decode cX2_holds 13 = .ok (.iadd, 1) := by decide +kernel
theorem dX2_holds_14 : decode cX2_holds 14 = .ok (.invokevirtual 46, 3) := by decide +kernel
theorem dX2_holds_17 : decode cX2_holds 17 = .ok (.aload_n 1, 1) := by decide +kernel
theorem dX2_holds_18 : decode cX2_holds 18 = .ok (.iload_n 3, 1) := by decide +kernel
theorem dX2_holds_19 : decode cX2_holds 19 = .ok (.invokevirtual 73, 3) := by decide +kernel
theorem dX2_holds_22 : decode cX2_holds 22 = .ok (.if_icmp .eq 5, 3) := by decide +kernel
theorem dX2_holds_25 : decode cX2_holds 25 = .ok (.iconst 0, 1) := by decide +kernel
theorem dX2_holds_26 : decode cX2_holds 26 = .ok (.ireturn, 1) := by decide +kernel
theorem dX2_holds_27 : decode cX2_holds 27 = .ok (.iinc 3 1, 3) := by decide +kernel
theorem dX2_holds_30 : decode cX2_holds 30 = .ok (.goto (-28), 3) := by decide +kernel
theorem dX2_holds_33 : decode cX2_holds 33 = .ok (.iconst 1, 1) := by decide +kernel
theorem dX2_holds_34 : decode cX2_holds 34 = .ok (.ireturn, 1) := by decide +kernel
theorem dX3_init_0 : decode cX3_init 0 = .ok (.aload_n 0, 1) := by decide +kernel
theorem dX3_init_1 : decode cX3_init 1 = .ok (.invokespecial 1, 3) := by decide +kernel
theorem dX3_init_4 : decode cX3_init 4 = .ok (.aload_n 0, 1) := by decide +kernel
theorem dX3_init_5 : decode cX3_init 5 = .ok (.sipush 4096, 3) := by decide +kernel
theorem dX3_init_8 : decode cX3_init 8 = .ok (.newarray .long, 2) := by decide +kernel
theorem dX3_init_10 : decode cX3_init 10 = .ok (.putfield 9, 3) := by decide +kernel
theorem dX3_init_13 : decode cX3_init 13 = .ok (.return_, 1) := by decide +kernel
set_option maxRecDepth 20000 in
theorem ggX3_unlikeWithin_X2_number : GoodIn wsX3_unlikeWithin wsX2_number := goodIn_r _ [6, 7, 8, 16, 17, 18, 19] (by decide +kernel) (by decide +kernel)
set_option maxRecDepth 20000 in
theorem gX3_unlikeWithin_X2_number : GoodIn wsX3_unlikeWithin (wsV RX3 13 RX2 yX2_number wsX2_number) := goodIn_app (goodIn_of _ (by decide +kernel)) ggX3_unlikeWithin_X2_number
set_option maxRecDepth 20000 in
theorem ggX3_unlikeWithin_X3_takesSeat : GoodIn wsX3_unlikeWithin wsX3_takesSeat := goodIn_r _ [13, 14, 1, 15] (by decide +kernel) (by decide +kernel)
set_option maxRecDepth 20000 in
theorem gX3_unlikeWithin_X3_takesSeat : GoodIn wsX3_unlikeWithin (wsV RX3 19 RX3 yX3_takesSeat wsX3_takesSeat) := goodIn_app (goodIn_of _ (by decide +kernel)) ggX3_unlikeWithin_X3_takesSeat
theorem dX3_unlikeWithin_0 : decode cX3_unlikeWithin 0 = .ok (.iconst 0, 1) := by decide +kernel
theorem dX3_unlikeWithin_1 : decode cX3_unlikeWithin 1 = .ok (.istore 4, 2) := by decide +kernel
theorem dX3_unlikeWithin_3 : decode cX3_unlikeWithin 3 = .ok (.iload 4, 2) := by decide +kernel
theorem dX3_unlikeWithin_5 : decode cX3_unlikeWithin 5 = .ok (.aload_n 0, 1) := by decide +kernel
theorem dX3_unlikeWithin_6 : decode cX3_unlikeWithin 6 = .ok (.getfield 9, 3) := by decide +kernel
theorem dX3_unlikeWithin_9 : decode cX3_unlikeWithin 9 = .ok (.arraylength, 1) := by decide +kernel
theorem dX3_unlikeWithin_10 : decode cX3_unlikeWithin 10 = .ok (.if_icmp .ge 17, 3) := by decide +kernel
theorem dX3_unlikeWithin_13 : decode cX3_unlikeWithin 13 = .ok (.aload_n 0, 1) := by decide +kernel
theorem dX3_unlikeWithin_14 : decode cX3_unlikeWithin 14 = .ok (.getfield 9, 3) := by decide +kernel
theorem dX3_unlikeWithin_17 : decode cX3_unlikeWithin 17 = .ok (.iload 4, 2) := by decide +kernel
theorem dX3_unlikeWithin_19 : decode cX3_unlikeWithin 19 = .ok (.lconst 0, 1) := by decide +kernel
theorem dX3_unlikeWithin_20 : decode cX3_unlikeWithin 20 = .ok (.lastore, 1) := by decide +kernel
theorem dX3_unlikeWithin_21 : decode cX3_unlikeWithin 21 = .ok (.iinc 4 1, 3) := by decide +kernel
theorem dX3_unlikeWithin_24 : decode cX3_unlikeWithin 24 = .ok (.goto (-21), 3) := by decide +kernel
theorem dX3_unlikeWithin_27 : decode cX3_unlikeWithin 27 = .ok (.iconst 0, 1) := by decide +kernel
theorem dX3_unlikeWithin_28 : decode cX3_unlikeWithin 28 = .ok (.istore 4, 2) := by decide +kernel
theorem dX3_unlikeWithin_30 : decode cX3_unlikeWithin 30 = .ok (.lconst 0, 1) := by decide +kernel
theorem dX3_unlikeWithin_31 : decode cX3_unlikeWithin 31 = .ok (.lstore 5, 2) := by decide +kernel
theorem dX3_unlikeWithin_33 : decode cX3_unlikeWithin 33 = .ok (.lconst 1, 1) := by decide +kernel
theorem dX3_unlikeWithin_34 : decode cX3_unlikeWithin 34 = .ok (.iconst 3, 1) := by decide +kernel
theorem dX3_unlikeWithin_35 : decode cX3_unlikeWithin 35 = .ok (.iload_n 2, 1) := by decide +kernel
theorem dX3_unlikeWithin_36 : decode cX3_unlikeWithin 36 = .ok (.imul, 1) := by decide +kernel
theorem dX3_unlikeWithin_37 : decode cX3_unlikeWithin 37 = .ok (.lshl, 1) := by decide +kernel
theorem dX3_unlikeWithin_38 : decode cX3_unlikeWithin 38 = .ok (.lconst 1, 1) := by decide +kernel
theorem dX3_unlikeWithin_39 : decode cX3_unlikeWithin 39 = .ok (.lsub, 1) := by decide +kernel
theorem dX3_unlikeWithin_40 : decode cX3_unlikeWithin 40 = .ok (.lstore 7, 2) := by decide +kernel
theorem dX3_unlikeWithin_42 : decode cX3_unlikeWithin 42 = .ok (.iconst 0, 1) := by decide +kernel
theorem dX3_unlikeWithin_43 : decode cX3_unlikeWithin 43 = .ok (.istore 9, 2) := by decide +kernel
theorem dX3_unlikeWithin_45 : decode cX3_unlikeWithin 45 = .ok (.iload 9, 2) := by decide +kernel
theorem dX3_unlikeWithin_47 : decode cX3_unlikeWithin 47 = .ok (.iload_n 3, 1) := by decide +kernel
theorem dX3_unlikeWithin_48 : decode cX3_unlikeWithin 48 = .ok (.if_icmp .ge 46, 3) := by decide +kernel
theorem dX3_unlikeWithin_51 : decode cX3_unlikeWithin 51 = .ok (.lload 5, 2) := by decide +kernel
theorem dX3_unlikeWithin_53 : decode cX3_unlikeWithin 53 = .ok (.iconst 3, 1) := by decide +kernel
theorem dX3_unlikeWithin_54 : decode cX3_unlikeWithin 54 = .ok (.lshl, 1) := by decide +kernel
theorem dX3_unlikeWithin_55 : decode cX3_unlikeWithin 55 = .ok (.aload_n 1, 1) := by decide +kernel
theorem dX3_unlikeWithin_56 : decode cX3_unlikeWithin 56 = .ok (.iload 9, 2) := by decide +kernel
theorem dX3_unlikeWithin_58 : decode cX3_unlikeWithin 58 = .ok (.invokevirtual 13, 3) := by decide +kernel
theorem dX3_unlikeWithin_61 : decode cX3_unlikeWithin 61 = .ok (.i2l, 1) := by decide +kernel
theorem dX3_unlikeWithin_62 : decode cX3_unlikeWithin 62 = .ok (.lor, 1) := by decide +kernel
theorem dX3_unlikeWithin_63 : decode cX3_unlikeWithin 63 = .ok (.lload 7, 2) := by decide +kernel
theorem dX3_unlikeWithin_65 : decode cX3_unlikeWithin 65 = .ok (.land, 1) := by decide +kernel
theorem dX3_unlikeWithin_66 : decode cX3_unlikeWithin 66 = .ok (.lstore 5, 2) := by decide +kernel
theorem dX3_unlikeWithin_68 : decode cX3_unlikeWithin 68 = .ok (.iload 9, 2) := by decide +kernel
theorem dX3_unlikeWithin_70 : decode cX3_unlikeWithin 70 = .ok (.iconst 1, 1) := by decide +kernel
theorem dX3_unlikeWithin_71 : decode cX3_unlikeWithin 71 = .ok (.iadd, 1) := by decide +kernel
theorem dX3_unlikeWithin_72 : decode cX3_unlikeWithin 72 = .ok (.iload_n 2, 1) := by decide +kernel
theorem dX3_unlikeWithin_73 : decode cX3_unlikeWithin 73 = .ok (.if_icmp .lt 15, 3) := by decide +kernel
theorem dX3_unlikeWithin_76 : decode cX3_unlikeWithin 76 = .ok (.aload_n 0, 1) := by decide +kernel
theorem dX3_unlikeWithin_77 : decode cX3_unlikeWithin 77 = .ok (.lload 5, 2) := by decide +kernel
theorem dX3_unlikeWithin_79 : decode cX3_unlikeWithin 79 = .ok (.invokevirtual 19, 3) := by decide +kernel
theorem dX3_unlikeWithin_82 : decode cX3_unlikeWithin 82 = .ok (.ifCond .eq 6, 3) := by decide +kernel
theorem dX3_unlikeWithin_85 : decode cX3_unlikeWithin 85 = .ok (.iinc 4 1, 3) := by decide +kernel
theorem dX3_unlikeWithin_88 : decode cX3_unlikeWithin 88 = .ok (.iinc 9 1, 3) := by decide +kernel
theorem dX3_unlikeWithin_91 : decode cX3_unlikeWithin 91 = .ok (.goto (-46), 3) := by decide +kernel
theorem dX3_unlikeWithin_94 : decode cX3_unlikeWithin 94 = .ok (.iload 4, 2) := by decide +kernel
theorem dX3_unlikeWithin_96 : decode cX3_unlikeWithin 96 = .ok (.ireturn, 1) := by decide +kernel
theorem dX3_takesSeat_0 : decode cX3_takesSeat 0 = .ok (.lload_n 1, 1) := by decide +kernel
theorem dX3_takesSeat_1 : decode cX3_takesSeat 1 = .ok (.ldc2_w 23, 3) := by decide +kernel
theorem dX3_takesSeat_4 : decode cX3_takesSeat 4 = .ok (.lmul, 1) := by decide +kernel
theorem dX3_takesSeat_5 : decode cX3_takesSeat 5 = .ok (.bipush 52, 2) := by decide +kernel
theorem dX3_takesSeat_7 : decode cX3_takesSeat 7 = .ok (.lushr, 1) := by decide +kernel
theorem dX3_takesSeat_8 : decode cX3_takesSeat 8 = .ok (.l2i, 1) := by decide +kernel
theorem dX3_takesSeat_9 : decode cX3_takesSeat 9 = .ok (.istore_n 3, 1) := by decide +kernel
theorem dX3_takesSeat_10 : decode cX3_takesSeat 10 = .ok (.iconst 0, 1) := by decide +kernel
theorem dX3_takesSeat_11 : decode cX3_takesSeat 11 = .ok (.istore 4, 2) := by decide +kernel
theorem dX3_takesSeat_13 : decode cX3_takesSeat 13 = .ok (.iload 4, 2) := by decide +kernel
theorem dX3_takesSeat_15 : decode cX3_takesSeat 15 = .ok (.sipush 4096, 3) := by decide +kernel
theorem dX3_takesSeat_18 : decode cX3_takesSeat 18 = .ok (.if_icmp .ge 74, 3) := by decide +kernel
theorem dX3_takesSeat_21 : decode cX3_takesSeat 21 = .ok (.iload_n 3, 1) := by decide +kernel
theorem dX3_takesSeat_22 : decode cX3_takesSeat 22 = .ok (.ifCond .lt 12, 3) := by decide +kernel
theorem dX3_takesSeat_25 : decode cX3_takesSeat 25 = .ok (.iload_n 3, 1) := by decide +kernel
theorem dX3_takesSeat_26 : decode cX3_takesSeat 26 = .ok (.aload_n 0, 1) := by decide +kernel
theorem dX3_takesSeat_27 : decode cX3_takesSeat 27 = .ok (.getfield 9, 3) := by decide +kernel
theorem dX3_takesSeat_30 : decode cX3_takesSeat 30 = .ok (.arraylength, 1) := by decide +kernel
theorem dX3_takesSeat_31 : decode cX3_takesSeat 31 = .ok (.if_icmp .lt 5, 3) := by decide +kernel
theorem dX3_takesSeat_34 : decode cX3_takesSeat 34 = .ok (.iconst 0, 1) := by decide +kernel
theorem dX3_takesSeat_35 : decode cX3_takesSeat 35 = .ok (.ireturn, 1) := by decide +kernel
theorem dX3_takesSeat_36 : decode cX3_takesSeat 36 = .ok (.aload_n 0, 1) := by decide +kernel
theorem dX3_takesSeat_37 : decode cX3_takesSeat 37 = .ok (.getfield 9, 3) := by decide +kernel
theorem dX3_takesSeat_40 : decode cX3_takesSeat 40 = .ok (.iload_n 3, 1) := by decide +kernel
theorem dX3_takesSeat_41 : decode cX3_takesSeat 41 = .ok (.laload, 1) := by decide +kernel
theorem dX3_takesSeat_42 : decode cX3_takesSeat 42 = .ok (.lload_n 1, 1) := by decide +kernel
theorem dX3_takesSeat_43 : decode cX3_takesSeat 43 = .ok (.lcmp, 1) := by decide +kernel
theorem dX3_takesSeat_44 : decode cX3_takesSeat 44 = .ok (.ifCond .ne 5, 3) := by decide +kernel
theorem dX3_takesSeat_47 : decode cX3_takesSeat 47 = .ok (.iconst 0, 1) := by decide +kernel
theorem dX3_takesSeat_48 : decode cX3_takesSeat 48 = .ok (.ireturn, 1) := by decide +kernel
theorem dX3_takesSeat_49 : decode cX3_takesSeat 49 = .ok (.aload_n 0, 1) := by decide +kernel
theorem dX3_takesSeat_50 : decode cX3_takesSeat 50 = .ok (.getfield 9, 3) := by decide +kernel
theorem dX3_takesSeat_53 : decode cX3_takesSeat 53 = .ok (.iload_n 3, 1) := by decide +kernel
theorem dX3_takesSeat_54 : decode cX3_takesSeat 54 = .ok (.laload, 1) := by decide +kernel
theorem dX3_takesSeat_55 : decode cX3_takesSeat 55 = .ok (.lconst 0, 1) := by decide +kernel
theorem dX3_takesSeat_56 : decode cX3_takesSeat 56 = .ok (.lcmp, 1) := by decide +kernel
theorem dX3_takesSeat_57 : decode cX3_takesSeat 57 = .ok (.ifCond .ne 12, 3) := by decide +kernel
theorem dX3_takesSeat_60 : decode cX3_takesSeat 60 = .ok (.aload_n 0, 1) := by decide +kernel
theorem dX3_takesSeat_61 : decode cX3_takesSeat 61 = .ok (.getfield 9, 3) := by decide +kernel
theorem dX3_takesSeat_64 : decode cX3_takesSeat 64 = .ok (.iload_n 3, 1) := by decide +kernel
theorem dX3_takesSeat_65 : decode cX3_takesSeat 65 = .ok (.lload_n 1, 1) := by decide +kernel
theorem dX3_takesSeat_66 : decode cX3_takesSeat 66 = .ok (.lastore, 1) := by decide +kernel
theorem dX3_takesSeat_67 : decode cX3_takesSeat 67 = .ok (.iconst 1, 1) := by decide +kernel
theorem dX3_takesSeat_68 : decode cX3_takesSeat 68 = .ok (.ireturn, 1) := by decide +kernel
theorem dX3_takesSeat_69 : decode cX3_takesSeat 69 = .ok (.iload_n 3, 1) := by decide +kernel
theorem dX3_takesSeat_70 : decode cX3_takesSeat 70 = .ok (.iconst 1, 1) := by decide +kernel
theorem dX3_takesSeat_71 : decode cX3_takesSeat 71 = .ok (.iadd, 1) := by decide +kernel
theorem dX3_takesSeat_72 : decode cX3_takesSeat 72 = .ok (.sipush 4096, 3) := by decide +kernel
theorem dX3_takesSeat_75 : decode cX3_takesSeat 75 = .ok (.if_icmp .ge 9, 3) := by decide +kernel
theorem dX3_takesSeat_78 : decode cX3_takesSeat 78 = .ok (.iload_n 3, 1) := by decide +kernel
theorem dX3_takesSeat_79 : decode cX3_takesSeat 79 = .ok (.iconst 1, 1) := by decide +kernel
theorem dX3_takesSeat_80 : decode cX3_takesSeat 80 = .ok (.iadd, 1) := by decide +kernel
theorem dX3_takesSeat_81 : decode cX3_takesSeat 81 = .ok (.goto 4, 3) := by decide +kernel
theorem dX3_takesSeat_84 : decode cX3_takesSeat 84 = .ok (.iconst 0, 1) := by decide +kernel
theorem dX3_takesSeat_85 : decode cX3_takesSeat 85 = .ok (.istore_n 3, 1) := by decide +kernel
theorem dX3_takesSeat_86 : decode cX3_takesSeat 86 = .ok (.iinc 4 1, 3) := by decide +kernel
theorem dX3_takesSeat_89 : decode cX3_takesSeat 89 = .ok (.goto (-76), 3) := by decide +kernel
theorem dX3_takesSeat_92 : decode cX3_takesSeat 92 = .ok (.iconst 0, 1) := by decide +kernel
theorem dX3_takesSeat_93 : decode cX3_takesSeat 93 = .ok (.ireturn, 1) := by decide +kernel
theorem dX4_init_0 : decode cX4_init 0 = .ok (.aload_n 0, 1) := by decide +kernel
theorem dX4_init_1 : decode cX4_init 1 = .ok (.invokespecial 3, 3) := by decide +kernel
theorem dX4_init_4 : decode cX4_init 4 = .ok (.aload_n 0, 1) := by decide +kernel
theorem dX4_init_5 : decode cX4_init 5 = .ok (.bipush 60, 2) := by decide +kernel
theorem dX4_init_7 : decode cX4_init 7 = .ok (.newarray .int, 2) := by decide +kernel
theorem dX4_init_9 : decode cX4_init 9 = .ok (.putfield 9, 3) := by decide +kernel
theorem dX4_init_12 : decode cX4_init 12 = .ok (.aload_n 0, 1) := by decide +kernel
theorem dX4_init_13 : decode cX4_init 13 = .ok (.iconst 0, 1) := by decide +kernel
theorem dX4_init_14 : decode cX4_init 14 = .ok (.putfield 15, 3) := by decide +kernel
theorem dX4_init_17 : decode cX4_init 17 = .ok (.return_, 1) := by decide +kernel
theorem dX4_size_0 : decode cX4_size 0 = .ok (.aload_n 0, 1) := by decide +kernel
theorem dX4_size_1 : decode cX4_size 1 = .ok (.getfield 15, 3) := by decide +kernel
theorem dX4_size_4 : decode cX4_size 4 = .ok (.ireturn, 1) := by decide +kernel
theorem dX4_letterAt_0 : decode cX4_letterAt 0 = .ok (.iload_n 1, 1) := by decide +kernel
theorem dX4_letterAt_1 : decode cX4_letterAt 1 = .ok (.ifCond .lt 29, 3) := by decide +kernel
theorem dX4_letterAt_4 : decode cX4_letterAt 4 = .ok (.iload_n 1, 1) := by decide +kernel
theorem dX4_letterAt_5 : decode cX4_letterAt 5 = .ok (.aload_n 0, 1) := by decide +kernel
theorem dX4_letterAt_6 : decode cX4_letterAt 6 = .ok (.getfield 15, 3) := by decide +kernel
theorem dX4_letterAt_9 : decode cX4_letterAt 9 = .ok (.if_icmp .ge 21, 3) := by decide +kernel
theorem dX4_letterAt_12 : decode cX4_letterAt 12 = .ok (.iload_n 1, 1) := by decide +kernel
theorem dX4_letterAt_13 : decode cX4_letterAt 13 = .ok (.aload_n 0, 1) := by decide +kernel
theorem dX4_letterAt_14 : decode cX4_letterAt 14 = .ok (.getfield 9, 3) := by decide +kernel
theorem dX4_letterAt_17 : decode cX4_letterAt 17 = .ok (.arraylength, 1) := by decide +kernel
theorem dX4_letterAt_18 : decode cX4_letterAt 18 = .ok (.if_icmp .ge 12, 3) := by decide +kernel
theorem dX4_letterAt_21 : decode cX4_letterAt 21 = .ok (.aload_n 0, 1) := by decide +kernel
theorem dX4_letterAt_22 : decode cX4_letterAt 22 = .ok (.getfield 9, 3) := by decide +kernel
theorem dX4_letterAt_25 : decode cX4_letterAt 25 = .ok (.iload_n 1, 1) := by decide +kernel
theorem dX4_letterAt_26 : decode cX4_letterAt 26 = .ok (.iaload, 1) := by decide +kernel
theorem dX4_letterAt_27 : decode cX4_letterAt 27 = .ok (.goto 4, 3) := by decide +kernel
theorem dX4_letterAt_30 : decode cX4_letterAt 30 = .ok (.iconst (-1), 1) := by decide +kernel
theorem dX4_letterAt_31 : decode cX4_letterAt 31 = .ok (.ireturn, 1) := by decide +kernel
theorem dX4_empty_0 : decode cX4_empty 0 = .ok (.aload_n 0, 1) := by decide +kernel
theorem dX4_empty_1 : decode cX4_empty 1 = .ok (.iconst 0, 1) := by decide +kernel
theorem dX4_empty_2 : decode cX4_empty 2 = .ok (.putfield 15, 3) := by decide +kernel
theorem dX4_empty_5 : decode cX4_empty 5 = .ok (.return_, 1) := by decide +kernel
theorem dX4_put_0 : decode cX4_put 0 = .ok (.aload_n 0, 1) := by decide +kernel
theorem dX4_put_1 : decode cX4_put 1 = .ok (.getfield 15, 3) := by decide +kernel
theorem dX4_put_4 : decode cX4_put 4 = .ok (.ifCond .lt 15, 3) := by decide +kernel
theorem dX4_put_7 : decode cX4_put 7 = .ok (.aload_n 0, 1) := by decide +kernel
theorem dX4_put_8 : decode cX4_put 8 = .ok (.getfield 15, 3) := by decide +kernel
theorem dX4_put_11 : decode cX4_put 11 = .ok (.aload_n 0, 1) := by decide +kernel
theorem dX4_put_12 : decode cX4_put 12 = .ok (.getfield 9, 3) := by decide +kernel
theorem dX4_put_15 : decode cX4_put 15 = .ok (.arraylength, 1) := by decide +kernel
theorem dX4_put_16 : decode cX4_put 16 = .ok (.if_icmp .lt 5, 3) := by decide +kernel
theorem dX4_put_19 : decode cX4_put 19 = .ok (.iconst 0, 1) := by decide +kernel
theorem dX4_put_20 : decode cX4_put 20 = .ok (.ireturn, 1) := by decide +kernel
theorem dX4_put_21 : decode cX4_put 21 = .ok (.aload_n 0, 1) := by decide +kernel
theorem dX4_put_22 : decode cX4_put 22 = .ok (.getfield 9, 3) := by decide +kernel
theorem dX4_put_25 : decode cX4_put 25 = .ok (.aload_n 0, 1) := by decide +kernel
theorem dX4_put_26 : decode cX4_put 26 = .ok (.getfield 15, 3) := by decide +kernel
theorem dX4_put_29 : decode cX4_put 29 = .ok (.iload_n 1, 1) := by decide +kernel
theorem dX4_put_30 : decode cX4_put 30 = .ok (.iastore, 1) := by decide +kernel
theorem dX4_put_31 : decode cX4_put 31 = .ok (.aload_n 0, 1) := by decide +kernel
theorem dX4_put_32 : decode cX4_put 32 = .ok (.dup, 1) := by decide +kernel
theorem dX4_put_33 : decode cX4_put 33 = .ok (.getfield 15, 3) := by decide +kernel
theorem dX4_put_36 : decode cX4_put 36 = .ok (.iconst 1, 1) := by decide +kernel
theorem dX4_put_37 : decode cX4_put 37 = .ok (.iadd, 1) := by decide +kernel
theorem dX4_put_38 : decode cX4_put 38 = .ok (.putfield 15, 3) := by decide +kernel
theorem dX4_put_41 : decode cX4_put 41 = .ok (.iconst 1, 1) := by decide +kernel
theorem dX4_put_42 : decode cX4_put 42 = .ok (.ireturn, 1) := by decide +kernel
set_option maxRecDepth 20000 in
theorem ggX4_putTimes_X4_put : GoodIn wsX4_putTimes wsX4_put := goodIn_r _ [5, 6, 7, 8, 9] (by decide +kernel) (by decide +kernel)
set_option maxRecDepth 20000 in
theorem gX4_putTimes_X4_put : GoodIn wsX4_putTimes (wsV RX4 19 RX4 yX4_put wsX4_put) := goodIn_app (goodIn_of _ (by decide +kernel)) ggX4_putTimes_X4_put
theorem dX4_putTimes_0 : decode cX4_putTimes 0 = .ok (.iconst 0, 1) := by decide +kernel
theorem dX4_putTimes_1 : decode cX4_putTimes 1 = .ok (.istore_n 3, 1) := by decide +kernel
theorem dX4_putTimes_2 : decode cX4_putTimes 2 = .ok (.iload_n 3, 1) := by decide +kernel
theorem dX4_putTimes_3 : decode cX4_putTimes 3 = .ok (.iload_n 2, 1) := by decide +kernel
theorem dX4_putTimes_4 : decode cX4_putTimes 4 = .ok (.if_icmp .ge 15, 3) := by decide +kernel
theorem dX4_putTimes_7 : decode cX4_putTimes 7 = .ok (.aload_n 0, 1) := by decide +kernel
theorem dX4_putTimes_8 : decode cX4_putTimes 8 = .ok (.iload_n 1, 1) := by decide +kernel
theorem dX4_putTimes_9 : decode cX4_putTimes 9 = .ok (.invokevirtual 19, 3) := by decide +kernel
theorem dX4_putTimes_12 : decode cX4_putTimes 12 = .ok (.pop, 1) := by decide +kernel
theorem dX4_putTimes_13 : decode cX4_putTimes 13 = .ok (.iinc 3 1, 3) := by decide +kernel
theorem dX4_putTimes_16 : decode cX4_putTimes 16 = .ok (.goto (-14), 3) := by decide +kernel
theorem dX4_putTimes_19 : decode cX4_putTimes 19 = .ok (.return_, 1) := by decide +kernel
theorem dX4_drop_0 : decode cX4_drop 0 = .ok (.aload_n 0, 1) := by decide +kernel
theorem dX4_drop_1 : decode cX4_drop 1 = .ok (.getfield 15, 3) := by decide +kernel
theorem dX4_drop_4 : decode cX4_drop 4 = .ok (.ifCond .le 13, 3) := by decide +kernel
theorem dX4_drop_7 : decode cX4_drop 7 = .ok (.aload_n 0, 1) := by decide +kernel
theorem dX4_drop_8 : decode cX4_drop 8 = .ok (.dup, 1) := by decide +kernel
theorem dX4_drop_9 : decode cX4_drop 9 = .ok (.getfield 15, 3) := by decide +kernel
theorem dX4_drop_12 : decode cX4_drop 12 = .ok (.iconst 1, 1) := by decide +kernel
theorem dX4_drop_13 : decode cX4_drop 13 = .ok (.isub, 1) := by decide +kernel
theorem dX4_drop_14 : decode cX4_drop 14 = .ok (.putfield 15, 3) := by decide +kernel
theorem dX4_drop_17 : decode cX4_drop 17 = .ok (.return_, 1) := by decide +kernel
set_option maxRecDepth 20000 in
theorem ggX4_become_X4_empty : GoodIn wsX4_become wsX4_empty := goodIn_r _ [5, 6, 20, 21] (by decide +kernel) (by decide +kernel)
set_option maxRecDepth 20000 in
theorem gX4_become_X4_empty : GoodIn wsX4_become (wsV RX4 23 RX4 yX4_empty wsX4_empty) := goodIn_app (goodIn_of _ (by decide +kernel)) ggX4_become_X4_empty
set_option maxRecDepth 20000 in
theorem ggX4_become_X4_size : GoodIn wsX4_become wsX4_size := goodIn_r _ [10, 6, 20, 21] (by decide +kernel) (by decide +kernel)
set_option maxRecDepth 20000 in
theorem gX4_become_X4_size : GoodIn wsX4_become (wsV RX4 26 RX4 yX4_size wsX4_size) := goodIn_app (goodIn_of _ (by decide +kernel)) ggX4_become_X4_size
set_option maxRecDepth 20000 in
theorem ggX4_become_X4_letterAt : GoodIn wsX4_become wsX4_letterAt := goodIn_r _ [14, 6, 15, 20, 21] (by decide +kernel) (by decide +kernel)
set_option maxRecDepth 20000 in
theorem gX4_become_X4_letterAt : GoodIn wsX4_become (wsV RX4 29 RX4 yX4_letterAt wsX4_letterAt) := goodIn_app (goodIn_of _ (by decide +kernel)) ggX4_become_X4_letterAt
set_option maxRecDepth 20000 in
theorem ggX4_become_X4_put : GoodIn wsX4_become wsX4_put := goodIn_r _ [19, 6, 15, 20, 21] (by decide +kernel) (by decide +kernel)
set_option maxRecDepth 20000 in
theorem gX4_become_X4_put : GoodIn wsX4_become (wsV RX4 19 RX4 yX4_put wsX4_put) := goodIn_app (goodIn_of _ (by decide +kernel)) ggX4_become_X4_put
theorem dX4_become_0 : decode cX4_become 0 = .ok (.aload_n 0, 1) := by decide +kernel
theorem dX4_become_1 : decode cX4_become 1 = .ok (.invokevirtual 23, 3) := by decide +kernel
theorem dX4_become_4 : decode cX4_become 4 = .ok (.iconst 0, 1) := by decide +kernel
theorem dX4_become_5 : decode cX4_become 5 = .ok (.istore_n 2, 1) := by decide +kernel
theorem dX4_become_6 : decode cX4_become 6 = .ok (.iload_n 2, 1) := by decide +kernel
theorem dX4_become_7 : decode cX4_become 7 = .ok (.aload_n 1, 1) := by decide +kernel
theorem dX4_become_8 : decode cX4_become 8 = .ok (.invokevirtual 26, 3) := by decide +kernel
theorem dX4_become_11 : decode cX4_become 11 = .ok (.if_icmp .ge 19, 3) := by decide +kernel
theorem dX4_become_14 : decode cX4_become 14 = .ok (.aload_n 0, 1) := by decide +kernel
theorem dX4_become_15 : decode cX4_become 15 = .ok (.aload_n 1, 1) := by decide +kernel
theorem dX4_become_16 : decode cX4_become 16 = .ok (.iload_n 2, 1) := by decide +kernel
theorem dX4_become_17 : decode cX4_become 17 = .ok (.invokevirtual 29, 3) := by decide +kernel
theorem dX4_become_20 : decode cX4_become 20 = .ok (.invokevirtual 19, 3) := by decide +kernel
theorem dX4_become_23 : decode cX4_become 23 = .ok (.pop, 1) := by decide +kernel
theorem dX4_become_24 : decode cX4_become 24 = .ok (.iinc 2 1, 3) := by decide +kernel
theorem dX4_become_27 : decode cX4_become 27 = .ok (.goto (-21), 3) := by decide +kernel
theorem dX4_become_30 : decode cX4_become 30 = .ok (.return_, 1) := by decide +kernel
set_option maxRecDepth 20000 in
theorem ggX4_total_X4_letterAt : GoodIn wsX4_total wsX4_letterAt := goodIn_r _ [6, 1, 7, 8, 9] (by decide +kernel) (by decide +kernel)
set_option maxRecDepth 20000 in
theorem gX4_total_X4_letterAt : GoodIn wsX4_total (wsV RX4 29 RX4 yX4_letterAt wsX4_letterAt) := goodIn_app (goodIn_of _ (by decide +kernel)) ggX4_total_X4_letterAt
theorem dX4_total_0 : decode cX4_total 0 = .ok (.iconst 0, 1) := by decide +kernel
theorem dX4_total_1 : decode cX4_total 1 = .ok (.istore_n 1, 1) := by decide +kernel
theorem dX4_total_2 : decode cX4_total 2 = .ok (.iconst 0, 1) := by decide +kernel
theorem dX4_total_3 : decode cX4_total 3 = .ok (.istore_n 2, 1) := by decide +kernel
theorem dX4_total_4 : decode cX4_total 4 = .ok (.iload_n 2, 1) := by decide +kernel
theorem dX4_total_5 : decode cX4_total 5 = .ok (.aload_n 0, 1) := by decide +kernel
theorem dX4_total_6 : decode cX4_total 6 = .ok (.getfield 15, 3) := by decide +kernel
theorem dX4_total_9 : decode cX4_total 9 = .ok (.if_icmp .ge 17, 3) := by decide +kernel
theorem dX4_total_12 : decode cX4_total 12 = .ok (.iload_n 1, 1) := by decide +kernel
theorem dX4_total_13 : decode cX4_total 13 = .ok (.aload_n 0, 1) := by decide +kernel
theorem dX4_total_14 : decode cX4_total 14 = .ok (.iload_n 2, 1) := by decide +kernel
theorem dX4_total_15 : decode cX4_total 15 = .ok (.invokevirtual 29, 3) := by decide +kernel
theorem dX4_total_18 : decode cX4_total 18 = .ok (.iadd, 1) := by decide +kernel
theorem dX4_total_19 : decode cX4_total 19 = .ok (.istore_n 1, 1) := by decide +kernel
theorem dX4_total_20 : decode cX4_total 20 = .ok (.iinc 2 1, 3) := by decide +kernel
theorem dX4_total_23 : decode cX4_total 23 = .ok (.goto (-19), 3) := by decide +kernel
theorem dX4_total_26 : decode cX4_total 26 = .ok (.iload_n 1, 1) := by decide +kernel
theorem dX4_total_27 : decode cX4_total 27 = .ok (.ireturn, 1) := by decide +kernel
set_option maxRecDepth 20000 in
theorem ggX4_greatestLetter_X4_letterAt : GoodIn wsX4_greatestLetter wsX4_letterAt := goodIn_r _ [10, 1, 11, 12, 13] (by decide +kernel) (by decide +kernel)
set_option maxRecDepth 20000 in
theorem gX4_greatestLetter_X4_letterAt : GoodIn wsX4_greatestLetter (wsV RX4 29 RX4 yX4_letterAt wsX4_letterAt) := goodIn_app (goodIn_of _ (by decide +kernel)) ggX4_greatestLetter_X4_letterAt
theorem dX4_greatestLetter_0 : decode cX4_greatestLetter 0 = .ok (.iconst 0, 1) := by decide +kernel
theorem dX4_greatestLetter_1 : decode cX4_greatestLetter 1 = .ok (.istore_n 1, 1) := by decide +kernel
theorem dX4_greatestLetter_2 : decode cX4_greatestLetter 2 = .ok (.iconst 0, 1) := by decide +kernel
theorem dX4_greatestLetter_3 : decode cX4_greatestLetter 3 = .ok (.istore_n 2, 1) := by decide +kernel
theorem dX4_greatestLetter_4 : decode cX4_greatestLetter 4 = .ok (.iload_n 2, 1) := by decide +kernel
theorem dX4_greatestLetter_5 : decode cX4_greatestLetter 5 = .ok (.aload_n 0, 1) := by decide +kernel
theorem dX4_greatestLetter_6 : decode cX4_greatestLetter 6 = .ok (.getfield 15, 3) := by decide +kernel
theorem dX4_greatestLetter_9 : decode cX4_greatestLetter 9 = .ok (.if_icmp .ge 19, 3) := by decide +kernel
theorem dX4_greatestLetter_12 : decode cX4_greatestLetter 12 = .ok (.iload_n 1, 1) := by decide +kernel
theorem dX4_greatestLetter_13 : decode cX4_greatestLetter 13 = .ok (.aload_n 0, 1) := by decide +kernel
theorem dX4_greatestLetter_14 : decode cX4_greatestLetter 14 = .ok (.iload_n 2, 1) := by decide +kernel
theorem dX4_greatestLetter_15 : decode cX4_greatestLetter 15 = .ok (.invokevirtual 29, 3) := by decide +kernel
theorem dX4_greatestLetter_18 : decode cX4_greatestLetter 18 = .ok (.invokestatic 33, 3) := by decide +kernel
theorem dX4_greatestLetter_21 : decode cX4_greatestLetter 21 = .ok (.istore_n 1, 1) := by decide +kernel
theorem dX4_greatestLetter_22 : decode cX4_greatestLetter 22 = .ok (.iinc 2 1, 3) := by decide +kernel
theorem dX4_greatestLetter_25 : decode cX4_greatestLetter 25 = .ok (.goto (-21), 3) := by decide +kernel
theorem dX4_greatestLetter_28 : decode cX4_greatestLetter 28 = .ok (.iload_n 1, 1) := by decide +kernel
theorem dX4_greatestLetter_29 : decode cX4_greatestLetter 29 = .ok (.ireturn, 1) := by decide +kernel
set_option maxRecDepth 20000 in
theorem ggX4_runsInIt_X4_isEndOfRun : GoodIn wsX4_runsInIt wsX4_isEndOfRun := goodIn_r _ [6, 7, 8, 9, 5, 10, 1, 11, 12, 13] (by decide +kernel) (by decide +kernel)
set_option maxRecDepth 20000 in
theorem gX4_runsInIt_X4_isEndOfRun : GoodIn wsX4_runsInIt (wsV RX4 39 RX4 yX4_isEndOfRun wsX4_isEndOfRun) := goodIn_app (goodIn_of _ (by decide +kernel)) ggX4_runsInIt_X4_isEndOfRun
theorem dX4_runsInIt_0 : decode cX4_runsInIt 0 = .ok (.iconst 0, 1) := by decide +kernel
theorem dX4_runsInIt_1 : decode cX4_runsInIt 1 = .ok (.istore_n 1, 1) := by decide +kernel
theorem dX4_runsInIt_2 : decode cX4_runsInIt 2 = .ok (.iconst 0, 1) := by decide +kernel
theorem dX4_runsInIt_3 : decode cX4_runsInIt 3 = .ok (.istore_n 2, 1) := by decide +kernel
theorem dX4_runsInIt_4 : decode cX4_runsInIt 4 = .ok (.iload_n 2, 1) := by decide +kernel
theorem dX4_runsInIt_5 : decode cX4_runsInIt 5 = .ok (.aload_n 0, 1) := by decide +kernel
theorem dX4_runsInIt_6 : decode cX4_runsInIt 6 = .ok (.getfield 15, 3) := by decide +kernel
theorem dX4_runsInIt_9 : decode cX4_runsInIt 9 = .ok (.if_icmp .ge 20, 3) := by decide +kernel
theorem dX4_runsInIt_12 : decode cX4_runsInIt 12 = .ok (.aload_n 0, 1) := by decide +kernel
theorem dX4_runsInIt_13 : decode cX4_runsInIt 13 = .ok (.iload_n 2, 1) := by decide +kernel
theorem dX4_runsInIt_14 : decode cX4_runsInIt 14 = .ok (.invokevirtual 39, 3) := by decide +kernel
theorem dX4_runsInIt_17 : decode cX4_runsInIt 17 = .ok (.ifCond .eq 6, 3) := by decide +kernel
theorem dX4_runsInIt_20 : decode cX4_runsInIt 20 = .ok (.iinc 1 1, 3) := by decide +kernel
theorem dX4_runsInIt_23 : decode cX4_runsInIt 23 = .ok (.iinc 2 1, 3) := by decide +kernel
theorem dX4_runsInIt_26 : decode cX4_runsInIt 26 = .ok (.goto (-22), 3) := by decide +kernel
theorem dX4_runsInIt_29 : decode cX4_runsInIt 29 = .ok (.iload_n 1, 1) := by decide +kernel
theorem dX4_runsInIt_30 : decode cX4_runsInIt 30 = .ok (.ireturn, 1) := by decide +kernel
set_option maxRecDepth 20000 in
theorem ggX4_longestRun_X4_isEndOfRun : GoodIn wsX4_longestRun wsX4_isEndOfRun := goodIn_r _ [10, 11, 12, 13, 9, 14, 1, 15, 16, 17] (by decide +kernel) (by decide +kernel)
set_option maxRecDepth 20000 in
theorem gX4_longestRun_X4_isEndOfRun : GoodIn wsX4_longestRun (wsV RX4 39 RX4 yX4_isEndOfRun wsX4_isEndOfRun) := goodIn_app (goodIn_of _ (by decide +kernel)) ggX4_longestRun_X4_isEndOfRun
theorem dX4_longestRun_0 : decode cX4_longestRun 0 = .ok (.iconst 0, 1) := by decide +kernel
theorem dX4_longestRun_1 : decode cX4_longestRun 1 = .ok (.istore_n 1, 1) := by decide +kernel
theorem dX4_longestRun_2 : decode cX4_longestRun 2 = .ok (.iconst 0, 1) := by decide +kernel
theorem dX4_longestRun_3 : decode cX4_longestRun 3 = .ok (.istore_n 2, 1) := by decide +kernel
theorem dX4_longestRun_4 : decode cX4_longestRun 4 = .ok (.iconst 0, 1) := by decide +kernel
theorem dX4_longestRun_5 : decode cX4_longestRun 5 = .ok (.istore_n 3, 1) := by decide +kernel
theorem dX4_longestRun_6 : decode cX4_longestRun 6 = .ok (.iload_n 3, 1) := by decide +kernel
theorem dX4_longestRun_7 : decode cX4_longestRun 7 = .ok (.aload_n 0, 1) := by decide +kernel
theorem dX4_longestRun_8 : decode cX4_longestRun 8 = .ok (.getfield 15, 3) := by decide +kernel
theorem dX4_longestRun_11 : decode cX4_longestRun 11 = .ok (.if_icmp .ge 28, 3) := by decide +kernel
theorem dX4_longestRun_14 : decode cX4_longestRun 14 = .ok (.iinc 2 1, 3) := by decide +kernel
theorem dX4_longestRun_17 : decode cX4_longestRun 17 = .ok (.iload_n 1, 1) := by decide +kernel
theorem dX4_longestRun_18 : decode cX4_longestRun 18 = .ok (.iload_n 2, 1) := by decide +kernel
theorem dX4_longestRun_19 : decode cX4_longestRun 19 = .ok (.invokestatic 33, 3) := by decide +kernel
theorem dX4_longestRun_22 : decode cX4_longestRun 22 = .ok (.istore_n 1, 1) := by decide +kernel
theorem dX4_longestRun_23 : decode cX4_longestRun 23 = .ok (.aload_n 0, 1) := by decide +kernel
theorem dX4_longestRun_24 : decode cX4_longestRun 24 = .ok (.iload_n 3, 1) := by decide +kernel
theorem dX4_longestRun_25 : decode cX4_longestRun 25 = .ok (.invokevirtual 39, 3) := by decide +kernel
theorem dX4_longestRun_28 : decode cX4_longestRun 28 = .ok (.ifCond .eq 5, 3) := by decide +kernel
theorem dX4_longestRun_31 : decode cX4_longestRun 31 = .ok (.iconst 0, 1) := by decide +kernel
theorem dX4_longestRun_32 : decode cX4_longestRun 32 = .ok (.istore_n 2, 1) := by decide +kernel
theorem dX4_longestRun_33 : decode cX4_longestRun 33 = .ok (.iinc 3 1, 3) := by decide +kernel
theorem dX4_longestRun_36 : decode cX4_longestRun 36 = .ok (.goto (-30), 3) := by decide +kernel
theorem dX4_longestRun_39 : decode cX4_longestRun 39 = .ok (.iload_n 1, 1) := by decide +kernel
theorem dX4_longestRun_40 : decode cX4_longestRun 40 = .ok (.ireturn, 1) := by decide +kernel
set_option maxRecDepth 20000 in
theorem ggX4_isEndOfRun_X4_letterAt : GoodIn wsX4_isEndOfRun wsX4_letterAt := goodIn_r _ [5, 6, 7, 8, 9] (by decide +kernel) (by decide +kernel)
set_option maxRecDepth 20000 in
theorem gX4_isEndOfRun_X4_letterAt : GoodIn wsX4_isEndOfRun (wsV RX4 29 RX4 yX4_letterAt wsX4_letterAt) := goodIn_app (goodIn_of _ (by decide +kernel)) ggX4_isEndOfRun_X4_letterAt
theorem dX4_isEndOfRun_0 : decode cX4_isEndOfRun 0 = .ok (.aload_n 0, 1) := by decide +kernel
theorem dX4_isEndOfRun_1 : decode cX4_isEndOfRun 1 = .ok (.iload_n 1, 1) := by decide +kernel
theorem dX4_isEndOfRun_2 : decode cX4_isEndOfRun 2 = .ok (.invokevirtual 29, 3) := by decide +kernel
theorem dX4_isEndOfRun_5 : decode cX4_isEndOfRun 5 = .ok (.aload_n 0, 1) := by decide +kernel
theorem dX4_isEndOfRun_6 : decode cX4_isEndOfRun 6 = .ok (.iload_n 1, 1) := by decide +kernel
theorem dX4_isEndOfRun_7 : decode cX4_isEndOfRun 7 = .ok (.iconst 1, 1) := by decide +kernel
theorem dX4_isEndOfRun_8 : decode cX4_isEndOfRun 8 = .ok (.iadd, 1) := by decide +kernel
theorem dX4_isEndOfRun_9 : decode cX4_isEndOfRun 9 = .ok (.invokevirtual 29, 3) := by decide +kernel
theorem dX4_isEndOfRun_12 : decode cX4_isEndOfRun 12 = .ok (.if_icmp .eq 7, 3) := by decide +kernel
theorem dX4_isEndOfRun_15 : decode cX4_isEndOfRun 15 = .ok (.iconst 1, 1) := by decide +kernel
theorem dX4_isEndOfRun_16 : decode cX4_isEndOfRun 16 = .ok (.goto 4, 3) := by decide +kernel
theorem dX4_isEndOfRun_19 : decode cX4_isEndOfRun 19 = .ok (.iconst 0, 1) := by decide +kernel
theorem dX4_isEndOfRun_20 : decode cX4_isEndOfRun 20 = .ok (.ireturn, 1) := by decide +kernel
set_option maxRecDepth 20000 in
theorem ggX4_becomeShorter_X4_isEndOfRun : GoodIn wsX4_becomeShorter wsX4_isEndOfRun := goodIn_r _ [6, 7, 8, 9, 5, 10, 1, 11, 16, 17] (by decide +kernel) (by decide +kernel)
set_option maxRecDepth 20000 in
theorem gX4_becomeShorter_X4_isEndOfRun : GoodIn wsX4_becomeShorter (wsV RX4 39 RX4 yX4_isEndOfRun wsX4_isEndOfRun) := goodIn_app (goodIn_of _ (by decide +kernel)) ggX4_becomeShorter_X4_isEndOfRun
set_option maxRecDepth 20000 in
theorem ggX4_becomeShorter_X4_change : GoodIn wsX4_becomeShorter wsX4_change := goodIn_r _ [15, 11, 16, 17] (by decide +kernel) (by decide +kernel)
set_option maxRecDepth 20000 in
theorem gX4_becomeShorter_X4_change : GoodIn wsX4_becomeShorter (wsV RX4 42 RX4 yX4_change wsX4_change) := goodIn_app (goodIn_of _ (by decide +kernel)) ggX4_becomeShorter_X4_change
theorem dX4_becomeShorter_0 : decode cX4_becomeShorter 0 = .ok (.aload_n 0, 1) := by decide +kernel
theorem dX4_becomeShorter_1 : decode cX4_becomeShorter 1 = .ok (.getfield 15, 3) := by decide +kernel
theorem dX4_becomeShorter_4 : decode cX4_becomeShorter 4 = .ok (.istore_n 2, 1) := by decide +kernel
theorem dX4_becomeShorter_5 : decode cX4_becomeShorter 5 = .ok (.iconst 0, 1) := by decide +kernel
theorem dX4_becomeShorter_6 : decode cX4_becomeShorter 6 = .ok (.istore_n 3, 1) := by decide +kernel
theorem dX4_becomeShorter_7 : decode cX4_becomeShorter 7 = .ok (.iconst 0, 1) := by decide +kernel
theorem dX4_becomeShorter_8 : decode cX4_becomeShorter 8 = .ok (.istore 4, 2) := by decide +kernel
theorem dX4_becomeShorter_10 : decode cX4_becomeShorter 10 = .ok (.iconst 0, 1) := by decide +kernel
theorem dX4_becomeShorter_11 : decode cX4_becomeShorter 11 = .ok (.istore 5, 2) := by decide +kernel
theorem dX4_becomeShorter_13 : decode cX4_becomeShorter 13 = .ok (.iload 5, 2) := by decide +kernel
theorem dX4_becomeShorter_15 : decode cX4_becomeShorter 15 = .ok (.iload_n 2, 1) := by decide +kernel
theorem dX4_becomeShorter_16 : decode cX4_becomeShorter 16 = .ok (.if_icmp .ge 72, 3) := by decide +kernel
theorem dX4_becomeShorter_19 : decode cX4_becomeShorter 19 = .ok (.iinc 4 1, 3) := by decide +kernel
theorem dX4_becomeShorter_22 : decode cX4_becomeShorter 22 = .ok (.aload_n 0, 1) := by decide +kernel
theorem dX4_becomeShorter_23 : decode cX4_becomeShorter 23 = .ok (.iload 5, 2) := by decide +kernel
theorem dX4_becomeShorter_25 : decode cX4_becomeShorter 25 = .ok (.invokevirtual 39, 3) := by decide +kernel
theorem dX4_becomeShorter_28 : decode cX4_becomeShorter 28 = .ok (.ifCond .ne 6, 3) := by decide +kernel
theorem dX4_becomeShorter_31 : decode cX4_becomeShorter 31 = .ok (.goto 51, 3) := by decide +kernel
theorem dX4_becomeShorter_34 : decode cX4_becomeShorter 34 = .ok (.iload 4, 2) := by decide +kernel
theorem dX4_becomeShorter_36 : decode cX4_becomeShorter 36 = .ok (.iload 5, 2) := by decide +kernel
theorem dX4_becomeShorter_38 : decode cX4_becomeShorter 38 = .ok (.iconst 1, 1) := by decide +kernel
theorem dX4_becomeShorter_39 : decode cX4_becomeShorter 39 = .ok (.iadd, 1) := by decide +kernel
theorem dX4_becomeShorter_40 : decode cX4_becomeShorter 40 = .ok (.if_icmp .eq 11, 3) := by decide +kernel
theorem dX4_becomeShorter_43 : decode cX4_becomeShorter 43 = .ok (.iload 5, 2) := by decide +kernel
theorem dX4_becomeShorter_45 : decode cX4_becomeShorter 45 = .ok (.iconst 1, 1) := by decide +kernel
theorem dX4_becomeShorter_46 : decode cX4_becomeShorter 46 = .ok (.iadd, 1) := by decide +kernel
theorem dX4_becomeShorter_47 : decode cX4_becomeShorter 47 = .ok (.iload_n 2, 1) := by decide +kernel
theorem dX4_becomeShorter_48 : decode cX4_becomeShorter 48 = .ok (.if_icmp .ne 7, 3) := by decide +kernel
theorem dX4_becomeShorter_51 : decode cX4_becomeShorter 51 = .ok (.iconst 1, 1) := by decide +kernel
theorem dX4_becomeShorter_52 : decode cX4_becomeShorter 52 = .ok (.goto 4, 3) := by decide +kernel
theorem dX4_becomeShorter_55 : decode cX4_becomeShorter 55 = .ok (.iconst 0, 1) := by decide +kernel
theorem dX4_becomeShorter_56 : decode cX4_becomeShorter 56 = .ok (.istore 6, 2) := by decide +kernel
theorem dX4_becomeShorter_58 : decode cX4_becomeShorter 58 = .ok (.iload 4, 2) := by decide +kernel
theorem dX4_becomeShorter_60 : decode cX4_becomeShorter 60 = .ok (.iload_n 1, 1) := by decide +kernel
theorem dX4_becomeShorter_61 : decode cX4_becomeShorter 61 = .ok (.if_icmp .ge 8, 3) := by decide +kernel
end
section
theorem dX4_becomeShorter_64 : decode cX4_becomeShorter 64 = .ok (.iload 6, 2) := by decide +kernel
theorem dX4_becomeShorter_66 : decode cX4_becomeShorter 66 = .ok (.ifCond .ne 13, 3) := by decide +kernel
theorem dX4_becomeShorter_69 : decode cX4_becomeShorter 69 = .ok (.aload_n 0, 1) := by decide +kernel
theorem dX4_becomeShorter_70 : decode cX4_becomeShorter 70 = .ok (.iload_n 3, 1) := by decide +kernel
theorem dX4_becomeShorter_71 : decode cX4_becomeShorter 71 = .ok (.iload 4, 2) := by decide +kernel
theorem dX4_becomeShorter_73 : decode cX4_becomeShorter 73 = .ok (.invokevirtual 42, 3) := by decide +kernel
theorem dX4_becomeShorter_76 : decode cX4_becomeShorter 76 = .ok (.iinc 3 1, 3) := by decide +kernel
theorem dX4_becomeShorter_79 : decode cX4_becomeShorter 79 = .ok (.iconst 0, 1) := by decide +kernel
theorem dX4_becomeShorter_80 : decode cX4_becomeShorter 80 = .ok (.istore 4, 2) := by decide +kernel
theorem dX4_becomeShorter_82 : decode cX4_becomeShorter 82 = .ok (.iinc 5 1, 3) := by decide +kernel
theorem dX4_becomeShorter_85 : decode cX4_becomeShorter 85 = .ok (.goto (-72), 3) := by decide +kernel
theorem dX4_becomeShorter_88 : decode cX4_becomeShorter 88 = .ok (.aload_n 0, 1) := by decide +kernel
theorem dX4_becomeShorter_89 : decode cX4_becomeShorter 89 = .ok (.iload_n 3, 1) := by decide +kernel
theorem dX4_becomeShorter_90 : decode cX4_becomeShorter 90 = .ok (.putfield 15, 3) := by decide +kernel
theorem dX4_becomeShorter_93 : decode cX4_becomeShorter 93 = .ok (.return_, 1) := by decide +kernel
theorem dX4_change_0 : decode cX4_change 0 = .ok (.iload_n 1, 1) := by decide +kernel
theorem dX4_change_1 : decode cX4_change 1 = .ok (.ifCond .lt 19, 3) := by decide +kernel
theorem dX4_change_4 : decode cX4_change 4 = .ok (.iload_n 1, 1) := by decide +kernel
theorem dX4_change_5 : decode cX4_change 5 = .ok (.aload_n 0, 1) := by decide +kernel
theorem dX4_change_6 : decode cX4_change 6 = .ok (.getfield 9, 3) := by decide +kernel
theorem dX4_change_9 : decode cX4_change 9 = .ok (.arraylength, 1) := by decide +kernel
theorem dX4_change_10 : decode cX4_change 10 = .ok (.if_icmp .ge 10, 3) := by decide +kernel
theorem dX4_change_13 : decode cX4_change 13 = .ok (.aload_n 0, 1) := by decide +kernel
theorem dX4_change_14 : decode cX4_change 14 = .ok (.getfield 9, 3) := by decide +kernel
theorem dX4_change_17 : decode cX4_change 17 = .ok (.iload_n 1, 1) := by decide +kernel
theorem dX4_change_18 : decode cX4_change 18 = .ok (.iload_n 2, 1) := by decide +kernel
theorem dX4_change_19 : decode cX4_change 19 = .ok (.iastore, 1) := by decide +kernel
theorem dX4_change_20 : decode cX4_change 20 = .ok (.return_, 1) := by decide +kernel
set_option maxRecDepth 20000 in
theorem ggX4_turnRound_X4_letterAt : GoodIn wsX4_turnRound wsX4_letterAt := goodIn_r _ [6, 1, 7, 12, 13] (by decide +kernel) (by decide +kernel)
set_option maxRecDepth 20000 in
theorem gX4_turnRound_X4_letterAt : GoodIn wsX4_turnRound (wsV RX4 29 RX4 yX4_letterAt wsX4_letterAt) := goodIn_app (goodIn_of _ (by decide +kernel)) ggX4_turnRound_X4_letterAt
set_option maxRecDepth 20000 in
theorem ggX4_turnRound_X4_change : GoodIn wsX4_turnRound wsX4_change := goodIn_r _ [11, 7, 12, 13] (by decide +kernel) (by decide +kernel)
set_option maxRecDepth 20000 in
theorem gX4_turnRound_X4_change : GoodIn wsX4_turnRound (wsV RX4 42 RX4 yX4_change wsX4_change) := goodIn_app (goodIn_of _ (by decide +kernel)) ggX4_turnRound_X4_change
theorem dX4_turnRound_0 : decode cX4_turnRound 0 = .ok (.iconst 0, 1) := by decide +kernel
theorem dX4_turnRound_1 : decode cX4_turnRound 1 = .ok (.istore_n 1, 1) := by decide +kernel
theorem dX4_turnRound_2 : decode cX4_turnRound 2 = .ok (.aload_n 0, 1) := by decide +kernel
theorem dX4_turnRound_3 : decode cX4_turnRound 3 = .ok (.getfield 15, 3) := by decide +kernel
theorem dX4_turnRound_6 : decode cX4_turnRound 6 = .ok (.iconst 1, 1) := by decide +kernel
theorem dX4_turnRound_7 : decode cX4_turnRound 7 = .ok (.isub, 1) := by decide +kernel
theorem dX4_turnRound_8 : decode cX4_turnRound 8 = .ok (.istore_n 2, 1) := by decide +kernel
theorem dX4_turnRound_9 : decode cX4_turnRound 9 = .ok (.iload_n 1, 1) := by decide +kernel
theorem dX4_turnRound_10 : decode cX4_turnRound 10 = .ok (.iload_n 2, 1) := by decide +kernel
theorem dX4_turnRound_11 : decode cX4_turnRound 11 = .ok (.if_icmp .ge 34, 3) := by decide +kernel
theorem dX4_turnRound_14 : decode cX4_turnRound 14 = .ok (.aload_n 0, 1) := by decide +kernel
theorem dX4_turnRound_15 : decode cX4_turnRound 15 = .ok (.iload_n 1, 1) := by decide +kernel
theorem dX4_turnRound_16 : decode cX4_turnRound 16 = .ok (.invokevirtual 29, 3) := by decide +kernel
theorem dX4_turnRound_19 : decode cX4_turnRound 19 = .ok (.istore_n 3, 1) := by decide +kernel
theorem dX4_turnRound_20 : decode cX4_turnRound 20 = .ok (.aload_n 0, 1) := by decide +kernel
theorem dX4_turnRound_21 : decode cX4_turnRound 21 = .ok (.iload_n 1, 1) := by decide +kernel
theorem dX4_turnRound_22 : decode cX4_turnRound 22 = .ok (.aload_n 0, 1) := by decide +kernel
theorem dX4_turnRound_23 : decode cX4_turnRound 23 = .ok (.iload_n 2, 1) := by decide +kernel
theorem dX4_turnRound_24 : decode cX4_turnRound 24 = .ok (.invokevirtual 29, 3) := by decide +kernel
theorem dX4_turnRound_27 : decode cX4_turnRound 27 = .ok (.invokevirtual 42, 3) := by decide +kernel
theorem dX4_turnRound_30 : decode cX4_turnRound 30 = .ok (.aload_n 0, 1) := by decide +kernel
theorem dX4_turnRound_31 : decode cX4_turnRound 31 = .ok (.iload_n 2, 1) := by decide +kernel
theorem dX4_turnRound_32 : decode cX4_turnRound 32 = .ok (.iload_n 3, 1) := by decide +kernel
theorem dX4_turnRound_33 : decode cX4_turnRound 33 = .ok (.invokevirtual 42, 3) := by decide +kernel
theorem dX4_turnRound_36 : decode cX4_turnRound 36 = .ok (.iinc 1 1, 3) := by decide +kernel
theorem dX4_turnRound_39 : decode cX4_turnRound 39 = .ok (.iinc 2 (-1), 3) := by decide +kernel
theorem dX4_turnRound_42 : decode cX4_turnRound 42 = .ok (.goto (-33), 3) := by decide +kernel
theorem dX4_turnRound_45 : decode cX4_turnRound 45 = .ok (.return_, 1) := by decide +kernel
set_option maxRecDepth 20000 in
theorem ggX4_replaceBy_X4_letterAt : GoodIn wsX4_replaceBy wsX4_letterAt := goodIn_r _ [6, 1, 7, 23, 24] (by decide +kernel) (by decide +kernel)
set_option maxRecDepth 20000 in
theorem gX4_replaceBy_X4_letterAt : GoodIn wsX4_replaceBy (wsV RX4 29 RX4 yX4_letterAt wsX4_letterAt) := goodIn_app (goodIn_of _ (by decide +kernel)) ggX4_replaceBy_X4_letterAt
set_option maxRecDepth 20000 in
theorem ggX4_replaceBy_X0_letterBehind : GoodIn wsX4_replaceBy wsX0_letterBehind := goodIn_r _ [12, 13, 14, 15, 16, 11, 17, 18, 25, 26] (by decide +kernel) (by decide +kernel)
set_option maxRecDepth 20000 in
theorem gX4_replaceBy_X0_letterBehind : GoodIn wsX4_replaceBy (wsV RX4 46 RX0 yX0_letterBehind wsX0_letterBehind) := goodIn_app (goodIn_of _ (by decide +kernel)) ggX4_replaceBy_X0_letterBehind
set_option maxRecDepth 20000 in
theorem ggX4_replaceBy_X4_change : GoodIn wsX4_replaceBy wsX4_change := goodIn_r _ [22, 7, 23, 24] (by decide +kernel) (by decide +kernel)
set_option maxRecDepth 20000 in
theorem gX4_replaceBy_X4_change : GoodIn wsX4_replaceBy (wsV RX4 42 RX4 yX4_change wsX4_change) := goodIn_app (goodIn_of _ (by decide +kernel)) ggX4_replaceBy_X4_change
theorem dX4_replaceBy_0 : decode cX4_replaceBy 0 = .ok (.iconst 0, 1) := by decide +kernel
theorem dX4_replaceBy_1 : decode cX4_replaceBy 1 = .ok (.istore_n 2, 1) := by decide +kernel
theorem dX4_replaceBy_2 : decode cX4_replaceBy 2 = .ok (.iconst 0, 1) := by decide +kernel
theorem dX4_replaceBy_3 : decode cX4_replaceBy 3 = .ok (.istore_n 3, 1) := by decide +kernel
theorem dX4_replaceBy_4 : decode cX4_replaceBy 4 = .ok (.iload_n 3, 1) := by decide +kernel
theorem dX4_replaceBy_5 : decode cX4_replaceBy 5 = .ok (.aload_n 0, 1) := by decide +kernel
theorem dX4_replaceBy_6 : decode cX4_replaceBy 6 = .ok (.getfield 15, 3) := by decide +kernel
theorem dX4_replaceBy_9 : decode cX4_replaceBy 9 = .ok (.if_icmp .ge 49, 3) := by decide +kernel
theorem dX4_replaceBy_12 : decode cX4_replaceBy 12 = .ok (.aload_n 1, 1) := by decide +kernel
theorem dX4_replaceBy_13 : decode cX4_replaceBy 13 = .ok (.aload_n 0, 1) := by decide +kernel
theorem dX4_replaceBy_14 : decode cX4_replaceBy 14 = .ok (.iload_n 3, 1) := by decide +kernel
theorem dX4_replaceBy_15 : decode cX4_replaceBy 15 = .ok (.invokevirtual 29, 3) := by decide +kernel
theorem dX4_replaceBy_18 : decode cX4_replaceBy 18 = .ok (.invokevirtual 46, 3) := by decide +kernel
theorem dX4_replaceBy_21 : decode cX4_replaceBy 21 = .ok (.istore 4, 2) := by decide +kernel
theorem dX4_replaceBy_23 : decode cX4_replaceBy 23 = .ok (.iload 4, 2) := by decide +kernel
theorem dX4_replaceBy_25 : decode cX4_replaceBy 25 = .ok (.iconst (-1), 1) := by decide +kernel
theorem dX4_replaceBy_26 : decode cX4_replaceBy 26 = .ok (.if_icmp .eq 26, 3) := by decide +kernel
theorem dX4_replaceBy_29 : decode cX4_replaceBy 29 = .ok (.iload 4, 2) := by decide +kernel
theorem dX4_replaceBy_31 : decode cX4_replaceBy 31 = .ok (.aload_n 0, 1) := by decide +kernel
theorem dX4_replaceBy_32 : decode cX4_replaceBy 32 = .ok (.iload_n 3, 1) := by decide +kernel
theorem dX4_replaceBy_33 : decode cX4_replaceBy 33 = .ok (.invokevirtual 29, 3) := by decide +kernel
theorem dX4_replaceBy_36 : decode cX4_replaceBy 36 = .ok (.if_icmp .ne 6, 3) := by decide +kernel
theorem dX4_replaceBy_39 : decode cX4_replaceBy 39 = .ok (.goto 13, 3) := by decide +kernel
theorem dX4_replaceBy_42 : decode cX4_replaceBy 42 = .ok (.aload_n 0, 1) := by decide +kernel
theorem dX4_replaceBy_43 : decode cX4_replaceBy 43 = .ok (.iload_n 3, 1) := by decide +kernel
theorem dX4_replaceBy_44 : decode cX4_replaceBy 44 = .ok (.iload 4, 2) := by decide +kernel
theorem dX4_replaceBy_46 : decode cX4_replaceBy 46 = .ok (.invokevirtual 42, 3) := by decide +kernel
theorem dX4_replaceBy_49 : decode cX4_replaceBy 49 = .ok (.iinc 2 1, 3) := by decide +kernel
theorem dX4_replaceBy_52 : decode cX4_replaceBy 52 = .ok (.iinc 3 1, 3) := by decide +kernel
theorem dX4_replaceBy_55 : decode cX4_replaceBy 55 = .ok (.goto (-51), 3) := by decide +kernel
theorem dX4_replaceBy_58 : decode cX4_replaceBy 58 = .ok (.iload_n 2, 1) := by decide +kernel
theorem dX4_replaceBy_59 : decode cX4_replaceBy 59 = .ok (.ireturn, 1) := by decide +kernel
set_option maxRecDepth 20000 in
theorem ggX4_isSameMirrored_X4_letterAt : GoodIn wsX4_isSameMirrored wsX4_letterAt := goodIn_r _ [6, 1, 7, 8, 9] (by decide +kernel) (by decide +kernel)
set_option maxRecDepth 20000 in
theorem gX4_isSameMirrored_X4_letterAt : GoodIn wsX4_isSameMirrored (wsV RX4 29 RX4 yX4_letterAt wsX4_letterAt) := goodIn_app (goodIn_of _ (by decide +kernel)) ggX4_isSameMirrored_X4_letterAt
theorem dX4_isSameMirrored_0 : decode cX4_isSameMirrored 0 = .ok (.iconst 0, 1) := by decide +kernel
theorem dX4_isSameMirrored_1 : decode cX4_isSameMirrored 1 = .ok (.istore_n 1, 1) := by decide +kernel
theorem dX4_isSameMirrored_2 : decode cX4_isSameMirrored 2 = .ok (.aload_n 0, 1) := by decide +kernel
theorem dX4_isSameMirrored_3 : decode cX4_isSameMirrored 3 = .ok (.getfield 15, 3) := by decide +kernel
theorem dX4_isSameMirrored_6 : decode cX4_isSameMirrored 6 = .ok (.iconst 1, 1) := by decide +kernel
theorem dX4_isSameMirrored_7 : decode cX4_isSameMirrored 7 = .ok (.isub, 1) := by decide +kernel
theorem dX4_isSameMirrored_8 : decode cX4_isSameMirrored 8 = .ok (.istore_n 2, 1) := by decide +kernel
theorem dX4_isSameMirrored_9 : decode cX4_isSameMirrored 9 = .ok (.iload_n 1, 1) := by decide +kernel
theorem dX4_isSameMirrored_10 : decode cX4_isSameMirrored 10 = .ok (.iload_n 2, 1) := by decide +kernel
theorem dX4_isSameMirrored_11 : decode cX4_isSameMirrored 11 = .ok (.if_icmp .ge 27, 3) := by decide +kernel
theorem dX4_isSameMirrored_14 : decode cX4_isSameMirrored 14 = .ok (.aload_n 0, 1) := by decide +kernel
theorem dX4_isSameMirrored_15 : decode cX4_isSameMirrored 15 = .ok (.iload_n 1, 1) := by decide +kernel
theorem dX4_isSameMirrored_16 : decode cX4_isSameMirrored 16 = .ok (.invokevirtual 29, 3) := by decide +kernel
theorem dX4_isSameMirrored_19 : decode cX4_isSameMirrored 19 = .ok (.aload_n 0, 1) := by decide +kernel
theorem dX4_isSameMirrored_20 : decode cX4_isSameMirrored 20 = .ok (.iload_n 2, 1) := by decide +kernel
theorem dX4_isSameMirrored_21 : decode cX4_isSameMirrored 21 = .ok (.invokevirtual 29, 3) := by decide +kernel
theorem dX4_isSameMirrored_24 : decode cX4_isSameMirrored 24 = .ok (.if_icmp .eq 5, 3) := by decide +kernel
theorem dX4_isSameMirrored_27 : decode cX4_isSameMirrored 27 = .ok (.iconst 0, 1) := by decide +kernel
theorem dX4_isSameMirrored_28 : decode cX4_isSameMirrored 28 = .ok (.ireturn, 1) := by decide +kernel
theorem dX4_isSameMirrored_29 : decode cX4_isSameMirrored 29 = .ok (.iinc 1 1, 3) := by decide +kernel
theorem dX4_isSameMirrored_32 : decode cX4_isSameMirrored 32 = .ok (.iinc 2 (-1), 3) := by decide +kernel
theorem dX4_isSameMirrored_35 : decode cX4_isSameMirrored 35 = .ok (.goto (-26), 3) := by decide +kernel
theorem dX4_isSameMirrored_38 : decode cX4_isSameMirrored 38 = .ok (.iconst 1, 1) := by decide +kernel
theorem dX4_isSameMirrored_39 : decode cX4_isSameMirrored 39 = .ok (.ireturn, 1) := by decide +kernel
set_option maxRecDepth 20000 in
theorem ggX4_leastTwice_X4_hasTwice : GoodIn wsX4_leastTwice wsX4_hasTwice := goodIn_r _ [6, 1, 7, 8, 9, 5, 10, 11, 12, 13] (by decide +kernel) (by decide +kernel)
set_option maxRecDepth 20000 in
theorem gX4_leastTwice_X4_hasTwice : GoodIn wsX4_leastTwice (wsV RX4 51 RX4 yX4_hasTwice wsX4_hasTwice) := goodIn_app (goodIn_of _ (by decide +kernel)) ggX4_leastTwice_X4_hasTwice
theorem dX4_leastTwice_0 : decode cX4_leastTwice 0 = .ok (.iconst 1, 1) := by decide +kernel
theorem dX4_leastTwice_1 : decode cX4_leastTwice 1 = .ok (.istore_n 1, 1) := by decide +kernel
theorem dX4_leastTwice_2 : decode cX4_leastTwice 2 = .ok (.iload_n 1, 1) := by decide +kernel
theorem dX4_leastTwice_3 : decode cX4_leastTwice 3 = .ok (.aload_n 0, 1) := by decide +kernel
theorem dX4_leastTwice_4 : decode cX4_leastTwice 4 = .ok (.getfield 15, 3) := by decide +kernel
theorem dX4_leastTwice_7 : decode cX4_leastTwice 7 = .ok (.iconst 2, 1) := by decide +kernel
theorem dX4_leastTwice_8 : decode cX4_leastTwice 8 = .ok (.idiv, 1) := by decide +kernel
theorem dX4_leastTwice_9 : decode cX4_leastTwice 9 = .ok (.if_icmp .gt 19, 3) := by decide +kernel
theorem dX4_leastTwice_12 : decode cX4_leastTwice 12 = .ok (.aload_n 0, 1) := by decide +kernel
theorem dX4_leastTwice_13 : decode cX4_leastTwice 13 = .ok (.iload_n 1, 1) := by decide +kernel
theorem dX4_leastTwice_14 : decode cX4_leastTwice 14 = .ok (.invokevirtual 51, 3) := by decide +kernel
theorem dX4_leastTwice_17 : decode cX4_leastTwice 17 = .ok (.ifCond .eq 5, 3) := by decide +kernel
theorem dX4_leastTwice_20 : decode cX4_leastTwice 20 = .ok (.iload_n 1, 1) := by decide +kernel
theorem dX4_leastTwice_21 : decode cX4_leastTwice 21 = .ok (.ireturn, 1) := by decide +kernel
theorem dX4_leastTwice_22 : decode cX4_leastTwice 22 = .ok (.iinc 1 1, 3) := by decide +kernel
theorem dX4_leastTwice_25 : decode cX4_leastTwice 25 = .ok (.goto (-23), 3) := by decide +kernel
theorem dX4_leastTwice_28 : decode cX4_leastTwice 28 = .ok (.iconst 0, 1) := by decide +kernel
theorem dX4_leastTwice_29 : decode cX4_leastTwice 29 = .ok (.ireturn, 1) := by decide +kernel
set_option maxRecDepth 20000 in
theorem ggX4_hasTwice_X4_letterAt : GoodIn wsX4_hasTwice wsX4_letterAt := goodIn_r _ [6, 1, 7, 8, 9] (by decide +kernel) (by decide +kernel)
set_option maxRecDepth 20000 in
theorem gX4_hasTwice_X4_letterAt : GoodIn wsX4_hasTwice (wsV RX4 29 RX4 yX4_letterAt wsX4_letterAt) := goodIn_app (goodIn_of _ (by decide +kernel)) ggX4_hasTwice_X4_letterAt
theorem dX4_hasTwice_0 : decode cX4_hasTwice 0 = .ok (.iconst 0, 1) := by decide +kernel
theorem dX4_hasTwice_1 : decode cX4_hasTwice 1 = .ok (.istore_n 2, 1) := by decide +kernel
theorem dX4_hasTwice_2 : decode cX4_hasTwice 2 = .ok (.iconst 0, 1) := by decide +kernel
theorem dX4_hasTwice_3 : decode cX4_hasTwice 3 = .ok (.istore_n 3, 1) := by decide +kernel
theorem dX4_hasTwice_4 : decode cX4_hasTwice 4 = .ok (.iload_n 3, 1) := by decide +kernel
theorem dX4_hasTwice_5 : decode cX4_hasTwice 5 = .ok (.iload_n 1, 1) := by decide +kernel
theorem dX4_hasTwice_6 : decode cX4_hasTwice 6 = .ok (.iadd, 1) := by decide +kernel
theorem dX4_hasTwice_7 : decode cX4_hasTwice 7 = .ok (.aload_n 0, 1) := by decide +kernel
theorem dX4_hasTwice_8 : decode cX4_hasTwice 8 = .ok (.getfield 15, 3) := by decide +kernel
theorem dX4_hasTwice_11 : decode cX4_hasTwice 11 = .ok (.if_icmp .ge 39, 3) := by decide +kernel
theorem dX4_hasTwice_14 : decode cX4_hasTwice 14 = .ok (.aload_n 0, 1) := by decide +kernel
theorem dX4_hasTwice_15 : decode cX4_hasTwice 15 = .ok (.iload_n 3, 1) := by decide +kernel
theorem dX4_hasTwice_16 : decode cX4_hasTwice 16 = .ok (.invokevirtual 29, 3) := by decide +kernel
theorem dX4_hasTwice_19 : decode cX4_hasTwice 19 = .ok (.aload_n 0, 1) := by decide +kernel
theorem dX4_hasTwice_20 : decode cX4_hasTwice 20 = .ok (.iload_n 3, 1) := by decide +kernel
theorem dX4_hasTwice_21 : decode cX4_hasTwice 21 = .ok (.iload_n 1, 1) := by decide +kernel
theorem dX4_hasTwice_22 : decode cX4_hasTwice 22 = .ok (.iadd, 1) := by decide +kernel
theorem dX4_hasTwice_23 : decode cX4_hasTwice 23 = .ok (.invokevirtual 29, 3) := by decide +kernel
theorem dX4_hasTwice_26 : decode cX4_hasTwice 26 = .ok (.if_icmp .ne 9, 3) := by decide +kernel
theorem dX4_hasTwice_29 : decode cX4_hasTwice 29 = .ok (.iload_n 2, 1) := by decide +kernel
theorem dX4_hasTwice_30 : decode cX4_hasTwice 30 = .ok (.iconst 1, 1) := by decide +kernel
theorem dX4_hasTwice_31 : decode cX4_hasTwice 31 = .ok (.iadd, 1) := by decide +kernel
theorem dX4_hasTwice_32 : decode cX4_hasTwice 32 = .ok (.goto 4, 3) := by decide +kernel
theorem dX4_hasTwice_35 : decode cX4_hasTwice 35 = .ok (.iconst 0, 1) := by decide +kernel
theorem dX4_hasTwice_36 : decode cX4_hasTwice 36 = .ok (.istore_n 2, 1) := by decide +kernel
theorem dX4_hasTwice_37 : decode cX4_hasTwice 37 = .ok (.iload_n 2, 1) := by decide +kernel
theorem dX4_hasTwice_38 : decode cX4_hasTwice 38 = .ok (.iload_n 1, 1) := by decide +kernel
theorem dX4_hasTwice_39 : decode cX4_hasTwice 39 = .ok (.if_icmp .ne 5, 3) := by decide +kernel
theorem dX4_hasTwice_42 : decode cX4_hasTwice 42 = .ok (.iconst 1, 1) := by decide +kernel
theorem dX4_hasTwice_43 : decode cX4_hasTwice 43 = .ok (.ireturn, 1) := by decide +kernel
theorem dX4_hasTwice_44 : decode cX4_hasTwice 44 = .ok (.iinc 3 1, 3) := by decide +kernel
theorem dX4_hasTwice_47 : decode cX4_hasTwice 47 = .ok (.goto (-43), 3) := by decide +kernel
theorem dX4_hasTwice_50 : decode cX4_hasTwice 50 = .ok (.iconst 0, 1) := by decide +kernel
theorem dX4_hasTwice_51 : decode cX4_hasTwice 51 = .ok (.ireturn, 1) := by decide +kernel
set_option maxRecDepth 20000 in
theorem ggX4_mixInto_X4_letterAt : GoodIn wsX4_mixInto wsX4_letterAt := goodIn_r _ [7, 1, 8, 9, 10] (by decide +kernel) (by decide +kernel)
set_option maxRecDepth 20000 in
theorem gX4_mixInto_X4_letterAt : GoodIn wsX4_mixInto (wsV RX4 29 RX4 yX4_letterAt wsX4_letterAt) := goodIn_app (goodIn_of _ (by decide +kernel)) ggX4_mixInto_X4_letterAt
theorem dX4_mixInto_0 : decode cX4_mixInto 0 = .ok (.lload_n 1, 1) := by decide +kernel
theorem dX4_mixInto_1 : decode cX4_mixInto 1 = .ok (.lstore_n 3, 1) := by decide +kernel
theorem dX4_mixInto_2 : decode cX4_mixInto 2 = .ok (.iconst 0, 1) := by decide +kernel
theorem dX4_mixInto_3 : decode cX4_mixInto 3 = .ok (.istore 5, 2) := by decide +kernel
theorem dX4_mixInto_5 : decode cX4_mixInto 5 = .ok (.iload 5, 2) := by decide +kernel
theorem dX4_mixInto_7 : decode cX4_mixInto 7 = .ok (.aload_n 0, 1) := by decide +kernel
theorem dX4_mixInto_8 : decode cX4_mixInto 8 = .ok (.getfield 15, 3) := by decide +kernel
theorem dX4_mixInto_11 : decode cX4_mixInto 11 = .ok (.if_icmp .ge 23, 3) := by decide +kernel
theorem dX4_mixInto_14 : decode cX4_mixInto 14 = .ok (.ldc2_w 54, 3) := by decide +kernel
theorem dX4_mixInto_17 : decode cX4_mixInto 17 = .ok (.lload_n 3, 1) := by decide +kernel
theorem dX4_mixInto_18 : decode cX4_mixInto 18 = .ok (.lmul, 1) := by decide +kernel
theorem dX4_mixInto_19 : decode cX4_mixInto 19 = .ok (.aload_n 0, 1) := by decide +kernel
theorem dX4_mixInto_20 : decode cX4_mixInto 20 = .ok (.iload 5, 2) := by decide +kernel
theorem dX4_mixInto_22 : decode cX4_mixInto 22 = .ok (.invokevirtual 29, 3) := by decide +kernel
theorem dX4_mixInto_25 : decode cX4_mixInto 25 = .ok (.i2l, 1) := by decide +kernel
theorem dX4_mixInto_26 : decode cX4_mixInto 26 = .ok (.ladd, 1) := by decide +kernel
theorem dX4_mixInto_27 : decode cX4_mixInto 27 = .ok (.lstore_n 3, 1) := by decide +kernel
theorem dX4_mixInto_28 : decode cX4_mixInto 28 = .ok (.iinc 5 1, 3) := by decide +kernel
theorem dX4_mixInto_31 : decode cX4_mixInto 31 = .ok (.goto (-26), 3) := by decide +kernel
theorem dX4_mixInto_34 : decode cX4_mixInto 34 = .ok (.lload_n 3, 1) := by decide +kernel
theorem dX4_mixInto_35 : decode cX4_mixInto 35 = .ok (.lreturn, 1) := by decide +kernel
set_option maxRecDepth 20000 in
theorem ggX5_init_X1_init : GoodIn wsX5_init wsX1_init := goodIn_r _ [22, 23, 2, 3, 24, 25, 26, 27, 28, 29, 30, 31, 32, 33, 34, 35, 36, 37, 38, 39, 40, 41, 42, 43, 44, 45, 46, 47, 48, 49, 60, 61, 62, 63, 74, 75, 76, 77, 78, 79] (by decide +kernel) (by decide +kernel)
set_option maxRecDepth 20000 in
theorem gX5_init_X1_init : GoodIn wsX5_init (wsX1_init) := ggX5_init_X1_init
set_option maxRecDepth 20000 in
theorem ggX5_init_X4_init : GoodIn wsX5_init wsX4_init := goodIn_r _ [51, 52, 2, 3, 28, 53, 54, 71, 72] (by decide +kernel) (by decide +kernel)
set_option maxRecDepth 20000 in
theorem gX5_init_X4_init_n18 : GoodIn wsX5_init (wsX4_init) := ggX5_init_X4_init
set_option maxRecDepth 20000 in
theorem ggX5_init_X3_init : GoodIn wsX5_init wsX3_init := goodIn_r _ [56, 57, 2, 3, 58, 59, 73] (by decide +kernel) (by decide +kernel)
set_option maxRecDepth 20000 in
theorem gX5_init_X3_init_n31 : GoodIn wsX5_init (wsX3_init) := ggX5_init_X3_init
theorem dX5_init_0 : decode cX5_init 0 = .ok (.aload_n 0, 1) := by decide +kernel
theorem dX5_init_1 : decode cX5_init 1 = .ok (.invokespecial 1, 3) := by decide +kernel
theorem dX5_init_4 : decode cX5_init 4 = .ok (.aload_n 0, 1) := by decide +kernel
theorem dX5_init_5 : decode cX5_init 5 = .ok (.new 7, 3) := by decide +kernel
theorem dX5_init_8 : decode cX5_init 8 = .ok (.dup, 1) := by decide +kernel
theorem dX5_init_9 : decode cX5_init 9 = .ok (.invokespecial 9, 3) := by decide +kernel
theorem dX5_init_12 : decode cX5_init 12 = .ok (.putfield 10, 3) := by decide +kernel
theorem dX5_init_15 : decode cX5_init 15 = .ok (.aload_n 0, 1) := by decide +kernel
theorem dX5_init_16 : decode cX5_init 16 = .ok (.new 16, 3) := by decide +kernel
theorem dX5_init_19 : decode cX5_init 19 = .ok (.dup, 1) := by decide +kernel
theorem dX5_init_20 : decode cX5_init 20 = .ok (.invokespecial 18, 3) := by decide +kernel
theorem dX5_init_23 : decode cX5_init 23 = .ok (.putfield 19, 3) := by decide +kernel
theorem dX5_init_26 : decode cX5_init 26 = .ok (.aload_n 0, 1) := by decide +kernel
theorem dX5_init_27 : decode cX5_init 27 = .ok (.new 16, 3) := by decide +kernel
theorem dX5_init_30 : decode cX5_init 30 = .ok (.dup, 1) := by decide +kernel
theorem dX5_init_31 : decode cX5_init 31 = .ok (.invokespecial 18, 3) := by decide +kernel
theorem dX5_init_34 : decode cX5_init 34 = .ok (.putfield 23, 3) := by decide +kernel
theorem dX5_init_37 : decode cX5_init 37 = .ok (.aload_n 0, 1) := by decide +kernel
theorem dX5_init_38 : decode cX5_init 38 = .ok (.new 16, 3) := by decide +kernel
theorem dX5_init_41 : decode cX5_init 41 = .ok (.dup, 1) := by decide +kernel
theorem dX5_init_42 : decode cX5_init 42 = .ok (.invokespecial 18, 3) := by decide +kernel
theorem dX5_init_45 : decode cX5_init 45 = .ok (.putfield 26, 3) := by decide +kernel
theorem dX5_init_48 : decode cX5_init 48 = .ok (.aload_n 0, 1) := by decide +kernel
theorem dX5_init_49 : decode cX5_init 49 = .ok (.new 29, 3) := by decide +kernel
theorem dX5_init_52 : decode cX5_init 52 = .ok (.dup, 1) := by decide +kernel
theorem dX5_init_53 : decode cX5_init 53 = .ok (.invokespecial 31, 3) := by decide +kernel
theorem dX5_init_56 : decode cX5_init 56 = .ok (.putfield 32, 3) := by decide +kernel
theorem dX5_init_59 : decode cX5_init 59 = .ok (.aload_n 0, 1) := by decide +kernel
theorem dX5_init_60 : decode cX5_init 60 = .ok (.iconst 0, 1) := by decide +kernel
theorem dX5_init_61 : decode cX5_init 61 = .ok (.putfield 36, 3) := by decide +kernel
theorem dX5_init_64 : decode cX5_init 64 = .ok (.aload_n 0, 1) := by decide +kernel
theorem dX5_init_65 : decode cX5_init 65 = .ok (.iconst 0, 1) := by decide +kernel
theorem dX5_init_66 : decode cX5_init 66 = .ok (.putfield 40, 3) := by decide +kernel
theorem dX5_init_69 : decode cX5_init 69 = .ok (.return_, 1) := by decide +kernel
set_option maxRecDepth 20000 in
theorem ggX5_alphabet_X1_alphabetNamed : GoodIn wsX5_alphabet wsX1_alphabetNamed := goodIn_r _ [6, 7, 37, 38, 39, 40] (by decide +kernel) (by decide +kernel)
set_option maxRecDepth 20000 in
theorem gX5_alphabet_X1_alphabetNamed : GoodIn wsX5_alphabet (wsV RX5 43 RX1 yX1_alphabetNamed wsX1_alphabetNamed) := goodIn_app (goodIn_of _ (by decide +kernel)) ggX5_alphabet_X1_alphabetNamed
set_option maxRecDepth 20000 in
theorem ggX5_alphabet_X0_change : GoodIn wsX5_alphabet wsX0_change := goodIn_r _ [12, 13, 14, 15, 16, 17, 41, 42] (by decide +kernel) (by decide +kernel)
set_option maxRecDepth 20000 in
theorem gX5_alphabet_X0_change : GoodIn wsX5_alphabet (wsV RX5 47 RX0 yX0_change wsX0_change) := goodIn_app (goodIn_of _ (by decide +kernel)) ggX5_alphabet_X0_change
set_option maxRecDepth 20000 in
theorem ggX5_alphabet_X1_forgetNumbers : GoodIn wsX5_alphabet wsX1_forgetNumbers := goodIn_r _ [21, 22, 23, 24, 25, 26, 27, 28, 29, 37, 38, 39, 40, 43, 44, 45, 46] (by decide +kernel) (by decide +kernel)
set_option maxRecDepth 20000 in
theorem gX5_alphabet_X1_forgetNumbers : GoodIn wsX5_alphabet (wsV RX5 53 RX1 yX1_forgetNumbers wsX1_forgetNumbers) := goodIn_app (goodIn_of _ (by decide +kernel)) ggX5_alphabet_X1_forgetNumbers
theorem dX5_alphabet_0 : decode cX5_alphabet 0 = .ok (.aload_n 0, 1) := by decide +kernel
theorem dX5_alphabet_1 : decode cX5_alphabet 1 = .ok (.getfield 10, 3) := by decide +kernel
theorem dX5_alphabet_4 : decode cX5_alphabet 4 = .ok (.iload_n 1, 1) := by decide +kernel
theorem dX5_alphabet_5 : decode cX5_alphabet 5 = .ok (.i2l, 1) := by decide +kernel
theorem dX5_alphabet_6 : decode cX5_alphabet 6 = .ok (.invokevirtual 43, 3) := by decide +kernel
theorem dX5_alphabet_9 : decode cX5_alphabet 9 = .ok (.astore 7, 2) := by decide +kernel
theorem dX5_alphabet_11 : decode cX5_alphabet 11 = .ok (.aload 7, 2) := by decide +kernel
theorem dX5_alphabet_13 : decode cX5_alphabet 13 = .ok (.ifnonnull 6, 3) := by decide +kernel
theorem dX5_alphabet_16 : decode cX5_alphabet 16 = .ok (.bipush (-101), 2) := by decide +kernel
theorem dX5_alphabet_18 : decode cX5_alphabet 18 = .ok (.ireturn, 1) := by decide +kernel
theorem dX5_alphabet_19 : decode cX5_alphabet 19 = .ok (.aload 7, 2) := by decide +kernel
theorem dX5_alphabet_21 : decode cX5_alphabet 21 = .ok (.iload_n 2, 1) := by decide +kernel
theorem dX5_alphabet_22 : decode cX5_alphabet 22 = .ok (.iload_n 3, 1) := by decide +kernel
theorem dX5_alphabet_23 : decode cX5_alphabet 23 = .ok (.iload 4, 2) := by decide +kernel
theorem dX5_alphabet_25 : decode cX5_alphabet 25 = .ok (.iload 5, 2) := by decide +kernel
theorem dX5_alphabet_27 : decode cX5_alphabet 27 = .ok (.iload 6, 2) := by decide +kernel
theorem dX5_alphabet_29 : decode cX5_alphabet 29 = .ok (.invokevirtual 47, 3) := by decide +kernel
theorem dX5_alphabet_32 : decode cX5_alphabet 32 = .ok (.ifCond .ne 6, 3) := by decide +kernel
theorem dX5_alphabet_35 : decode cX5_alphabet 35 = .ok (.bipush (-102), 2) := by decide +kernel
theorem dX5_alphabet_37 : decode cX5_alphabet 37 = .ok (.ireturn, 1) := by decide +kernel
theorem dX5_alphabet_38 : decode cX5_alphabet 38 = .ok (.aload_n 0, 1) := by decide +kernel
theorem dX5_alphabet_39 : decode cX5_alphabet 39 = .ok (.getfield 10, 3) := by decide +kernel
theorem dX5_alphabet_42 : decode cX5_alphabet 42 = .ok (.invokevirtual 53, 3) := by decide +kernel
theorem dX5_alphabet_45 : decode cX5_alphabet 45 = .ok (.iload_n 2, 1) := by decide +kernel
theorem dX5_alphabet_46 : decode cX5_alphabet 46 = .ok (.ireturn, 1) := by decide +kernel
set_option maxRecDepth 20000 in
theorem ggX5_ring_X1_hasAlphabet : GoodIn wsX5_ring wsX1_hasAlphabet := goodIn_r _ [6, 7, 33, 34, 35, 36] (by decide +kernel) (by decide +kernel)
set_option maxRecDepth 20000 in
theorem gX5_ring_X1_hasAlphabet : GoodIn wsX5_ring (wsV RX5 56 RX1 yX1_hasAlphabet wsX1_hasAlphabet) := goodIn_app (goodIn_of _ (by decide +kernel)) ggX5_ring_X1_hasAlphabet
set_option maxRecDepth 20000 in
theorem ggX5_ring_X1_join : GoodIn wsX5_ring wsX1_join := goodIn_r _ [11, 12, 13, 14, 15, 16, 5, 17, 18, 19, 20, 21, 22, 23, 24, 25, 33, 34, 35, 36, 37, 38, 39, 40] (by decide +kernel) (by decide +kernel)
set_option maxRecDepth 20000 in
theorem gX5_ring_X1_join : GoodIn wsX5_ring (wsV RX5 60 RX1 yX1_join wsX1_join) := goodIn_app (goodIn_of _ (by decide +kernel)) ggX5_ring_X1_join
theorem dX5_ring_0 : decode cX5_ring 0 = .ok (.iload_n 1, 1) := by decide +kernel
theorem dX5_ring_1 : decode cX5_ring 1 = .ok (.iconst 1, 1) := by decide +kernel
theorem dX5_ring_2 : decode cX5_ring 2 = .ok (.if_icmp .lt 8, 3) := by decide +kernel
theorem dX5_ring_5 : decode cX5_ring 5 = .ok (.iload_n 1, 1) := by decide +kernel
theorem dX5_ring_6 : decode cX5_ring 6 = .ok (.iconst 3, 1) := by decide +kernel
theorem dX5_ring_7 : decode cX5_ring 7 = .ok (.if_icmp .le 6, 3) := by decide +kernel
theorem dX5_ring_10 : decode cX5_ring 10 = .ok (.bipush (-102), 2) := by decide +kernel
theorem dX5_ring_12 : decode cX5_ring 12 = .ok (.ireturn, 1) := by decide +kernel
theorem dX5_ring_13 : decode cX5_ring 13 = .ok (.aload_n 0, 1) := by decide +kernel
theorem dX5_ring_14 : decode cX5_ring 14 = .ok (.getfield 10, 3) := by decide +kernel
theorem dX5_ring_17 : decode cX5_ring 17 = .ok (.iload_n 2, 1) := by decide +kernel
theorem dX5_ring_18 : decode cX5_ring 18 = .ok (.invokevirtual 56, 3) := by decide +kernel
theorem dX5_ring_21 : decode cX5_ring 21 = .ok (.ifCond .eq 40, 3) := by decide +kernel
theorem dX5_ring_24 : decode cX5_ring 24 = .ok (.iload_n 1, 1) := by decide +kernel
theorem dX5_ring_25 : decode cX5_ring 25 = .ok (.iconst 2, 1) := by decide +kernel
theorem dX5_ring_26 : decode cX5_ring 26 = .ok (.if_icmp .lt 14, 3) := by decide +kernel
theorem dX5_ring_29 : decode cX5_ring 29 = .ok (.aload_n 0, 1) := by decide +kernel
theorem dX5_ring_30 : decode cX5_ring 30 = .ok (.getfield 10, 3) := by decide +kernel
theorem dX5_ring_33 : decode cX5_ring 33 = .ok (.iload_n 3, 1) := by decide +kernel
theorem dX5_ring_34 : decode cX5_ring 34 = .ok (.invokevirtual 56, 3) := by decide +kernel
theorem dX5_ring_37 : decode cX5_ring 37 = .ok (.ifCond .eq 24, 3) := by decide +kernel
theorem dX5_ring_40 : decode cX5_ring 40 = .ok (.iload_n 1, 1) := by decide +kernel
theorem dX5_ring_41 : decode cX5_ring 41 = .ok (.iconst 3, 1) := by decide +kernel
theorem dX5_ring_42 : decode cX5_ring 42 = .ok (.if_icmp .lt 15, 3) := by decide +kernel
theorem dX5_ring_45 : decode cX5_ring 45 = .ok (.aload_n 0, 1) := by decide +kernel
theorem dX5_ring_46 : decode cX5_ring 46 = .ok (.getfield 10, 3) := by decide +kernel
theorem dX5_ring_49 : decode cX5_ring 49 = .ok (.iload 4, 2) := by decide +kernel
theorem dX5_ring_51 : decode cX5_ring 51 = .ok (.invokevirtual 56, 3) := by decide +kernel
theorem dX5_ring_54 : decode cX5_ring 54 = .ok (.ifCond .eq 7, 3) := by decide +kernel
theorem dX5_ring_57 : decode cX5_ring 57 = .ok (.iconst 1, 1) := by decide +kernel
theorem dX5_ring_58 : decode cX5_ring 58 = .ok (.goto 4, 3) := by decide +kernel
theorem dX5_ring_61 : decode cX5_ring 61 = .ok (.iconst 0, 1) := by decide +kernel
theorem dX5_ring_62 : decode cX5_ring 62 = .ok (.istore 5, 2) := by decide +kernel
theorem dX5_ring_64 : decode cX5_ring 64 = .ok (.iload 5, 2) := by decide +kernel
theorem dX5_ring_66 : decode cX5_ring 66 = .ok (.ifCond .ne 6, 3) := by decide +kernel
theorem dX5_ring_69 : decode cX5_ring 69 = .ok (.bipush (-101), 2) := by decide +kernel
theorem dX5_ring_71 : decode cX5_ring 71 = .ok (.ireturn, 1) := by decide +kernel
theorem dX5_ring_72 : decode cX5_ring 72 = .ok (.aload_n 0, 1) := by decide +kernel
theorem dX5_ring_73 : decode cX5_ring 73 = .ok (.getfield 10, 3) := by decide +kernel
theorem dX5_ring_76 : decode cX5_ring 76 = .ok (.iload_n 1, 1) := by decide +kernel
theorem dX5_ring_77 : decode cX5_ring 77 = .ok (.iload_n 2, 1) := by decide +kernel
theorem dX5_ring_78 : decode cX5_ring 78 = .ok (.iload_n 3, 1) := by decide +kernel
theorem dX5_ring_79 : decode cX5_ring 79 = .ok (.iload 4, 2) := by decide +kernel
theorem dX5_ring_81 : decode cX5_ring 81 = .ok (.invokevirtual 60, 3) := by decide +kernel
theorem dX5_ring_84 : decode cX5_ring 84 = .ok (.iload_n 1, 1) := by decide +kernel
theorem dX5_ring_85 : decode cX5_ring 85 = .ok (.ireturn, 1) := by decide +kernel
set_option maxRecDepth 20000 in
theorem ggX5_at_X1_hasRow : GoodIn wsX5_at wsX1_hasRow := goodIn_r _ [7, 8, 9, 101, 102, 103, 104] (by decide +kernel) (by decide +kernel)
set_option maxRecDepth 20000 in
theorem gX5_at_X1_hasRow : GoodIn wsX5_at (wsV RX5 64 RX1 yX1_hasRow wsX1_hasRow) := goodIn_app (goodIn_of _ (by decide +kernel)) ggX5_at_X1_hasRow
set_option maxRecDepth 20000 in
theorem ggX5_at_X5_isOutside : GoodIn wsX5_at wsX5_isOutside := goodIn_r _ [13] (by decide +kernel) (by decide +kernel)
set_option maxRecDepth 20000 in
theorem gX5_at_X5_isOutside : GoodIn wsX5_at (va_wsS RX5 68 yX5_isOutside wsX5_isOutside) := goodIn_app (goodIn_of _ (by decide +kernel)) ggX5_at_X5_isOutside
set_option maxRecDepth 20000 in
theorem ggX5_at_X1_rowOf : GoodIn wsX5_at wsX1_rowOf := goodIn_r _ [17, 9, 18, 19, 4, 5, 6, 7, 8, 20, 21, 22, 23, 24, 25, 26, 27, 28, 29, 30, 31, 32, 33, 34, 35, 36, 37, 38, 39, 40, 41, 42, 43, 44, 45, 46, 47, 48, 49, 50, 51, 52, 53, 54, 55, 56, 57, 58, 59, 60, 61, 62, 63, 64, 65, 66, 67, 68, 69, 70, 71, 72, 73, 74, 75, 76, 77, 12, 78, 79, 80, 81, 82, 83, 84, 85, 86, 87, 88, 89, 90, 91, 92, 101, 102, 103, 104, 105, 106, 107, 108, 109, 110] (by decide +kernel) (by decide +kernel)
set_option maxRecDepth 20000 in
theorem gX5_at_X1_rowOf : GoodIn wsX5_at (wsV RX5 72 RX1 yX1_rowOf wsX1_rowOf) := goodIn_app (goodIn_of _ (by decide +kernel)) ggX5_at_X1_rowOf
set_option maxRecDepth 20000 in
theorem ggX5_at_X2_number : GoodIn wsX5_at wsX2_number := goodIn_r _ [71, 25, 72, 105, 106, 107, 108] (by decide +kernel) (by decide +kernel)
set_option maxRecDepth 20000 in
theorem gX5_at_X2_number : GoodIn wsX5_at (wsV RX5 76 RX2 yX2_number wsX2_number) := goodIn_app (goodIn_of _ (by decide +kernel)) ggX5_at_X2_number
theorem dX5_at_0 : decode cX5_at 0 = .ok (.aload_n 0, 1) := by decide +kernel
theorem dX5_at_1 : decode cX5_at 1 = .ok (.getfield 10, 3) := by decide +kernel
theorem dX5_at_4 : decode cX5_at 4 = .ok (.iload_n 1, 1) := by decide +kernel
theorem dX5_at_5 : decode cX5_at 5 = .ok (.invokevirtual 64, 3) := by decide +kernel
theorem dX5_at_8 : decode cX5_at 8 = .ok (.ifCond .ne 6, 3) := by decide +kernel
theorem dX5_at_11 : decode cX5_at 11 = .ok (.bipush (-101), 2) := by decide +kernel
theorem dX5_at_13 : decode cX5_at 13 = .ok (.ireturn, 1) := by decide +kernel
theorem dX5_at_14 : decode cX5_at 14 = .ok (.iload_n 2, 1) := by decide +kernel
theorem dX5_at_15 : decode cX5_at 15 = .ok (.ldc 67, 2) := by decide +kernel
theorem dX5_at_17 : decode cX5_at 17 = .ok (.invokestatic 68, 3) := by decide +kernel
theorem dX5_at_20 : decode cX5_at 20 = .ok (.ifCond .eq 6, 3) := by decide +kernel
theorem dX5_at_23 : decode cX5_at 23 = .ok (.bipush (-102), 2) := by decide +kernel
theorem dX5_at_25 : decode cX5_at 25 = .ok (.ireturn, 1) := by decide +kernel
theorem dX5_at_26 : decode cX5_at 26 = .ok (.aload_n 0, 1) := by decide +kernel
theorem dX5_at_27 : decode cX5_at 27 = .ok (.getfield 10, 3) := by decide +kernel
theorem dX5_at_30 : decode cX5_at 30 = .ok (.iload_n 1, 1) := by decide +kernel
theorem dX5_at_31 : decode cX5_at 31 = .ok (.iload_n 2, 1) := by decide +kernel
theorem dX5_at_32 : decode cX5_at 32 = .ok (.iconst 1, 1) := by decide +kernel
theorem dX5_at_33 : decode cX5_at 33 = .ok (.iadd, 1) := by decide +kernel
theorem dX5_at_34 : decode cX5_at 34 = .ok (.invokevirtual 72, 3) := by decide +kernel
theorem dX5_at_37 : decode cX5_at 37 = .ok (.iload_n 2, 1) := by decide +kernel
theorem dX5_at_38 : decode cX5_at 38 = .ok (.invokevirtual 76, 3) := by decide +kernel
theorem dX5_at_41 : decode cX5_at 41 = .ok (.ireturn, 1) := by decide +kernel
set_option maxRecDepth 20000 in
theorem ggX5_count_X1_hasRow : GoodIn wsX5_count wsX1_hasRow := goodIn_r _ [7, 8, 9, 108, 109, 110, 111] (by decide +kernel) (by decide +kernel)
set_option maxRecDepth 20000 in
theorem gX5_count_X1_hasRow : GoodIn wsX5_count (wsV RX5 64 RX1 yX1_hasRow wsX1_hasRow) := goodIn_app (goodIn_of _ (by decide +kernel)) ggX5_count_X1_hasRow
set_option maxRecDepth 20000 in
theorem ggX5_count_X5_isOutside : GoodIn wsX5_count wsX5_isOutside := goodIn_r _ [13] (by decide +kernel) (by decide +kernel)
set_option maxRecDepth 20000 in
theorem gX5_count_X5_isOutside : GoodIn wsX5_count (va_wsS RX5 68 yX5_isOutside wsX5_isOutside) := goodIn_app (goodIn_of _ (by decide +kernel)) ggX5_count_X5_isOutside
set_option maxRecDepth 20000 in
theorem ggX5_count_X1_rowOf : GoodIn wsX5_count wsX1_rowOf := goodIn_r _ [17, 9, 18, 19, 4, 5, 6, 7, 8, 20, 21, 22, 23, 24, 25, 26, 27, 28, 29, 30, 31, 32, 33, 34, 35, 36, 37, 38, 39, 40, 41, 42, 43, 44, 45, 46, 47, 48, 49, 50, 51, 52, 53, 54, 55, 56, 57, 58, 59, 60, 61, 62, 63, 64, 65, 66, 67, 68, 69, 70, 71, 72, 73, 74, 75, 76, 77, 12, 78, 79, 80, 81, 82, 83, 84, 85, 86, 87, 88, 89, 90, 91, 92, 108, 109, 110, 111, 112, 113, 114, 115, 116, 117] (by decide +kernel) (by decide +kernel)
set_option maxRecDepth 20000 in
theorem gX5_count_X1_rowOf : GoodIn wsX5_count (wsV RX5 72 RX1 yX1_rowOf wsX1_rowOf) := goodIn_app (goodIn_of _ (by decide +kernel)) ggX5_count_X1_rowOf
set_option maxRecDepth 20000 in
theorem ggX5_count_X2_lettersWithin : GoodIn wsX5_count wsX2_lettersWithin := goodIn_r _ [96, 77, 12, 78, 97, 98, 99, 23, 100, 83, 91, 69, 70, 71, 25, 72, 112, 113, 114, 115] (by decide +kernel) (by decide +kernel)
set_option maxRecDepth 20000 in
theorem gX5_count_X2_lettersWithin : GoodIn wsX5_count (wsV RX5 82 RX2 yX2_lettersWithin wsX2_lettersWithin) := goodIn_app (goodIn_of _ (by decide +kernel)) ggX5_count_X2_lettersWithin
theorem dX5_count_0 : decode cX5_count 0 = .ok (.aload_n 0, 1) := by decide +kernel
theorem dX5_count_1 : decode cX5_count 1 = .ok (.getfield 10, 3) := by decide +kernel
theorem dX5_count_4 : decode cX5_count 4 = .ok (.iload_n 1, 1) := by decide +kernel
theorem dX5_count_5 : decode cX5_count 5 = .ok (.invokevirtual 64, 3) := by decide +kernel
theorem dX5_count_8 : decode cX5_count 8 = .ok (.ifCond .ne 6, 3) := by decide +kernel
theorem dX5_count_11 : decode cX5_count 11 = .ok (.bipush (-101), 2) := by decide +kernel
theorem dX5_count_13 : decode cX5_count 13 = .ok (.ireturn, 1) := by decide +kernel
theorem dX5_count_14 : decode cX5_count 14 = .ok (.iload_n 3, 1) := by decide +kernel
theorem dX5_count_15 : decode cX5_count 15 = .ok (.ldc 67, 2) := by decide +kernel
theorem dX5_count_17 : decode cX5_count 17 = .ok (.invokestatic 68, 3) := by decide +kernel
theorem dX5_count_20 : decode cX5_count 20 = .ok (.ifCond .eq 6, 3) := by decide +kernel
theorem dX5_count_23 : decode cX5_count 23 = .ok (.bipush (-102), 2) := by decide +kernel
theorem dX5_count_25 : decode cX5_count 25 = .ok (.ireturn, 1) := by decide +kernel
theorem dX5_count_26 : decode cX5_count 26 = .ok (.aload_n 0, 1) := by decide +kernel
theorem dX5_count_27 : decode cX5_count 27 = .ok (.getfield 10, 3) := by decide +kernel
theorem dX5_count_30 : decode cX5_count 30 = .ok (.iload_n 1, 1) := by decide +kernel
theorem dX5_count_31 : decode cX5_count 31 = .ok (.iload_n 3, 1) := by decide +kernel
theorem dX5_count_32 : decode cX5_count 32 = .ok (.invokevirtual 72, 3) := by decide +kernel
theorem dX5_count_35 : decode cX5_count 35 = .ok (.iload_n 2, 1) := by decide +kernel
theorem dX5_count_36 : decode cX5_count 36 = .ok (.iload_n 3, 1) := by decide +kernel
theorem dX5_count_37 : decode cX5_count 37 = .ok (.invokevirtual 82, 3) := by decide +kernel
theorem dX5_count_40 : decode cX5_count 40 = .ok (.ireturn, 1) := by decide +kernel
set_option maxRecDepth 20000 in
theorem ggX5_sum_X1_hasRow : GoodIn wsX5_sum wsX1_hasRow := goodIn_r _ [7, 8, 9, 112, 113, 114, 115] (by decide +kernel) (by decide +kernel)
set_option maxRecDepth 20000 in
theorem gX5_sum_X1_hasRow : GoodIn wsX5_sum (wsV RX5 64 RX1 yX1_hasRow wsX1_hasRow) := goodIn_app (goodIn_of _ (by decide +kernel)) ggX5_sum_X1_hasRow
set_option maxRecDepth 20000 in
theorem ggX5_sum_X5_isOutside : GoodIn wsX5_sum wsX5_isOutside := goodIn_r _ [13] (by decide +kernel) (by decide +kernel)
set_option maxRecDepth 20000 in
theorem gX5_sum_X5_isOutside : GoodIn wsX5_sum (va_wsS RX5 68 yX5_isOutside wsX5_isOutside) := goodIn_app (goodIn_of _ (by decide +kernel)) ggX5_sum_X5_isOutside
set_option maxRecDepth 20000 in
theorem ggX5_sum_X1_rowOf : GoodIn wsX5_sum wsX1_rowOf := goodIn_r _ [17, 9, 18, 19, 4, 5, 6, 7, 8, 20, 21, 22, 23, 24, 25, 26, 27, 28, 29, 30, 31, 32, 33, 34, 35, 36, 37, 38, 39, 40, 41, 42, 43, 44, 45, 46, 47, 48, 49, 50, 51, 52, 53, 54, 55, 56, 57, 58, 59, 60, 61, 62, 63, 64, 65, 66, 67, 68, 69, 70, 71, 72, 73, 74, 75, 76, 77, 12, 78, 79, 80, 81, 82, 83, 84, 85, 86, 87, 88, 89, 90, 91, 92, 112, 113, 114, 115, 116, 117, 118, 119, 120, 121] (by decide +kernel) (by decide +kernel)
set_option maxRecDepth 20000 in
theorem gX5_sum_X1_rowOf : GoodIn wsX5_sum (wsV RX5 72 RX1 yX1_rowOf wsX1_rowOf) := goodIn_app (goodIn_of _ (by decide +kernel)) ggX5_sum_X1_rowOf
set_option maxRecDepth 20000 in
theorem ggX5_sum_X2_sumWithin : GoodIn wsX5_sum wsX2_sumWithin := goodIn_r _ [96, 97, 98, 99, 23, 100, 77, 12, 78, 101, 102, 103, 104, 83, 91, 69, 70, 71, 25, 72, 116, 117, 118, 119] (by decide +kernel) (by decide +kernel)
set_option maxRecDepth 20000 in
theorem gX5_sum_X2_sumWithin : GoodIn wsX5_sum (wsV RX5 86 RX2 yX2_sumWithin wsX2_sumWithin) := goodIn_app (goodIn_of _ (by decide +kernel)) ggX5_sum_X2_sumWithin
theorem dX5_sum_0 : decode cX5_sum 0 = .ok (.aload_n 0, 1) := by decide +kernel
theorem dX5_sum_1 : decode cX5_sum 1 = .ok (.getfield 10, 3) := by decide +kernel
theorem dX5_sum_4 : decode cX5_sum 4 = .ok (.iload_n 1, 1) := by decide +kernel
theorem dX5_sum_5 : decode cX5_sum 5 = .ok (.invokevirtual 64, 3) := by decide +kernel
theorem dX5_sum_8 : decode cX5_sum 8 = .ok (.ifCond .ne 6, 3) := by decide +kernel
theorem dX5_sum_11 : decode cX5_sum 11 = .ok (.bipush (-101), 2) := by decide +kernel
theorem dX5_sum_13 : decode cX5_sum 13 = .ok (.ireturn, 1) := by decide +kernel
theorem dX5_sum_14 : decode cX5_sum 14 = .ok (.iload_n 2, 1) := by decide +kernel
theorem dX5_sum_15 : decode cX5_sum 15 = .ok (.ldc 67, 2) := by decide +kernel
theorem dX5_sum_17 : decode cX5_sum 17 = .ok (.invokestatic 68, 3) := by decide +kernel
theorem dX5_sum_20 : decode cX5_sum 20 = .ok (.ifCond .eq 6, 3) := by decide +kernel
theorem dX5_sum_23 : decode cX5_sum 23 = .ok (.bipush (-102), 2) := by decide +kernel
theorem dX5_sum_25 : decode cX5_sum 25 = .ok (.ireturn, 1) := by decide +kernel
theorem dX5_sum_26 : decode cX5_sum 26 = .ok (.aload_n 0, 1) := by decide +kernel
theorem dX5_sum_27 : decode cX5_sum 27 = .ok (.getfield 10, 3) := by decide +kernel
theorem dX5_sum_30 : decode cX5_sum 30 = .ok (.iload_n 1, 1) := by decide +kernel
theorem dX5_sum_31 : decode cX5_sum 31 = .ok (.iload_n 2, 1) := by decide +kernel
theorem dX5_sum_32 : decode cX5_sum 32 = .ok (.invokevirtual 72, 3) := by decide +kernel
theorem dX5_sum_35 : decode cX5_sum 35 = .ok (.iload_n 2, 1) := by decide +kernel
theorem dX5_sum_36 : decode cX5_sum 36 = .ok (.invokevirtual 86, 3) := by decide +kernel
theorem dX5_sum_39 : decode cX5_sum 39 = .ok (.ireturn, 1) := by decide +kernel
set_option maxRecDepth 20000 in
theorem ggX5_run_X1_hasRow : GoodIn wsX5_run wsX1_hasRow := goodIn_r _ [7, 8, 9, 108, 109, 110, 111] (by decide +kernel) (by decide +kernel)
set_option maxRecDepth 20000 in
theorem gX5_run_X1_hasRow : GoodIn wsX5_run (wsV RX5 64 RX1 yX1_hasRow wsX1_hasRow) := goodIn_app (goodIn_of _ (by decide +kernel)) ggX5_run_X1_hasRow
set_option maxRecDepth 20000 in
theorem ggX5_run_X5_isOutside : GoodIn wsX5_run wsX5_isOutside := goodIn_r _ [13] (by decide +kernel) (by decide +kernel)
set_option maxRecDepth 20000 in
theorem gX5_run_X5_isOutside : GoodIn wsX5_run (va_wsS RX5 68 yX5_isOutside wsX5_isOutside) := goodIn_app (goodIn_of _ (by decide +kernel)) ggX5_run_X5_isOutside
set_option maxRecDepth 20000 in
theorem ggX5_run_X1_rowOf : GoodIn wsX5_run wsX1_rowOf := goodIn_r _ [17, 9, 18, 19, 4, 5, 6, 7, 8, 20, 21, 22, 23, 24, 25, 26, 27, 28, 29, 30, 31, 32, 33, 34, 35, 36, 37, 38, 39, 40, 41, 42, 43, 44, 45, 46, 47, 48, 49, 50, 51, 52, 53, 54, 55, 56, 57, 58, 59, 60, 61, 62, 63, 64, 65, 66, 67, 68, 69, 70, 71, 72, 73, 74, 75, 76, 77, 12, 78, 79, 80, 81, 82, 83, 84, 85, 86, 87, 88, 89, 90, 91, 92, 108, 109, 110, 111, 112, 113, 114, 115, 116, 117] (by decide +kernel) (by decide +kernel)
set_option maxRecDepth 20000 in
theorem gX5_run_X1_rowOf : GoodIn wsX5_run (wsV RX5 72 RX1 yX1_rowOf wsX1_rowOf) := goodIn_app (goodIn_of _ (by decide +kernel)) ggX5_run_X1_rowOf
set_option maxRecDepth 20000 in
theorem ggX5_run_X2_runsWithin : GoodIn wsX5_run wsX2_runsWithin := goodIn_r _ [96, 97, 98, 99, 23, 100, 83, 91, 69, 70, 71, 25, 72, 112, 113, 114, 115] (by decide +kernel) (by decide +kernel)
set_option maxRecDepth 20000 in
theorem gX5_run_X2_runsWithin : GoodIn wsX5_run (wsV RX5 89 RX2 yX2_runsWithin wsX2_runsWithin) := goodIn_app (goodIn_of _ (by decide +kernel)) ggX5_run_X2_runsWithin
theorem dX5_run_0 : decode cX5_run 0 = .ok (.aload_n 0, 1) := by decide +kernel
theorem dX5_run_1 : decode cX5_run 1 = .ok (.getfield 10, 3) := by decide +kernel
theorem dX5_run_4 : decode cX5_run 4 = .ok (.iload_n 1, 1) := by decide +kernel
theorem dX5_run_5 : decode cX5_run 5 = .ok (.invokevirtual 64, 3) := by decide +kernel
theorem dX5_run_8 : decode cX5_run 8 = .ok (.ifCond .ne 6, 3) := by decide +kernel
theorem dX5_run_11 : decode cX5_run 11 = .ok (.bipush (-101), 2) := by decide +kernel
theorem dX5_run_13 : decode cX5_run 13 = .ok (.ireturn, 1) := by decide +kernel
theorem dX5_run_14 : decode cX5_run 14 = .ok (.iload_n 2, 1) := by decide +kernel
theorem dX5_run_15 : decode cX5_run 15 = .ok (.ldc 67, 2) := by decide +kernel
theorem dX5_run_17 : decode cX5_run 17 = .ok (.invokestatic 68, 3) := by decide +kernel
theorem dX5_run_20 : decode cX5_run 20 = .ok (.ifCond .eq 6, 3) := by decide +kernel
theorem dX5_run_23 : decode cX5_run 23 = .ok (.bipush (-102), 2) := by decide +kernel
theorem dX5_run_25 : decode cX5_run 25 = .ok (.ireturn, 1) := by decide +kernel
theorem dX5_run_26 : decode cX5_run 26 = .ok (.aload_n 0, 1) := by decide +kernel
theorem dX5_run_27 : decode cX5_run 27 = .ok (.getfield 10, 3) := by decide +kernel
theorem dX5_run_30 : decode cX5_run 30 = .ok (.iload_n 1, 1) := by decide +kernel
theorem dX5_run_31 : decode cX5_run 31 = .ok (.iload_n 2, 1) := by decide +kernel
theorem dX5_run_32 : decode cX5_run 32 = .ok (.iconst 1, 1) := by decide +kernel
theorem dX5_run_33 : decode cX5_run 33 = .ok (.iadd, 1) := by decide +kernel
theorem dX5_run_34 : decode cX5_run 34 = .ok (.invokevirtual 72, 3) := by decide +kernel
theorem dX5_run_37 : decode cX5_run 37 = .ok (.iload_n 2, 1) := by decide +kernel
theorem dX5_run_38 : decode cX5_run 38 = .ok (.iconst 1, 1) := by decide +kernel
theorem dX5_run_39 : decode cX5_run 39 = .ok (.iadd, 1) := by decide +kernel
theorem dX5_run_40 : decode cX5_run 40 = .ok (.invokevirtual 89, 3) := by decide +kernel
theorem dX5_run_43 : decode cX5_run 43 = .ok (.iconst 1, 1) := by decide +kernel
theorem dX5_run_44 : decode cX5_run 44 = .ok (.isub, 1) := by decide +kernel
theorem dX5_run_45 : decode cX5_run 45 = .ok (.ireturn, 1) := by decide +kernel
set_option maxRecDepth 20000 in
theorem ggX5_begins_X1_hasRow : GoodIn wsX5_begins wsX1_hasRow := goodIn_r _ [7, 8, 9, 113, 114, 115, 116] (by decide +kernel) (by decide +kernel)
set_option maxRecDepth 20000 in
theorem gX5_begins_X1_hasRow : GoodIn wsX5_begins (wsV RX5 64 RX1 yX1_hasRow wsX1_hasRow) := goodIn_app (goodIn_of _ (by decide +kernel)) ggX5_begins_X1_hasRow
set_option maxRecDepth 20000 in
theorem ggX5_begins_X5_isOutside : GoodIn wsX5_begins wsX5_isOutside := goodIn_r _ [13] (by decide +kernel) (by decide +kernel)
set_option maxRecDepth 20000 in
theorem gX5_begins_X5_isOutside : GoodIn wsX5_begins (va_wsS RX5 68 yX5_isOutside wsX5_isOutside) := goodIn_app (goodIn_of _ (by decide +kernel)) ggX5_begins_X5_isOutside
set_option maxRecDepth 20000 in
theorem ggX5_begins_X1_nextOf : GoodIn wsX5_begins wsX1_nextOf := goodIn_r _ [17, 8, 113, 114, 115, 116] (by decide +kernel) (by decide +kernel)
set_option maxRecDepth 20000 in
theorem gX5_begins_X1_nextOf : GoodIn wsX5_begins (wsV RX5 92 RX1 yX1_nextOf wsX1_nextOf) := goodIn_app (goodIn_of _ (by decide +kernel)) ggX5_begins_X1_nextOf
set_option maxRecDepth 20000 in
theorem ggX5_begins_X1_rowOf : GoodIn wsX5_begins wsX1_rowOf := goodIn_r _ [21, 9, 22, 23, 4, 5, 6, 7, 8, 24, 25, 26, 27, 28, 29, 30, 31, 32, 33, 34, 35, 36, 37, 38, 15, 16, 17, 39, 40, 41, 42, 43, 44, 45, 46, 47, 48, 49, 50, 51, 52, 53, 54, 55, 56, 57, 58, 59, 60, 61, 62, 63, 64, 65, 66, 67, 68, 69, 70, 71, 72, 73, 74, 75, 76, 77, 78, 12, 79, 80, 81, 82, 83, 84, 85, 86, 87, 88, 89, 90, 91, 92, 93, 113, 114, 115, 116, 117, 118, 119, 120, 121, 122] (by decide +kernel) (by decide +kernel)
set_option maxRecDepth 20000 in
theorem gX5_begins_X1_rowOf : GoodIn wsX5_begins (wsV RX5 72 RX1 yX1_rowOf wsX1_rowOf) := goodIn_app (goodIn_of _ (by decide +kernel)) ggX5_begins_X1_rowOf
set_option maxRecDepth 20000 in
theorem ggX5_begins_X2_sumWithin : GoodIn wsX5_begins wsX2_sumWithin := goodIn_r _ [97, 98, 99, 100, 27, 101, 78, 12, 79, 102, 103, 104, 105, 84, 92, 70, 71, 72, 29, 73, 117, 118, 119, 120] (by decide +kernel) (by decide +kernel)
set_option maxRecDepth 20000 in
theorem gX5_begins_X2_sumWithin : GoodIn wsX5_begins (wsV RX5 86 RX2 yX2_sumWithin wsX2_sumWithin) := goodIn_app (goodIn_of _ (by decide +kernel)) ggX5_begins_X2_sumWithin
theorem dX5_begins_0 : decode cX5_begins 0 = .ok (.aload_n 0, 1) := by decide +kernel
theorem dX5_begins_1 : decode cX5_begins 1 = .ok (.getfield 10, 3) := by decide +kernel
theorem dX5_begins_4 : decode cX5_begins 4 = .ok (.iload_n 1, 1) := by decide +kernel
theorem dX5_begins_5 : decode cX5_begins 5 = .ok (.invokevirtual 64, 3) := by decide +kernel
theorem dX5_begins_8 : decode cX5_begins 8 = .ok (.ifCond .ne 6, 3) := by decide +kernel
theorem dX5_begins_11 : decode cX5_begins 11 = .ok (.bipush (-101), 2) := by decide +kernel
theorem dX5_begins_13 : decode cX5_begins 13 = .ok (.ireturn, 1) := by decide +kernel
theorem dX5_begins_14 : decode cX5_begins 14 = .ok (.iload_n 2, 1) := by decide +kernel
theorem dX5_begins_15 : decode cX5_begins 15 = .ok (.ldc 67, 2) := by decide +kernel
theorem dX5_begins_17 : decode cX5_begins 17 = .ok (.invokestatic 68, 3) := by decide +kernel
theorem dX5_begins_20 : decode cX5_begins 20 = .ok (.ifCond .eq 6, 3) := by decide +kernel
theorem dX5_begins_23 : decode cX5_begins 23 = .ok (.bipush (-102), 2) := by decide +kernel
theorem dX5_begins_25 : decode cX5_begins 25 = .ok (.ireturn, 1) := by decide +kernel
theorem dX5_begins_26 : decode cX5_begins 26 = .ok (.aload_n 0, 1) := by decide +kernel
theorem dX5_begins_27 : decode cX5_begins 27 = .ok (.getfield 10, 3) := by decide +kernel
theorem dX5_begins_30 : decode cX5_begins 30 = .ok (.aload_n 0, 1) := by decide +kernel
theorem dX5_begins_31 : decode cX5_begins 31 = .ok (.getfield 10, 3) := by decide +kernel
theorem dX5_begins_34 : decode cX5_begins 34 = .ok (.iload_n 1, 1) := by decide +kernel
theorem dX5_begins_35 : decode cX5_begins 35 = .ok (.invokevirtual 92, 3) := by decide +kernel
theorem dX5_begins_38 : decode cX5_begins 38 = .ok (.iload_n 2, 1) := by decide +kernel
theorem dX5_begins_39 : decode cX5_begins 39 = .ok (.invokevirtual 72, 3) := by decide +kernel
theorem dX5_begins_42 : decode cX5_begins 42 = .ok (.iload_n 2, 1) := by decide +kernel
theorem dX5_begins_43 : decode cX5_begins 43 = .ok (.invokevirtual 86, 3) := by decide +kernel
theorem dX5_begins_46 : decode cX5_begins 46 = .ok (.istore_n 3, 1) := by decide +kernel
theorem dX5_begins_47 : decode cX5_begins 47 = .ok (.iload_n 3, 1) := by decide +kernel
theorem dX5_begins_48 : decode cX5_begins 48 = .ok (.ldc 67, 2) := by decide +kernel
theorem dX5_begins_50 : decode cX5_begins 50 = .ok (.if_icmp .le 7, 3) := by decide +kernel
theorem dX5_begins_53 : decode cX5_begins 53 = .ok (.iconst (-1), 1) := by decide +kernel
theorem dX5_begins_54 : decode cX5_begins 54 = .ok (.goto 4, 3) := by decide +kernel
theorem dX5_begins_57 : decode cX5_begins 57 = .ok (.iload_n 3, 1) := by decide +kernel
theorem dX5_begins_58 : decode cX5_begins 58 = .ok (.ireturn, 1) := by decide +kernel
set_option maxRecDepth 20000 in
theorem ggX5_off_X1_hasRow : GoodIn wsX5_off wsX1_hasRow := goodIn_r _ [7, 8, 9, 111, 112, 113, 114] (by decide +kernel) (by decide +kernel)
set_option maxRecDepth 20000 in
theorem gX5_off_X1_hasRow : GoodIn wsX5_off (wsV RX5 64 RX1 yX1_hasRow wsX1_hasRow) := goodIn_app (goodIn_of _ (by decide +kernel)) ggX5_off_X1_hasRow
set_option maxRecDepth 20000 in
theorem ggX5_off_X5_isOutside : GoodIn wsX5_off wsX5_isOutside := goodIn_r _ [13] (by decide +kernel) (by decide +kernel)
set_option maxRecDepth 20000 in
theorem gX5_off_X5_isOutside : GoodIn wsX5_off (va_wsS RX5 68 yX5_isOutside wsX5_isOutside) := goodIn_app (goodIn_of _ (by decide +kernel)) ggX5_off_X5_isOutside
set_option maxRecDepth 20000 in
theorem ggX5_off_X1_rowOf : GoodIn wsX5_off wsX1_rowOf := goodIn_r _ [17, 9, 18, 19, 4, 5, 6, 7, 8, 20, 21, 22, 23, 24, 25, 26, 27, 28, 29, 30, 31, 32, 33, 34, 35, 36, 37, 38, 39, 40, 41, 42, 43, 44, 45, 46, 47, 48, 49, 50, 51, 52, 53, 54, 55, 56, 57, 58, 59, 60, 61, 62, 63, 64, 65, 66, 67, 68, 69, 70, 71, 72, 73, 74, 75, 76, 77, 12, 78, 79, 80, 81, 82, 83, 84, 85, 86, 87, 88, 89, 90, 91, 92, 111, 112, 113, 114, 115, 116, 117, 118, 119, 120] (by decide +kernel) (by decide +kernel)
set_option maxRecDepth 20000 in
theorem gX5_off_X1_rowOf : GoodIn wsX5_off (wsV RX5 72 RX1 yX1_rowOf wsX1_rowOf) := goodIn_app (goodIn_of _ (by decide +kernel)) ggX5_off_X1_rowOf
set_option maxRecDepth 20000 in
theorem ggX5_off_X2_greatestOff : GoodIn wsX5_off wsX2_greatestOff := goodIn_r _ [96, 97, 98, 99, 100, 101, 102, 103, 91, 69, 70, 23, 71, 25, 72, 115, 116, 117, 118] (by decide +kernel) (by decide +kernel)
set_option maxRecDepth 20000 in
theorem gX5_off_X2_greatestOff : GoodIn wsX5_off (wsV RX5 95 RX2 yX2_greatestOff wsX2_greatestOff) := goodIn_app (goodIn_of _ (by decide +kernel)) ggX5_off_X2_greatestOff
theorem dX5_off_0 : decode cX5_off 0 = .ok (.aload_n 0, 1) := by decide +kernel
theorem dX5_off_1 : decode cX5_off 1 = .ok (.getfield 10, 3) := by decide +kernel
theorem dX5_off_4 : decode cX5_off 4 = .ok (.iload_n 1, 1) := by decide +kernel
theorem dX5_off_5 : decode cX5_off 5 = .ok (.invokevirtual 64, 3) := by decide +kernel
theorem dX5_off_8 : decode cX5_off 8 = .ok (.ifCond .ne 6, 3) := by decide +kernel
theorem dX5_off_11 : decode cX5_off 11 = .ok (.bipush (-101), 2) := by decide +kernel
theorem dX5_off_13 : decode cX5_off 13 = .ok (.ireturn, 1) := by decide +kernel
theorem dX5_off_14 : decode cX5_off 14 = .ok (.iload 4, 2) := by decide +kernel
theorem dX5_off_16 : decode cX5_off 16 = .ok (.ldc 67, 2) := by decide +kernel
theorem dX5_off_18 : decode cX5_off 18 = .ok (.invokestatic 68, 3) := by decide +kernel
theorem dX5_off_21 : decode cX5_off 21 = .ok (.ifCond .ne 14, 3) := by decide +kernel
theorem dX5_off_24 : decode cX5_off 24 = .ok (.iload_n 3, 1) := by decide +kernel
theorem dX5_off_25 : decode cX5_off 25 = .ok (.iconst 2, 1) := by decide +kernel
theorem dX5_off_26 : decode cX5_off 26 = .ok (.if_icmp .lt 9, 3) := by decide +kernel
theorem dX5_off_29 : decode cX5_off 29 = .ok (.iload_n 3, 1) := by decide +kernel
theorem dX5_off_30 : decode cX5_off 30 = .ok (.bipush 6, 2) := by decide +kernel
theorem dX5_off_32 : decode cX5_off 32 = .ok (.if_icmp .le 6, 3) := by decide +kernel
theorem dX5_off_35 : decode cX5_off 35 = .ok (.bipush (-102), 2) := by decide +kernel
theorem dX5_off_37 : decode cX5_off 37 = .ok (.ireturn, 1) := by decide +kernel
theorem dX5_off_38 : decode cX5_off 38 = .ok (.aload_n 0, 1) := by decide +kernel
theorem dX5_off_39 : decode cX5_off 39 = .ok (.getfield 10, 3) := by decide +kernel
theorem dX5_off_42 : decode cX5_off 42 = .ok (.iload_n 1, 1) := by decide +kernel
theorem dX5_off_43 : decode cX5_off 43 = .ok (.iload 4, 2) := by decide +kernel
theorem dX5_off_45 : decode cX5_off 45 = .ok (.invokevirtual 72, 3) := by decide +kernel
theorem dX5_off_48 : decode cX5_off 48 = .ok (.iload_n 2, 1) := by decide +kernel
theorem dX5_off_49 : decode cX5_off 49 = .ok (.iload_n 3, 1) := by decide +kernel
theorem dX5_off_50 : decode cX5_off 50 = .ok (.iload 4, 2) := by decide +kernel
theorem dX5_off_52 : decode cX5_off 52 = .ok (.invokevirtual 95, 3) := by decide +kernel
theorem dX5_off_55 : decode cX5_off 55 = .ok (.ireturn, 1) := by decide +kernel
set_option maxRecDepth 20000 in
theorem ggX5_add_X5_isLetter : GoodIn wsX5_add wsX5_isLetter := goodIn_r _ [5] (by decide +kernel) (by decide +kernel)
set_option maxRecDepth 20000 in
theorem gX5_add_X5_isLetter : GoodIn wsX5_add (va_wsS RX5 99 yX5_isLetter wsX5_isLetter) := goodIn_app (goodIn_of _ (by decide +kernel)) ggX5_add_X5_isLetter
set_option maxRecDepth 20000 in
theorem ggX5_add_X4_put : GoodIn wsX5_add wsX4_put := goodIn_r _ [10, 11, 12, 24, 25] (by decide +kernel) (by decide +kernel)
set_option maxRecDepth 20000 in
theorem gX5_add_X4_put : GoodIn wsX5_add (wsV RX5 102 RX4 yX4_put wsX4_put) := goodIn_app (goodIn_of _ (by decide +kernel)) ggX5_add_X4_put
set_option maxRecDepth 20000 in
theorem ggX5_add_X4_size : GoodIn wsX5_add wsX4_size := goodIn_r _ [16, 11, 24, 25] (by decide +kernel) (by decide +kernel)
set_option maxRecDepth 20000 in
theorem gX5_add_X4_size : GoodIn wsX5_add (wsV RX5 105 RX4 yX4_size wsX4_size) := goodIn_app (goodIn_of _ (by decide +kernel)) ggX5_add_X4_size
theorem dX5_add_0 : decode cX5_add 0 = .ok (.iload_n 1, 1) := by decide +kernel
theorem dX5_add_1 : decode cX5_add 1 = .ok (.invokestatic 99, 3) := by decide +kernel
theorem dX5_add_4 : decode cX5_add 4 = .ok (.ifCond .ne 6, 3) := by decide +kernel
theorem dX5_add_7 : decode cX5_add 7 = .ok (.bipush (-102), 2) := by decide +kernel
theorem dX5_add_9 : decode cX5_add 9 = .ok (.ireturn, 1) := by decide +kernel
theorem dX5_add_10 : decode cX5_add 10 = .ok (.aload_n 0, 1) := by decide +kernel
theorem dX5_add_11 : decode cX5_add 11 = .ok (.getfield 19, 3) := by decide +kernel
theorem dX5_add_14 : decode cX5_add 14 = .ok (.iload_n 1, 1) := by decide +kernel
theorem dX5_add_15 : decode cX5_add 15 = .ok (.invokevirtual 102, 3) := by decide +kernel
theorem dX5_add_18 : decode cX5_add 18 = .ok (.ifCond .ne 6, 3) := by decide +kernel
theorem dX5_add_21 : decode cX5_add 21 = .ok (.bipush (-104), 2) := by decide +kernel
theorem dX5_add_23 : decode cX5_add 23 = .ok (.ireturn, 1) := by decide +kernel
theorem dX5_add_24 : decode cX5_add 24 = .ok (.aload_n 0, 1) := by decide +kernel
theorem dX5_add_25 : decode cX5_add 25 = .ok (.getfield 19, 3) := by decide +kernel
theorem dX5_add_28 : decode cX5_add 28 = .ok (.invokevirtual 105, 3) := by decide +kernel
theorem dX5_add_31 : decode cX5_add 31 = .ok (.ireturn, 1) := by decide +kernel
set_option maxRecDepth 20000 in
theorem ggX5_take_X1_hasRow : GoodIn wsX5_take wsX1_hasRow := goodIn_r _ [8, 9, 10, 113, 114, 115, 116] (by decide +kernel) (by decide +kernel)
set_option maxRecDepth 20000 in
theorem gX5_take_X1_hasRow : GoodIn wsX5_take (wsV RX5 64 RX1 yX1_hasRow wsX1_hasRow) := goodIn_app (goodIn_of _ (by decide +kernel)) ggX5_take_X1_hasRow
set_option maxRecDepth 20000 in
theorem ggX5_take_X5_isOutside : GoodIn wsX5_take wsX5_isOutside := goodIn_r _ [14] (by decide +kernel) (by decide +kernel)
set_option maxRecDepth 20000 in
theorem gX5_take_X5_isOutside : GoodIn wsX5_take (va_wsS RX5 68 yX5_isOutside wsX5_isOutside) := goodIn_app (goodIn_of _ (by decide +kernel)) ggX5_take_X5_isOutside
set_option maxRecDepth 20000 in
theorem ggX5_take_X1_rowOf : GoodIn wsX5_take wsX1_rowOf := goodIn_r _ [18, 10, 19, 20, 5, 6, 7, 8, 9, 21, 22, 23, 24, 25, 26, 27, 28, 29, 30, 31, 32, 33, 34, 35, 36, 37, 38, 39, 40, 41, 42, 43, 44, 45, 46, 47, 48, 49, 50, 51, 52, 53, 54, 55, 56, 57, 58, 59, 60, 61, 62, 63, 64, 65, 66, 67, 68, 69, 70, 71, 72, 73, 74, 75, 76, 77, 78, 13, 79, 80, 81, 82, 83, 84, 85, 86, 87, 88, 89, 90, 91, 92, 93, 113, 114, 115, 116, 117, 118, 119, 120, 121, 122] (by decide +kernel) (by decide +kernel)
set_option maxRecDepth 20000 in
theorem gX5_take_X1_rowOf : GoodIn wsX5_take (wsV RX5 72 RX1 yX1_rowOf wsX1_rowOf) := goodIn_app (goodIn_of _ (by decide +kernel)) ggX5_take_X1_rowOf
set_option maxRecDepth 20000 in
theorem ggX5_take_X4_empty : GoodIn wsX5_take wsX4_empty := goodIn_r _ [98, 99, 123, 124] (by decide +kernel) (by decide +kernel)
set_option maxRecDepth 20000 in
theorem gX5_take_X4_empty : GoodIn wsX5_take (wsV RX5 109 RX4 yX4_empty wsX4_empty) := goodIn_app (goodIn_of _ (by decide +kernel)) ggX5_take_X4_empty
set_option maxRecDepth 20000 in
theorem ggX5_take_X2_number : GoodIn wsX5_take wsX2_number := goodIn_r _ [72, 26, 73, 117, 118, 119, 120] (by decide +kernel) (by decide +kernel)
set_option maxRecDepth 20000 in
theorem gX5_take_X2_number : GoodIn wsX5_take (wsV RX5 76 RX2 yX2_number wsX2_number) := goodIn_app (goodIn_of _ (by decide +kernel)) ggX5_take_X2_number
set_option maxRecDepth 20000 in
theorem ggX5_take_X4_put : GoodIn wsX5_take wsX4_put := goodIn_r _ [104, 99, 105, 123, 124] (by decide +kernel) (by decide +kernel)
set_option maxRecDepth 20000 in
theorem gX5_take_X4_put : GoodIn wsX5_take (wsV RX5 102 RX4 yX4_put wsX4_put) := goodIn_app (goodIn_of _ (by decide +kernel)) ggX5_take_X4_put
theorem dX5_take_0 : decode cX5_take 0 = .ok (.aload_n 0, 1) := by decide +kernel
theorem dX5_take_1 : decode cX5_take 1 = .ok (.getfield 10, 3) := by decide +kernel
theorem dX5_take_4 : decode cX5_take 4 = .ok (.iload_n 1, 1) := by decide +kernel
theorem dX5_take_5 : decode cX5_take 5 = .ok (.invokevirtual 64, 3) := by decide +kernel
theorem dX5_take_8 : decode cX5_take 8 = .ok (.ifCond .ne 6, 3) := by decide +kernel
theorem dX5_take_11 : decode cX5_take 11 = .ok (.bipush (-101), 2) := by decide +kernel
theorem dX5_take_13 : decode cX5_take 13 = .ok (.ireturn, 1) := by decide +kernel
theorem dX5_take_14 : decode cX5_take 14 = .ok (.iload_n 2, 1) := by decide +kernel
theorem dX5_take_15 : decode cX5_take 15 = .ok (.ldc 67, 2) := by decide +kernel
theorem dX5_take_17 : decode cX5_take 17 = .ok (.invokestatic 68, 3) := by decide +kernel
theorem dX5_take_20 : decode cX5_take 20 = .ok (.ifCond .ne 12, 3) := by decide +kernel
theorem dX5_take_23 : decode cX5_take 23 = .ok (.iload_n 3, 1) := by decide +kernel
theorem dX5_take_24 : decode cX5_take 24 = .ok (.bipush 60, 2) := by decide +kernel
theorem dX5_take_26 : decode cX5_take 26 = .ok (.invokestatic 68, 3) := by decide +kernel
theorem dX5_take_29 : decode cX5_take 29 = .ok (.ifCond .eq 6, 3) := by decide +kernel
theorem dX5_take_32 : decode cX5_take 32 = .ok (.bipush (-102), 2) := by decide +kernel
theorem dX5_take_34 : decode cX5_take 34 = .ok (.ireturn, 1) := by decide +kernel
theorem dX5_take_35 : decode cX5_take 35 = .ok (.iload_n 2, 1) := by decide +kernel
theorem dX5_take_36 : decode cX5_take 36 = .ok (.iload_n 3, 1) := by decide +kernel
theorem dX5_take_37 : decode cX5_take 37 = .ok (.iadd, 1) := by decide +kernel
theorem dX5_take_38 : decode cX5_take 38 = .ok (.iconst 1, 1) := by decide +kernel
theorem dX5_take_39 : decode cX5_take 39 = .ok (.isub, 1) := by decide +kernel
theorem dX5_take_40 : decode cX5_take 40 = .ok (.ldc 67, 2) := by decide +kernel
theorem dX5_take_42 : decode cX5_take 42 = .ok (.if_icmp .le 6, 3) := by decide +kernel
theorem dX5_take_45 : decode cX5_take 45 = .ok (.bipush (-102), 2) := by decide +kernel
theorem dX5_take_47 : decode cX5_take 47 = .ok (.ireturn, 1) := by decide +kernel
theorem dX5_take_48 : decode cX5_take 48 = .ok (.aload_n 0, 1) := by decide +kernel
theorem dX5_take_49 : decode cX5_take 49 = .ok (.getfield 10, 3) := by decide +kernel
theorem dX5_take_52 : decode cX5_take 52 = .ok (.iload_n 1, 1) := by decide +kernel
theorem dX5_take_53 : decode cX5_take 53 = .ok (.iload_n 2, 1) := by decide +kernel
theorem dX5_take_54 : decode cX5_take 54 = .ok (.iload_n 3, 1) := by decide +kernel
theorem dX5_take_55 : decode cX5_take 55 = .ok (.iadd, 1) := by decide +kernel
theorem dX5_take_56 : decode cX5_take 56 = .ok (.invokevirtual 72, 3) := by decide +kernel
theorem dX5_take_59 : decode cX5_take 59 = .ok (.astore 4, 2) := by decide +kernel
theorem dX5_take_61 : decode cX5_take 61 = .ok (.aload_n 0, 1) := by decide +kernel
theorem dX5_take_62 : decode cX5_take 62 = .ok (.getfield 19, 3) := by decide +kernel
theorem dX5_take_65 : decode cX5_take 65 = .ok (.invokevirtual 109, 3) := by decide +kernel
theorem dX5_take_68 : decode cX5_take 68 = .ok (.iconst 0, 1) := by decide +kernel
theorem dX5_take_69 : decode cX5_take 69 = .ok (.istore 5, 2) := by decide +kernel
theorem dX5_take_71 : decode cX5_take 71 = .ok (.iload 5, 2) := by decide +kernel
theorem dX5_take_73 : decode cX5_take 73 = .ok (.iload_n 3, 1) := by decide +kernel
theorem dX5_take_74 : decode cX5_take 74 = .ok (.if_icmp .ge 26, 3) := by decide +kernel
theorem dX5_take_77 : decode cX5_take 77 = .ok (.aload_n 0, 1) := by decide +kernel
theorem dX5_take_78 : decode cX5_take 78 = .ok (.getfield 19, 3) := by decide +kernel
theorem dX5_take_81 : decode cX5_take 81 = .ok (.aload 4, 2) := by decide +kernel
theorem dX5_take_83 : decode cX5_take 83 = .ok (.iload_n 2, 1) := by decide +kernel
theorem dX5_take_84 : decode cX5_take 84 = .ok (.iload 5, 2) := by decide +kernel
theorem dX5_take_86 : decode cX5_take 86 = .ok (.iadd, 1) := by decide +kernel
theorem dX5_take_87 : decode cX5_take 87 = .ok (.invokevirtual 76, 3) := by decide +kernel
theorem dX5_take_90 : decode cX5_take 90 = .ok (.invokevirtual 102, 3) := by decide +kernel
theorem dX5_take_93 : decode cX5_take 93 = .ok (.pop, 1) := by decide +kernel
theorem dX5_take_94 : decode cX5_take 94 = .ok (.iinc 5 1, 3) := by decide +kernel
theorem dX5_take_97 : decode cX5_take 97 = .ok (.goto (-26), 3) := by decide +kernel
theorem dX5_take_100 : decode cX5_take 100 = .ok (.iload_n 3, 1) := by decide +kernel
theorem dX5_take_101 : decode cX5_take 101 = .ok (.ireturn, 1) := by decide +kernel
set_option maxRecDepth 20000 in
theorem ggX5_clear_X4_size : GoodIn wsX5_clear wsX4_size := goodIn_r _ [6, 7, 19, 20] (by decide +kernel) (by decide +kernel)
set_option maxRecDepth 20000 in
theorem gX5_clear_X4_size : GoodIn wsX5_clear (wsV RX5 105 RX4 yX4_size wsX4_size) := goodIn_app (goodIn_of _ (by decide +kernel)) ggX5_clear_X4_size
set_option maxRecDepth 20000 in
theorem ggX5_clear_X4_empty : GoodIn wsX5_clear wsX4_empty := goodIn_r _ [11, 7, 19, 20] (by decide +kernel) (by decide +kernel)
set_option maxRecDepth 20000 in
theorem gX5_clear_X4_empty : GoodIn wsX5_clear (wsV RX5 109 RX4 yX4_empty wsX4_empty) := goodIn_app (goodIn_of _ (by decide +kernel)) ggX5_clear_X4_empty
theorem dX5_clear_0 : decode cX5_clear 0 = .ok (.aload_n 0, 1) := by decide +kernel
theorem dX5_clear_1 : decode cX5_clear 1 = .ok (.getfield 19, 3) := by decide +kernel
theorem dX5_clear_4 : decode cX5_clear 4 = .ok (.invokevirtual 105, 3) := by decide +kernel
theorem dX5_clear_7 : decode cX5_clear 7 = .ok (.istore_n 1, 1) := by decide +kernel
theorem dX5_clear_8 : decode cX5_clear 8 = .ok (.aload_n 0, 1) := by decide +kernel
theorem dX5_clear_9 : decode cX5_clear 9 = .ok (.getfield 19, 3) := by decide +kernel
theorem dX5_clear_12 : decode cX5_clear 12 = .ok (.invokevirtual 109, 3) := by decide +kernel
theorem dX5_clear_15 : decode cX5_clear 15 = .ok (.iload_n 1, 1) := by decide +kernel
theorem dX5_clear_16 : decode cX5_clear 16 = .ok (.ireturn, 1) := by decide +kernel
set_option maxRecDepth 20000 in
theorem ggX5_letter_X4_letterAt : GoodIn wsX5_letter wsX4_letterAt := goodIn_r _ [6, 7, 8, 16, 17] (by decide +kernel) (by decide +kernel)
set_option maxRecDepth 20000 in
theorem gX5_letter_X4_letterAt : GoodIn wsX5_letter (wsV RX5 112 RX4 yX4_letterAt wsX4_letterAt) := goodIn_app (goodIn_of _ (by decide +kernel)) ggX5_letter_X4_letterAt
theorem dX5_letter_0 : decode cX5_letter 0 = .ok (.aload_n 0, 1) := by decide +kernel
theorem dX5_letter_1 : decode cX5_letter 1 = .ok (.getfield 19, 3) := by decide +kernel
theorem dX5_letter_4 : decode cX5_letter 4 = .ok (.iload_n 1, 1) := by decide +kernel
theorem dX5_letter_5 : decode cX5_letter 5 = .ok (.invokevirtual 112, 3) := by decide +kernel
theorem dX5_letter_8 : decode cX5_letter 8 = .ok (.ireturn, 1) := by decide +kernel
set_option maxRecDepth 20000 in
theorem ggX5_runs_X4_runsInIt : GoodIn wsX5_runs wsX4_runsInIt := goodIn_r _ [6, 7, 8, 9, 10, 5, 11, 12, 13, 14, 15, 16, 24, 25] (by decide +kernel) (by decide +kernel)
set_option maxRecDepth 20000 in
theorem gX5_runs_X4_runsInIt : GoodIn wsX5_runs (wsV RX5 115 RX4 yX4_runsInIt wsX4_runsInIt) := goodIn_app (goodIn_of _ (by decide +kernel)) ggX5_runs_X4_runsInIt
theorem dX5_runs_0 : decode cX5_runs 0 = .ok (.aload_n 0, 1) := by decide +kernel
theorem dX5_runs_1 : decode cX5_runs 1 = .ok (.getfield 19, 3) := by decide +kernel
theorem dX5_runs_4 : decode cX5_runs 4 = .ok (.invokevirtual 115, 3) := by decide +kernel
theorem dX5_runs_7 : decode cX5_runs 7 = .ok (.ireturn, 1) := by decide +kernel
set_option maxRecDepth 20000 in
theorem ggX5_shorten_X5_isLetter : GoodIn wsX5_shorten wsX5_isLetter := goodIn_r _ [5] (by decide +kernel) (by decide +kernel)
set_option maxRecDepth 20000 in
theorem gX5_shorten_X5_isLetter : GoodIn wsX5_shorten (va_wsS RX5 99 yX5_isLetter wsX5_isLetter) := goodIn_app (goodIn_of _ (by decide +kernel)) ggX5_shorten_X5_isLetter
set_option maxRecDepth 20000 in
theorem ggX5_shorten_X4_longestRun : GoodIn wsX5_shorten wsX4_longestRun := goodIn_r _ [10, 11, 12, 13, 14, 15, 16, 17, 18, 9, 19, 20, 21, 22, 23, 24, 44, 45] (by decide +kernel) (by decide +kernel)
set_option maxRecDepth 20000 in
theorem gX5_shorten_X4_longestRun : GoodIn wsX5_shorten (wsV RX5 118 RX4 yX4_longestRun wsX4_longestRun) := goodIn_app (goodIn_of _ (by decide +kernel)) ggX5_shorten_X4_longestRun
set_option maxRecDepth 20000 in
theorem ggX5_shorten_X4_becomeShorter : GoodIn wsX5_shorten wsX4_becomeShorter := goodIn_r _ [28, 11, 16, 17, 18, 9, 19, 20, 21, 22, 23, 24, 29, 30, 31, 32, 44, 45] (by decide +kernel) (by decide +kernel)
set_option maxRecDepth 20000 in
theorem gX5_shorten_X4_becomeShorter : GoodIn wsX5_shorten (wsV RX5 121 RX4 yX4_becomeShorter wsX4_becomeShorter) := goodIn_app (goodIn_of _ (by decide +kernel)) ggX5_shorten_X4_becomeShorter
set_option maxRecDepth 20000 in
theorem ggX5_shorten_X4_size : GoodIn wsX5_shorten wsX4_size := goodIn_r _ [36, 11, 44, 45] (by decide +kernel) (by decide +kernel)
set_option maxRecDepth 20000 in
theorem gX5_shorten_X4_size : GoodIn wsX5_shorten (wsV RX5 105 RX4 yX4_size wsX4_size) := goodIn_app (goodIn_of _ (by decide +kernel)) ggX5_shorten_X4_size
theorem dX5_shorten_0 : decode cX5_shorten 0 = .ok (.iload_n 1, 1) := by decide +kernel
theorem dX5_shorten_1 : decode cX5_shorten 1 = .ok (.invokestatic 99, 3) := by decide +kernel
theorem dX5_shorten_4 : decode cX5_shorten 4 = .ok (.ifCond .ne 6, 3) := by decide +kernel
theorem dX5_shorten_7 : decode cX5_shorten 7 = .ok (.bipush (-102), 2) := by decide +kernel
theorem dX5_shorten_9 : decode cX5_shorten 9 = .ok (.ireturn, 1) := by decide +kernel
theorem dX5_shorten_10 : decode cX5_shorten 10 = .ok (.aload_n 0, 1) := by decide +kernel
theorem dX5_shorten_11 : decode cX5_shorten 11 = .ok (.getfield 19, 3) := by decide +kernel
theorem dX5_shorten_14 : decode cX5_shorten 14 = .ok (.invokevirtual 118, 3) := by decide +kernel
theorem dX5_shorten_17 : decode cX5_shorten 17 = .ok (.bipush 6, 2) := by decide +kernel
theorem dX5_shorten_19 : decode cX5_shorten 19 = .ok (.if_icmp .le 6, 3) := by decide +kernel
theorem dX5_shorten_22 : decode cX5_shorten 22 = .ok (.bipush (-103), 2) := by decide +kernel
theorem dX5_shorten_24 : decode cX5_shorten 24 = .ok (.ireturn, 1) := by decide +kernel
theorem dX5_shorten_25 : decode cX5_shorten 25 = .ok (.aload_n 0, 1) := by decide +kernel
theorem dX5_shorten_26 : decode cX5_shorten 26 = .ok (.getfield 19, 3) := by decide +kernel
theorem dX5_shorten_29 : decode cX5_shorten 29 = .ok (.iload_n 1, 1) := by decide +kernel
theorem dX5_shorten_30 : decode cX5_shorten 30 = .ok (.invokevirtual 121, 3) := by decide +kernel
theorem dX5_shorten_33 : decode cX5_shorten 33 = .ok (.aload_n 0, 1) := by decide +kernel
theorem dX5_shorten_34 : decode cX5_shorten 34 = .ok (.getfield 19, 3) := by decide +kernel
theorem dX5_shorten_37 : decode cX5_shorten 37 = .ok (.invokevirtual 105, 3) := by decide +kernel
theorem dX5_shorten_40 : decode cX5_shorten 40 = .ok (.ireturn, 1) := by decide +kernel
set_option maxRecDepth 20000 in
theorem ggX5_lengthen_X1_alphabetNamed : GoodIn wsX5_lengthen wsX1_alphabetNamed := goodIn_r _ [8, 9, 62, 63, 64, 65] (by decide +kernel) (by decide +kernel)
set_option maxRecDepth 20000 in
theorem gX5_lengthen_X1_alphabetNamed : GoodIn wsX5_lengthen (wsV RX5 43 RX1 yX1_alphabetNamed wsX1_alphabetNamed) := goodIn_app (goodIn_of _ (by decide +kernel)) ggX5_lengthen_X1_alphabetNamed
set_option maxRecDepth 20000 in
theorem ggX5_lengthen_X0_size : GoodIn wsX5_lengthen wsX0_size := goodIn_r _ [14, 15, 66, 67] (by decide +kernel) (by decide +kernel)
set_option maxRecDepth 20000 in
theorem gX5_lengthen_X0_size : GoodIn wsX5_lengthen (wsV RX5 125 RX0 yX0_size wsX0_size) := goodIn_app (goodIn_of _ (by decide +kernel)) ggX5_lengthen_X0_size
set_option maxRecDepth 20000 in
theorem ggX5_lengthen_X4_total : GoodIn wsX5_lengthen wsX4_total := goodIn_r _ [20, 21, 22, 23, 24, 19, 25, 26, 68, 69] (by decide +kernel) (by decide +kernel)
set_option maxRecDepth 20000 in
theorem gX5_lengthen_X4_total : GoodIn wsX5_lengthen (wsV RX5 126 RX4 yX4_total wsX4_total) := goodIn_app (goodIn_of _ (by decide +kernel)) ggX5_lengthen_X4_total
set_option maxRecDepth 20000 in
theorem ggX5_lengthen_X4_become : GoodIn wsX5_lengthen wsX4_become := goodIn_r _ [30, 31, 32, 33, 19, 34, 21, 35, 36, 37, 38, 22, 23, 24, 25, 26, 39, 40, 41, 42, 68, 69] (by decide +kernel) (by decide +kernel)
set_option maxRecDepth 20000 in
theorem gX5_lengthen_X4_become : GoodIn wsX5_lengthen (wsV RX5 129 RX4 yX4_become wsX4_become) := goodIn_app (goodIn_of _ (by decide +kernel)) ggX5_lengthen_X4_become
set_option maxRecDepth 20000 in
theorem ggX5_lengthen_X4_empty : GoodIn wsX5_lengthen wsX4_empty := goodIn_r _ [34, 21, 68, 69] (by decide +kernel) (by decide +kernel)
set_option maxRecDepth 20000 in
theorem gX5_lengthen_X4_empty : GoodIn wsX5_lengthen (wsV RX5 109 RX4 yX4_empty wsX4_empty) := goodIn_app (goodIn_of _ (by decide +kernel)) ggX5_lengthen_X4_empty
set_option maxRecDepth 20000 in
theorem ggX5_lengthen_X4_size : GoodIn wsX5_lengthen wsX4_size := goodIn_r _ [38, 21, 68, 69] (by decide +kernel) (by decide +kernel)
set_option maxRecDepth 20000 in
theorem gX5_lengthen_X4_size : GoodIn wsX5_lengthen (wsV RX5 105 RX4 yX4_size wsX4_size) := goodIn_app (goodIn_of _ (by decide +kernel)) ggX5_lengthen_X4_size
set_option maxRecDepth 20000 in
theorem ggX5_lengthen_X0_letterOfRun : GoodIn wsX5_lengthen wsX0_letterOfRun := goodIn_r _ [48, 15, 49, 66, 67] (by decide +kernel) (by decide +kernel)
set_option maxRecDepth 20000 in
theorem gX5_lengthen_X0_letterOfRun : GoodIn wsX5_lengthen (wsV RX5 133 RX0 yX0_letterOfRun wsX0_letterOfRun) := goodIn_app (goodIn_of _ (by decide +kernel)) ggX5_lengthen_X0_letterOfRun
set_option maxRecDepth 20000 in
theorem ggX5_lengthen_X4_letterAt : GoodIn wsX5_lengthen wsX4_letterAt := goodIn_r _ [25, 21, 26, 68, 69] (by decide +kernel) (by decide +kernel)
set_option maxRecDepth 20000 in
theorem gX5_lengthen_X4_letterAt : GoodIn wsX5_lengthen (wsV RX5 112 RX4 yX4_letterAt wsX4_letterAt) := goodIn_app (goodIn_of _ (by decide +kernel)) ggX5_lengthen_X4_letterAt
set_option maxRecDepth 20000 in
theorem ggX5_lengthen_X4_putTimes : GoodIn wsX5_lengthen wsX4_putTimes := goodIn_r _ [54, 39, 40, 41, 19, 42, 21, 26, 68, 69] (by decide +kernel) (by decide +kernel)
set_option maxRecDepth 20000 in
theorem gX5_lengthen_X4_putTimes : GoodIn wsX5_lengthen (wsV RX5 136 RX4 yX4_putTimes wsX4_putTimes) := goodIn_app (goodIn_of _ (by decide +kernel)) ggX5_lengthen_X4_putTimes
theorem dX5_lengthen_0 : decode cX5_lengthen 0 = .ok (.aload_n 0, 1) := by decide +kernel
theorem dX5_lengthen_1 : decode cX5_lengthen 1 = .ok (.getfield 10, 3) := by decide +kernel
theorem dX5_lengthen_4 : decode cX5_lengthen 4 = .ok (.iload_n 1, 1) := by decide +kernel
theorem dX5_lengthen_5 : decode cX5_lengthen 5 = .ok (.i2l, 1) := by decide +kernel
theorem dX5_lengthen_6 : decode cX5_lengthen 6 = .ok (.invokevirtual 43, 3) := by decide +kernel
theorem dX5_lengthen_9 : decode cX5_lengthen 9 = .ok (.astore_n 3, 1) := by decide +kernel
theorem dX5_lengthen_10 : decode cX5_lengthen 10 = .ok (.aload_n 3, 1) := by decide +kernel
theorem dX5_lengthen_11 : decode cX5_lengthen 11 = .ok (.ifnonnull 6, 3) := by decide +kernel
theorem dX5_lengthen_14 : decode cX5_lengthen 14 = .ok (.bipush (-101), 2) := by decide +kernel
theorem dX5_lengthen_16 : decode cX5_lengthen 16 = .ok (.ireturn, 1) := by decide +kernel
theorem dX5_lengthen_17 : decode cX5_lengthen 17 = .ok (.iload_n 2, 1) := by decide +kernel
theorem dX5_lengthen_18 : decode cX5_lengthen 18 = .ok (.ifCond .lt 11, 3) := by decide +kernel
theorem dX5_lengthen_21 : decode cX5_lengthen 21 = .ok (.iload_n 2, 1) := by decide +kernel
theorem dX5_lengthen_22 : decode cX5_lengthen 22 = .ok (.aload_n 3, 1) := by decide +kernel
theorem dX5_lengthen_23 : decode cX5_lengthen 23 = .ok (.invokevirtual 125, 3) := by decide +kernel
theorem dX5_lengthen_26 : decode cX5_lengthen 26 = .ok (.if_icmp .lt 6, 3) := by decide +kernel
theorem dX5_lengthen_29 : decode cX5_lengthen 29 = .ok (.bipush (-102), 2) := by decide +kernel
theorem dX5_lengthen_31 : decode cX5_lengthen 31 = .ok (.ireturn, 1) := by decide +kernel
theorem dX5_lengthen_32 : decode cX5_lengthen 32 = .ok (.aload_n 0, 1) := by decide +kernel
theorem dX5_lengthen_33 : decode cX5_lengthen 33 = .ok (.getfield 19, 3) := by decide +kernel
theorem dX5_lengthen_36 : decode cX5_lengthen 36 = .ok (.invokevirtual 126, 3) := by decide +kernel
theorem dX5_lengthen_39 : decode cX5_lengthen 39 = .ok (.bipush 60, 2) := by decide +kernel
theorem dX5_lengthen_41 : decode cX5_lengthen 41 = .ok (.if_icmp .le 6, 3) := by decide +kernel
theorem dX5_lengthen_44 : decode cX5_lengthen 44 = .ok (.bipush (-104), 2) := by decide +kernel
theorem dX5_lengthen_46 : decode cX5_lengthen 46 = .ok (.ireturn, 1) := by decide +kernel
theorem dX5_lengthen_47 : decode cX5_lengthen 47 = .ok (.aload_n 0, 1) := by decide +kernel
theorem dX5_lengthen_48 : decode cX5_lengthen 48 = .ok (.getfield 23, 3) := by decide +kernel
theorem dX5_lengthen_51 : decode cX5_lengthen 51 = .ok (.aload_n 0, 1) := by decide +kernel
theorem dX5_lengthen_52 : decode cX5_lengthen 52 = .ok (.getfield 19, 3) := by decide +kernel
theorem dX5_lengthen_55 : decode cX5_lengthen 55 = .ok (.invokevirtual 129, 3) := by decide +kernel
theorem dX5_lengthen_58 : decode cX5_lengthen 58 = .ok (.aload_n 0, 1) := by decide +kernel
theorem dX5_lengthen_59 : decode cX5_lengthen 59 = .ok (.getfield 19, 3) := by decide +kernel
theorem dX5_lengthen_62 : decode cX5_lengthen 62 = .ok (.invokevirtual 109, 3) := by decide +kernel
theorem dX5_lengthen_65 : decode cX5_lengthen 65 = .ok (.iconst 0, 1) := by decide +kernel
theorem dX5_lengthen_66 : decode cX5_lengthen 66 = .ok (.istore 4, 2) := by decide +kernel
theorem dX5_lengthen_68 : decode cX5_lengthen 68 = .ok (.iload 4, 2) := by decide +kernel
theorem dX5_lengthen_70 : decode cX5_lengthen 70 = .ok (.aload_n 0, 1) := by decide +kernel
theorem dX5_lengthen_71 : decode cX5_lengthen 71 = .ok (.getfield 23, 3) := by decide +kernel
theorem dX5_lengthen_74 : decode cX5_lengthen 74 = .ok (.invokevirtual 105, 3) := by decide +kernel
theorem dX5_lengthen_77 : decode cX5_lengthen 77 = .ok (.if_icmp .ge 33, 3) := by decide +kernel
theorem dX5_lengthen_80 : decode cX5_lengthen 80 = .ok (.aload_n 0, 1) := by decide +kernel
theorem dX5_lengthen_81 : decode cX5_lengthen 81 = .ok (.getfield 19, 3) := by decide +kernel
theorem dX5_lengthen_84 : decode cX5_lengthen 84 = .ok (.aload_n 3, 1) := by decide +kernel
theorem dX5_lengthen_85 : decode cX5_lengthen 85 = .ok (.iload_n 2, 1) := by decide +kernel
theorem dX5_lengthen_86 : decode cX5_lengthen 86 = .ok (.iload 4, 2) := by decide +kernel
theorem dX5_lengthen_88 : decode cX5_lengthen 88 = .ok (.iadd, 1) := by decide +kernel
theorem dX5_lengthen_89 : decode cX5_lengthen 89 = .ok (.invokevirtual 133, 3) := by decide +kernel
theorem dX5_lengthen_92 : decode cX5_lengthen 92 = .ok (.aload_n 0, 1) := by decide +kernel
theorem dX5_lengthen_93 : decode cX5_lengthen 93 = .ok (.getfield 23, 3) := by decide +kernel
theorem dX5_lengthen_96 : decode cX5_lengthen 96 = .ok (.iload 4, 2) := by decide +kernel
theorem dX5_lengthen_98 : decode cX5_lengthen 98 = .ok (.invokevirtual 112, 3) := by decide +kernel
theorem dX5_lengthen_101 : decode cX5_lengthen 101 = .ok (.invokevirtual 136, 3) := by decide +kernel
theorem dX5_lengthen_104 : decode cX5_lengthen 104 = .ok (.iinc 4 1, 3) := by decide +kernel
theorem dX5_lengthen_107 : decode cX5_lengthen 107 = .ok (.goto (-39), 3) := by decide +kernel
theorem dX5_lengthen_110 : decode cX5_lengthen 110 = .ok (.aload_n 0, 1) := by decide +kernel
theorem dX5_lengthen_111 : decode cX5_lengthen 111 = .ok (.getfield 19, 3) := by decide +kernel
theorem dX5_lengthen_114 : decode cX5_lengthen 114 = .ok (.invokevirtual 105, 3) := by decide +kernel
theorem dX5_lengthen_117 : decode cX5_lengthen 117 = .ok (.ireturn, 1) := by decide +kernel
set_option maxRecDepth 20000 in
theorem ggX5_mirror_X4_turnRound : GoodIn wsX5_mirror wsX4_turnRound := goodIn_r _ [6, 7, 8, 9, 10, 5, 11, 12, 13, 14, 15, 16, 28, 29] (by decide +kernel) (by decide +kernel)
set_option maxRecDepth 20000 in
theorem gX5_mirror_X4_turnRound : GoodIn wsX5_mirror (wsV RX5 140 RX4 yX4_turnRound wsX4_turnRound) := goodIn_app (goodIn_of _ (by decide +kernel)) ggX5_mirror_X4_turnRound
set_option maxRecDepth 20000 in
theorem ggX5_mirror_X4_size : GoodIn wsX5_mirror wsX4_size := goodIn_r _ [20, 7, 28, 29] (by decide +kernel) (by decide +kernel)
set_option maxRecDepth 20000 in
theorem gX5_mirror_X4_size : GoodIn wsX5_mirror (wsV RX5 105 RX4 yX4_size wsX4_size) := goodIn_app (goodIn_of _ (by decide +kernel)) ggX5_mirror_X4_size
theorem dX5_mirror_0 : decode cX5_mirror 0 = .ok (.aload_n 0, 1) := by decide +kernel
theorem dX5_mirror_1 : decode cX5_mirror 1 = .ok (.getfield 19, 3) := by decide +kernel
theorem dX5_mirror_4 : decode cX5_mirror 4 = .ok (.invokevirtual 140, 3) := by decide +kernel
theorem dX5_mirror_7 : decode cX5_mirror 7 = .ok (.aload_n 0, 1) := by decide +kernel
theorem dX5_mirror_8 : decode cX5_mirror 8 = .ok (.getfield 19, 3) := by decide +kernel
theorem dX5_mirror_11 : decode cX5_mirror 11 = .ok (.invokevirtual 105, 3) := by decide +kernel
theorem dX5_mirror_14 : decode cX5_mirror 14 = .ok (.ireturn, 1) := by decide +kernel
set_option maxRecDepth 20000 in
theorem ggX5_turn_X1_alphabetNamed : GoodIn wsX5_turn wsX1_alphabetNamed := goodIn_r _ [7, 8, 42, 43, 44, 45] (by decide +kernel) (by decide +kernel)
set_option maxRecDepth 20000 in
theorem gX5_turn_X1_alphabetNamed : GoodIn wsX5_turn (wsV RX5 43 RX1 yX1_alphabetNamed wsX1_alphabetNamed) := goodIn_app (goodIn_of _ (by decide +kernel)) ggX5_turn_X1_alphabetNamed
set_option maxRecDepth 20000 in
theorem ggX5_turn_X4_replaceBy : GoodIn wsX5_turn wsX4_replaceBy := goodIn_r _ [13, 14, 15, 16, 17, 12, 18, 19, 20, 21, 22, 23, 24, 25, 26, 27, 28, 29, 30, 31, 32, 33, 34, 46, 47, 48, 49] (by decide +kernel) (by decide +kernel)
set_option maxRecDepth 20000 in
theorem gX5_turn_X4_replaceBy : GoodIn wsX5_turn (wsV RX5 143 RX4 yX4_replaceBy wsX4_replaceBy) := goodIn_app (goodIn_of _ (by decide +kernel)) ggX5_turn_X4_replaceBy
theorem dX5_turn_0 : decode cX5_turn 0 = .ok (.aload_n 0, 1) := by decide +kernel
theorem dX5_turn_1 : decode cX5_turn 1 = .ok (.getfield 10, 3) := by decide +kernel
theorem dX5_turn_4 : decode cX5_turn 4 = .ok (.iload_n 1, 1) := by decide +kernel
theorem dX5_turn_5 : decode cX5_turn 5 = .ok (.i2l, 1) := by decide +kernel
theorem dX5_turn_6 : decode cX5_turn 6 = .ok (.invokevirtual 43, 3) := by decide +kernel
theorem dX5_turn_9 : decode cX5_turn 9 = .ok (.astore_n 2, 1) := by decide +kernel
theorem dX5_turn_10 : decode cX5_turn 10 = .ok (.aload_n 2, 1) := by decide +kernel
theorem dX5_turn_11 : decode cX5_turn 11 = .ok (.ifnonnull 6, 3) := by decide +kernel
theorem dX5_turn_14 : decode cX5_turn 14 = .ok (.bipush (-101), 2) := by decide +kernel
theorem dX5_turn_16 : decode cX5_turn 16 = .ok (.ireturn, 1) := by decide +kernel
theorem dX5_turn_17 : decode cX5_turn 17 = .ok (.aload_n 0, 1) := by decide +kernel
theorem dX5_turn_18 : decode cX5_turn 18 = .ok (.getfield 19, 3) := by decide +kernel
theorem dX5_turn_21 : decode cX5_turn 21 = .ok (.aload_n 2, 1) := by decide +kernel
theorem dX5_turn_22 : decode cX5_turn 22 = .ok (.invokevirtual 143, 3) := by decide +kernel
theorem dX5_turn_25 : decode cX5_turn 25 = .ok (.ireturn, 1) := by decide +kernel
set_option maxRecDepth 20000 in
theorem ggX5_depth_X4_become : GoodIn wsX5_depth wsX4_become := goodIn_r _ [7, 8, 9, 10, 6, 11, 12, 13, 14, 15, 16, 17, 18, 19, 20, 21, 22, 23, 24, 25, 62, 63] (by decide +kernel) (by decide +kernel)
set_option maxRecDepth 20000 in
theorem gX5_depth_X4_become : GoodIn wsX5_depth (wsV RX5 129 RX4 yX4_become wsX4_become) := goodIn_app (goodIn_of _ (by decide +kernel)) ggX5_depth_X4_become
set_option maxRecDepth 20000 in
theorem ggX5_depth_X5_depthSpent : GoodIn wsX5_depth wsX5_depthSpent := goodIn_r _ [29, 30, 14, 15, 6, 16, 12, 31, 32, 33, 34, 35, 36, 37, 38, 17, 18, 19, 20, 21, 39, 40, 41, 42, 43, 44, 45, 46, 47, 48, 49, 50, 51, 52, 53, 54, 62, 63] (by decide +kernel) (by decide +kernel)
set_option maxRecDepth 20000 in
theorem gX5_depth_X5_depthSpent : GoodIn wsX5_depth (va_wsS RX5 147 yX5_depthSpent wsX5_depthSpent) := goodIn_app (goodIn_of _ (by decide +kernel)) ggX5_depth_X5_depthSpent
theorem dX5_depth_0 : decode cX5_depth 0 = .ok (.iload_n 1, 1) := by decide +kernel
theorem dX5_depth_1 : decode cX5_depth 1 = .ok (.iconst 2, 1) := by decide +kernel
theorem dX5_depth_2 : decode cX5_depth 2 = .ok (.if_icmp .lt 9, 3) := by decide +kernel
theorem dX5_depth_5 : decode cX5_depth 5 = .ok (.iload_n 1, 1) := by decide +kernel
theorem dX5_depth_6 : decode cX5_depth 6 = .ok (.bipush 6, 2) := by decide +kernel
theorem dX5_depth_8 : decode cX5_depth 8 = .ok (.if_icmp .le 6, 3) := by decide +kernel
theorem dX5_depth_11 : decode cX5_depth 11 = .ok (.bipush (-102), 2) := by decide +kernel
theorem dX5_depth_13 : decode cX5_depth 13 = .ok (.ireturn, 1) := by decide +kernel
theorem dX5_depth_14 : decode cX5_depth 14 = .ok (.aload_n 0, 1) := by decide +kernel
theorem dX5_depth_15 : decode cX5_depth 15 = .ok (.getfield 23, 3) := by decide +kernel
theorem dX5_depth_18 : decode cX5_depth 18 = .ok (.aload_n 0, 1) := by decide +kernel
theorem dX5_depth_19 : decode cX5_depth 19 = .ok (.getfield 19, 3) := by decide +kernel
theorem dX5_depth_22 : decode cX5_depth 22 = .ok (.invokevirtual 129, 3) := by decide +kernel
theorem dX5_depth_25 : decode cX5_depth 25 = .ok (.aload_n 0, 1) := by decide +kernel
theorem dX5_depth_26 : decode cX5_depth 26 = .ok (.getfield 23, 3) := by decide +kernel
theorem dX5_depth_29 : decode cX5_depth 29 = .ok (.iload_n 1, 1) := by decide +kernel
theorem dX5_depth_30 : decode cX5_depth 30 = .ok (.invokestatic 147, 3) := by decide +kernel
theorem dX5_depth_33 : decode cX5_depth 33 = .ok (.ireturn, 1) := by decide +kernel
set_option maxRecDepth 20000 in
theorem ggX5_many_X5_manyMost : GoodIn wsX5_many wsX5_manyMost := goodIn_r _ [7] (by decide +kernel) (by decide +kernel)
set_option maxRecDepth 20000 in
theorem gX5_many_X5_manyMost : GoodIn wsX5_many (va_wsS RX5 151 yX5_manyMost wsX5_manyMost) := goodIn_app (goodIn_of _ (by decide +kernel)) ggX5_many_X5_manyMost
set_option maxRecDepth 20000 in
theorem ggX5_many_X5_isOutside : GoodIn wsX5_many wsX5_isOutside := goodIn_r _ [10] (by decide +kernel) (by decide +kernel)
set_option maxRecDepth 20000 in
theorem gX5_many_X5_isOutside : GoodIn wsX5_many (va_wsS RX5 68 yX5_isOutside wsX5_isOutside) := goodIn_app (goodIn_of _ (by decide +kernel)) ggX5_many_X5_isOutside
set_option maxRecDepth 20000 in
theorem ggX5_many_X4_empty : GoodIn wsX5_many wsX4_empty := goodIn_r _ [15, 16, 79, 80] (by decide +kernel) (by decide +kernel)
set_option maxRecDepth 20000 in
theorem gX5_many_X4_empty : GoodIn wsX5_many (wsV RX5 109 RX4 yX4_empty wsX4_empty) := goodIn_app (goodIn_of _ (by decide +kernel)) ggX5_many_X4_empty
set_option maxRecDepth 20000 in
theorem ggX5_many_X5_standing : GoodIn wsX5_many wsX5_standing := goodIn_r _ [19, 20, 21, 22, 14, 23, 24, 12, 13, 15, 16, 25, 26, 27, 28, 29, 30, 31, 32, 33, 34, 35, 36, 37, 38, 39, 6, 40, 41, 42, 43, 44, 45, 46, 47, 48, 49, 50, 51, 52, 53, 54, 55, 56, 57, 58, 59, 60, 61, 62, 63, 64, 65, 66, 67, 17, 18, 68, 69, 70, 71, 79, 80] (by decide +kernel) (by decide +kernel)
set_option maxRecDepth 20000 in
theorem gX5_many_X5_standing : GoodIn wsX5_many (va_wsS RX5 154 yX5_standing wsX5_standing) := goodIn_app (goodIn_of _ (by decide +kernel)) ggX5_many_X5_standing
theorem dX5_many_0 : decode cX5_many 0 = .ok (.iload_n 1, 1) := by decide +kernel
theorem dX5_many_1 : decode cX5_many 1 = .ok (.iload_n 2, 1) := by decide +kernel
theorem dX5_many_2 : decode cX5_many 2 = .ok (.invokestatic 151, 3) := by decide +kernel
theorem dX5_many_5 : decode cX5_many 5 = .ok (.invokestatic 68, 3) := by decide +kernel
theorem dX5_many_8 : decode cX5_many 8 = .ok (.ifCond .eq 6, 3) := by decide +kernel
theorem dX5_many_11 : decode cX5_many 11 = .ok (.bipush (-102), 2) := by decide +kernel
theorem dX5_many_13 : decode cX5_many 13 = .ok (.ireturn, 1) := by decide +kernel
theorem dX5_many_14 : decode cX5_many 14 = .ok (.aload_n 0, 1) := by decide +kernel
theorem dX5_many_15 : decode cX5_many 15 = .ok (.getfield 36, 3) := by decide +kernel
theorem dX5_many_18 : decode cX5_many 18 = .ok (.bipush 10, 2) := by decide +kernel
theorem dX5_many_20 : decode cX5_many 20 = .ok (.if_icmp .lt 6, 3) := by decide +kernel
theorem dX5_many_23 : decode cX5_many 23 = .ok (.bipush (-103), 2) := by decide +kernel
theorem dX5_many_25 : decode cX5_many 25 = .ok (.ireturn, 1) := by decide +kernel
theorem dX5_many_26 : decode cX5_many 26 = .ok (.aload_n 0, 1) := by decide +kernel
theorem dX5_many_27 : decode cX5_many 27 = .ok (.dup, 1) := by decide +kernel
theorem dX5_many_28 : decode cX5_many 28 = .ok (.getfield 36, 3) := by decide +kernel
theorem dX5_many_31 : decode cX5_many 31 = .ok (.iconst 1, 1) := by decide +kernel
theorem dX5_many_32 : decode cX5_many 32 = .ok (.iadd, 1) := by decide +kernel
theorem dX5_many_33 : decode cX5_many 33 = .ok (.putfield 36, 3) := by decide +kernel
theorem dX5_many_36 : decode cX5_many 36 = .ok (.aload_n 0, 1) := by decide +kernel
theorem dX5_many_37 : decode cX5_many 37 = .ok (.getfield 26, 3) := by decide +kernel
theorem dX5_many_40 : decode cX5_many 40 = .ok (.invokevirtual 109, 3) := by decide +kernel
theorem dX5_many_43 : decode cX5_many 43 = .ok (.aload_n 0, 1) := by decide +kernel
theorem dX5_many_44 : decode cX5_many 44 = .ok (.getfield 26, 3) := by decide +kernel
theorem dX5_many_47 : decode cX5_many 47 = .ok (.aload_n 0, 1) := by decide +kernel
theorem dX5_many_48 : decode cX5_many 48 = .ok (.getfield 23, 3) := by decide +kernel
theorem dX5_many_51 : decode cX5_many 51 = .ok (.iload_n 1, 1) := by decide +kernel
theorem dX5_many_52 : decode cX5_many 52 = .ok (.iconst 0, 1) := by decide +kernel
theorem dX5_many_53 : decode cX5_many 53 = .ok (.iconst 1, 1) := by decide +kernel
theorem dX5_many_54 : decode cX5_many 54 = .ok (.iload_n 2, 1) := by decide +kernel
theorem dX5_many_55 : decode cX5_many 55 = .ok (.invokestatic 154, 3) := by decide +kernel
theorem dX5_many_58 : decode cX5_many 58 = .ok (.ireturn, 1) := by decide +kernel
set_option maxRecDepth 20000 in
theorem ggX5_isMirror_X4_isSameMirrored : GoodIn wsX5_isMirror wsX4_isSameMirrored := goodIn_r _ [6, 7, 8, 9, 10, 5, 11, 12, 20, 21] (by decide +kernel) (by decide +kernel)
set_option maxRecDepth 20000 in
theorem gX5_isMirror_X4_isSameMirrored : GoodIn wsX5_isMirror (wsV RX5 158 RX4 yX4_isSameMirrored wsX4_isSameMirrored) := goodIn_app (goodIn_of _ (by decide +kernel)) ggX5_isMirror_X4_isSameMirrored
theorem dX5_isMirror_0 : decode cX5_isMirror 0 = .ok (.aload_n 0, 1) := by decide +kernel
theorem dX5_isMirror_1 : decode cX5_isMirror 1 = .ok (.getfield 19, 3) := by decide +kernel
theorem dX5_isMirror_4 : decode cX5_isMirror 4 = .ok (.invokevirtual 158, 3) := by decide +kernel
theorem dX5_isMirror_7 : decode cX5_isMirror 7 = .ok (.ifCond .eq 7, 3) := by decide +kernel
theorem dX5_isMirror_10 : decode cX5_isMirror 10 = .ok (.iconst 1, 1) := by decide +kernel
theorem dX5_isMirror_11 : decode cX5_isMirror 11 = .ok (.goto 4, 3) := by decide +kernel
theorem dX5_isMirror_14 : decode cX5_isMirror 14 = .ok (.iconst 0, 1) := by decide +kernel
theorem dX5_isMirror_15 : decode cX5_isMirror 15 = .ok (.ireturn, 1) := by decide +kernel
set_option maxRecDepth 20000 in
theorem ggX5_twice_X4_leastTwice : GoodIn wsX5_twice wsX4_leastTwice := goodIn_r _ [6, 7, 8, 9, 10, 5, 11, 12, 13, 14, 15, 16, 24, 25] (by decide +kernel) (by decide +kernel)
set_option maxRecDepth 20000 in
theorem gX5_twice_X4_leastTwice : GoodIn wsX5_twice (wsV RX5 162 RX4 yX4_leastTwice wsX4_leastTwice) := goodIn_app (goodIn_of _ (by decide +kernel)) ggX5_twice_X4_leastTwice
theorem dX5_twice_0 : decode cX5_twice 0 = .ok (.aload_n 0, 1) := by decide +kernel
theorem dX5_twice_1 : decode cX5_twice 1 = .ok (.getfield 19, 3) := by decide +kernel
theorem dX5_twice_4 : decode cX5_twice 4 = .ok (.invokevirtual 162, 3) := by decide +kernel
theorem dX5_twice_7 : decode cX5_twice 7 = .ok (.ireturn, 1) := by decide +kernel
set_option maxRecDepth 20000 in
theorem ggX5_find_X1_hasRow : GoodIn wsX5_find wsX1_hasRow := goodIn_r _ [8, 9, 10, 117, 118, 119, 120] (by decide +kernel) (by decide +kernel)
set_option maxRecDepth 20000 in
theorem gX5_find_X1_hasRow : GoodIn wsX5_find (wsV RX5 64 RX1 yX1_hasRow wsX1_hasRow) := goodIn_app (goodIn_of _ (by decide +kernel)) ggX5_find_X1_hasRow
set_option maxRecDepth 20000 in
theorem ggX5_find_X5_isOutside : GoodIn wsX5_find wsX5_isOutside := goodIn_r _ [14] (by decide +kernel) (by decide +kernel)
set_option maxRecDepth 20000 in
theorem gX5_find_X5_isOutside : GoodIn wsX5_find (va_wsS RX5 68 yX5_isOutside wsX5_isOutside) := goodIn_app (goodIn_of _ (by decide +kernel)) ggX5_find_X5_isOutside
set_option maxRecDepth 20000 in
theorem ggX5_find_X1_rowOf : GoodIn wsX5_find wsX1_rowOf := goodIn_r _ [18, 10, 19, 20, 5, 6, 7, 8, 9, 21, 22, 23, 24, 25, 26, 27, 28, 29, 30, 31, 32, 33, 34, 35, 36, 37, 38, 39, 40, 41, 42, 43, 44, 45, 46, 47, 48, 49, 50, 51, 52, 53, 54, 55, 56, 57, 58, 59, 60, 61, 62, 63, 64, 65, 66, 67, 68, 69, 70, 71, 72, 73, 74, 75, 76, 77, 78, 13, 79, 80, 81, 82, 83, 84, 85, 86, 87, 88, 89, 90, 91, 92, 93, 117, 118, 119, 120, 121, 122, 123, 124, 125, 126] (by decide +kernel) (by decide +kernel)
set_option maxRecDepth 20000 in
theorem gX5_find_X1_rowOf : GoodIn wsX5_find (wsV RX5 72 RX1 yX1_rowOf wsX1_rowOf) := goodIn_app (goodIn_of _ (by decide +kernel)) ggX5_find_X1_rowOf
set_option maxRecDepth 20000 in
theorem ggX5_find_X4_size : GoodIn wsX5_find wsX4_size := goodIn_r _ [98, 99, 127, 128] (by decide +kernel) (by decide +kernel)
set_option maxRecDepth 20000 in
theorem gX5_find_X4_size : GoodIn wsX5_find (wsV RX5 105 RX4 yX4_size wsX4_size) := goodIn_app (goodIn_of _ (by decide +kernel)) ggX5_find_X4_size
set_option maxRecDepth 20000 in
theorem ggX5_find_X2_holds : GoodIn wsX5_find wsX2_holds := goodIn_r _ [103, 104, 95, 96, 97, 98, 99, 92, 70, 71, 24, 72, 26, 73, 105, 106, 107, 108, 109, 127, 128, 121, 122, 123, 124] (by decide +kernel) (by decide +kernel)
set_option maxRecDepth 20000 in
theorem gX5_find_X2_holds : GoodIn wsX5_find (wsV RX5 165 RX2 yX2_holds wsX2_holds) := goodIn_app (goodIn_of _ (by decide +kernel)) ggX5_find_X2_holds
theorem dX5_find_0 : decode cX5_find 0 = .ok (.aload_n 0, 1) := by decide +kernel
theorem dX5_find_1 : decode cX5_find 1 = .ok (.getfield 10, 3) := by decide +kernel
theorem dX5_find_4 : decode cX5_find 4 = .ok (.iload_n 1, 1) := by decide +kernel
theorem dX5_find_5 : decode cX5_find 5 = .ok (.invokevirtual 64, 3) := by decide +kernel
theorem dX5_find_8 : decode cX5_find 8 = .ok (.ifCond .ne 6, 3) := by decide +kernel
theorem dX5_find_11 : decode cX5_find 11 = .ok (.bipush (-101), 2) := by decide +kernel
theorem dX5_find_13 : decode cX5_find 13 = .ok (.ireturn, 1) := by decide +kernel
theorem dX5_find_14 : decode cX5_find 14 = .ok (.iload_n 2, 1) := by decide +kernel
theorem dX5_find_15 : decode cX5_find 15 = .ok (.ldc 67, 2) := by decide +kernel
theorem dX5_find_17 : decode cX5_find 17 = .ok (.invokestatic 68, 3) := by decide +kernel
theorem dX5_find_20 : decode cX5_find 20 = .ok (.ifCond .ne 12, 3) := by decide +kernel
theorem dX5_find_23 : decode cX5_find 23 = .ok (.iload_n 3, 1) := by decide +kernel
theorem dX5_find_24 : decode cX5_find 24 = .ok (.ldc 67, 2) := by decide +kernel
theorem dX5_find_26 : decode cX5_find 26 = .ok (.invokestatic 68, 3) := by decide +kernel
theorem dX5_find_29 : decode cX5_find 29 = .ok (.ifCond .eq 6, 3) := by decide +kernel
theorem dX5_find_32 : decode cX5_find 32 = .ok (.bipush (-102), 2) := by decide +kernel
theorem dX5_find_34 : decode cX5_find 34 = .ok (.ireturn, 1) := by decide +kernel
theorem dX5_find_35 : decode cX5_find 35 = .ok (.aload_n 0, 1) := by decide +kernel
theorem dX5_find_36 : decode cX5_find 36 = .ok (.getfield 10, 3) := by decide +kernel
theorem dX5_find_39 : decode cX5_find 39 = .ok (.iload_n 1, 1) := by decide +kernel
theorem dX5_find_40 : decode cX5_find 40 = .ok (.iload_n 3, 1) := by decide +kernel
theorem dX5_find_41 : decode cX5_find 41 = .ok (.invokevirtual 72, 3) := by decide +kernel
theorem dX5_find_44 : decode cX5_find 44 = .ok (.astore 4, 2) := by decide +kernel
theorem dX5_find_46 : decode cX5_find 46 = .ok (.iload_n 2, 1) := by decide +kernel
theorem dX5_find_47 : decode cX5_find 47 = .ok (.istore 5, 2) := by decide +kernel
theorem dX5_find_49 : decode cX5_find 49 = .ok (.iload 5, 2) := by decide +kernel
theorem dX5_find_51 : decode cX5_find 51 = .ok (.aload_n 0, 1) := by decide +kernel
theorem dX5_find_52 : decode cX5_find 52 = .ok (.getfield 19, 3) := by decide +kernel
theorem dX5_find_55 : decode cX5_find 55 = .ok (.invokevirtual 105, 3) := by decide +kernel
theorem dX5_find_58 : decode cX5_find 58 = .ok (.iadd, 1) := by decide +kernel
theorem dX5_find_59 : decode cX5_find 59 = .ok (.iload_n 3, 1) := by decide +kernel
theorem dX5_find_60 : decode cX5_find 60 = .ok (.if_icmp .gt 26, 3) := by decide +kernel
theorem dX5_find_63 : decode cX5_find 63 = .ok (.aload 4, 2) := by decide +kernel
theorem dX5_find_65 : decode cX5_find 65 = .ok (.aload_n 0, 1) := by decide +kernel
theorem dX5_find_66 : decode cX5_find 66 = .ok (.getfield 19, 3) := by decide +kernel
theorem dX5_find_69 : decode cX5_find 69 = .ok (.iload 5, 2) := by decide +kernel
theorem dX5_find_71 : decode cX5_find 71 = .ok (.invokevirtual 165, 3) := by decide +kernel
theorem dX5_find_74 : decode cX5_find 74 = .ok (.ifCond .eq 6, 3) := by decide +kernel
theorem dX5_find_77 : decode cX5_find 77 = .ok (.iload 5, 2) := by decide +kernel
theorem dX5_find_79 : decode cX5_find 79 = .ok (.ireturn, 1) := by decide +kernel
theorem dX5_find_80 : decode cX5_find 80 = .ok (.iinc 5 1, 3) := by decide +kernel
theorem dX5_find_83 : decode cX5_find 83 = .ok (.goto (-34), 3) := by decide +kernel
theorem dX5_find_86 : decode cX5_find 86 = .ok (.iconst (-1), 1) := by decide +kernel
theorem dX5_find_87 : decode cX5_find 87 = .ok (.ireturn, 1) := by decide +kernel
set_option maxRecDepth 20000 in
theorem ggX5_unlike_X1_hasRow : GoodIn wsX5_unlike wsX1_hasRow := goodIn_r _ [8, 9, 10, 113, 114, 115, 116] (by decide +kernel) (by decide +kernel)
set_option maxRecDepth 20000 in
theorem gX5_unlike_X1_hasRow : GoodIn wsX5_unlike (wsV RX5 64 RX1 yX1_hasRow wsX1_hasRow) := goodIn_app (goodIn_of _ (by decide +kernel)) ggX5_unlike_X1_hasRow
set_option maxRecDepth 20000 in
theorem ggX5_unlike_X5_isOutside : GoodIn wsX5_unlike wsX5_isOutside := goodIn_r _ [14] (by decide +kernel) (by decide +kernel)
set_option maxRecDepth 20000 in
theorem gX5_unlike_X5_isOutside : GoodIn wsX5_unlike (va_wsS RX5 68 yX5_isOutside wsX5_isOutside) := goodIn_app (goodIn_of _ (by decide +kernel)) ggX5_unlike_X5_isOutside
set_option maxRecDepth 20000 in
theorem ggX5_unlike_X1_rowOf : GoodIn wsX5_unlike wsX1_rowOf := goodIn_r _ [18, 10, 19, 20, 5, 6, 7, 8, 9, 21, 22, 23, 24, 25, 26, 27, 28, 29, 30, 31, 32, 33, 34, 35, 36, 37, 38, 39, 40, 41, 42, 43, 44, 45, 46, 47, 48, 49, 50, 51, 52, 53, 54, 55, 56, 57, 58, 59, 60, 61, 62, 63, 64, 65, 66, 67, 68, 69, 70, 71, 72, 73, 74, 75, 76, 77, 78, 13, 79, 80, 81, 82, 83, 84, 85, 86, 87, 88, 89, 90, 91, 92, 93, 113, 114, 115, 116, 117, 118, 119, 120, 121, 122] (by decide +kernel) (by decide +kernel)
set_option maxRecDepth 20000 in
theorem gX5_unlike_X1_rowOf : GoodIn wsX5_unlike (wsV RX5 72 RX1 yX1_rowOf wsX1_rowOf) := goodIn_app (goodIn_of _ (by decide +kernel)) ggX5_unlike_X1_rowOf
set_option maxRecDepth 20000 in
theorem ggX5_unlike_X3_unlikeWithin : GoodIn wsX5_unlike wsX3_unlikeWithin := goodIn_r _ [98, 99, 100, 70, 71, 24, 72, 26, 73, 101, 102, 103, 97, 104, 105, 123, 117, 118, 119, 120] (by decide +kernel) (by decide +kernel)
set_option maxRecDepth 20000 in
theorem gX5_unlike_X3_unlikeWithin : GoodIn wsX5_unlike (wsV RX5 169 RX3 yX3_unlikeWithin wsX3_unlikeWithin) := goodIn_app (goodIn_of _ (by decide +kernel)) ggX5_unlike_X3_unlikeWithin
theorem dX5_unlike_0 : decode cX5_unlike 0 = .ok (.aload_n 0, 1) := by decide +kernel
theorem dX5_unlike_1 : decode cX5_unlike 1 = .ok (.getfield 10, 3) := by decide +kernel
theorem dX5_unlike_4 : decode cX5_unlike 4 = .ok (.iload_n 1, 1) := by decide +kernel
theorem dX5_unlike_5 : decode cX5_unlike 5 = .ok (.invokevirtual 64, 3) := by decide +kernel
theorem dX5_unlike_8 : decode cX5_unlike 8 = .ok (.ifCond .ne 6, 3) := by decide +kernel
theorem dX5_unlike_11 : decode cX5_unlike 11 = .ok (.bipush (-101), 2) := by decide +kernel
theorem dX5_unlike_13 : decode cX5_unlike 13 = .ok (.ireturn, 1) := by decide +kernel
theorem dX5_unlike_14 : decode cX5_unlike 14 = .ok (.iload_n 2, 1) := by decide +kernel
theorem dX5_unlike_15 : decode cX5_unlike 15 = .ok (.iconst 1, 1) := by decide +kernel
theorem dX5_unlike_16 : decode cX5_unlike 16 = .ok (.if_icmp .lt 19, 3) := by decide +kernel
theorem dX5_unlike_19 : decode cX5_unlike 19 = .ok (.iload_n 2, 1) := by decide +kernel
theorem dX5_unlike_20 : decode cX5_unlike 20 = .ok (.bipush 20, 2) := by decide +kernel
theorem dX5_unlike_22 : decode cX5_unlike 22 = .ok (.if_icmp .gt 13, 3) := by decide +kernel
theorem dX5_unlike_25 : decode cX5_unlike 25 = .ok (.iload_n 3, 1) := by decide +kernel
theorem dX5_unlike_26 : decode cX5_unlike 26 = .ok (.sipush 2000, 3) := by decide +kernel
theorem dX5_unlike_29 : decode cX5_unlike 29 = .ok (.invokestatic 68, 3) := by decide +kernel
theorem dX5_unlike_32 : decode cX5_unlike 32 = .ok (.ifCond .eq 6, 3) := by decide +kernel
theorem dX5_unlike_35 : decode cX5_unlike 35 = .ok (.bipush (-102), 2) := by decide +kernel
theorem dX5_unlike_37 : decode cX5_unlike 37 = .ok (.ireturn, 1) := by decide +kernel
theorem dX5_unlike_38 : decode cX5_unlike 38 = .ok (.aload_n 0, 1) := by decide +kernel
theorem dX5_unlike_39 : decode cX5_unlike 39 = .ok (.getfield 40, 3) := by decide +kernel
theorem dX5_unlike_42 : decode cX5_unlike 42 = .ok (.bipush 40, 2) := by decide +kernel
theorem dX5_unlike_44 : decode cX5_unlike 44 = .ok (.if_icmp .lt 6, 3) := by decide +kernel
theorem dX5_unlike_47 : decode cX5_unlike 47 = .ok (.bipush (-103), 2) := by decide +kernel
theorem dX5_unlike_49 : decode cX5_unlike 49 = .ok (.ireturn, 1) := by decide +kernel
theorem dX5_unlike_50 : decode cX5_unlike 50 = .ok (.aload_n 0, 1) := by decide +kernel
theorem dX5_unlike_51 : decode cX5_unlike 51 = .ok (.dup, 1) := by decide +kernel
theorem dX5_unlike_52 : decode cX5_unlike 52 = .ok (.getfield 40, 3) := by decide +kernel
theorem dX5_unlike_55 : decode cX5_unlike 55 = .ok (.iconst 1, 1) := by decide +kernel
theorem dX5_unlike_56 : decode cX5_unlike 56 = .ok (.iadd, 1) := by decide +kernel
theorem dX5_unlike_57 : decode cX5_unlike 57 = .ok (.putfield 40, 3) := by decide +kernel
theorem dX5_unlike_60 : decode cX5_unlike 60 = .ok (.aload_n 0, 1) := by decide +kernel
theorem dX5_unlike_61 : decode cX5_unlike 61 = .ok (.getfield 32, 3) := by decide +kernel
theorem dX5_unlike_64 : decode cX5_unlike 64 = .ok (.aload_n 0, 1) := by decide +kernel
theorem dX5_unlike_65 : decode cX5_unlike 65 = .ok (.getfield 10, 3) := by decide +kernel
theorem dX5_unlike_68 : decode cX5_unlike 68 = .ok (.iload_n 1, 1) := by decide +kernel
theorem dX5_unlike_69 : decode cX5_unlike 69 = .ok (.iload_n 3, 1) := by decide +kernel
theorem dX5_unlike_70 : decode cX5_unlike 70 = .ok (.invokevirtual 72, 3) := by decide +kernel
theorem dX5_unlike_73 : decode cX5_unlike 73 = .ok (.iload_n 2, 1) := by decide +kernel
theorem dX5_unlike_74 : decode cX5_unlike 74 = .ok (.iload_n 3, 1) := by decide +kernel
theorem dX5_unlike_75 : decode cX5_unlike 75 = .ok (.invokevirtual 169, 3) := by decide +kernel
theorem dX5_unlike_78 : decode cX5_unlike 78 = .ok (.ireturn, 1) := by decide +kernel
set_option maxRecDepth 20000 in
theorem ggX5_told_X1_size : GoodIn wsX5_told wsX1_size := goodIn_r _ [10, 11, 36, 37, 38, 39] (by decide +kernel) (by decide +kernel)
set_option maxRecDepth 20000 in
theorem gX5_told_X1_size : GoodIn wsX5_told (wsV RX5 173 RX1 yX1_size wsX1_size) := goodIn_app (goodIn_of _ (by decide +kernel)) ggX5_told_X1_size
set_option maxRecDepth 20000 in
theorem ggX5_told_X4_size : GoodIn wsX5_told wsX4_size := goodIn_r _ [16, 17, 40, 41] (by decide +kernel) (by decide +kernel)
set_option maxRecDepth 20000 in
theorem gX5_told_X4_size : GoodIn wsX5_told (wsV RX5 105 RX4 yX4_size wsX4_size) := goodIn_app (goodIn_of _ (by decide +kernel)) ggX5_told_X4_size
set_option maxRecDepth 20000 in
theorem ggX5_told_X1_alphabetNamed : GoodIn wsX5_told wsX1_alphabetNamed := goodIn_r _ [21, 22, 36, 37, 38, 39] (by decide +kernel) (by decide +kernel)
set_option maxRecDepth 20000 in
theorem gX5_told_X1_alphabetNamed : GoodIn wsX5_told (wsV RX5 43 RX1 yX1_alphabetNamed wsX1_alphabetNamed) := goodIn_app (goodIn_of _ (by decide +kernel)) ggX5_told_X1_alphabetNamed
set_option maxRecDepth 20000 in
theorem ggX5_told_X0_size : GoodIn wsX5_told wsX0_size := goodIn_r _ [27, 28, 42, 43] (by decide +kernel) (by decide +kernel)
set_option maxRecDepth 20000 in
theorem gX5_told_X0_size : GoodIn wsX5_told (wsV RX5 125 RX0 yX0_size wsX0_size) := goodIn_app (goodIn_of _ (by decide +kernel)) ggX5_told_X0_size
theorem dX5_told_0 : decode cX5_told 0 = .ok (.iload_n 1, 1) := by decide +kernel
theorem dX5_told_1 : decode cX5_told 1 = .ok (.ifCond .ne 11, 3) := by decide +kernel
theorem dX5_told_4 : decode cX5_told 4 = .ok (.aload_n 0, 1) := by decide +kernel
theorem dX5_told_5 : decode cX5_told 5 = .ok (.getfield 10, 3) := by decide +kernel
theorem dX5_told_8 : decode cX5_told 8 = .ok (.invokevirtual 173, 3) := by decide +kernel
theorem dX5_told_11 : decode cX5_told 11 = .ok (.ireturn, 1) := by decide +kernel
theorem dX5_told_12 : decode cX5_told 12 = .ok (.iload_n 1, 1) := by decide +kernel
theorem dX5_told_13 : decode cX5_told 13 = .ok (.iconst 1, 1) := by decide +kernel
theorem dX5_told_14 : decode cX5_told 14 = .ok (.if_icmp .ne 11, 3) := by decide +kernel
theorem dX5_told_17 : decode cX5_told 17 = .ok (.aload_n 0, 1) := by decide +kernel
theorem dX5_told_18 : decode cX5_told 18 = .ok (.getfield 19, 3) := by decide +kernel
theorem dX5_told_21 : decode cX5_told 21 = .ok (.invokevirtual 105, 3) := by decide +kernel
theorem dX5_told_24 : decode cX5_told 24 = .ok (.ireturn, 1) := by decide +kernel
theorem dX5_told_25 : decode cX5_told 25 = .ok (.iload_n 1, 1) := by decide +kernel
theorem dX5_told_26 : decode cX5_told 26 = .ok (.iconst 2, 1) := by decide +kernel
theorem dX5_told_27 : decode cX5_told 27 = .ok (.if_icmp .ne 8, 3) := by decide +kernel
theorem dX5_told_30 : decode cX5_told 30 = .ok (.aload_n 0, 1) := by decide +kernel
theorem dX5_told_31 : decode cX5_told 31 = .ok (.getfield 36, 3) := by decide +kernel
theorem dX5_told_34 : decode cX5_told 34 = .ok (.ireturn, 1) := by decide +kernel
theorem dX5_told_35 : decode cX5_told 35 = .ok (.iload_n 1, 1) := by decide +kernel
theorem dX5_told_36 : decode cX5_told 36 = .ok (.iconst 3, 1) := by decide +kernel
theorem dX5_told_37 : decode cX5_told 37 = .ok (.if_icmp .ne 8, 3) := by decide +kernel
theorem dX5_told_40 : decode cX5_told 40 = .ok (.aload_n 0, 1) := by decide +kernel
theorem dX5_told_41 : decode cX5_told 41 = .ok (.getfield 40, 3) := by decide +kernel
theorem dX5_told_44 : decode cX5_told 44 = .ok (.ireturn, 1) := by decide +kernel
theorem dX5_told_45 : decode cX5_told 45 = .ok (.aload_n 0, 1) := by decide +kernel
theorem dX5_told_46 : decode cX5_told 46 = .ok (.getfield 10, 3) := by decide +kernel
theorem dX5_told_49 : decode cX5_told 49 = .ok (.iload_n 1, 1) := by decide +kernel
theorem dX5_told_50 : decode cX5_told 50 = .ok (.i2l, 1) := by decide +kernel
theorem dX5_told_51 : decode cX5_told 51 = .ok (.ldc2_w 174, 3) := by decide +kernel
theorem dX5_told_54 : decode cX5_told 54 = .ok (.lsub, 1) := by decide +kernel
theorem dX5_told_55 : decode cX5_told 55 = .ok (.invokevirtual 43, 3) := by decide +kernel
theorem dX5_told_58 : decode cX5_told 58 = .ok (.astore_n 2, 1) := by decide +kernel
theorem dX5_told_59 : decode cX5_told 59 = .ok (.aload_n 2, 1) := by decide +kernel
theorem dX5_told_60 : decode cX5_told 60 = .ok (.ifnonnull 8, 3) := by decide +kernel
theorem dX5_told_63 : decode cX5_told 63 = .ok (.bipush (-102), 2) := by decide +kernel
theorem dX5_told_65 : decode cX5_told 65 = .ok (.goto 7, 3) := by decide +kernel
theorem dX5_told_68 : decode cX5_told 68 = .ok (.aload_n 2, 1) := by decide +kernel
theorem dX5_told_69 : decode cX5_told 69 = .ok (.invokevirtual 125, 3) := by decide +kernel
theorem dX5_told_72 : decode cX5_told 72 = .ok (.ireturn, 1) := by decide +kernel
set_option maxRecDepth 20000 in
theorem ggX5_digest_X1_mixInto : GoodIn wsX5_digest wsX1_mixInto := goodIn_r _ [11, 12, 13, 14, 15, 16, 17, 18, 19, 20, 21, 22, 23, 24, 25, 26, 27, 47, 48, 49, 50, 51, 52] (by decide +kernel) (by decide +kernel)
set_option maxRecDepth 20000 in
theorem gX5_digest_X1_mixInto : GoodIn wsX5_digest (wsV RX5 178 RX1 yX1_mixInto wsX1_mixInto) := goodIn_app (goodIn_of _ (by decide +kernel)) ggX5_digest_X1_mixInto
set_option maxRecDepth 20000 in
theorem ggX5_digest_X4_mixInto : GoodIn wsX5_digest wsX4_mixInto := goodIn_r _ [32, 33, 34, 35, 36, 37, 31, 38, 39, 53, 54] (by decide +kernel) (by decide +kernel)
set_option maxRecDepth 20000 in
theorem gX5_digest_X4_mixInto : GoodIn wsX5_digest (wsV RX5 182 RX4 yX4_mixInto wsX4_mixInto) := goodIn_app (goodIn_of _ (by decide +kernel)) ggX5_digest_X4_mixInto
theorem dX5_digest_0 : decode cX5_digest 0 = .ok (.aload_n 0, 1) := by decide +kernel
theorem dX5_digest_1 : decode cX5_digest 1 = .ok (.getfield 10, 3) := by decide +kernel
theorem dX5_digest_4 : decode cX5_digest 4 = .ok (.ldc2_w 176, 3) := by decide +kernel
theorem dX5_digest_7 : decode cX5_digest 7 = .ok (.invokevirtual 178, 3) := by decide +kernel
theorem dX5_digest_10 : decode cX5_digest 10 = .ok (.lstore_n 1, 1) := by decide +kernel
theorem dX5_digest_11 : decode cX5_digest 11 = .ok (.aload_n 0, 1) := by decide +kernel
theorem dX5_digest_12 : decode cX5_digest 12 = .ok (.getfield 19, 3) := by decide +kernel
theorem dX5_digest_15 : decode cX5_digest 15 = .ok (.lload_n 1, 1) := by decide +kernel
theorem dX5_digest_16 : decode cX5_digest 16 = .ok (.invokevirtual 182, 3) := by decide +kernel
theorem dX5_digest_19 : decode cX5_digest 19 = .ok (.lstore_n 1, 1) := by decide +kernel
theorem dX5_digest_20 : decode cX5_digest 20 = .ok (.ldc2_w 183, 3) := by decide +kernel
theorem dX5_digest_23 : decode cX5_digest 23 = .ok (.lload_n 1, 1) := by decide +kernel
theorem dX5_digest_24 : decode cX5_digest 24 = .ok (.lmul, 1) := by decide +kernel
theorem dX5_digest_25 : decode cX5_digest 25 = .ok (.aload_n 0, 1) := by decide +kernel
theorem dX5_digest_26 : decode cX5_digest 26 = .ok (.getfield 36, 3) := by decide +kernel
theorem dX5_digest_29 : decode cX5_digest 29 = .ok (.i2l, 1) := by decide +kernel
theorem dX5_digest_30 : decode cX5_digest 30 = .ok (.ladd, 1) := by decide +kernel
theorem dX5_digest_31 : decode cX5_digest 31 = .ok (.lstore_n 1, 1) := by decide +kernel
theorem dX5_digest_32 : decode cX5_digest 32 = .ok (.ldc2_w 183, 3) := by decide +kernel
theorem dX5_digest_35 : decode cX5_digest 35 = .ok (.lload_n 1, 1) := by decide +kernel
theorem dX5_digest_36 : decode cX5_digest 36 = .ok (.lmul, 1) := by decide +kernel
theorem dX5_digest_37 : decode cX5_digest 37 = .ok (.aload_n 0, 1) := by decide +kernel
theorem dX5_digest_38 : decode cX5_digest 38 = .ok (.getfield 40, 3) := by decide +kernel
theorem dX5_digest_41 : decode cX5_digest 41 = .ok (.i2l, 1) := by decide +kernel
theorem dX5_digest_42 : decode cX5_digest 42 = .ok (.ladd, 1) := by decide +kernel
theorem dX5_digest_43 : decode cX5_digest 43 = .ok (.lreturn, 1) := by decide +kernel
theorem dX5_isOutside_0 : decode cX5_isOutside 0 = .ok (.iload_n 0, 1) := by decide +kernel
theorem dX5_isOutside_1 : decode cX5_isOutside 1 = .ok (.ifCond .lt 8, 3) := by decide +kernel
theorem dX5_isOutside_4 : decode cX5_isOutside 4 = .ok (.iload_n 0, 1) := by decide +kernel
theorem dX5_isOutside_5 : decode cX5_isOutside 5 = .ok (.iload_n 1, 1) := by decide +kernel
theorem dX5_isOutside_6 : decode cX5_isOutside 6 = .ok (.if_icmp .le 7, 3) := by decide +kernel
theorem dX5_isOutside_9 : decode cX5_isOutside 9 = .ok (.iconst 1, 1) := by decide +kernel
theorem dX5_isOutside_10 : decode cX5_isOutside 10 = .ok (.goto 4, 3) := by decide +kernel
theorem dX5_isOutside_13 : decode cX5_isOutside 13 = .ok (.iconst 0, 1) := by decide +kernel
theorem dX5_isOutside_14 : decode cX5_isOutside 14 = .ok (.ireturn, 1) := by decide +kernel
theorem dX5_isLetter_0 : decode cX5_isLetter 0 = .ok (.iload_n 0, 1) := by decide +kernel
theorem dX5_isLetter_1 : decode cX5_isLetter 1 = .ok (.iconst 1, 1) := by decide +kernel
theorem dX5_isLetter_2 : decode cX5_isLetter 2 = .ok (.if_icmp .lt 13, 3) := by decide +kernel
theorem dX5_isLetter_5 : decode cX5_isLetter 5 = .ok (.iload_n 0, 1) := by decide +kernel
theorem dX5_isLetter_6 : decode cX5_isLetter 6 = .ok (.bipush 6, 2) := by decide +kernel
theorem dX5_isLetter_8 : decode cX5_isLetter 8 = .ok (.if_icmp .gt 7, 3) := by decide +kernel
theorem dX5_isLetter_11 : decode cX5_isLetter 11 = .ok (.iconst 1, 1) := by decide +kernel
theorem dX5_isLetter_12 : decode cX5_isLetter 12 = .ok (.goto 4, 3) := by decide +kernel
theorem dX5_isLetter_15 : decode cX5_isLetter 15 = .ok (.iconst 0, 1) := by decide +kernel
theorem dX5_isLetter_16 : decode cX5_isLetter 16 = .ok (.ireturn, 1) := by decide +kernel
theorem dX5_manyMost_0 : decode cX5_manyMost 0 = .ok (.iload_n 0, 1) := by decide +kernel
theorem dX5_manyMost_1 : decode cX5_manyMost 1 = .ok (.iconst 2, 1) := by decide +kernel
theorem dX5_manyMost_2 : decode cX5_manyMost 2 = .ok (.if_icmp .ne 6, 3) := by decide +kernel
theorem dX5_manyMost_5 : decode cX5_manyMost 5 = .ok (.bipush 14, 2) := by decide +kernel
theorem dX5_manyMost_7 : decode cX5_manyMost 7 = .ok (.ireturn, 1) := by decide +kernel
theorem dX5_manyMost_8 : decode cX5_manyMost 8 = .ok (.iload_n 0, 1) := by decide +kernel
theorem dX5_manyMost_9 : decode cX5_manyMost 9 = .ok (.iconst 3, 1) := by decide +kernel
theorem dX5_manyMost_10 : decode cX5_manyMost 10 = .ok (.if_icmp .ne 6, 3) := by decide +kernel
theorem dX5_manyMost_13 : decode cX5_manyMost 13 = .ok (.bipush 9, 2) := by decide +kernel
theorem dX5_manyMost_15 : decode cX5_manyMost 15 = .ok (.ireturn, 1) := by decide +kernel
theorem dX5_manyMost_16 : decode cX5_manyMost 16 = .ok (.iconst (-1), 1) := by decide +kernel
theorem dX5_manyMost_17 : decode cX5_manyMost 17 = .ok (.ireturn, 1) := by decide +kernel
set_option maxRecDepth 20000 in
theorem ggX5_depthSpent_X4_size : GoodIn wsX5_depthSpent wsX4_size := goodIn_r _ [5, 6, 36, 37] (by decide +kernel) (by decide +kernel)
set_option maxRecDepth 20000 in
theorem gX5_depthSpent_X4_size : GoodIn wsX5_depthSpent (wsV RX5 105 RX4 yX4_size wsX4_size) := goodIn_app (goodIn_of _ (by decide +kernel)) ggX5_depthSpent_X4_size
set_option maxRecDepth 20000 in
theorem ggX5_depthSpent_X4_greatestLetter : GoodIn wsX5_depthSpent wsX4_greatestLetter := goodIn_r _ [10, 6, 11, 12, 13, 14, 15, 16, 17, 4, 18, 19, 36, 37] (by decide +kernel) (by decide +kernel)
set_option maxRecDepth 20000 in
theorem gX5_depthSpent_X4_greatestLetter : GoodIn wsX5_depthSpent (wsV RX5 185 RX4 yX4_greatestLetter wsX4_greatestLetter) := goodIn_app (goodIn_of _ (by decide +kernel)) ggX5_depthSpent_X4_greatestLetter
set_option maxRecDepth 20000 in
theorem ggX5_depthSpent_X4_longestRun : GoodIn wsX5_depthSpent wsX4_longestRun := goodIn_r _ [23, 6, 11, 12, 13, 14, 24, 25, 26, 4, 27, 15, 16, 17, 18, 19, 36, 37] (by decide +kernel) (by decide +kernel)
set_option maxRecDepth 20000 in
theorem gX5_depthSpent_X4_longestRun : GoodIn wsX5_depthSpent (wsV RX5 118 RX4 yX4_longestRun wsX4_longestRun) := goodIn_app (goodIn_of _ (by decide +kernel)) ggX5_depthSpent_X4_longestRun
set_option maxRecDepth 20000 in
theorem ggX5_depthSpent_X4_becomeShorter : GoodIn wsX5_depthSpent wsX4_becomeShorter := goodIn_r _ [31, 6, 24, 25, 26, 4, 27, 15, 16, 17, 18, 19, 32, 33, 34, 35, 36, 37] (by decide +kernel) (by decide +kernel)
set_option maxRecDepth 20000 in
theorem gX5_depthSpent_X4_becomeShorter : GoodIn wsX5_depthSpent (wsV RX5 121 RX4 yX4_becomeShorter wsX4_becomeShorter) := goodIn_app (goodIn_of _ (by decide +kernel)) ggX5_depthSpent_X4_becomeShorter
theorem dX5_depthSpent_0 : decode cX5_depthSpent 0 = .ok (.iconst 0, 1) := by decide +kernel
theorem dX5_depthSpent_1 : decode cX5_depthSpent 1 = .ok (.istore_n 2, 1) := by decide +kernel
theorem dX5_depthSpent_2 : decode cX5_depthSpent 2 = .ok (.iload_n 2, 1) := by decide +kernel
theorem dX5_depthSpent_3 : decode cX5_depthSpent 3 = .ok (.bipush 60, 2) := by decide +kernel
theorem dX5_depthSpent_5 : decode cX5_depthSpent 5 = .ok (.if_icmp .gt 41, 3) := by decide +kernel
theorem dX5_depthSpent_8 : decode cX5_depthSpent 8 = .ok (.aload_n 0, 1) := by decide +kernel
theorem dX5_depthSpent_9 : decode cX5_depthSpent 9 = .ok (.invokevirtual 105, 3) := by decide +kernel
theorem dX5_depthSpent_12 : decode cX5_depthSpent 12 = .ok (.ifCond .ne 5, 3) := by decide +kernel
theorem dX5_depthSpent_15 : decode cX5_depthSpent 15 = .ok (.iload_n 2, 1) := by decide +kernel
theorem dX5_depthSpent_16 : decode cX5_depthSpent 16 = .ok (.ireturn, 1) := by decide +kernel
theorem dX5_depthSpent_17 : decode cX5_depthSpent 17 = .ok (.aload_n 0, 1) := by decide +kernel
theorem dX5_depthSpent_18 : decode cX5_depthSpent 18 = .ok (.invokevirtual 185, 3) := by decide +kernel
theorem dX5_depthSpent_21 : decode cX5_depthSpent 21 = .ok (.iload_n 1, 1) := by decide +kernel
theorem dX5_depthSpent_22 : decode cX5_depthSpent 22 = .ok (.if_icmp .gt 11, 3) := by decide +kernel
theorem dX5_depthSpent_25 : decode cX5_depthSpent 25 = .ok (.aload_n 0, 1) := by decide +kernel
theorem dX5_depthSpent_26 : decode cX5_depthSpent 26 = .ok (.invokevirtual 118, 3) := by decide +kernel
theorem dX5_depthSpent_29 : decode cX5_depthSpent 29 = .ok (.iload_n 1, 1) := by decide +kernel
theorem dX5_depthSpent_30 : decode cX5_depthSpent 30 = .ok (.if_icmp .le 5, 3) := by decide +kernel
theorem dX5_depthSpent_33 : decode cX5_depthSpent 33 = .ok (.iconst (-1), 1) := by decide +kernel
theorem dX5_depthSpent_34 : decode cX5_depthSpent 34 = .ok (.ireturn, 1) := by decide +kernel
theorem dX5_depthSpent_35 : decode cX5_depthSpent 35 = .ok (.aload_n 0, 1) := by decide +kernel
theorem dX5_depthSpent_36 : decode cX5_depthSpent 36 = .ok (.iload_n 1, 1) := by decide +kernel
theorem dX5_depthSpent_37 : decode cX5_depthSpent 37 = .ok (.invokevirtual 121, 3) := by decide +kernel
theorem dX5_depthSpent_40 : decode cX5_depthSpent 40 = .ok (.iinc 2 1, 3) := by decide +kernel
theorem dX5_depthSpent_43 : decode cX5_depthSpent 43 = .ok (.goto (-41), 3) := by decide +kernel
theorem dX5_depthSpent_46 : decode cX5_depthSpent 46 = .ok (.iconst (-1), 1) := by decide +kernel
theorem dX5_depthSpent_47 : decode cX5_depthSpent 47 = .ok (.ireturn, 1) := by decide +kernel
set_option maxRecDepth 20000 in
theorem ggX5_standing_X4_become : GoodIn wsX5_standing wsX4_become := goodIn_r _ [5, 6, 7, 8, 4, 9, 10, 11, 12, 13, 14, 15, 16, 17, 18, 19, 20, 21, 22, 23, 61, 62] (by decide +kernel) (by decide +kernel)
set_option maxRecDepth 20000 in
theorem gX5_standing_X4_become : GoodIn wsX5_standing (wsV RX5 129 RX4 yX4_become wsX4_become) := goodIn_app (goodIn_of _ (by decide +kernel)) ggX5_standing_X4_become
set_option maxRecDepth 20000 in
theorem ggX5_standing_X5_depthSpent : GoodIn wsX5_standing wsX5_depthSpent := goodIn_r _ [27, 28, 12, 13, 4, 14, 10, 29, 30, 31, 32, 33, 34, 35, 36, 15, 16, 17, 18, 19, 37, 38, 39, 40, 41, 42, 43, 44, 45, 46, 47, 48, 49, 50, 51, 52, 61, 62] (by decide +kernel) (by decide +kernel)
set_option maxRecDepth 20000 in
theorem gX5_standing_X5_depthSpent : GoodIn wsX5_standing (va_wsS RX5 147 yX5_depthSpent wsX5_depthSpent) := goodIn_app (goodIn_of _ (by decide +kernel)) ggX5_standing_X5_depthSpent
set_option maxRecDepth 20000 in
theorem ggX5_standing_X4_size : GoodIn wsX5_standing wsX4_size := goodIn_r _ [14, 10, 61, 62] (by decide +kernel) (by decide +kernel)
set_option maxRecDepth 20000 in
theorem gX5_standing_X4_size : GoodIn wsX5_standing (wsV RX5 105 RX4 yX4_size wsX4_size) := goodIn_app (goodIn_of _ (by decide +kernel)) ggX5_standing_X4_size
set_option maxRecDepth 20000 in
theorem ggX5_standing_X4_letterAt : GoodIn wsX5_standing wsX4_letterAt := goodIn_r _ [18, 10, 19, 61, 62] (by decide +kernel) (by decide +kernel)
set_option maxRecDepth 20000 in
theorem gX5_standing_X4_letterAt : GoodIn wsX5_standing (wsV RX5 112 RX4 yX4_letterAt wsX4_letterAt) := goodIn_app (goodIn_of _ (by decide +kernel)) ggX5_standing_X4_letterAt
set_option maxRecDepth 20000 in
theorem ggX5_standing_X4_put : GoodIn wsX5_standing wsX4_put := goodIn_r _ [23, 10, 19, 61, 62] (by decide +kernel) (by decide +kernel)
set_option maxRecDepth 20000 in
theorem gX5_standing_X4_put : GoodIn wsX5_standing (wsV RX5 102 RX4 yX4_put wsX4_put) := goodIn_app (goodIn_of _ (by decide +kernel)) ggX5_standing_X4_put
set_option maxRecDepth 20000 in
theorem ggX5_standing_X5_standing : GoodIn wsX5_standing wsX5_standing := goodIn_r _ [0, 1, 2, 3, 4, 5, 6, 7, 8, 9, 10, 11, 12, 13, 14, 15, 16, 17, 18, 19, 20, 21, 22, 23, 24, 25, 26, 27, 28, 29, 30, 31, 32, 33, 34, 35, 36, 37, 38, 39, 40, 41, 42, 43, 44, 45, 46, 47, 48, 49, 50, 51, 52, 53, 54, 55, 56, 57, 58, 59, 60, 61, 62] (by decide +kernel) (by decide +kernel)
set_option maxRecDepth 20000 in
theorem gX5_standing_X5_standing : GoodIn wsX5_standing (va_wsS RX5 154 yX5_standing wsX5_standing) := goodIn_app (goodIn_of _ (by decide +kernel)) ggX5_standing_X5_standing
set_option maxRecDepth 20000 in
theorem ggX5_standing_X4_drop : GoodIn wsX5_standing wsX4_drop := goodIn_r _ [60, 10, 61, 62] (by decide +kernel) (by decide +kernel)
set_option maxRecDepth 20000 in
theorem gX5_standing_X4_drop : GoodIn wsX5_standing (wsV RX5 188 RX4 yX4_drop wsX4_drop) := goodIn_app (goodIn_of _ (by decide +kernel)) ggX5_standing_X4_drop
theorem dX5_standing_0 : decode cX5_standing 0 = .ok (.iload_n 2, 1) := by decide +kernel
theorem dX5_standing_1 : decode cX5_standing 1 = .ok (.ifCond .gt 25, 3) := by decide +kernel
theorem dX5_standing_4 : decode cX5_standing 4 = .ok (.aload_n 1, 1) := by decide +kernel
theorem dX5_standing_5 : decode cX5_standing 5 = .ok (.aload_n 0, 1) := by decide +kernel
theorem dX5_standing_6 : decode cX5_standing 6 = .ok (.invokevirtual 129, 3) := by decide +kernel
theorem dX5_standing_9 : decode cX5_standing 9 = .ok (.aload_n 1, 1) := by decide +kernel
theorem dX5_standing_10 : decode cX5_standing 10 = .ok (.iload 5, 2) := by decide +kernel
theorem dX5_standing_12 : decode cX5_standing 12 = .ok (.invokestatic 147, 3) := by decide +kernel
theorem dX5_standing_15 : decode cX5_standing 15 = .ok (.iconst (-1), 1) := by decide +kernel
theorem dX5_standing_16 : decode cX5_standing 16 = .ok (.if_icmp .ne 7, 3) := by decide +kernel
theorem dX5_standing_19 : decode cX5_standing 19 = .ok (.iconst 0, 1) := by decide +kernel
theorem dX5_standing_20 : decode cX5_standing 20 = .ok (.goto 5, 3) := by decide +kernel
theorem dX5_standing_23 : decode cX5_standing 23 = .ok (.iload 4, 2) := by decide +kernel
theorem dX5_standing_25 : decode cX5_standing 25 = .ok (.ireturn, 1) := by decide +kernel
theorem dX5_standing_26 : decode cX5_standing 26 = .ok (.iconst 0, 1) := by decide +kernel
theorem dX5_standing_27 : decode cX5_standing 27 = .ok (.istore 6, 2) := by decide +kernel
theorem dX5_standing_29 : decode cX5_standing 29 = .ok (.aload_n 0, 1) := by decide +kernel
theorem dX5_standing_30 : decode cX5_standing 30 = .ok (.aload_n 0, 1) := by decide +kernel
theorem dX5_standing_31 : decode cX5_standing 31 = .ok (.invokevirtual 105, 3) := by decide +kernel
theorem dX5_standing_34 : decode cX5_standing 34 = .ok (.iconst 1, 1) := by decide +kernel
theorem dX5_standing_35 : decode cX5_standing 35 = .ok (.isub, 1) := by decide +kernel
theorem dX5_standing_36 : decode cX5_standing 36 = .ok (.invokevirtual 112, 3) := by decide +kernel
theorem dX5_standing_39 : decode cX5_standing 39 = .ok (.istore 7, 2) := by decide +kernel
theorem dX5_standing_41 : decode cX5_standing 41 = .ok (.iload 7, 2) := by decide +kernel
theorem dX5_standing_43 : decode cX5_standing 43 = .ok (.iconst (-1), 1) := by decide +kernel
theorem dX5_standing_44 : decode cX5_standing 44 = .ok (.if_icmp .eq 42, 3) := by decide +kernel
theorem dX5_standing_47 : decode cX5_standing 47 = .ok (.iload_n 3, 1) := by decide +kernel
theorem dX5_standing_48 : decode cX5_standing 48 = .ok (.iload 5, 2) := by decide +kernel
theorem dX5_standing_50 : decode cX5_standing 50 = .ok (.if_icmp .ge 36, 3) := by decide +kernel
theorem dX5_standing_53 : decode cX5_standing 53 = .ok (.aload_n 0, 1) := by decide +kernel
theorem dX5_standing_54 : decode cX5_standing 54 = .ok (.iload 7, 2) := by decide +kernel
theorem dX5_standing_56 : decode cX5_standing 56 = .ok (.invokevirtual 102, 3) := by decide +kernel
theorem dX5_standing_59 : decode cX5_standing 59 = .ok (.ifCond .eq 27, 3) := by decide +kernel
theorem dX5_standing_62 : decode cX5_standing 62 = .ok (.iload 6, 2) := by decide +kernel
theorem dX5_standing_64 : decode cX5_standing 64 = .ok (.aload_n 0, 1) := by decide +kernel
theorem dX5_standing_65 : decode cX5_standing 65 = .ok (.aload_n 1, 1) := by decide +kernel
theorem dX5_standing_66 : decode cX5_standing 66 = .ok (.iload_n 2, 1) := by decide +kernel
theorem dX5_standing_67 : decode cX5_standing 67 = .ok (.iconst 1, 1) := by decide +kernel
theorem dX5_standing_68 : decode cX5_standing 68 = .ok (.isub, 1) := by decide +kernel
theorem dX5_standing_69 : decode cX5_standing 69 = .ok (.iload_n 3, 1) := by decide +kernel
theorem dX5_standing_70 : decode cX5_standing 70 = .ok (.iconst 1, 1) := by decide +kernel
theorem dX5_standing_71 : decode cX5_standing 71 = .ok (.iadd, 1) := by decide +kernel
theorem dX5_standing_72 : decode cX5_standing 72 = .ok (.iload 4, 2) := by decide +kernel
theorem dX5_standing_74 : decode cX5_standing 74 = .ok (.iload 5, 2) := by decide +kernel
theorem dX5_standing_76 : decode cX5_standing 76 = .ok (.invokestatic 154, 3) := by decide +kernel
theorem dX5_standing_79 : decode cX5_standing 79 = .ok (.iadd, 1) := by decide +kernel
theorem dX5_standing_80 : decode cX5_standing 80 = .ok (.istore 6, 2) := by decide +kernel
theorem dX5_standing_82 : decode cX5_standing 82 = .ok (.aload_n 0, 1) := by decide +kernel
theorem dX5_standing_83 : decode cX5_standing 83 = .ok (.invokevirtual 188, 3) := by decide +kernel
theorem dX5_standing_86 : decode cX5_standing 86 = .ok (.iload 7, 2) := by decide +kernel
theorem dX5_standing_88 : decode cX5_standing 88 = .ok (.iconst (-1), 1) := by decide +kernel
theorem dX5_standing_89 : decode cX5_standing 89 = .ok (.if_icmp .ne 8, 3) := by decide +kernel
theorem dX5_standing_92 : decode cX5_standing 92 = .ok (.iload 5, 2) := by decide +kernel
theorem dX5_standing_94 : decode cX5_standing 94 = .ok (.goto 7, 3) := by decide +kernel
theorem dX5_standing_97 : decode cX5_standing 97 = .ok (.iload 5, 2) := by decide +kernel
theorem dX5_standing_99 : decode cX5_standing 99 = .ok (.iconst 1, 1) := by decide +kernel
theorem dX5_standing_100 : decode cX5_standing 100 = .ok (.isub, 1) := by decide +kernel
theorem dX5_standing_101 : decode cX5_standing 101 = .ok (.istore 8, 2) := by decide +kernel
theorem dX5_standing_103 : decode cX5_standing 103 = .ok (.aload_n 0, 1) := by decide +kernel
theorem dX5_standing_104 : decode cX5_standing 104 = .ok (.iload 7, 2) := by decide +kernel
theorem dX5_standing_106 : decode cX5_standing 106 = .ok (.iconst 1, 1) := by decide +kernel
theorem dX5_standing_107 : decode cX5_standing 107 = .ok (.if_icmp .ne 7, 3) := by decide +kernel
theorem dX5_standing_110 : decode cX5_standing 110 = .ok (.iconst 2, 1) := by decide +kernel
theorem dX5_standing_111 : decode cX5_standing 111 = .ok (.goto 4, 3) := by decide +kernel
theorem dX5_standing_114 : decode cX5_standing 114 = .ok (.iconst 1, 1) := by decide +kernel
theorem dX5_standing_115 : decode cX5_standing 115 = .ok (.invokevirtual 102, 3) := by decide +kernel
theorem dX5_standing_118 : decode cX5_standing 118 = .ok (.ifCond .eq 28, 3) := by decide +kernel
theorem dX5_standing_121 : decode cX5_standing 121 = .ok (.iload 6, 2) := by decide +kernel
theorem dX5_standing_123 : decode cX5_standing 123 = .ok (.aload_n 0, 1) := by decide +kernel
theorem dX5_standing_124 : decode cX5_standing 124 = .ok (.aload_n 1, 1) := by decide +kernel
theorem dX5_standing_125 : decode cX5_standing 125 = .ok (.iload_n 2, 1) := by decide +kernel
theorem dX5_standing_126 : decode cX5_standing 126 = .ok (.iconst 1, 1) := by decide +kernel
theorem dX5_standing_127 : decode cX5_standing 127 = .ok (.isub, 1) := by decide +kernel
theorem dX5_standing_128 : decode cX5_standing 128 = .ok (.iconst 1, 1) := by decide +kernel
theorem dX5_standing_129 : decode cX5_standing 129 = .ok (.iload 4, 2) := by decide +kernel
theorem dX5_standing_131 : decode cX5_standing 131 = .ok (.iload 8, 2) := by decide +kernel
theorem dX5_standing_133 : decode cX5_standing 133 = .ok (.imul, 1) := by decide +kernel
theorem dX5_standing_134 : decode cX5_standing 134 = .ok (.iload 5, 2) := by decide +kernel
theorem dX5_standing_136 : decode cX5_standing 136 = .ok (.invokestatic 154, 3) := by decide +kernel
theorem dX5_standing_139 : decode cX5_standing 139 = .ok (.iadd, 1) := by decide +kernel
theorem dX5_standing_140 : decode cX5_standing 140 = .ok (.istore 6, 2) := by decide +kernel
theorem dX5_standing_142 : decode cX5_standing 142 = .ok (.aload_n 0, 1) := by decide +kernel
theorem dX5_standing_143 : decode cX5_standing 143 = .ok (.invokevirtual 188, 3) := by decide +kernel
theorem dX5_standing_146 : decode cX5_standing 146 = .ok (.iload 6, 2) := by decide +kernel
theorem dX5_standing_148 : decode cX5_standing 148 = .ok (.ireturn, 1) := by decide +kernel
theorem dX6_init_0 : decode cX6_init 0 = .ok (.aload_n 0, 1) := by decide +kernel
theorem dX6_init_1 : decode cX6_init 1 = .ok (.invokespecial 1, 3) := by decide +kernel
theorem dX6_init_4 : decode cX6_init 4 = .ok (.aload_n 0, 1) := by decide +kernel
theorem dX6_init_5 : decode cX6_init 5 = .ok (.bipush 16, 2) := by decide +kernel
theorem dX6_init_7 : decode cX6_init 7 = .ok (.newarray .int, 2) := by decide +kernel
theorem dX6_init_9 : decode cX6_init 9 = .ok (.putfield 7, 3) := by decide +kernel
theorem dX6_init_12 : decode cX6_init 12 = .ok (.aload_n 0, 1) := by decide +kernel
theorem dX6_init_13 : decode cX6_init 13 = .ok (.iconst 4, 1) := by decide +kernel
theorem dX6_init_14 : decode cX6_init 14 = .ok (.newarray .int, 2) := by decide +kernel
theorem dX6_init_16 : decode cX6_init 16 = .ok (.putfield 13, 3) := by decide +kernel
theorem dX6_init_19 : decode cX6_init 19 = .ok (.aload_n 0, 1) := by decide +kernel
theorem dX6_init_20 : decode cX6_init 20 = .ok (.iconst 3, 1) := by decide +kernel
theorem dX6_init_21 : decode cX6_init 21 = .ok (.newarray .int, 2) := by decide +kernel
theorem dX6_init_23 : decode cX6_init 23 = .ok (.putfield 16, 3) := by decide +kernel
theorem dX6_init_26 : decode cX6_init 26 = .ok (.aload_n 0, 1) := by decide +kernel
theorem dX6_init_27 : decode cX6_init 27 = .ok (.ldc 19, 2) := by decide +kernel
theorem dX6_init_29 : decode cX6_init 29 = .ok (.newarray .byte, 2) := by decide +kernel
theorem dX6_init_31 : decode cX6_init 31 = .ok (.putfield 20, 3) := by decide +kernel
theorem dX6_init_34 : decode cX6_init 34 = .ok (.aload_n 0, 1) := by decide +kernel
theorem dX6_init_35 : decode cX6_init 35 = .ok (.ldc 19, 2) := by decide +kernel
theorem dX6_init_37 : decode cX6_init 37 = .ok (.newarray .byte, 2) := by decide +kernel
theorem dX6_init_39 : decode cX6_init 39 = .ok (.putfield 24, 3) := by decide +kernel
theorem dX6_init_42 : decode cX6_init 42 = .ok (.aload_n 0, 1) := by decide +kernel
theorem dX6_init_43 : decode cX6_init 43 = .ok (.ldc 19, 2) := by decide +kernel
theorem dX6_init_45 : decode cX6_init 45 = .ok (.newarray .byte, 2) := by decide +kernel
theorem dX6_init_47 : decode cX6_init 47 = .ok (.putfield 27, 3) := by decide +kernel
theorem dX6_init_50 : decode cX6_init 50 = .ok (.aload_n 0, 1) := by decide +kernel
theorem dX6_init_51 : decode cX6_init 51 = .ok (.iconst 3, 1) := by decide +kernel
theorem dX6_init_52 : decode cX6_init 52 = .ok (.newarray .int, 2) := by decide +kernel
theorem dX6_init_54 : decode cX6_init 54 = .ok (.putfield 30, 3) := by decide +kernel
theorem dX6_init_57 : decode cX6_init 57 = .ok (.aload_n 0, 1) := by decide +kernel
theorem dX6_init_58 : decode cX6_init 58 = .ok (.bipush 60, 2) := by decide +kernel
theorem dX6_init_60 : decode cX6_init 60 = .ok (.newarray .int, 2) := by decide +kernel
theorem dX6_init_62 : decode cX6_init 62 = .ok (.putfield 33, 3) := by decide +kernel
theorem dX6_init_65 : decode cX6_init 65 = .ok (.aload_n 0, 1) := by decide +kernel
theorem dX6_init_66 : decode cX6_init 66 = .ok (.bipush 60, 2) := by decide +kernel
theorem dX6_init_68 : decode cX6_init 68 = .ok (.newarray .int, 2) := by decide +kernel
theorem dX6_init_70 : decode cX6_init 70 = .ok (.putfield 36, 3) := by decide +kernel
theorem dX6_init_73 : decode cX6_init 73 = .ok (.aload_n 0, 1) := by decide +kernel
theorem dX6_init_74 : decode cX6_init 74 = .ok (.bipush 60, 2) := by decide +kernel
theorem dX6_init_76 : decode cX6_init 76 = .ok (.newarray .int, 2) := by decide +kernel
theorem dX6_init_78 : decode cX6_init 78 = .ok (.putfield 39, 3) := by decide +kernel
theorem dX6_init_81 : decode cX6_init 81 = .ok (.aload_n 0, 1) := by decide +kernel
theorem dX6_init_82 : decode cX6_init 82 = .ok (.bipush 15, 2) := by decide +kernel
theorem dX6_init_84 : decode cX6_init 84 = .ok (.newarray .int, 2) := by decide +kernel
theorem dX6_init_86 : decode cX6_init 86 = .ok (.putfield 42, 3) := by decide +kernel
theorem dX6_init_89 : decode cX6_init 89 = .ok (.aload_n 0, 1) := by decide +kernel
theorem dX6_init_90 : decode cX6_init 90 = .ok (.sipush 2000, 3) := by decide +kernel
theorem dX6_init_93 : decode cX6_init 93 = .ok (.newarray .long, 2) := by decide +kernel
theorem dX6_init_95 : decode cX6_init 95 = .ok (.putfield 45, 3) := by decide +kernel
theorem dX6_init_98 : decode cX6_init 98 = .ok (.iconst 0, 1) := by decide +kernel
theorem dX6_init_99 : decode cX6_init 99 = .ok (.istore_n 1, 1) := by decide +kernel
theorem dX6_init_100 : decode cX6_init 100 = .ok (.iload_n 1, 1) := by decide +kernel
theorem dX6_init_101 : decode cX6_init 101 = .ok (.iconst 4, 1) := by decide +kernel
theorem dX6_init_102 : decode cX6_init 102 = .ok (.if_icmp .ge 36, 3) := by decide +kernel
theorem dX6_init_105 : decode cX6_init 105 = .ok (.aload_n 0, 1) := by decide +kernel
theorem dX6_init_106 : decode cX6_init 106 = .ok (.getfield 7, 3) := by decide +kernel
theorem dX6_init_109 : decode cX6_init 109 = .ok (.iconst 4, 1) := by decide +kernel
theorem dX6_init_110 : decode cX6_init 110 = .ok (.iload_n 1, 1) := by decide +kernel
theorem dX6_init_111 : decode cX6_init 111 = .ok (.imul, 1) := by decide +kernel
theorem dX6_init_112 : decode cX6_init 112 = .ok (.iconst 1, 1) := by decide +kernel
theorem dX6_init_113 : decode cX6_init 113 = .ok (.iastore, 1) := by decide +kernel
theorem dX6_init_114 : decode cX6_init 114 = .ok (.aload_n 0, 1) := by decide +kernel
theorem dX6_init_115 : decode cX6_init 115 = .ok (.getfield 7, 3) := by decide +kernel
theorem dX6_init_118 : decode cX6_init 118 = .ok (.iconst 4, 1) := by decide +kernel
theorem dX6_init_119 : decode cX6_init 119 = .ok (.iload_n 1, 1) := by decide +kernel
theorem dX6_init_120 : decode cX6_init 120 = .ok (.imul, 1) := by decide +kernel
theorem dX6_init_121 : decode cX6_init 121 = .ok (.iconst 1, 1) := by decide +kernel
theorem dX6_init_122 : decode cX6_init 122 = .ok (.iadd, 1) := by decide +kernel
theorem dX6_init_123 : decode cX6_init 123 = .ok (.iconst 2, 1) := by decide +kernel
theorem dX6_init_124 : decode cX6_init 124 = .ok (.iastore, 1) := by decide +kernel
theorem dX6_init_125 : decode cX6_init 125 = .ok (.aload_n 0, 1) := by decide +kernel
theorem dX6_init_126 : decode cX6_init 126 = .ok (.getfield 13, 3) := by decide +kernel
theorem dX6_init_129 : decode cX6_init 129 = .ok (.iload_n 1, 1) := by decide +kernel
theorem dX6_init_130 : decode cX6_init 130 = .ok (.iconst 2, 1) := by decide +kernel
theorem dX6_init_131 : decode cX6_init 131 = .ok (.iastore, 1) := by decide +kernel
theorem dX6_init_132 : decode cX6_init 132 = .ok (.iinc 1 1, 3) := by decide +kernel
theorem dX6_init_135 : decode cX6_init 135 = .ok (.goto (-35), 3) := by decide +kernel
theorem dX6_init_138 : decode cX6_init 138 = .ok (.aload_n 0, 1) := by decide +kernel
theorem dX6_init_139 : decode cX6_init 139 = .ok (.iconst 1, 1) := by decide +kernel
theorem dX6_init_140 : decode cX6_init 140 = .ok (.putfield 49, 3) := by decide +kernel
theorem dX6_init_143 : decode cX6_init 143 = .ok (.aload_n 0, 1) := by decide +kernel
theorem dX6_init_144 : decode cX6_init 144 = .ok (.iconst 1, 1) := by decide +kernel
theorem dX6_init_145 : decode cX6_init 145 = .ok (.putfield 53, 3) := by decide +kernel
theorem dX6_init_148 : decode cX6_init 148 = .ok (.return_, 1) := by decide +kernel
theorem dX6_in_0 : decode cX6_in 0 = .ok (.lload_n 0, 1) := by decide +kernel
theorem dX6_in_1 : decode cX6_in 1 = .ok (.lload_n 2, 1) := by decide +kernel
end
section
theorem dX6_in_2 : decode cX6_in 2 = .ok (.lcmp, 1) := by decide +kernel
theorem dX6_in_3 : decode cX6_in 3 = .ok (.ifCond .lt 14, 3) := by decide +kernel
theorem dX6_in_6 : decode cX6_in 6 = .ok (.lload_n 0, 1) := by decide +kernel
theorem dX6_in_7 : decode cX6_in 7 = .ok (.lload 4, 2) := by decide +kernel
theorem dX6_in_9 : decode cX6_in 9 = .ok (.lcmp, 1) := by decide +kernel
theorem dX6_in_10 : decode cX6_in 10 = .ok (.ifCond .gt 7, 3) := by decide +kernel
theorem dX6_in_13 : decode cX6_in 13 = .ok (.iconst 1, 1) := by decide +kernel
theorem dX6_in_14 : decode cX6_in 14 = .ok (.goto 4, 3) := by decide +kernel
theorem dX6_in_17 : decode cX6_in 17 = .ok (.iconst 0, 1) := by decide +kernel
theorem dX6_in_18 : decode cX6_in 18 = .ok (.ireturn, 1) := by decide +kernel
set_option maxRecDepth 20000 in
theorem ggX6_isAlphabet_X6_in : GoodIn wsX6_isAlphabet wsX6_in := goodIn_r _ [5] (by decide +kernel) (by decide +kernel)
set_option maxRecDepth 20000 in
theorem gX6_isAlphabet_X6_in : GoodIn wsX6_isAlphabet (va_wsS RX6 59 yX6_in wsX6_in) := goodIn_app (goodIn_of _ (by decide +kernel)) ggX6_isAlphabet_X6_in
theorem dX6_isAlphabet_0 : decode cX6_isAlphabet 0 = .ok (.iload_n 0, 1) := by decide +kernel
theorem dX6_isAlphabet_1 : decode cX6_isAlphabet 1 = .ok (.i2l, 1) := by decide +kernel
theorem dX6_isAlphabet_2 : decode cX6_isAlphabet 2 = .ok (.lconst 0, 1) := by decide +kernel
theorem dX6_isAlphabet_3 : decode cX6_isAlphabet 3 = .ok (.ldc2_w 57, 3) := by decide +kernel
theorem dX6_isAlphabet_6 : decode cX6_isAlphabet 6 = .ok (.invokestatic 59, 3) := by decide +kernel
theorem dX6_isAlphabet_9 : decode cX6_isAlphabet 9 = .ok (.ireturn, 1) := by decide +kernel
set_option maxRecDepth 20000 in
theorem ggX6_alphabet_X6_isAlphabet : GoodIn wsX6_alphabet wsX6_isAlphabet := goodIn_r _ [10, 11, 12, 13, 9, 14] (by decide +kernel) (by decide +kernel)
set_option maxRecDepth 20000 in
theorem gX6_alphabet_X6_isAlphabet : GoodIn wsX6_alphabet (va_wsS RX6 63 yX6_isAlphabet wsX6_isAlphabet) := goodIn_app (goodIn_of _ (by decide +kernel)) ggX6_alphabet_X6_isAlphabet
set_option maxRecDepth 20000 in
theorem ggX6_alphabet_X6_in : GoodIn wsX6_alphabet wsX6_in := goodIn_r _ [14] (by decide +kernel) (by decide +kernel)
set_option maxRecDepth 20000 in
theorem gX6_alphabet_X6_in : GoodIn wsX6_alphabet (va_wsS RX6 59 yX6_in wsX6_in) := goodIn_app (goodIn_of _ (by decide +kernel)) ggX6_alphabet_X6_in
theorem dX6_alphabet_0 : decode cX6_alphabet 0 = .ok (.iload_n 1, 1) := by decide +kernel
theorem dX6_alphabet_1 : decode cX6_alphabet 1 = .ok (.invokestatic 63, 3) := by decide +kernel
theorem dX6_alphabet_4 : decode cX6_alphabet 4 = .ok (.ifCond .ne 6, 3) := by decide +kernel
theorem dX6_alphabet_7 : decode cX6_alphabet 7 = .ok (.bipush (-101), 2) := by decide +kernel
theorem dX6_alphabet_9 : decode cX6_alphabet 9 = .ok (.ireturn, 1) := by decide +kernel
theorem dX6_alphabet_10 : decode cX6_alphabet 10 = .ok (.iload_n 2, 1) := by decide +kernel
theorem dX6_alphabet_11 : decode cX6_alphabet 11 = .ok (.i2l, 1) := by decide +kernel
theorem dX6_alphabet_12 : decode cX6_alphabet 12 = .ok (.ldc2_w 67, 3) := by decide +kernel
theorem dX6_alphabet_15 : decode cX6_alphabet 15 = .ok (.ldc2_w 69, 3) := by decide +kernel
theorem dX6_alphabet_18 : decode cX6_alphabet 18 = .ok (.invokestatic 59, 3) := by decide +kernel
theorem dX6_alphabet_21 : decode cX6_alphabet 21 = .ok (.ifCond .ne 6, 3) := by decide +kernel
theorem dX6_alphabet_24 : decode cX6_alphabet 24 = .ok (.bipush (-102), 2) := by decide +kernel
theorem dX6_alphabet_26 : decode cX6_alphabet 26 = .ok (.ireturn, 1) := by decide +kernel
theorem dX6_alphabet_27 : decode cX6_alphabet 27 = .ok (.iconst 1, 1) := by decide +kernel
theorem dX6_alphabet_28 : decode cX6_alphabet 28 = .ok (.istore 7, 2) := by decide +kernel
theorem dX6_alphabet_30 : decode cX6_alphabet 30 = .ok (.iconst 0, 1) := by decide +kernel
theorem dX6_alphabet_31 : decode cX6_alphabet 31 = .ok (.istore 8, 2) := by decide +kernel
theorem dX6_alphabet_33 : decode cX6_alphabet 33 = .ok (.iload 8, 2) := by decide +kernel
theorem dX6_alphabet_35 : decode cX6_alphabet 35 = .ok (.iload_n 2, 1) := by decide +kernel
theorem dX6_alphabet_36 : decode cX6_alphabet 36 = .ok (.if_icmp .ge 113, 3) := by decide +kernel
theorem dX6_alphabet_39 : decode cX6_alphabet 39 = .ok (.iload 8, 2) := by decide +kernel
theorem dX6_alphabet_41 : decode cX6_alphabet 41 = .ok (.ifCond .ne 7, 3) := by decide +kernel
theorem dX6_alphabet_44 : decode cX6_alphabet 44 = .ok (.iload_n 3, 1) := by decide +kernel
theorem dX6_alphabet_45 : decode cX6_alphabet 45 = .ok (.goto 27, 3) := by decide +kernel
theorem dX6_alphabet_48 : decode cX6_alphabet 48 = .ok (.iload 8, 2) := by decide +kernel
theorem dX6_alphabet_50 : decode cX6_alphabet 50 = .ok (.iconst 1, 1) := by decide +kernel
theorem dX6_alphabet_51 : decode cX6_alphabet 51 = .ok (.if_icmp .ne 8, 3) := by decide +kernel
theorem dX6_alphabet_54 : decode cX6_alphabet 54 = .ok (.iload 4, 2) := by decide +kernel
theorem dX6_alphabet_56 : decode cX6_alphabet 56 = .ok (.goto 16, 3) := by decide +kernel
theorem dX6_alphabet_59 : decode cX6_alphabet 59 = .ok (.iload 8, 2) := by decide +kernel
theorem dX6_alphabet_61 : decode cX6_alphabet 61 = .ok (.iconst 2, 1) := by decide +kernel
theorem dX6_alphabet_62 : decode cX6_alphabet 62 = .ok (.if_icmp .ne 8, 3) := by decide +kernel
theorem dX6_alphabet_65 : decode cX6_alphabet 65 = .ok (.iload 5, 2) := by decide +kernel
theorem dX6_alphabet_67 : decode cX6_alphabet 67 = .ok (.goto 5, 3) := by decide +kernel
theorem dX6_alphabet_70 : decode cX6_alphabet 70 = .ok (.iload 6, 2) := by decide +kernel
theorem dX6_alphabet_72 : decode cX6_alphabet 72 = .ok (.istore 9, 2) := by decide +kernel
theorem dX6_alphabet_74 : decode cX6_alphabet 74 = .ok (.iload 8, 2) := by decide +kernel
theorem dX6_alphabet_76 : decode cX6_alphabet 76 = .ok (.iload_n 2, 1) := by decide +kernel
theorem dX6_alphabet_77 : decode cX6_alphabet 77 = .ok (.iconst 1, 1) := by decide +kernel
theorem dX6_alphabet_78 : decode cX6_alphabet 78 = .ok (.isub, 1) := by decide +kernel
theorem dX6_alphabet_79 : decode cX6_alphabet 79 = .ok (.if_icmp .ne 7, 3) := by decide +kernel
theorem dX6_alphabet_82 : decode cX6_alphabet 82 = .ok (.iload_n 3, 1) := by decide +kernel
theorem dX6_alphabet_83 : decode cX6_alphabet 83 = .ok (.goto 26, 3) := by decide +kernel
theorem dX6_alphabet_86 : decode cX6_alphabet 86 = .ok (.iload 8, 2) := by decide +kernel
theorem dX6_alphabet_88 : decode cX6_alphabet 88 = .ok (.ifCond .ne 8, 3) := by decide +kernel
theorem dX6_alphabet_91 : decode cX6_alphabet 91 = .ok (.iload 4, 2) := by decide +kernel
theorem dX6_alphabet_93 : decode cX6_alphabet 93 = .ok (.goto 16, 3) := by decide +kernel
theorem dX6_alphabet_96 : decode cX6_alphabet 96 = .ok (.iload 8, 2) := by decide +kernel
theorem dX6_alphabet_98 : decode cX6_alphabet 98 = .ok (.iconst 1, 1) := by decide +kernel
theorem dX6_alphabet_99 : decode cX6_alphabet 99 = .ok (.if_icmp .ne 8, 3) := by decide +kernel
theorem dX6_alphabet_102 : decode cX6_alphabet 102 = .ok (.iload 5, 2) := by decide +kernel
theorem dX6_alphabet_104 : decode cX6_alphabet 104 = .ok (.goto 5, 3) := by decide +kernel
theorem dX6_alphabet_107 : decode cX6_alphabet 107 = .ok (.iload 6, 2) := by decide +kernel
theorem dX6_alphabet_109 : decode cX6_alphabet 109 = .ok (.istore 10, 2) := by decide +kernel
theorem dX6_alphabet_111 : decode cX6_alphabet 111 = .ok (.iload 7, 2) := by decide +kernel
theorem dX6_alphabet_113 : decode cX6_alphabet 113 = .ok (.ifCond .eq 27, 3) := by decide +kernel
theorem dX6_alphabet_116 : decode cX6_alphabet 116 = .ok (.iload 9, 2) := by decide +kernel
theorem dX6_alphabet_118 : decode cX6_alphabet 118 = .ok (.i2l, 1) := by decide +kernel
theorem dX6_alphabet_119 : decode cX6_alphabet 119 = .ok (.lconst 1, 1) := by decide +kernel
theorem dX6_alphabet_120 : decode cX6_alphabet 120 = .ok (.ldc2_w 71, 3) := by decide +kernel
theorem dX6_alphabet_123 : decode cX6_alphabet 123 = .ok (.invokestatic 59, 3) := by decide +kernel
theorem dX6_alphabet_126 : decode cX6_alphabet 126 = .ok (.ifCond .eq 14, 3) := by decide +kernel
theorem dX6_alphabet_129 : decode cX6_alphabet 129 = .ok (.iload 9, 2) := by decide +kernel
theorem dX6_alphabet_131 : decode cX6_alphabet 131 = .ok (.iload 10, 2) := by decide +kernel
theorem dX6_alphabet_133 : decode cX6_alphabet 133 = .ok (.if_icmp .eq 7, 3) := by decide +kernel
theorem dX6_alphabet_136 : decode cX6_alphabet 136 = .ok (.iconst 1, 1) := by decide +kernel
theorem dX6_alphabet_137 : decode cX6_alphabet 137 = .ok (.goto 4, 3) := by decide +kernel
theorem dX6_alphabet_140 : decode cX6_alphabet 140 = .ok (.iconst 0, 1) := by decide +kernel
theorem dX6_alphabet_141 : decode cX6_alphabet 141 = .ok (.istore 7, 2) := by decide +kernel
theorem dX6_alphabet_143 : decode cX6_alphabet 143 = .ok (.iinc 8 1, 3) := by decide +kernel
theorem dX6_alphabet_146 : decode cX6_alphabet 146 = .ok (.goto (-113), 3) := by decide +kernel
theorem dX6_alphabet_149 : decode cX6_alphabet 149 = .ok (.iload 7, 2) := by decide +kernel
theorem dX6_alphabet_151 : decode cX6_alphabet 151 = .ok (.ifCond .ne 6, 3) := by decide +kernel
theorem dX6_alphabet_154 : decode cX6_alphabet 154 = .ok (.bipush (-102), 2) := by decide +kernel
theorem dX6_alphabet_156 : decode cX6_alphabet 156 = .ok (.ireturn, 1) := by decide +kernel
theorem dX6_alphabet_157 : decode cX6_alphabet 157 = .ok (.aload_n 0, 1) := by decide +kernel
theorem dX6_alphabet_158 : decode cX6_alphabet 158 = .ok (.getfield 7, 3) := by decide +kernel
theorem dX6_alphabet_161 : decode cX6_alphabet 161 = .ok (.iconst 4, 1) := by decide +kernel
theorem dX6_alphabet_162 : decode cX6_alphabet 162 = .ok (.iload_n 1, 1) := by decide +kernel
theorem dX6_alphabet_163 : decode cX6_alphabet 163 = .ok (.imul, 1) := by decide +kernel
theorem dX6_alphabet_164 : decode cX6_alphabet 164 = .ok (.iload_n 3, 1) := by decide +kernel
theorem dX6_alphabet_165 : decode cX6_alphabet 165 = .ok (.iastore, 1) := by decide +kernel
theorem dX6_alphabet_166 : decode cX6_alphabet 166 = .ok (.aload_n 0, 1) := by decide +kernel
theorem dX6_alphabet_167 : decode cX6_alphabet 167 = .ok (.getfield 7, 3) := by decide +kernel
theorem dX6_alphabet_170 : decode cX6_alphabet 170 = .ok (.iconst 4, 1) := by decide +kernel
theorem dX6_alphabet_171 : decode cX6_alphabet 171 = .ok (.iload_n 1, 1) := by decide +kernel
theorem dX6_alphabet_172 : decode cX6_alphabet 172 = .ok (.imul, 1) := by decide +kernel
theorem dX6_alphabet_173 : decode cX6_alphabet 173 = .ok (.iconst 1, 1) := by decide +kernel
theorem dX6_alphabet_174 : decode cX6_alphabet 174 = .ok (.iadd, 1) := by decide +kernel
theorem dX6_alphabet_175 : decode cX6_alphabet 175 = .ok (.iload 4, 2) := by decide +kernel
theorem dX6_alphabet_177 : decode cX6_alphabet 177 = .ok (.iastore, 1) := by decide +kernel
theorem dX6_alphabet_178 : decode cX6_alphabet 178 = .ok (.aload_n 0, 1) := by decide +kernel
theorem dX6_alphabet_179 : decode cX6_alphabet 179 = .ok (.getfield 7, 3) := by decide +kernel
theorem dX6_alphabet_182 : decode cX6_alphabet 182 = .ok (.iconst 4, 1) := by decide +kernel
theorem dX6_alphabet_183 : decode cX6_alphabet 183 = .ok (.iload_n 1, 1) := by decide +kernel
theorem dX6_alphabet_184 : decode cX6_alphabet 184 = .ok (.imul, 1) := by decide +kernel
theorem dX6_alphabet_185 : decode cX6_alphabet 185 = .ok (.iconst 2, 1) := by decide +kernel
theorem dX6_alphabet_186 : decode cX6_alphabet 186 = .ok (.iadd, 1) := by decide +kernel
theorem dX6_alphabet_187 : decode cX6_alphabet 187 = .ok (.iload 5, 2) := by decide +kernel
theorem dX6_alphabet_189 : decode cX6_alphabet 189 = .ok (.iastore, 1) := by decide +kernel
theorem dX6_alphabet_190 : decode cX6_alphabet 190 = .ok (.aload_n 0, 1) := by decide +kernel
theorem dX6_alphabet_191 : decode cX6_alphabet 191 = .ok (.getfield 7, 3) := by decide +kernel
theorem dX6_alphabet_194 : decode cX6_alphabet 194 = .ok (.iconst 4, 1) := by decide +kernel
theorem dX6_alphabet_195 : decode cX6_alphabet 195 = .ok (.iload_n 1, 1) := by decide +kernel
theorem dX6_alphabet_196 : decode cX6_alphabet 196 = .ok (.imul, 1) := by decide +kernel
theorem dX6_alphabet_197 : decode cX6_alphabet 197 = .ok (.iconst 3, 1) := by decide +kernel
theorem dX6_alphabet_198 : decode cX6_alphabet 198 = .ok (.iadd, 1) := by decide +kernel
theorem dX6_alphabet_199 : decode cX6_alphabet 199 = .ok (.iload 6, 2) := by decide +kernel
theorem dX6_alphabet_201 : decode cX6_alphabet 201 = .ok (.iastore, 1) := by decide +kernel
theorem dX6_alphabet_202 : decode cX6_alphabet 202 = .ok (.aload_n 0, 1) := by decide +kernel
theorem dX6_alphabet_203 : decode cX6_alphabet 203 = .ok (.getfield 13, 3) := by decide +kernel
theorem dX6_alphabet_206 : decode cX6_alphabet 206 = .ok (.iload_n 1, 1) := by decide +kernel
theorem dX6_alphabet_207 : decode cX6_alphabet 207 = .ok (.iload_n 2, 1) := by decide +kernel
theorem dX6_alphabet_208 : decode cX6_alphabet 208 = .ok (.iastore, 1) := by decide +kernel
theorem dX6_alphabet_209 : decode cX6_alphabet 209 = .ok (.aload_n 0, 1) := by decide +kernel
theorem dX6_alphabet_210 : decode cX6_alphabet 210 = .ok (.iconst 1, 1) := by decide +kernel
theorem dX6_alphabet_211 : decode cX6_alphabet 211 = .ok (.putfield 53, 3) := by decide +kernel
theorem dX6_alphabet_214 : decode cX6_alphabet 214 = .ok (.iload_n 2, 1) := by decide +kernel
theorem dX6_alphabet_215 : decode cX6_alphabet 215 = .ok (.ireturn, 1) := by decide +kernel
set_option maxRecDepth 20000 in
theorem ggX6_ring_X6_in : GoodIn wsX6_ring wsX6_in := goodIn_r _ [8] (by decide +kernel) (by decide +kernel)
set_option maxRecDepth 20000 in
theorem gX6_ring_X6_in : GoodIn wsX6_ring (va_wsS RX6 59 yX6_in wsX6_in) := goodIn_app (goodIn_of _ (by decide +kernel)) ggX6_ring_X6_in
set_option maxRecDepth 20000 in
theorem ggX6_ring_X6_isAlphabet : GoodIn wsX6_ring wsX6_isAlphabet := goodIn_r _ [11, 1, 5, 6, 7, 8] (by decide +kernel) (by decide +kernel)
set_option maxRecDepth 20000 in
theorem gX6_ring_X6_isAlphabet : GoodIn wsX6_ring (va_wsS RX6 63 yX6_isAlphabet wsX6_isAlphabet) := goodIn_app (goodIn_of _ (by decide +kernel)) ggX6_ring_X6_isAlphabet
theorem dX6_ring_0 : decode cX6_ring 0 = .ok (.iload_n 1, 1) := by decide +kernel
theorem dX6_ring_1 : decode cX6_ring 1 = .ok (.i2l, 1) := by decide +kernel
theorem dX6_ring_2 : decode cX6_ring 2 = .ok (.lconst 1, 1) := by decide +kernel
theorem dX6_ring_3 : decode cX6_ring 3 = .ok (.ldc2_w 57, 3) := by decide +kernel
theorem dX6_ring_6 : decode cX6_ring 6 = .ok (.invokestatic 59, 3) := by decide +kernel
theorem dX6_ring_9 : decode cX6_ring 9 = .ok (.ifCond .ne 6, 3) := by decide +kernel
theorem dX6_ring_12 : decode cX6_ring 12 = .ok (.bipush (-102), 2) := by decide +kernel
theorem dX6_ring_14 : decode cX6_ring 14 = .ok (.ireturn, 1) := by decide +kernel
theorem dX6_ring_15 : decode cX6_ring 15 = .ok (.iload_n 2, 1) := by decide +kernel
theorem dX6_ring_16 : decode cX6_ring 16 = .ok (.invokestatic 63, 3) := by decide +kernel
theorem dX6_ring_19 : decode cX6_ring 19 = .ok (.ifCond .eq 28, 3) := by decide +kernel
theorem dX6_ring_22 : decode cX6_ring 22 = .ok (.iload_n 1, 1) := by decide +kernel
theorem dX6_ring_23 : decode cX6_ring 23 = .ok (.iconst 1, 1) := by decide +kernel
theorem dX6_ring_24 : decode cX6_ring 24 = .ok (.if_icmp .le 10, 3) := by decide +kernel
theorem dX6_ring_27 : decode cX6_ring 27 = .ok (.iload_n 3, 1) := by decide +kernel
theorem dX6_ring_28 : decode cX6_ring 28 = .ok (.invokestatic 63, 3) := by decide +kernel
theorem dX6_ring_31 : decode cX6_ring 31 = .ok (.ifCond .eq 16, 3) := by decide +kernel
theorem dX6_ring_34 : decode cX6_ring 34 = .ok (.iload_n 1, 1) := by decide +kernel
theorem dX6_ring_35 : decode cX6_ring 35 = .ok (.iconst 2, 1) := by decide +kernel
theorem dX6_ring_36 : decode cX6_ring 36 = .ok (.if_icmp .le 14, 3) := by decide +kernel
theorem dX6_ring_39 : decode cX6_ring 39 = .ok (.iload 4, 2) := by decide +kernel
theorem dX6_ring_41 : decode cX6_ring 41 = .ok (.invokestatic 63, 3) := by decide +kernel
theorem dX6_ring_44 : decode cX6_ring 44 = .ok (.ifCond .ne 6, 3) := by decide +kernel
theorem dX6_ring_47 : decode cX6_ring 47 = .ok (.bipush (-101), 2) := by decide +kernel
theorem dX6_ring_49 : decode cX6_ring 49 = .ok (.ireturn, 1) := by decide +kernel
theorem dX6_ring_50 : decode cX6_ring 50 = .ok (.aload_n 0, 1) := by decide +kernel
theorem dX6_ring_51 : decode cX6_ring 51 = .ok (.iload_n 1, 1) := by decide +kernel
theorem dX6_ring_52 : decode cX6_ring 52 = .ok (.putfield 49, 3) := by decide +kernel
theorem dX6_ring_55 : decode cX6_ring 55 = .ok (.aload_n 0, 1) := by decide +kernel
theorem dX6_ring_56 : decode cX6_ring 56 = .ok (.getfield 16, 3) := by decide +kernel
theorem dX6_ring_59 : decode cX6_ring 59 = .ok (.iconst 0, 1) := by decide +kernel
theorem dX6_ring_60 : decode cX6_ring 60 = .ok (.iload_n 2, 1) := by decide +kernel
theorem dX6_ring_61 : decode cX6_ring 61 = .ok (.iastore, 1) := by decide +kernel
theorem dX6_ring_62 : decode cX6_ring 62 = .ok (.aload_n 0, 1) := by decide +kernel
theorem dX6_ring_63 : decode cX6_ring 63 = .ok (.getfield 16, 3) := by decide +kernel
theorem dX6_ring_66 : decode cX6_ring 66 = .ok (.iconst 1, 1) := by decide +kernel
theorem dX6_ring_67 : decode cX6_ring 67 = .ok (.iload_n 3, 1) := by decide +kernel
theorem dX6_ring_68 : decode cX6_ring 68 = .ok (.iastore, 1) := by decide +kernel
theorem dX6_ring_69 : decode cX6_ring 69 = .ok (.aload_n 0, 1) := by decide +kernel
theorem dX6_ring_70 : decode cX6_ring 70 = .ok (.getfield 16, 3) := by decide +kernel
theorem dX6_ring_73 : decode cX6_ring 73 = .ok (.iconst 2, 1) := by decide +kernel
theorem dX6_ring_74 : decode cX6_ring 74 = .ok (.iload 4, 2) := by decide +kernel
theorem dX6_ring_76 : decode cX6_ring 76 = .ok (.iastore, 1) := by decide +kernel
theorem dX6_ring_77 : decode cX6_ring 77 = .ok (.aload_n 0, 1) := by decide +kernel
theorem dX6_ring_78 : decode cX6_ring 78 = .ok (.iconst 1, 1) := by decide +kernel
theorem dX6_ring_79 : decode cX6_ring 79 = .ok (.putfield 53, 3) := by decide +kernel
theorem dX6_ring_82 : decode cX6_ring 82 = .ok (.iload_n 1, 1) := by decide +kernel
theorem dX6_ring_83 : decode cX6_ring 83 = .ok (.ireturn, 1) := by decide +kernel
theorem dX6_number_0 : decode cX6_number 0 = .ok (.iload_n 1, 1) := by decide +kernel
theorem dX6_number_1 : decode cX6_number 1 = .ok (.ifCond .ne 12, 3) := by decide +kernel
theorem dX6_number_4 : decode cX6_number 4 = .ok (.aload_n 0, 1) := by decide +kernel
theorem dX6_number_5 : decode cX6_number 5 = .ok (.getfield 20, 3) := by decide +kernel
theorem dX6_number_8 : decode cX6_number 8 = .ok (.iload_n 2, 1) := by decide +kernel
theorem dX6_number_9 : decode cX6_number 9 = .ok (.baload, 1) := by decide +kernel
theorem dX6_number_10 : decode cX6_number 10 = .ok (.goto 23, 3) := by decide +kernel
theorem dX6_number_13 : decode cX6_number 13 = .ok (.iload_n 1, 1) := by decide +kernel
theorem dX6_number_14 : decode cX6_number 14 = .ok (.iconst 1, 1) := by decide +kernel
theorem dX6_number_15 : decode cX6_number 15 = .ok (.if_icmp .ne 12, 3) := by decide +kernel
theorem dX6_number_18 : decode cX6_number 18 = .ok (.aload_n 0, 1) := by decide +kernel
theorem dX6_number_19 : decode cX6_number 19 = .ok (.getfield 24, 3) := by decide +kernel
theorem dX6_number_22 : decode cX6_number 22 = .ok (.iload_n 2, 1) := by decide +kernel
theorem dX6_number_23 : decode cX6_number 23 = .ok (.baload, 1) := by decide +kernel
theorem dX6_number_24 : decode cX6_number 24 = .ok (.goto 9, 3) := by decide +kernel
theorem dX6_number_27 : decode cX6_number 27 = .ok (.aload_n 0, 1) := by decide +kernel
theorem dX6_number_28 : decode cX6_number 28 = .ok (.getfield 27, 3) := by decide +kernel
theorem dX6_number_31 : decode cX6_number 31 = .ok (.iload_n 2, 1) := by decide +kernel
theorem dX6_number_32 : decode cX6_number 32 = .ok (.baload, 1) := by decide +kernel
theorem dX6_number_33 : decode cX6_number 33 = .ok (.ireturn, 1) := by decide +kernel
theorem dX6_put_0 : decode cX6_put 0 = .ok (.iload_n 1, 1) := by decide +kernel
theorem dX6_put_1 : decode cX6_put 1 = .ok (.ifCond .ne 14, 3) := by decide +kernel
theorem dX6_put_4 : decode cX6_put 4 = .ok (.aload_n 0, 1) := by decide +kernel
theorem dX6_put_5 : decode cX6_put 5 = .ok (.getfield 20, 3) := by decide +kernel
theorem dX6_put_8 : decode cX6_put 8 = .ok (.iload_n 2, 1) := by decide +kernel
theorem dX6_put_9 : decode cX6_put 9 = .ok (.iload_n 3, 1) := by decide +kernel
theorem dX6_put_10 : decode cX6_put 10 = .ok (.i2b, 1) := by decide +kernel
theorem dX6_put_11 : decode cX6_put 11 = .ok (.bastore, 1) := by decide +kernel
theorem dX6_put_12 : decode cX6_put 12 = .ok (.goto 27, 3) := by decide +kernel
theorem dX6_put_15 : decode cX6_put 15 = .ok (.iload_n 1, 1) := by decide +kernel
theorem dX6_put_16 : decode cX6_put 16 = .ok (.iconst 1, 1) := by decide +kernel
theorem dX6_put_17 : decode cX6_put 17 = .ok (.if_icmp .ne 14, 3) := by decide +kernel
theorem dX6_put_20 : decode cX6_put 20 = .ok (.aload_n 0, 1) := by decide +kernel
theorem dX6_put_21 : decode cX6_put 21 = .ok (.getfield 24, 3) := by decide +kernel
theorem dX6_put_24 : decode cX6_put 24 = .ok (.iload_n 2, 1) := by decide +kernel
theorem dX6_put_25 : decode cX6_put 25 = .ok (.iload_n 3, 1) := by decide +kernel
theorem dX6_put_26 : decode cX6_put 26 = .ok (.i2b, 1) := by decide +kernel
theorem dX6_put_27 : decode cX6_put 27 = .ok (.bastore, 1) := by decide +kernel
theorem dX6_put_28 : decode cX6_put 28 = .ok (.goto 11, 3) := by decide +kernel
theorem dX6_put_31 : decode cX6_put 31 = .ok (.aload_n 0, 1) := by decide +kernel
theorem dX6_put_32 : decode cX6_put 32 = .ok (.getfield 27, 3) := by decide +kernel
theorem dX6_put_35 : decode cX6_put 35 = .ok (.iload_n 2, 1) := by decide +kernel
theorem dX6_put_36 : decode cX6_put 36 = .ok (.iload_n 3, 1) := by decide +kernel
theorem dX6_put_37 : decode cX6_put 37 = .ok (.i2b, 1) := by decide +kernel
theorem dX6_put_38 : decode cX6_put 38 = .ok (.bastore, 1) := by decide +kernel
theorem dX6_put_39 : decode cX6_put 39 = .ok (.return_, 1) := by decide +kernel
theorem dX6_letterOf_0 : decode cX6_letterOf 0 = .ok (.aload_n 0, 1) := by decide +kernel
theorem dX6_letterOf_1 : decode cX6_letterOf 1 = .ok (.getfield 16, 3) := by decide +kernel
theorem dX6_letterOf_4 : decode cX6_letterOf 4 = .ok (.iload_n 1, 1) := by decide +kernel
theorem dX6_letterOf_5 : decode cX6_letterOf 5 = .ok (.iaload, 1) := by decide +kernel
theorem dX6_letterOf_6 : decode cX6_letterOf 6 = .ok (.istore_n 3, 1) := by decide +kernel
theorem dX6_letterOf_7 : decode cX6_letterOf 7 = .ok (.aload_n 0, 1) := by decide +kernel
theorem dX6_letterOf_8 : decode cX6_letterOf 8 = .ok (.getfield 7, 3) := by decide +kernel
theorem dX6_letterOf_11 : decode cX6_letterOf 11 = .ok (.iconst 4, 1) := by decide +kernel
theorem dX6_letterOf_12 : decode cX6_letterOf 12 = .ok (.iload_n 3, 1) := by decide +kernel
theorem dX6_letterOf_13 : decode cX6_letterOf 13 = .ok (.imul, 1) := by decide +kernel
theorem dX6_letterOf_14 : decode cX6_letterOf 14 = .ok (.iload_n 2, 1) := by decide +kernel
theorem dX6_letterOf_15 : decode cX6_letterOf 15 = .ok (.aload_n 0, 1) := by decide +kernel
theorem dX6_letterOf_16 : decode cX6_letterOf 16 = .ok (.getfield 13, 3) := by decide +kernel
theorem dX6_letterOf_19 : decode cX6_letterOf 19 = .ok (.iload_n 3, 1) := by decide +kernel
theorem dX6_letterOf_20 : decode cX6_letterOf 20 = .ok (.iaload, 1) := by decide +kernel
theorem dX6_letterOf_21 : decode cX6_letterOf 21 = .ok (.irem, 1) := by decide +kernel
theorem dX6_letterOf_22 : decode cX6_letterOf 22 = .ok (.iadd, 1) := by decide +kernel
theorem dX6_letterOf_23 : decode cX6_letterOf 23 = .ok (.iaload, 1) := by decide +kernel
theorem dX6_letterOf_24 : decode cX6_letterOf 24 = .ok (.ireturn, 1) := by decide +kernel
set_option maxRecDepth 20000 in
theorem ggX6_make_X6_number : GoodIn wsX6_make wsX6_number := goodIn_r _ [10, 11, 12, 13, 25, 26, 27, 28, 29, 30, 31, 32, 33, 34, 35, 36, 37, 38, 39, 40, 41, 42, 43, 44] (by decide +kernel) (by decide +kernel)
set_option maxRecDepth 20000 in
theorem gX6_make_X6_number : GoodIn wsX6_make (wsV RX6 76 RX6 yX6_number wsX6_number) := goodIn_app (goodIn_of _ (by decide +kernel)) ggX6_make_X6_number
set_option maxRecDepth 20000 in
theorem ggX6_make_X6_letterOf : GoodIn wsX6_make wsX6_letterOf := goodIn_r _ [17, 18, 19, 20, 25, 26, 27, 28, 29, 30, 31, 32, 33, 34, 35, 36, 37, 38, 39, 40, 41, 42, 43, 44] (by decide +kernel) (by decide +kernel)
set_option maxRecDepth 20000 in
theorem gX6_make_X6_letterOf : GoodIn wsX6_make (wsV RX6 80 RX6 yX6_letterOf wsX6_letterOf) := goodIn_app (goodIn_of _ (by decide +kernel)) ggX6_make_X6_letterOf
set_option maxRecDepth 20000 in
theorem ggX6_make_X6_put : GoodIn wsX6_make wsX6_put := goodIn_r _ [24, 11, 12, 13, 25, 26, 27, 28, 29, 30, 31, 32, 33, 34, 35, 36, 37, 38, 39, 40, 41, 42, 43, 44] (by decide +kernel) (by decide +kernel)
set_option maxRecDepth 20000 in
theorem gX6_make_X6_put : GoodIn wsX6_make (wsV RX6 84 RX6 yX6_put wsX6_put) := goodIn_app (goodIn_of _ (by decide +kernel)) ggX6_make_X6_put
theorem dX6_make_0 : decode cX6_make 0 = .ok (.aload_n 0, 1) := by decide +kernel
theorem dX6_make_1 : decode cX6_make 1 = .ok (.getfield 53, 3) := by decide +kernel
theorem dX6_make_4 : decode cX6_make 4 = .ok (.ifCond .eq 33, 3) := by decide +kernel
theorem dX6_make_7 : decode cX6_make 7 = .ok (.aload_n 0, 1) := by decide +kernel
theorem dX6_make_8 : decode cX6_make 8 = .ok (.iconst 0, 1) := by decide +kernel
theorem dX6_make_9 : decode cX6_make 9 = .ok (.putfield 53, 3) := by decide +kernel
theorem dX6_make_12 : decode cX6_make 12 = .ok (.aload_n 0, 1) := by decide +kernel
theorem dX6_make_13 : decode cX6_make 13 = .ok (.iconst 0, 1) := by decide +kernel
theorem dX6_make_14 : decode cX6_make 14 = .ok (.putfield 73, 3) := by decide +kernel
theorem dX6_make_17 : decode cX6_make 17 = .ok (.iconst 0, 1) := by decide +kernel
theorem dX6_make_18 : decode cX6_make 18 = .ok (.istore_n 3, 1) := by decide +kernel
theorem dX6_make_19 : decode cX6_make 19 = .ok (.iload_n 3, 1) := by decide +kernel
theorem dX6_make_20 : decode cX6_make 20 = .ok (.iconst 3, 1) := by decide +kernel
theorem dX6_make_21 : decode cX6_make 21 = .ok (.if_icmp .ge 16, 3) := by decide +kernel
theorem dX6_make_24 : decode cX6_make 24 = .ok (.aload_n 0, 1) := by decide +kernel
theorem dX6_make_25 : decode cX6_make 25 = .ok (.getfield 30, 3) := by decide +kernel
theorem dX6_make_28 : decode cX6_make 28 = .ok (.iload_n 3, 1) := by decide +kernel
theorem dX6_make_29 : decode cX6_make 29 = .ok (.iconst 0, 1) := by decide +kernel
theorem dX6_make_30 : decode cX6_make 30 = .ok (.iastore, 1) := by decide +kernel
theorem dX6_make_31 : decode cX6_make 31 = .ok (.iinc 3 1, 3) := by decide +kernel
theorem dX6_make_34 : decode cX6_make 34 = .ok (.goto (-15), 3) := by decide +kernel
theorem dX6_make_37 : decode cX6_make 37 = .ok (.aload_n 0, 1) := by decide +kernel
theorem dX6_make_38 : decode cX6_make 38 = .ok (.getfield 30, 3) := by decide +kernel
theorem dX6_make_41 : decode cX6_make 41 = .ok (.iload_n 1, 1) := by decide +kernel
theorem dX6_make_42 : decode cX6_make 42 = .ok (.iaload, 1) := by decide +kernel
theorem dX6_make_43 : decode cX6_make 43 = .ok (.iload_n 2, 1) := by decide +kernel
theorem dX6_make_44 : decode cX6_make 44 = .ok (.if_icmp .gt 139, 3) := by decide +kernel
theorem dX6_make_47 : decode cX6_make 47 = .ok (.aload_n 0, 1) := by decide +kernel
theorem dX6_make_48 : decode cX6_make 48 = .ok (.getfield 73, 3) := by decide +kernel
theorem dX6_make_51 : decode cX6_make 51 = .ok (.istore_n 3, 1) := by decide +kernel
theorem dX6_make_52 : decode cX6_make 52 = .ok (.iconst 0, 1) := by decide +kernel
theorem dX6_make_53 : decode cX6_make 53 = .ok (.istore 4, 2) := by decide +kernel
theorem dX6_make_55 : decode cX6_make 55 = .ok (.iload 4, 2) := by decide +kernel
theorem dX6_make_57 : decode cX6_make 57 = .ok (.aload_n 0, 1) := by decide +kernel
theorem dX6_make_58 : decode cX6_make 58 = .ok (.getfield 49, 3) := by decide +kernel
theorem dX6_make_61 : decode cX6_make 61 = .ok (.if_icmp .ge 109, 3) := by decide +kernel
theorem dX6_make_64 : decode cX6_make 64 = .ok (.iload 4, 2) := by decide +kernel
theorem dX6_make_66 : decode cX6_make 66 = .ok (.iconst 1, 1) := by decide +kernel
theorem dX6_make_67 : decode cX6_make 67 = .ok (.iadd, 1) := by decide +kernel
theorem dX6_make_68 : decode cX6_make 68 = .ok (.aload_n 0, 1) := by decide +kernel
theorem dX6_make_69 : decode cX6_make 69 = .ok (.getfield 49, 3) := by decide +kernel
theorem dX6_make_72 : decode cX6_make 72 = .ok (.irem, 1) := by decide +kernel
theorem dX6_make_73 : decode cX6_make 73 = .ok (.istore 5, 2) := by decide +kernel
theorem dX6_make_75 : decode cX6_make 75 = .ok (.aload_n 0, 1) := by decide +kernel
theorem dX6_make_76 : decode cX6_make 76 = .ok (.getfield 30, 3) := by decide +kernel
theorem dX6_make_79 : decode cX6_make 79 = .ok (.iload 5, 2) := by decide +kernel
theorem dX6_make_81 : decode cX6_make 81 = .ok (.iaload, 1) := by decide +kernel
theorem dX6_make_82 : decode cX6_make 82 = .ok (.iload_n 3, 1) := by decide +kernel
theorem dX6_make_83 : decode cX6_make 83 = .ok (.if_icmp .le 13, 3) := by decide +kernel
theorem dX6_make_86 : decode cX6_make 86 = .ok (.aload_n 0, 1) := by decide +kernel
theorem dX6_make_87 : decode cX6_make 87 = .ok (.iload 5, 2) := by decide +kernel
theorem dX6_make_89 : decode cX6_make 89 = .ok (.iload_n 3, 1) := by decide +kernel
theorem dX6_make_90 : decode cX6_make 90 = .ok (.invokevirtual 76, 3) := by decide +kernel
theorem dX6_make_93 : decode cX6_make 93 = .ok (.goto 10, 3) := by decide +kernel
theorem dX6_make_96 : decode cX6_make 96 = .ok (.aload_n 0, 1) := by decide +kernel
theorem dX6_make_97 : decode cX6_make 97 = .ok (.iload 5, 2) := by decide +kernel
theorem dX6_make_99 : decode cX6_make 99 = .ok (.iload_n 3, 1) := by decide +kernel
theorem dX6_make_100 : decode cX6_make 100 = .ok (.invokevirtual 80, 3) := by decide +kernel
theorem dX6_make_103 : decode cX6_make 103 = .ok (.istore 6, 2) := by decide +kernel
theorem dX6_make_105 : decode cX6_make 105 = .ok (.iconst 0, 1) := by decide +kernel
theorem dX6_make_106 : decode cX6_make 106 = .ok (.istore 7, 2) := by decide +kernel
theorem dX6_make_108 : decode cX6_make 108 = .ok (.iload 7, 2) := by decide +kernel
theorem dX6_make_110 : decode cX6_make 110 = .ok (.iload 6, 2) := by decide +kernel
theorem dX6_make_112 : decode cX6_make 112 = .ok (.if_icmp .ge 52, 3) := by decide +kernel
theorem dX6_make_115 : decode cX6_make 115 = .ok (.aload_n 0, 1) := by decide +kernel
theorem dX6_make_116 : decode cX6_make 116 = .ok (.getfield 30, 3) := by decide +kernel
theorem dX6_make_119 : decode cX6_make 119 = .ok (.iload 4, 2) := by decide +kernel
theorem dX6_make_121 : decode cX6_make 121 = .ok (.iaload, 1) := by decide +kernel
theorem dX6_make_122 : decode cX6_make 122 = .ok (.ldc 83, 2) := by decide +kernel
theorem dX6_make_124 : decode cX6_make 124 = .ok (.if_icmp .gt 40, 3) := by decide +kernel
theorem dX6_make_127 : decode cX6_make 127 = .ok (.aload_n 0, 1) := by decide +kernel
theorem dX6_make_128 : decode cX6_make 128 = .ok (.iload 4, 2) := by decide +kernel
theorem dX6_make_130 : decode cX6_make 130 = .ok (.aload_n 0, 1) := by decide +kernel
theorem dX6_make_131 : decode cX6_make 131 = .ok (.getfield 30, 3) := by decide +kernel
theorem dX6_make_134 : decode cX6_make 134 = .ok (.iload 4, 2) := by decide +kernel
theorem dX6_make_136 : decode cX6_make 136 = .ok (.iaload, 1) := by decide +kernel
theorem dX6_make_137 : decode cX6_make 137 = .ok (.aload_n 0, 1) := by decide +kernel
theorem dX6_make_138 : decode cX6_make 138 = .ok (.iload 4, 2) := by decide +kernel
theorem dX6_make_140 : decode cX6_make 140 = .ok (.iload_n 3, 1) := by decide +kernel
theorem dX6_make_141 : decode cX6_make 141 = .ok (.invokevirtual 80, 3) := by decide +kernel
theorem dX6_make_144 : decode cX6_make 144 = .ok (.invokevirtual 84, 3) := by decide +kernel
theorem dX6_make_147 : decode cX6_make 147 = .ok (.aload_n 0, 1) := by decide +kernel
theorem dX6_make_148 : decode cX6_make 148 = .ok (.getfield 30, 3) := by decide +kernel
theorem dX6_make_151 : decode cX6_make 151 = .ok (.iload 4, 2) := by decide +kernel
theorem dX6_make_153 : decode cX6_make 153 = .ok (.dup2, 1) := by decide +kernel
theorem dX6_make_154 : decode cX6_make 154 = .ok (.iaload, 1) := by decide +kernel
theorem dX6_make_155 : decode cX6_make 155 = .ok (.iconst 1, 1) := by decide +kernel
theorem dX6_make_156 : decode cX6_make 156 = .ok (.iadd, 1) := by decide +kernel
theorem dX6_make_157 : decode cX6_make 157 = .ok (.iastore, 1) := by decide +kernel
theorem dX6_make_158 : decode cX6_make 158 = .ok (.iinc 7 1, 3) := by decide +kernel
theorem dX6_make_161 : decode cX6_make 161 = .ok (.goto (-53), 3) := by decide +kernel
theorem dX6_make_164 : decode cX6_make 164 = .ok (.iinc 4 1, 3) := by decide +kernel
theorem dX6_make_167 : decode cX6_make 167 = .ok (.goto (-112), 3) := by decide +kernel
theorem dX6_make_170 : decode cX6_make 170 = .ok (.aload_n 0, 1) := by decide +kernel
theorem dX6_make_171 : decode cX6_make 171 = .ok (.dup, 1) := by decide +kernel
theorem dX6_make_172 : decode cX6_make 172 = .ok (.getfield 73, 3) := by decide +kernel
theorem dX6_make_175 : decode cX6_make 175 = .ok (.iconst 1, 1) := by decide +kernel
theorem dX6_make_176 : decode cX6_make 176 = .ok (.iadd, 1) := by decide +kernel
theorem dX6_make_177 : decode cX6_make 177 = .ok (.putfield 73, 3) := by decide +kernel
theorem dX6_make_180 : decode cX6_make 180 = .ok (.goto (-143), 3) := by decide +kernel
theorem dX6_make_183 : decode cX6_make 183 = .ok (.return_, 1) := by decide +kernel
set_option maxRecDepth 20000 in
theorem ggX6_isRow_X6_in : GoodIn wsX6_isRow wsX6_in := goodIn_r _ [5] (by decide +kernel) (by decide +kernel)
set_option maxRecDepth 20000 in
theorem gX6_isRow_X6_in : GoodIn wsX6_isRow (va_wsS RX6 59 yX6_in wsX6_in) := goodIn_app (goodIn_of _ (by decide +kernel)) ggX6_isRow_X6_in
theorem dX6_isRow_0 : decode cX6_isRow 0 = .ok (.iload_n 1, 1) := by decide +kernel
theorem dX6_isRow_1 : decode cX6_isRow 1 = .ok (.i2l, 1) := by decide +kernel
theorem dX6_isRow_2 : decode cX6_isRow 2 = .ok (.lconst 0, 1) := by decide +kernel
theorem dX6_isRow_3 : decode cX6_isRow 3 = .ok (.aload_n 0, 1) := by decide +kernel
theorem dX6_isRow_4 : decode cX6_isRow 4 = .ok (.getfield 49, 3) := by decide +kernel
theorem dX6_isRow_7 : decode cX6_isRow 7 = .ok (.iconst 1, 1) := by decide +kernel
theorem dX6_isRow_8 : decode cX6_isRow 8 = .ok (.isub, 1) := by decide +kernel
theorem dX6_isRow_9 : decode cX6_isRow 9 = .ok (.i2l, 1) := by decide +kernel
theorem dX6_isRow_10 : decode cX6_isRow 10 = .ok (.invokestatic 59, 3) := by decide +kernel
theorem dX6_isRow_13 : decode cX6_isRow 13 = .ok (.ireturn, 1) := by decide +kernel
set_option maxRecDepth 20000 in
theorem ggX6_isPlace_X6_in : GoodIn wsX6_isPlace wsX6_in := goodIn_r _ [5] (by decide +kernel) (by decide +kernel)
set_option maxRecDepth 20000 in
theorem gX6_isPlace_X6_in : GoodIn wsX6_isPlace (va_wsS RX6 59 yX6_in wsX6_in) := goodIn_app (goodIn_of _ (by decide +kernel)) ggX6_isPlace_X6_in
theorem dX6_isPlace_0 : decode cX6_isPlace 0 = .ok (.iload_n 0, 1) := by decide +kernel
theorem dX6_isPlace_1 : decode cX6_isPlace 1 = .ok (.i2l, 1) := by decide +kernel
theorem dX6_isPlace_2 : decode cX6_isPlace 2 = .ok (.lconst 0, 1) := by decide +kernel
theorem dX6_isPlace_3 : decode cX6_isPlace 3 = .ok (.ldc2_w 88, 3) := by decide +kernel
theorem dX6_isPlace_6 : decode cX6_isPlace 6 = .ok (.invokestatic 59, 3) := by decide +kernel
theorem dX6_isPlace_9 : decode cX6_isPlace 9 = .ok (.ireturn, 1) := by decide +kernel
set_option maxRecDepth 20000 in
theorem ggX6_at_X6_isRow : GoodIn wsX6_at wsX6_isRow := goodIn_r _ [5, 6, 7, 8, 4, 9, 40, 41, 42, 43, 44, 45, 46, 47, 48, 49, 50, 51, 52, 53, 54, 55, 56, 57, 58, 59] (by decide +kernel) (by decide +kernel)
set_option maxRecDepth 20000 in
theorem gX6_at_X6_isRow : GoodIn wsX6_at (wsV RX6 90 RX6 yX6_isRow wsX6_isRow) := goodIn_app (goodIn_of _ (by decide +kernel)) ggX6_at_X6_isRow
set_option maxRecDepth 20000 in
theorem ggX6_at_X6_isPlace : GoodIn wsX6_at wsX6_isPlace := goodIn_r _ [12, 13, 7, 8, 4, 9] (by decide +kernel) (by decide +kernel)
set_option maxRecDepth 20000 in
theorem gX6_at_X6_isPlace : GoodIn wsX6_at (va_wsS RX6 93 yX6_isPlace wsX6_isPlace) := goodIn_app (goodIn_of _ (by decide +kernel)) ggX6_at_X6_isPlace
set_option maxRecDepth 20000 in
theorem ggX6_at_X6_make : GoodIn wsX6_at wsX6_make := goodIn_r _ [17, 18, 19, 20, 6, 21, 22, 23, 24, 4, 25, 26, 27, 28, 29, 30, 31, 32, 33, 34, 35, 36, 37, 38, 39, 40, 41, 42, 43, 44, 45, 46, 47, 48, 49, 50, 51, 52, 53, 54, 55, 56, 57, 58, 59] (by decide +kernel) (by decide +kernel)
set_option maxRecDepth 20000 in
theorem gX6_at_X6_make : GoodIn wsX6_at (wsV RX6 96 RX6 yX6_make wsX6_make) := goodIn_app (goodIn_of _ (by decide +kernel)) ggX6_at_X6_make
set_option maxRecDepth 20000 in
theorem ggX6_at_X6_number : GoodIn wsX6_at wsX6_number := goodIn_r _ [25, 26, 27, 28, 40, 41, 42, 43, 44, 45, 46, 47, 48, 49, 50, 51, 52, 53, 54, 55, 56, 57, 58, 59] (by decide +kernel) (by decide +kernel)
set_option maxRecDepth 20000 in
theorem gX6_at_X6_number : GoodIn wsX6_at (wsV RX6 76 RX6 yX6_number wsX6_number) := goodIn_app (goodIn_of _ (by decide +kernel)) ggX6_at_X6_number
theorem dX6_at_0 : decode cX6_at 0 = .ok (.aload_n 0, 1) := by decide +kernel
theorem dX6_at_1 : decode cX6_at 1 = .ok (.iload_n 1, 1) := by decide +kernel
theorem dX6_at_2 : decode cX6_at 2 = .ok (.invokevirtual 90, 3) := by decide +kernel
theorem dX6_at_5 : decode cX6_at 5 = .ok (.ifCond .ne 6, 3) := by decide +kernel
theorem dX6_at_8 : decode cX6_at 8 = .ok (.bipush (-101), 2) := by decide +kernel
theorem dX6_at_10 : decode cX6_at 10 = .ok (.ireturn, 1) := by decide +kernel
theorem dX6_at_11 : decode cX6_at 11 = .ok (.iload_n 2, 1) := by decide +kernel
theorem dX6_at_12 : decode cX6_at 12 = .ok (.invokestatic 93, 3) := by decide +kernel
theorem dX6_at_15 : decode cX6_at 15 = .ok (.ifCond .ne 6, 3) := by decide +kernel
theorem dX6_at_18 : decode cX6_at 18 = .ok (.bipush (-102), 2) := by decide +kernel
theorem dX6_at_20 : decode cX6_at 20 = .ok (.ireturn, 1) := by decide +kernel
theorem dX6_at_21 : decode cX6_at 21 = .ok (.aload_n 0, 1) := by decide +kernel
theorem dX6_at_22 : decode cX6_at 22 = .ok (.iload_n 1, 1) := by decide +kernel
theorem dX6_at_23 : decode cX6_at 23 = .ok (.iload_n 2, 1) := by decide +kernel
theorem dX6_at_24 : decode cX6_at 24 = .ok (.invokevirtual 96, 3) := by decide +kernel
theorem dX6_at_27 : decode cX6_at 27 = .ok (.aload_n 0, 1) := by decide +kernel
theorem dX6_at_28 : decode cX6_at 28 = .ok (.iload_n 1, 1) := by decide +kernel
theorem dX6_at_29 : decode cX6_at 29 = .ok (.iload_n 2, 1) := by decide +kernel
theorem dX6_at_30 : decode cX6_at 30 = .ok (.invokevirtual 76, 3) := by decide +kernel
theorem dX6_at_33 : decode cX6_at 33 = .ok (.ireturn, 1) := by decide +kernel
set_option maxRecDepth 20000 in
theorem ggX6_count_X6_isRow : GoodIn wsX6_count wsX6_isRow := goodIn_r _ [5, 6, 7, 8, 4, 9, 40, 41, 42, 43, 44, 45, 46, 47, 48, 49, 50, 51, 52, 53, 54, 55, 56, 57, 58, 59] (by decide +kernel) (by decide +kernel)
set_option maxRecDepth 20000 in
theorem gX6_count_X6_isRow : GoodIn wsX6_count (wsV RX6 90 RX6 yX6_isRow wsX6_isRow) := goodIn_app (goodIn_of _ (by decide +kernel)) ggX6_count_X6_isRow
set_option maxRecDepth 20000 in
theorem ggX6_count_X6_isPlace : GoodIn wsX6_count wsX6_isPlace := goodIn_r _ [12, 13, 7, 8, 4, 9] (by decide +kernel) (by decide +kernel)
set_option maxRecDepth 20000 in
theorem gX6_count_X6_isPlace : GoodIn wsX6_count (va_wsS RX6 93 yX6_isPlace wsX6_isPlace) := goodIn_app (goodIn_of _ (by decide +kernel)) ggX6_count_X6_isPlace
set_option maxRecDepth 20000 in
theorem ggX6_count_X6_make : GoodIn wsX6_count wsX6_make := goodIn_r _ [17, 18, 19, 20, 6, 21, 22, 23, 24, 4, 25, 26, 27, 28, 29, 30, 31, 32, 33, 34, 35, 36, 37, 38, 39, 40, 41, 42, 43, 44, 45, 46, 47, 48, 49, 50, 51, 52, 53, 54, 55, 56, 57, 58, 59] (by decide +kernel) (by decide +kernel)
set_option maxRecDepth 20000 in
theorem gX6_count_X6_make : GoodIn wsX6_count (wsV RX6 96 RX6 yX6_make wsX6_make) := goodIn_app (goodIn_of _ (by decide +kernel)) ggX6_count_X6_make
set_option maxRecDepth 20000 in
theorem ggX6_count_X6_number : GoodIn wsX6_count wsX6_number := goodIn_r _ [25, 26, 27, 28, 40, 41, 42, 43, 44, 45, 46, 47, 48, 49, 50, 51, 52, 53, 54, 55, 56, 57, 58, 59] (by decide +kernel) (by decide +kernel)
set_option maxRecDepth 20000 in
theorem gX6_count_X6_number : GoodIn wsX6_count (wsV RX6 76 RX6 yX6_number wsX6_number) := goodIn_app (goodIn_of _ (by decide +kernel)) ggX6_count_X6_number
theorem dX6_count_0 : decode cX6_count 0 = .ok (.aload_n 0, 1) := by decide +kernel
theorem dX6_count_1 : decode cX6_count 1 = .ok (.iload_n 1, 1) := by decide +kernel
theorem dX6_count_2 : decode cX6_count 2 = .ok (.invokevirtual 90, 3) := by decide +kernel
theorem dX6_count_5 : decode cX6_count 5 = .ok (.ifCond .ne 6, 3) := by decide +kernel
theorem dX6_count_8 : decode cX6_count 8 = .ok (.bipush (-101), 2) := by decide +kernel
theorem dX6_count_10 : decode cX6_count 10 = .ok (.ireturn, 1) := by decide +kernel
theorem dX6_count_11 : decode cX6_count 11 = .ok (.iload_n 3, 1) := by decide +kernel
theorem dX6_count_12 : decode cX6_count 12 = .ok (.invokestatic 93, 3) := by decide +kernel
theorem dX6_count_15 : decode cX6_count 15 = .ok (.ifCond .ne 6, 3) := by decide +kernel
theorem dX6_count_18 : decode cX6_count 18 = .ok (.bipush (-102), 2) := by decide +kernel
theorem dX6_count_20 : decode cX6_count 20 = .ok (.ireturn, 1) := by decide +kernel
theorem dX6_count_21 : decode cX6_count 21 = .ok (.aload_n 0, 1) := by decide +kernel
theorem dX6_count_22 : decode cX6_count 22 = .ok (.iload_n 1, 1) := by decide +kernel
theorem dX6_count_23 : decode cX6_count 23 = .ok (.iload_n 3, 1) := by decide +kernel
theorem dX6_count_24 : decode cX6_count 24 = .ok (.iconst 1, 1) := by decide +kernel
theorem dX6_count_25 : decode cX6_count 25 = .ok (.isub, 1) := by decide +kernel
theorem dX6_count_26 : decode cX6_count 26 = .ok (.invokevirtual 96, 3) := by decide +kernel
theorem dX6_count_29 : decode cX6_count 29 = .ok (.iconst 0, 1) := by decide +kernel
theorem dX6_count_30 : decode cX6_count 30 = .ok (.istore 4, 2) := by decide +kernel
theorem dX6_count_32 : decode cX6_count 32 = .ok (.iconst 0, 1) := by decide +kernel
theorem dX6_count_33 : decode cX6_count 33 = .ok (.istore 5, 2) := by decide +kernel
theorem dX6_count_35 : decode cX6_count 35 = .ok (.iload 5, 2) := by decide +kernel
theorem dX6_count_37 : decode cX6_count 37 = .ok (.iload_n 3, 1) := by decide +kernel
theorem dX6_count_38 : decode cX6_count 38 = .ok (.if_icmp .ge 30, 3) := by decide +kernel
theorem dX6_count_41 : decode cX6_count 41 = .ok (.iload 4, 2) := by decide +kernel
theorem dX6_count_43 : decode cX6_count 43 = .ok (.aload_n 0, 1) := by decide +kernel
theorem dX6_count_44 : decode cX6_count 44 = .ok (.iload_n 1, 1) := by decide +kernel
theorem dX6_count_45 : decode cX6_count 45 = .ok (.iload 5, 2) := by decide +kernel
theorem dX6_count_47 : decode cX6_count 47 = .ok (.invokevirtual 76, 3) := by decide +kernel
theorem dX6_count_50 : decode cX6_count 50 = .ok (.iload_n 2, 1) := by decide +kernel
theorem dX6_count_51 : decode cX6_count 51 = .ok (.if_icmp .ne 7, 3) := by decide +kernel
theorem dX6_count_54 : decode cX6_count 54 = .ok (.iconst 1, 1) := by decide +kernel
theorem dX6_count_55 : decode cX6_count 55 = .ok (.goto 4, 3) := by decide +kernel
theorem dX6_count_58 : decode cX6_count 58 = .ok (.iconst 0, 1) := by decide +kernel
theorem dX6_count_59 : decode cX6_count 59 = .ok (.iadd, 1) := by decide +kernel
theorem dX6_count_60 : decode cX6_count 60 = .ok (.istore 4, 2) := by decide +kernel
theorem dX6_count_62 : decode cX6_count 62 = .ok (.iinc 5 1, 3) := by decide +kernel
theorem dX6_count_65 : decode cX6_count 65 = .ok (.goto (-30), 3) := by decide +kernel
theorem dX6_count_68 : decode cX6_count 68 = .ok (.iload 4, 2) := by decide +kernel
theorem dX6_count_70 : decode cX6_count 70 = .ok (.ireturn, 1) := by decide +kernel
set_option maxRecDepth 20000 in
theorem ggX6_sum_X6_isRow : GoodIn wsX6_sum wsX6_isRow := goodIn_r _ [5, 6, 7, 8, 4, 9, 40, 41, 42, 43, 44, 45, 46, 47, 48, 49, 50, 51, 52, 53, 54, 55, 56, 57, 58, 59] (by decide +kernel) (by decide +kernel)
set_option maxRecDepth 20000 in
theorem gX6_sum_X6_isRow : GoodIn wsX6_sum (wsV RX6 90 RX6 yX6_isRow wsX6_isRow) := goodIn_app (goodIn_of _ (by decide +kernel)) ggX6_sum_X6_isRow
set_option maxRecDepth 20000 in
theorem ggX6_sum_X6_isPlace : GoodIn wsX6_sum wsX6_isPlace := goodIn_r _ [12, 13, 7, 8, 4, 9] (by decide +kernel) (by decide +kernel)
set_option maxRecDepth 20000 in
theorem gX6_sum_X6_isPlace : GoodIn wsX6_sum (va_wsS RX6 93 yX6_isPlace wsX6_isPlace) := goodIn_app (goodIn_of _ (by decide +kernel)) ggX6_sum_X6_isPlace
set_option maxRecDepth 20000 in
theorem ggX6_sum_X6_make : GoodIn wsX6_sum wsX6_make := goodIn_r _ [17, 18, 19, 20, 6, 21, 22, 23, 24, 4, 25, 26, 27, 28, 29, 30, 31, 32, 33, 34, 35, 36, 37, 38, 39, 40, 41, 42, 43, 44, 45, 46, 47, 48, 49, 50, 51, 52, 53, 54, 55, 56, 57, 58, 59] (by decide +kernel) (by decide +kernel)
set_option maxRecDepth 20000 in
theorem gX6_sum_X6_make : GoodIn wsX6_sum (wsV RX6 96 RX6 yX6_make wsX6_make) := goodIn_app (goodIn_of _ (by decide +kernel)) ggX6_sum_X6_make
set_option maxRecDepth 20000 in
theorem ggX6_sum_X6_number : GoodIn wsX6_sum wsX6_number := goodIn_r _ [25, 26, 27, 28, 40, 41, 42, 43, 44, 45, 46, 47, 48, 49, 50, 51, 52, 53, 54, 55, 56, 57, 58, 59] (by decide +kernel) (by decide +kernel)
set_option maxRecDepth 20000 in
theorem gX6_sum_X6_number : GoodIn wsX6_sum (wsV RX6 76 RX6 yX6_number wsX6_number) := goodIn_app (goodIn_of _ (by decide +kernel)) ggX6_sum_X6_number
theorem dX6_sum_0 : decode cX6_sum 0 = .ok (.aload_n 0, 1) := by decide +kernel
theorem dX6_sum_1 : decode cX6_sum 1 = .ok (.iload_n 1, 1) := by decide +kernel
theorem dX6_sum_2 : decode cX6_sum 2 = .ok (.invokevirtual 90, 3) := by decide +kernel
theorem dX6_sum_5 : decode cX6_sum 5 = .ok (.ifCond .ne 6, 3) := by decide +kernel
theorem dX6_sum_8 : decode cX6_sum 8 = .ok (.bipush (-101), 2) := by decide +kernel
theorem dX6_sum_10 : decode cX6_sum 10 = .ok (.ireturn, 1) := by decide +kernel
theorem dX6_sum_11 : decode cX6_sum 11 = .ok (.iload_n 2, 1) := by decide +kernel
theorem dX6_sum_12 : decode cX6_sum 12 = .ok (.invokestatic 93, 3) := by decide +kernel
theorem dX6_sum_15 : decode cX6_sum 15 = .ok (.ifCond .ne 6, 3) := by decide +kernel
theorem dX6_sum_18 : decode cX6_sum 18 = .ok (.bipush (-102), 2) := by decide +kernel
theorem dX6_sum_20 : decode cX6_sum 20 = .ok (.ireturn, 1) := by decide +kernel
theorem dX6_sum_21 : decode cX6_sum 21 = .ok (.aload_n 0, 1) := by decide +kernel
theorem dX6_sum_22 : decode cX6_sum 22 = .ok (.iload_n 1, 1) := by decide +kernel
theorem dX6_sum_23 : decode cX6_sum 23 = .ok (.iload_n 2, 1) := by decide +kernel
theorem dX6_sum_24 : decode cX6_sum 24 = .ok (.iconst 1, 1) := by decide +kernel
theorem dX6_sum_25 : decode cX6_sum 25 = .ok (.isub, 1) := by decide +kernel
theorem dX6_sum_26 : decode cX6_sum 26 = .ok (.invokevirtual 96, 3) := by decide +kernel
theorem dX6_sum_29 : decode cX6_sum 29 = .ok (.iconst 0, 1) := by decide +kernel
theorem dX6_sum_30 : decode cX6_sum 30 = .ok (.istore_n 3, 1) := by decide +kernel
theorem dX6_sum_31 : decode cX6_sum 31 = .ok (.iconst 0, 1) := by decide +kernel
theorem dX6_sum_32 : decode cX6_sum 32 = .ok (.istore 4, 2) := by decide +kernel
theorem dX6_sum_34 : decode cX6_sum 34 = .ok (.iload 4, 2) := by decide +kernel
theorem dX6_sum_36 : decode cX6_sum 36 = .ok (.iload_n 2, 1) := by decide +kernel
theorem dX6_sum_37 : decode cX6_sum 37 = .ok (.if_icmp .ge 19, 3) := by decide +kernel
theorem dX6_sum_40 : decode cX6_sum 40 = .ok (.iload_n 3, 1) := by decide +kernel
theorem dX6_sum_41 : decode cX6_sum 41 = .ok (.aload_n 0, 1) := by decide +kernel
theorem dX6_sum_42 : decode cX6_sum 42 = .ok (.iload_n 1, 1) := by decide +kernel
theorem dX6_sum_43 : decode cX6_sum 43 = .ok (.iload 4, 2) := by decide +kernel
theorem dX6_sum_45 : decode cX6_sum 45 = .ok (.invokevirtual 76, 3) := by decide +kernel
theorem dX6_sum_48 : decode cX6_sum 48 = .ok (.iadd, 1) := by decide +kernel
theorem dX6_sum_49 : decode cX6_sum 49 = .ok (.istore_n 3, 1) := by decide +kernel
theorem dX6_sum_50 : decode cX6_sum 50 = .ok (.iinc 4 1, 3) := by decide +kernel
theorem dX6_sum_53 : decode cX6_sum 53 = .ok (.goto (-19), 3) := by decide +kernel
theorem dX6_sum_56 : decode cX6_sum 56 = .ok (.iload_n 3, 1) := by decide +kernel
theorem dX6_sum_57 : decode cX6_sum 57 = .ok (.ireturn, 1) := by decide +kernel
set_option maxRecDepth 20000 in
theorem ggX6_run_X6_isRow : GoodIn wsX6_run wsX6_isRow := goodIn_r _ [5, 6, 7, 8, 4, 9, 40, 41, 42, 43, 44, 45, 46, 47, 48, 49, 50, 51, 52, 53, 54, 55, 56, 57, 58, 59] (by decide +kernel) (by decide +kernel)
set_option maxRecDepth 20000 in
theorem gX6_run_X6_isRow : GoodIn wsX6_run (wsV RX6 90 RX6 yX6_isRow wsX6_isRow) := goodIn_app (goodIn_of _ (by decide +kernel)) ggX6_run_X6_isRow
set_option maxRecDepth 20000 in
theorem ggX6_run_X6_isPlace : GoodIn wsX6_run wsX6_isPlace := goodIn_r _ [12, 13, 7, 8, 4, 9] (by decide +kernel) (by decide +kernel)
set_option maxRecDepth 20000 in
theorem gX6_run_X6_isPlace : GoodIn wsX6_run (va_wsS RX6 93 yX6_isPlace wsX6_isPlace) := goodIn_app (goodIn_of _ (by decide +kernel)) ggX6_run_X6_isPlace
set_option maxRecDepth 20000 in
theorem ggX6_run_X6_make : GoodIn wsX6_run wsX6_make := goodIn_r _ [17, 18, 19, 20, 6, 21, 22, 23, 24, 4, 25, 26, 27, 28, 29, 30, 31, 32, 33, 34, 35, 36, 37, 38, 39, 40, 41, 42, 43, 44, 45, 46, 47, 48, 49, 50, 51, 52, 53, 54, 55, 56, 57, 58, 59] (by decide +kernel) (by decide +kernel)
set_option maxRecDepth 20000 in
theorem gX6_run_X6_make : GoodIn wsX6_run (wsV RX6 96 RX6 yX6_make wsX6_make) := goodIn_app (goodIn_of _ (by decide +kernel)) ggX6_run_X6_make
set_option maxRecDepth 20000 in
theorem ggX6_run_X6_number : GoodIn wsX6_run wsX6_number := goodIn_r _ [25, 26, 27, 28, 40, 41, 42, 43, 44, 45, 46, 47, 48, 49, 50, 51, 52, 53, 54, 55, 56, 57, 58, 59] (by decide +kernel) (by decide +kernel)
set_option maxRecDepth 20000 in
theorem gX6_run_X6_number : GoodIn wsX6_run (wsV RX6 76 RX6 yX6_number wsX6_number) := goodIn_app (goodIn_of _ (by decide +kernel)) ggX6_run_X6_number
theorem dX6_run_0 : decode cX6_run 0 = .ok (.aload_n 0, 1) := by decide +kernel
theorem dX6_run_1 : decode cX6_run 1 = .ok (.iload_n 1, 1) := by decide +kernel
theorem dX6_run_2 : decode cX6_run 2 = .ok (.invokevirtual 90, 3) := by decide +kernel
theorem dX6_run_5 : decode cX6_run 5 = .ok (.ifCond .ne 6, 3) := by decide +kernel
theorem dX6_run_8 : decode cX6_run 8 = .ok (.bipush (-101), 2) := by decide +kernel
theorem dX6_run_10 : decode cX6_run 10 = .ok (.ireturn, 1) := by decide +kernel
theorem dX6_run_11 : decode cX6_run 11 = .ok (.iload_n 2, 1) := by decide +kernel
theorem dX6_run_12 : decode cX6_run 12 = .ok (.invokestatic 93, 3) := by decide +kernel
theorem dX6_run_15 : decode cX6_run 15 = .ok (.ifCond .ne 6, 3) := by decide +kernel
theorem dX6_run_18 : decode cX6_run 18 = .ok (.bipush (-102), 2) := by decide +kernel
theorem dX6_run_20 : decode cX6_run 20 = .ok (.ireturn, 1) := by decide +kernel
theorem dX6_run_21 : decode cX6_run 21 = .ok (.aload_n 0, 1) := by decide +kernel
theorem dX6_run_22 : decode cX6_run 22 = .ok (.iload_n 1, 1) := by decide +kernel
theorem dX6_run_23 : decode cX6_run 23 = .ok (.iload_n 2, 1) := by decide +kernel
theorem dX6_run_24 : decode cX6_run 24 = .ok (.invokevirtual 96, 3) := by decide +kernel
theorem dX6_run_27 : decode cX6_run 27 = .ok (.iconst 0, 1) := by decide +kernel
theorem dX6_run_28 : decode cX6_run 28 = .ok (.istore_n 3, 1) := by decide +kernel
theorem dX6_run_29 : decode cX6_run 29 = .ok (.iconst 1, 1) := by decide +kernel
theorem dX6_run_30 : decode cX6_run 30 = .ok (.istore 4, 2) := by decide +kernel
theorem dX6_run_32 : decode cX6_run 32 = .ok (.iload 4, 2) := by decide +kernel
theorem dX6_run_34 : decode cX6_run 34 = .ok (.iload_n 2, 1) := by decide +kernel
theorem dX6_run_35 : decode cX6_run 35 = .ok (.if_icmp .gt 36, 3) := by decide +kernel
theorem dX6_run_38 : decode cX6_run 38 = .ok (.iload_n 3, 1) := by decide +kernel
theorem dX6_run_39 : decode cX6_run 39 = .ok (.aload_n 0, 1) := by decide +kernel
theorem dX6_run_40 : decode cX6_run 40 = .ok (.iload_n 1, 1) := by decide +kernel
theorem dX6_run_41 : decode cX6_run 41 = .ok (.iload 4, 2) := by decide +kernel
theorem dX6_run_43 : decode cX6_run 43 = .ok (.invokevirtual 76, 3) := by decide +kernel
theorem dX6_run_46 : decode cX6_run 46 = .ok (.aload_n 0, 1) := by decide +kernel
theorem dX6_run_47 : decode cX6_run 47 = .ok (.iload_n 1, 1) := by decide +kernel
theorem dX6_run_48 : decode cX6_run 48 = .ok (.iload 4, 2) := by decide +kernel
theorem dX6_run_50 : decode cX6_run 50 = .ok (.iconst 1, 1) := by decide +kernel
theorem dX6_run_51 : decode cX6_run 51 = .ok (.isub, 1) := by decide +kernel
theorem dX6_run_52 : decode cX6_run 52 = .ok (.invokevirtual 76, 3) := by decide +kernel
theorem dX6_run_55 : decode cX6_run 55 = .ok (.if_icmp .ne 7, 3) := by decide +kernel
theorem dX6_run_58 : decode cX6_run 58 = .ok (.iconst 0, 1) := by decide +kernel
theorem dX6_run_59 : decode cX6_run 59 = .ok (.goto 4, 3) := by decide +kernel
theorem dX6_run_62 : decode cX6_run 62 = .ok (.iconst 1, 1) := by decide +kernel
theorem dX6_run_63 : decode cX6_run 63 = .ok (.iadd, 1) := by decide +kernel
theorem dX6_run_64 : decode cX6_run 64 = .ok (.istore_n 3, 1) := by decide +kernel
theorem dX6_run_65 : decode cX6_run 65 = .ok (.iinc 4 1, 3) := by decide +kernel
theorem dX6_run_68 : decode cX6_run 68 = .ok (.goto (-36), 3) := by decide +kernel
theorem dX6_run_71 : decode cX6_run 71 = .ok (.iload_n 3, 1) := by decide +kernel
theorem dX6_run_72 : decode cX6_run 72 = .ok (.ireturn, 1) := by decide +kernel
set_option maxRecDepth 20000 in
theorem ggX6_begins_X6_isRow : GoodIn wsX6_begins wsX6_isRow := goodIn_r _ [6, 7, 8, 9, 5, 10, 40, 41, 42, 43, 44, 45, 46, 47, 48, 49, 50, 51, 52, 53, 54, 55, 56, 57, 58, 59] (by decide +kernel) (by decide +kernel)
set_option maxRecDepth 20000 in
theorem gX6_begins_X6_isRow : GoodIn wsX6_begins (wsV RX6 90 RX6 yX6_isRow wsX6_isRow) := goodIn_app (goodIn_of _ (by decide +kernel)) ggX6_begins_X6_isRow
set_option maxRecDepth 20000 in
theorem ggX6_begins_X6_isPlace : GoodIn wsX6_begins wsX6_isPlace := goodIn_r _ [13, 14, 8, 9, 5, 10] (by decide +kernel) (by decide +kernel)
set_option maxRecDepth 20000 in
theorem gX6_begins_X6_isPlace : GoodIn wsX6_begins (va_wsS RX6 93 yX6_isPlace wsX6_isPlace) := goodIn_app (goodIn_of _ (by decide +kernel)) ggX6_begins_X6_isPlace
set_option maxRecDepth 20000 in
theorem ggX6_begins_X6_make : GoodIn wsX6_begins wsX6_make := goodIn_r _ [18, 19, 20, 21, 7, 1, 22, 23, 24, 5, 25, 26, 27, 28, 29, 30, 31, 32, 33, 34, 35, 36, 37, 38, 39, 40, 41, 42, 43, 44, 45, 46, 47, 48, 49, 50, 51, 52, 53, 54, 55, 56, 57, 58, 59] (by decide +kernel) (by decide +kernel)
set_option maxRecDepth 20000 in
theorem gX6_begins_X6_make : GoodIn wsX6_begins (wsV RX6 96 RX6 yX6_make wsX6_make) := goodIn_app (goodIn_of _ (by decide +kernel)) ggX6_begins_X6_make
set_option maxRecDepth 20000 in
theorem ggX6_begins_X6_number : GoodIn wsX6_begins wsX6_number := goodIn_r _ [25, 26, 27, 28, 40, 41, 42, 43, 44, 45, 46, 47, 48, 49, 50, 51, 52, 53, 54, 55, 56, 57, 58, 59] (by decide +kernel) (by decide +kernel)
set_option maxRecDepth 20000 in
theorem gX6_begins_X6_number : GoodIn wsX6_begins (wsV RX6 76 RX6 yX6_number wsX6_number) := goodIn_app (goodIn_of _ (by decide +kernel)) ggX6_begins_X6_number
theorem dX6_begins_0 : decode cX6_begins 0 = .ok (.aload_n 0, 1) := by decide +kernel
theorem dX6_begins_1 : decode cX6_begins 1 = .ok (.iload_n 1, 1) := by decide +kernel
theorem dX6_begins_2 : decode cX6_begins 2 = .ok (.invokevirtual 90, 3) := by decide +kernel
theorem dX6_begins_5 : decode cX6_begins 5 = .ok (.ifCond .ne 6, 3) := by decide +kernel
theorem dX6_begins_8 : decode cX6_begins 8 = .ok (.bipush (-101), 2) := by decide +kernel
theorem dX6_begins_10 : decode cX6_begins 10 = .ok (.ireturn, 1) := by decide +kernel
theorem dX6_begins_11 : decode cX6_begins 11 = .ok (.iload_n 2, 1) := by decide +kernel
theorem dX6_begins_12 : decode cX6_begins 12 = .ok (.invokestatic 93, 3) := by decide +kernel
theorem dX6_begins_15 : decode cX6_begins 15 = .ok (.ifCond .ne 6, 3) := by decide +kernel
theorem dX6_begins_18 : decode cX6_begins 18 = .ok (.bipush (-102), 2) := by decide +kernel
theorem dX6_begins_20 : decode cX6_begins 20 = .ok (.ireturn, 1) := by decide +kernel
theorem dX6_begins_21 : decode cX6_begins 21 = .ok (.aload_n 0, 1) := by decide +kernel
theorem dX6_begins_22 : decode cX6_begins 22 = .ok (.iload_n 1, 1) := by decide +kernel
theorem dX6_begins_23 : decode cX6_begins 23 = .ok (.iconst 0, 1) := by decide +kernel
theorem dX6_begins_24 : decode cX6_begins 24 = .ok (.invokevirtual 96, 3) := by decide +kernel
theorem dX6_begins_27 : decode cX6_begins 27 = .ok (.iconst 0, 1) := by decide +kernel
theorem dX6_begins_28 : decode cX6_begins 28 = .ok (.istore_n 3, 1) := by decide +kernel
theorem dX6_begins_29 : decode cX6_begins 29 = .ok (.iconst 0, 1) := by decide +kernel
theorem dX6_begins_30 : decode cX6_begins 30 = .ok (.istore 4, 2) := by decide +kernel
theorem dX6_begins_32 : decode cX6_begins 32 = .ok (.iload_n 3, 1) := by decide +kernel
theorem dX6_begins_33 : decode cX6_begins 33 = .ok (.iload_n 2, 1) := by decide +kernel
theorem dX6_begins_34 : decode cX6_begins 34 = .ok (.if_icmp .ge 69, 3) := by decide +kernel
theorem dX6_begins_37 : decode cX6_begins 37 = .ok (.iload 4, 2) := by decide +kernel
theorem dX6_begins_39 : decode cX6_begins 39 = .ok (.ldc 83, 2) := by decide +kernel
theorem dX6_begins_41 : decode cX6_begins 41 = .ok (.if_icmp .gt 62, 3) := by decide +kernel
theorem dX6_begins_44 : decode cX6_begins 44 = .ok (.iinc 4 1, 3) := by decide +kernel
theorem dX6_begins_47 : decode cX6_begins 47 = .ok (.aload_n 0, 1) := by decide +kernel
theorem dX6_begins_48 : decode cX6_begins 48 = .ok (.iload_n 1, 1) := by decide +kernel
theorem dX6_begins_49 : decode cX6_begins 49 = .ok (.iload 4, 2) := by decide +kernel
theorem dX6_begins_51 : decode cX6_begins 51 = .ok (.ldc 83, 2) := by decide +kernel
theorem dX6_begins_53 : decode cX6_begins 53 = .ok (.if_icmp .gt 8, 3) := by decide +kernel
theorem dX6_begins_56 : decode cX6_begins 56 = .ok (.iload 4, 2) := by decide +kernel
theorem dX6_begins_58 : decode cX6_begins 58 = .ok (.goto 5, 3) := by decide +kernel
theorem dX6_begins_61 : decode cX6_begins 61 = .ok (.ldc 83, 2) := by decide +kernel
theorem dX6_begins_63 : decode cX6_begins 63 = .ok (.invokevirtual 96, 3) := by decide +kernel
theorem dX6_begins_66 : decode cX6_begins 66 = .ok (.iload_n 3, 1) := by decide +kernel
theorem dX6_begins_67 : decode cX6_begins 67 = .ok (.iload 4, 2) := by decide +kernel
theorem dX6_begins_69 : decode cX6_begins 69 = .ok (.ldc 83, 2) := by decide +kernel
theorem dX6_begins_71 : decode cX6_begins 71 = .ok (.if_icmp .gt 26, 3) := by decide +kernel
theorem dX6_begins_74 : decode cX6_begins 74 = .ok (.aload_n 0, 1) := by decide +kernel
theorem dX6_begins_75 : decode cX6_begins 75 = .ok (.iload_n 1, 1) := by decide +kernel
theorem dX6_begins_76 : decode cX6_begins 76 = .ok (.iload 4, 2) := by decide +kernel
theorem dX6_begins_78 : decode cX6_begins 78 = .ok (.invokevirtual 76, 3) := by decide +kernel
theorem dX6_begins_81 : decode cX6_begins 81 = .ok (.aload_n 0, 1) := by decide +kernel
theorem dX6_begins_82 : decode cX6_begins 82 = .ok (.iload_n 1, 1) := by decide +kernel
theorem dX6_begins_83 : decode cX6_begins 83 = .ok (.iload 4, 2) := by decide +kernel
theorem dX6_begins_85 : decode cX6_begins 85 = .ok (.iconst 1, 1) := by decide +kernel
theorem dX6_begins_86 : decode cX6_begins 86 = .ok (.isub, 1) := by decide +kernel
theorem dX6_begins_87 : decode cX6_begins 87 = .ok (.invokevirtual 76, 3) := by decide +kernel
theorem dX6_begins_90 : decode cX6_begins 90 = .ok (.if_icmp .eq 7, 3) := by decide +kernel
theorem dX6_begins_93 : decode cX6_begins 93 = .ok (.iconst 1, 1) := by decide +kernel
theorem dX6_begins_94 : decode cX6_begins 94 = .ok (.goto 4, 3) := by decide +kernel
theorem dX6_begins_97 : decode cX6_begins 97 = .ok (.iconst 0, 1) := by decide +kernel
theorem dX6_begins_98 : decode cX6_begins 98 = .ok (.iadd, 1) := by decide +kernel
theorem dX6_begins_99 : decode cX6_begins 99 = .ok (.istore_n 3, 1) := by decide +kernel
theorem dX6_begins_100 : decode cX6_begins 100 = .ok (.goto (-68), 3) := by decide +kernel
theorem dX6_begins_103 : decode cX6_begins 103 = .ok (.iload 4, 2) := by decide +kernel
theorem dX6_begins_105 : decode cX6_begins 105 = .ok (.ldc 83, 2) := by decide +kernel
theorem dX6_begins_107 : decode cX6_begins 107 = .ok (.if_icmp .gt 8, 3) := by decide +kernel
theorem dX6_begins_110 : decode cX6_begins 110 = .ok (.iload 4, 2) := by decide +kernel
theorem dX6_begins_112 : decode cX6_begins 112 = .ok (.goto 4, 3) := by decide +kernel
theorem dX6_begins_115 : decode cX6_begins 115 = .ok (.iconst (-1), 1) := by decide +kernel
theorem dX6_begins_116 : decode cX6_begins 116 = .ok (.ireturn, 1) := by decide +kernel
set_option maxRecDepth 20000 in
theorem ggX6_off_X6_isRow : GoodIn wsX6_off wsX6_isRow := goodIn_r _ [7, 8, 9, 10, 6, 11, 42, 43, 44, 45, 46, 47, 48, 49, 50, 51, 52, 53, 54, 55, 56, 57, 58, 59, 60, 61] (by decide +kernel) (by decide +kernel)
set_option maxRecDepth 20000 in
theorem gX6_off_X6_isRow : GoodIn wsX6_off (wsV RX6 90 RX6 yX6_isRow wsX6_isRow) := goodIn_app (goodIn_of _ (by decide +kernel)) ggX6_off_X6_isRow
set_option maxRecDepth 20000 in
theorem ggX6_off_X6_isPlace : GoodIn wsX6_off wsX6_isPlace := goodIn_r _ [14, 15, 9, 10, 6, 11] (by decide +kernel) (by decide +kernel)
set_option maxRecDepth 20000 in
theorem gX6_off_X6_isPlace : GoodIn wsX6_off (va_wsS RX6 93 yX6_isPlace wsX6_isPlace) := goodIn_app (goodIn_of _ (by decide +kernel)) ggX6_off_X6_isPlace
set_option maxRecDepth 20000 in
theorem ggX6_off_X6_in : GoodIn wsX6_off wsX6_in := goodIn_r _ [11] (by decide +kernel) (by decide +kernel)
set_option maxRecDepth 20000 in
theorem gX6_off_X6_in : GoodIn wsX6_off (va_wsS RX6 59 yX6_in wsX6_in) := goodIn_app (goodIn_of _ (by decide +kernel)) ggX6_off_X6_in
set_option maxRecDepth 20000 in
theorem ggX6_off_X6_make : GoodIn wsX6_off wsX6_make := goodIn_r _ [19, 20, 21, 22, 8, 23, 24, 25, 26, 6, 27, 28, 29, 30, 31, 32, 33, 34, 35, 36, 37, 38, 39, 40, 41, 42, 43, 44, 45, 46, 47, 48, 49, 50, 51, 52, 53, 54, 55, 56, 57, 58, 59, 60, 61] (by decide +kernel) (by decide +kernel)
set_option maxRecDepth 20000 in
theorem gX6_off_X6_make : GoodIn wsX6_off (wsV RX6 96 RX6 yX6_make wsX6_make) := goodIn_app (goodIn_of _ (by decide +kernel)) ggX6_off_X6_make
set_option maxRecDepth 20000 in
theorem ggX6_off_X6_number : GoodIn wsX6_off wsX6_number := goodIn_r _ [27, 28, 29, 30, 42, 43, 44, 45, 46, 47, 48, 49, 50, 51, 52, 53, 54, 55, 56, 57, 58, 59, 60, 61] (by decide +kernel) (by decide +kernel)
set_option maxRecDepth 20000 in
theorem gX6_off_X6_number : GoodIn wsX6_off (wsV RX6 76 RX6 yX6_number wsX6_number) := goodIn_app (goodIn_of _ (by decide +kernel)) ggX6_off_X6_number
theorem dX6_off_0 : decode cX6_off 0 = .ok (.aload_n 0, 1) := by decide +kernel
theorem dX6_off_1 : decode cX6_off 1 = .ok (.iload_n 1, 1) := by decide +kernel
theorem dX6_off_2 : decode cX6_off 2 = .ok (.invokevirtual 90, 3) := by decide +kernel
theorem dX6_off_5 : decode cX6_off 5 = .ok (.ifCond .ne 6, 3) := by decide +kernel
theorem dX6_off_8 : decode cX6_off 8 = .ok (.bipush (-101), 2) := by decide +kernel
theorem dX6_off_10 : decode cX6_off 10 = .ok (.ireturn, 1) := by decide +kernel
theorem dX6_off_11 : decode cX6_off 11 = .ok (.iload 4, 2) := by decide +kernel
theorem dX6_off_13 : decode cX6_off 13 = .ok (.invokestatic 93, 3) := by decide +kernel
theorem dX6_off_16 : decode cX6_off 16 = .ok (.ifCond .eq 17, 3) := by decide +kernel
theorem dX6_off_19 : decode cX6_off 19 = .ok (.iload_n 3, 1) := by decide +kernel
theorem dX6_off_20 : decode cX6_off 20 = .ok (.i2l, 1) := by decide +kernel
theorem dX6_off_21 : decode cX6_off 21 = .ok (.ldc2_w 67, 3) := by decide +kernel
theorem dX6_off_24 : decode cX6_off 24 = .ok (.ldc2_w 71, 3) := by decide +kernel
theorem dX6_off_27 : decode cX6_off 27 = .ok (.invokestatic 59, 3) := by decide +kernel
theorem dX6_off_30 : decode cX6_off 30 = .ok (.ifCond .ne 6, 3) := by decide +kernel
theorem dX6_off_33 : decode cX6_off 33 = .ok (.bipush (-102), 2) := by decide +kernel
theorem dX6_off_35 : decode cX6_off 35 = .ok (.ireturn, 1) := by decide +kernel
theorem dX6_off_36 : decode cX6_off 36 = .ok (.aload_n 0, 1) := by decide +kernel
theorem dX6_off_37 : decode cX6_off 37 = .ok (.iload_n 1, 1) := by decide +kernel
theorem dX6_off_38 : decode cX6_off 38 = .ok (.iload 4, 2) := by decide +kernel
theorem dX6_off_40 : decode cX6_off 40 = .ok (.iconst 1, 1) := by decide +kernel
theorem dX6_off_41 : decode cX6_off 41 = .ok (.isub, 1) := by decide +kernel
theorem dX6_off_42 : decode cX6_off 42 = .ok (.invokevirtual 96, 3) := by decide +kernel
theorem dX6_off_45 : decode cX6_off 45 = .ok (.iconst 0, 1) := by decide +kernel
theorem dX6_off_46 : decode cX6_off 46 = .ok (.istore 5, 2) := by decide +kernel
theorem dX6_off_48 : decode cX6_off 48 = .ok (.iconst 0, 1) := by decide +kernel
theorem dX6_off_49 : decode cX6_off 49 = .ok (.istore 6, 2) := by decide +kernel
theorem dX6_off_51 : decode cX6_off 51 = .ok (.iconst 1, 1) := by decide +kernel
theorem dX6_off_52 : decode cX6_off 52 = .ok (.istore 7, 2) := by decide +kernel
theorem dX6_off_54 : decode cX6_off 54 = .ok (.iload 7, 2) := by decide +kernel
theorem dX6_off_56 : decode cX6_off 56 = .ok (.iload 4, 2) := by decide +kernel
theorem dX6_off_58 : decode cX6_off 58 = .ok (.if_icmp .gt 72, 3) := by decide +kernel
theorem dX6_off_61 : decode cX6_off 61 = .ok (.iload 6, 2) := by decide +kernel
theorem dX6_off_63 : decode cX6_off 63 = .ok (.aload_n 0, 1) := by decide +kernel
theorem dX6_off_64 : decode cX6_off 64 = .ok (.iload_n 1, 1) := by decide +kernel
theorem dX6_off_65 : decode cX6_off 65 = .ok (.iload 7, 2) := by decide +kernel
theorem dX6_off_67 : decode cX6_off 67 = .ok (.iconst 1, 1) := by decide +kernel
theorem dX6_off_68 : decode cX6_off 68 = .ok (.isub, 1) := by decide +kernel
theorem dX6_off_69 : decode cX6_off 69 = .ok (.invokevirtual 76, 3) := by decide +kernel
theorem dX6_off_72 : decode cX6_off 72 = .ok (.iload_n 2, 1) := by decide +kernel
theorem dX6_off_73 : decode cX6_off 73 = .ok (.if_icmp .ne 7, 3) := by decide +kernel
theorem dX6_off_76 : decode cX6_off 76 = .ok (.iconst 1, 1) := by decide +kernel
theorem dX6_off_77 : decode cX6_off 77 = .ok (.goto 4, 3) := by decide +kernel
theorem dX6_off_80 : decode cX6_off 80 = .ok (.iconst 0, 1) := by decide +kernel
theorem dX6_off_81 : decode cX6_off 81 = .ok (.iadd, 1) := by decide +kernel
theorem dX6_off_82 : decode cX6_off 82 = .ok (.istore 6, 2) := by decide +kernel
theorem dX6_off_84 : decode cX6_off 84 = .ok (.iload 6, 2) := by decide +kernel
theorem dX6_off_86 : decode cX6_off 86 = .ok (.iload_n 3, 1) := by decide +kernel
theorem dX6_off_87 : decode cX6_off 87 = .ok (.imul, 1) := by decide +kernel
theorem dX6_off_88 : decode cX6_off 88 = .ok (.iload 7, 2) := by decide +kernel
theorem dX6_off_90 : decode cX6_off 90 = .ok (.isub, 1) := by decide +kernel
theorem dX6_off_91 : decode cX6_off 91 = .ok (.istore 8, 2) := by decide +kernel
theorem dX6_off_93 : decode cX6_off 93 = .ok (.iload 8, 2) := by decide +kernel
theorem dX6_off_95 : decode cX6_off 95 = .ok (.ifCond .ge 9, 3) := by decide +kernel
theorem dX6_off_98 : decode cX6_off 98 = .ok (.iload 8, 2) := by decide +kernel
theorem dX6_off_100 : decode cX6_off 100 = .ok (.ineg, 1) := by decide +kernel
theorem dX6_off_101 : decode cX6_off 101 = .ok (.goto 5, 3) := by decide +kernel
theorem dX6_off_104 : decode cX6_off 104 = .ok (.iload 8, 2) := by decide +kernel
theorem dX6_off_106 : decode cX6_off 106 = .ok (.istore 8, 2) := by decide +kernel
theorem dX6_off_108 : decode cX6_off 108 = .ok (.iload 8, 2) := by decide +kernel
theorem dX6_off_110 : decode cX6_off 110 = .ok (.iload 5, 2) := by decide +kernel
theorem dX6_off_112 : decode cX6_off 112 = .ok (.if_icmp .le 8, 3) := by decide +kernel
theorem dX6_off_115 : decode cX6_off 115 = .ok (.iload 8, 2) := by decide +kernel
theorem dX6_off_117 : decode cX6_off 117 = .ok (.goto 5, 3) := by decide +kernel
theorem dX6_off_120 : decode cX6_off 120 = .ok (.iload 5, 2) := by decide +kernel
theorem dX6_off_122 : decode cX6_off 122 = .ok (.istore 5, 2) := by decide +kernel
theorem dX6_off_124 : decode cX6_off 124 = .ok (.iinc 7 1, 3) := by decide +kernel
theorem dX6_off_127 : decode cX6_off 127 = .ok (.goto (-73), 3) := by decide +kernel
theorem dX6_off_130 : decode cX6_off 130 = .ok (.iload 5, 2) := by decide +kernel
theorem dX6_off_132 : decode cX6_off 132 = .ok (.ireturn, 1) := by decide +kernel
set_option maxRecDepth 20000 in
theorem ggX6_add_X6_in : GoodIn wsX6_add wsX6_in := goodIn_r _ [7] (by decide +kernel) (by decide +kernel)
set_option maxRecDepth 20000 in
theorem gX6_add_X6_in : GoodIn wsX6_add (va_wsS RX6 59 yX6_in wsX6_in) := goodIn_app (goodIn_of _ (by decide +kernel)) ggX6_add_X6_in
theorem dX6_add_0 : decode cX6_add 0 = .ok (.iload_n 1, 1) := by decide +kernel
theorem dX6_add_1 : decode cX6_add 1 = .ok (.i2l, 1) := by decide +kernel
theorem dX6_add_2 : decode cX6_add 2 = .ok (.lconst 1, 1) := by decide +kernel
theorem dX6_add_3 : decode cX6_add 3 = .ok (.ldc2_w 71, 3) := by decide +kernel
theorem dX6_add_6 : decode cX6_add 6 = .ok (.invokestatic 59, 3) := by decide +kernel
theorem dX6_add_9 : decode cX6_add 9 = .ok (.ifCond .ne 6, 3) := by decide +kernel
theorem dX6_add_12 : decode cX6_add 12 = .ok (.bipush (-102), 2) := by decide +kernel
theorem dX6_add_14 : decode cX6_add 14 = .ok (.ireturn, 1) := by decide +kernel
theorem dX6_add_15 : decode cX6_add 15 = .ok (.aload_n 0, 1) := by decide +kernel
theorem dX6_add_16 : decode cX6_add 16 = .ok (.getfield 100, 3) := by decide +kernel
theorem dX6_add_19 : decode cX6_add 19 = .ok (.bipush 60, 2) := by decide +kernel
theorem dX6_add_21 : decode cX6_add 21 = .ok (.if_icmp .ne 6, 3) := by decide +kernel
theorem dX6_add_24 : decode cX6_add 24 = .ok (.bipush (-104), 2) := by decide +kernel
theorem dX6_add_26 : decode cX6_add 26 = .ok (.ireturn, 1) := by decide +kernel
theorem dX6_add_27 : decode cX6_add 27 = .ok (.aload_n 0, 1) := by decide +kernel
theorem dX6_add_28 : decode cX6_add 28 = .ok (.getfield 33, 3) := by decide +kernel
theorem dX6_add_31 : decode cX6_add 31 = .ok (.aload_n 0, 1) := by decide +kernel
theorem dX6_add_32 : decode cX6_add 32 = .ok (.getfield 100, 3) := by decide +kernel
theorem dX6_add_35 : decode cX6_add 35 = .ok (.iload_n 1, 1) := by decide +kernel
theorem dX6_add_36 : decode cX6_add 36 = .ok (.iastore, 1) := by decide +kernel
theorem dX6_add_37 : decode cX6_add 37 = .ok (.aload_n 0, 1) := by decide +kernel
theorem dX6_add_38 : decode cX6_add 38 = .ok (.dup, 1) := by decide +kernel
theorem dX6_add_39 : decode cX6_add 39 = .ok (.getfield 100, 3) := by decide +kernel
theorem dX6_add_42 : decode cX6_add 42 = .ok (.iconst 1, 1) := by decide +kernel
theorem dX6_add_43 : decode cX6_add 43 = .ok (.iadd, 1) := by decide +kernel
theorem dX6_add_44 : decode cX6_add 44 = .ok (.putfield 100, 3) := by decide +kernel
theorem dX6_add_47 : decode cX6_add 47 = .ok (.aload_n 0, 1) := by decide +kernel
theorem dX6_add_48 : decode cX6_add 48 = .ok (.getfield 100, 3) := by decide +kernel
theorem dX6_add_51 : decode cX6_add 51 = .ok (.ireturn, 1) := by decide +kernel
set_option maxRecDepth 20000 in
theorem ggX6_take_X6_isRow : GoodIn wsX6_take wsX6_isRow := goodIn_r _ [9, 10, 11, 12, 8, 13, 44, 45, 46, 47, 48, 49, 50, 51, 52, 53, 54, 55, 56, 57, 58, 59, 60, 61, 62, 63] (by decide +kernel) (by decide +kernel)
set_option maxRecDepth 20000 in
theorem gX6_take_X6_isRow : GoodIn wsX6_take (wsV RX6 90 RX6 yX6_isRow wsX6_isRow) := goodIn_app (goodIn_of _ (by decide +kernel)) ggX6_take_X6_isRow
set_option maxRecDepth 20000 in
theorem ggX6_take_X6_in : GoodIn wsX6_take wsX6_in := goodIn_r _ [13] (by decide +kernel) (by decide +kernel)
set_option maxRecDepth 20000 in
theorem gX6_take_X6_in : GoodIn wsX6_take (va_wsS RX6 59 yX6_in wsX6_in) := goodIn_app (goodIn_of _ (by decide +kernel)) ggX6_take_X6_in
set_option maxRecDepth 20000 in
theorem ggX6_take_X6_isPlace : GoodIn wsX6_take wsX6_isPlace := goodIn_r _ [16, 17, 11, 12, 8, 13] (by decide +kernel) (by decide +kernel)
set_option maxRecDepth 20000 in
theorem gX6_take_X6_isPlace : GoodIn wsX6_take (va_wsS RX6 93 yX6_isPlace wsX6_isPlace) := goodIn_app (goodIn_of _ (by decide +kernel)) ggX6_take_X6_isPlace
set_option maxRecDepth 20000 in
theorem ggX6_take_X6_make : GoodIn wsX6_take wsX6_make := goodIn_r _ [21, 22, 23, 24, 10, 25, 26, 27, 28, 8, 29, 30, 31, 32, 33, 34, 35, 36, 37, 38, 39, 40, 41, 42, 43, 44, 45, 46, 47, 48, 49, 50, 51, 52, 53, 54, 55, 56, 57, 58, 59, 60, 61, 62, 63] (by decide +kernel) (by decide +kernel)
set_option maxRecDepth 20000 in
theorem gX6_take_X6_make : GoodIn wsX6_take (wsV RX6 96 RX6 yX6_make wsX6_make) := goodIn_app (goodIn_of _ (by decide +kernel)) ggX6_take_X6_make
set_option maxRecDepth 20000 in
theorem ggX6_take_X6_number : GoodIn wsX6_take wsX6_number := goodIn_r _ [29, 30, 31, 32, 44, 45, 46, 47, 48, 49, 50, 51, 52, 53, 54, 55, 56, 57, 58, 59, 60, 61, 62, 63] (by decide +kernel) (by decide +kernel)
set_option maxRecDepth 20000 in
theorem gX6_take_X6_number : GoodIn wsX6_take (wsV RX6 76 RX6 yX6_number wsX6_number) := goodIn_app (goodIn_of _ (by decide +kernel)) ggX6_take_X6_number
theorem dX6_take_0 : decode cX6_take 0 = .ok (.aload_n 0, 1) := by decide +kernel
theorem dX6_take_1 : decode cX6_take 1 = .ok (.iload_n 1, 1) := by decide +kernel
theorem dX6_take_2 : decode cX6_take 2 = .ok (.invokevirtual 90, 3) := by decide +kernel
theorem dX6_take_5 : decode cX6_take 5 = .ok (.ifCond .ne 6, 3) := by decide +kernel
theorem dX6_take_8 : decode cX6_take 8 = .ok (.bipush (-101), 2) := by decide +kernel
theorem dX6_take_10 : decode cX6_take 10 = .ok (.ireturn, 1) := by decide +kernel
theorem dX6_take_11 : decode cX6_take 11 = .ok (.iload_n 3, 1) := by decide +kernel
theorem dX6_take_12 : decode cX6_take 12 = .ok (.i2l, 1) := by decide +kernel
theorem dX6_take_13 : decode cX6_take 13 = .ok (.lconst 0, 1) := by decide +kernel
theorem dX6_take_14 : decode cX6_take 14 = .ok (.ldc2_w 103, 3) := by decide +kernel
theorem dX6_take_17 : decode cX6_take 17 = .ok (.invokestatic 59, 3) := by decide +kernel
theorem dX6_take_20 : decode cX6_take 20 = .ok (.ifCond .eq 18, 3) := by decide +kernel
theorem dX6_take_23 : decode cX6_take 23 = .ok (.iload_n 2, 1) := by decide +kernel
theorem dX6_take_24 : decode cX6_take 24 = .ok (.invokestatic 93, 3) := by decide +kernel
theorem dX6_take_27 : decode cX6_take 27 = .ok (.ifCond .eq 11, 3) := by decide +kernel
theorem dX6_take_30 : decode cX6_take 30 = .ok (.iload_n 2, 1) := by decide +kernel
theorem dX6_take_31 : decode cX6_take 31 = .ok (.iload_n 3, 1) := by decide +kernel
theorem dX6_take_32 : decode cX6_take 32 = .ok (.iadd, 1) := by decide +kernel
theorem dX6_take_33 : decode cX6_take 33 = .ok (.ldc 19, 2) := by decide +kernel
theorem dX6_take_35 : decode cX6_take 35 = .ok (.if_icmp .le 6, 3) := by decide +kernel
theorem dX6_take_38 : decode cX6_take 38 = .ok (.bipush (-102), 2) := by decide +kernel
theorem dX6_take_40 : decode cX6_take 40 = .ok (.ireturn, 1) := by decide +kernel
theorem dX6_take_41 : decode cX6_take 41 = .ok (.aload_n 0, 1) := by decide +kernel
theorem dX6_take_42 : decode cX6_take 42 = .ok (.iload_n 1, 1) := by decide +kernel
theorem dX6_take_43 : decode cX6_take 43 = .ok (.iload_n 2, 1) := by decide +kernel
theorem dX6_take_44 : decode cX6_take 44 = .ok (.iload_n 3, 1) := by decide +kernel
theorem dX6_take_45 : decode cX6_take 45 = .ok (.iadd, 1) := by decide +kernel
theorem dX6_take_46 : decode cX6_take 46 = .ok (.iconst 1, 1) := by decide +kernel
theorem dX6_take_47 : decode cX6_take 47 = .ok (.isub, 1) := by decide +kernel
theorem dX6_take_48 : decode cX6_take 48 = .ok (.invokevirtual 96, 3) := by decide +kernel
theorem dX6_take_51 : decode cX6_take 51 = .ok (.iconst 0, 1) := by decide +kernel
theorem dX6_take_52 : decode cX6_take 52 = .ok (.istore 4, 2) := by decide +kernel
theorem dX6_take_54 : decode cX6_take 54 = .ok (.iload 4, 2) := by decide +kernel
theorem dX6_take_56 : decode cX6_take 56 = .ok (.iload_n 3, 1) := by decide +kernel
theorem dX6_take_57 : decode cX6_take 57 = .ok (.if_icmp .ge 25, 3) := by decide +kernel
theorem dX6_take_60 : decode cX6_take 60 = .ok (.aload_n 0, 1) := by decide +kernel
theorem dX6_take_61 : decode cX6_take 61 = .ok (.getfield 33, 3) := by decide +kernel
theorem dX6_take_64 : decode cX6_take 64 = .ok (.iload 4, 2) := by decide +kernel
theorem dX6_take_66 : decode cX6_take 66 = .ok (.aload_n 0, 1) := by decide +kernel
theorem dX6_take_67 : decode cX6_take 67 = .ok (.iload_n 1, 1) := by decide +kernel
theorem dX6_take_68 : decode cX6_take 68 = .ok (.iload_n 2, 1) := by decide +kernel
theorem dX6_take_69 : decode cX6_take 69 = .ok (.iload 4, 2) := by decide +kernel
theorem dX6_take_71 : decode cX6_take 71 = .ok (.iadd, 1) := by decide +kernel
theorem dX6_take_72 : decode cX6_take 72 = .ok (.invokevirtual 76, 3) := by decide +kernel
theorem dX6_take_75 : decode cX6_take 75 = .ok (.iastore, 1) := by decide +kernel
theorem dX6_take_76 : decode cX6_take 76 = .ok (.iinc 4 1, 3) := by decide +kernel
theorem dX6_take_79 : decode cX6_take 79 = .ok (.goto (-25), 3) := by decide +kernel
theorem dX6_take_82 : decode cX6_take 82 = .ok (.aload_n 0, 1) := by decide +kernel
theorem dX6_take_83 : decode cX6_take 83 = .ok (.iload_n 3, 1) := by decide +kernel
theorem dX6_take_84 : decode cX6_take 84 = .ok (.putfield 100, 3) := by decide +kernel
theorem dX6_take_87 : decode cX6_take 87 = .ok (.iload_n 3, 1) := by decide +kernel
theorem dX6_take_88 : decode cX6_take 88 = .ok (.ireturn, 1) := by decide +kernel
theorem dX6_clear_0 : decode cX6_clear 0 = .ok (.aload_n 0, 1) := by decide +kernel
theorem dX6_clear_1 : decode cX6_clear 1 = .ok (.getfield 100, 3) := by decide +kernel
theorem dX6_clear_4 : decode cX6_clear 4 = .ok (.istore_n 1, 1) := by decide +kernel
theorem dX6_clear_5 : decode cX6_clear 5 = .ok (.aload_n 0, 1) := by decide +kernel
theorem dX6_clear_6 : decode cX6_clear 6 = .ok (.iconst 0, 1) := by decide +kernel
theorem dX6_clear_7 : decode cX6_clear 7 = .ok (.putfield 100, 3) := by decide +kernel
theorem dX6_clear_10 : decode cX6_clear 10 = .ok (.iload_n 1, 1) := by decide +kernel
theorem dX6_clear_11 : decode cX6_clear 11 = .ok (.ireturn, 1) := by decide +kernel
set_option maxRecDepth 20000 in
theorem ggX6_letter_X6_in : GoodIn wsX6_letter wsX6_in := goodIn_r _ [6] (by decide +kernel) (by decide +kernel)
set_option maxRecDepth 20000 in
theorem gX6_letter_X6_in : GoodIn wsX6_letter (va_wsS RX6 59 yX6_in wsX6_in) := goodIn_app (goodIn_of _ (by decide +kernel)) ggX6_letter_X6_in
theorem dX6_letter_0 : decode cX6_letter 0 = .ok (.iload_n 1, 1) := by decide +kernel
theorem dX6_letter_1 : decode cX6_letter 1 = .ok (.i2l, 1) := by decide +kernel
theorem dX6_letter_2 : decode cX6_letter 2 = .ok (.lconst 0, 1) := by decide +kernel
theorem dX6_letter_3 : decode cX6_letter 3 = .ok (.aload_n 0, 1) := by decide +kernel
theorem dX6_letter_4 : decode cX6_letter 4 = .ok (.getfield 100, 3) := by decide +kernel
theorem dX6_letter_7 : decode cX6_letter 7 = .ok (.iconst 1, 1) := by decide +kernel
theorem dX6_letter_8 : decode cX6_letter 8 = .ok (.isub, 1) := by decide +kernel
theorem dX6_letter_9 : decode cX6_letter 9 = .ok (.i2l, 1) := by decide +kernel
theorem dX6_letter_10 : decode cX6_letter 10 = .ok (.invokestatic 59, 3) := by decide +kernel
theorem dX6_letter_13 : decode cX6_letter 13 = .ok (.ifCond .eq 12, 3) := by decide +kernel
theorem dX6_letter_16 : decode cX6_letter 16 = .ok (.aload_n 0, 1) := by decide +kernel
theorem dX6_letter_17 : decode cX6_letter 17 = .ok (.getfield 33, 3) := by decide +kernel
theorem dX6_letter_20 : decode cX6_letter 20 = .ok (.iload_n 1, 1) := by decide +kernel
theorem dX6_letter_21 : decode cX6_letter 21 = .ok (.iaload, 1) := by decide +kernel
theorem dX6_letter_22 : decode cX6_letter 22 = .ok (.goto 4, 3) := by decide +kernel
theorem dX6_letter_25 : decode cX6_letter 25 = .ok (.iconst (-1), 1) := by decide +kernel
theorem dX6_letter_26 : decode cX6_letter 26 = .ok (.ireturn, 1) := by decide +kernel
theorem dX6_load_0 : decode cX6_load 0 = .ok (.aload_n 0, 1) := by decide +kernel
theorem dX6_load_1 : decode cX6_load 1 = .ok (.aload_n 0, 1) := by decide +kernel
theorem dX6_load_2 : decode cX6_load 2 = .ok (.getfield 100, 3) := by decide +kernel
theorem dX6_load_5 : decode cX6_load 5 = .ok (.putfield 105, 3) := by decide +kernel
theorem dX6_load_8 : decode cX6_load 8 = .ok (.iconst 0, 1) := by decide +kernel
theorem dX6_load_9 : decode cX6_load 9 = .ok (.istore_n 1, 1) := by decide +kernel
theorem dX6_load_10 : decode cX6_load 10 = .ok (.iload_n 1, 1) := by decide +kernel
theorem dX6_load_11 : decode cX6_load 11 = .ok (.aload_n 0, 1) := by decide +kernel
theorem dX6_load_12 : decode cX6_load 12 = .ok (.getfield 100, 3) := by decide +kernel
theorem dX6_load_15 : decode cX6_load 15 = .ok (.if_icmp .ge 21, 3) := by decide +kernel
theorem dX6_load_18 : decode cX6_load 18 = .ok (.aload_n 0, 1) := by decide +kernel
theorem dX6_load_19 : decode cX6_load 19 = .ok (.getfield 36, 3) := by decide +kernel
theorem dX6_load_22 : decode cX6_load 22 = .ok (.iload_n 1, 1) := by decide +kernel
theorem dX6_load_23 : decode cX6_load 23 = .ok (.aload_n 0, 1) := by decide +kernel
theorem dX6_load_24 : decode cX6_load 24 = .ok (.getfield 33, 3) := by decide +kernel
theorem dX6_load_27 : decode cX6_load 27 = .ok (.iload_n 1, 1) := by decide +kernel
theorem dX6_load_28 : decode cX6_load 28 = .ok (.iaload, 1) := by decide +kernel
theorem dX6_load_29 : decode cX6_load 29 = .ok (.iastore, 1) := by decide +kernel
theorem dX6_load_30 : decode cX6_load 30 = .ok (.iinc 1 1, 3) := by decide +kernel
theorem dX6_load_33 : decode cX6_load 33 = .ok (.goto (-23), 3) := by decide +kernel
theorem dX6_load_36 : decode cX6_load 36 = .ok (.return_, 1) := by decide +kernel
theorem dX6_measure_0 : decode cX6_measure 0 = .ok (.aload_n 0, 1) := by decide +kernel
theorem dX6_measure_1 : decode cX6_measure 1 = .ok (.iconst 0, 1) := by decide +kernel
theorem dX6_measure_2 : decode cX6_measure 2 = .ok (.putfield 108, 3) := by decide +kernel
theorem dX6_measure_5 : decode cX6_measure 5 = .ok (.iconst 0, 1) := by decide +kernel
theorem dX6_measure_6 : decode cX6_measure 6 = .ok (.istore_n 1, 1) := by decide +kernel
theorem dX6_measure_7 : decode cX6_measure 7 = .ok (.iconst 0, 1) := by decide +kernel
theorem dX6_measure_8 : decode cX6_measure 8 = .ok (.istore_n 2, 1) := by decide +kernel
theorem dX6_measure_9 : decode cX6_measure 9 = .ok (.iload_n 2, 1) := by decide +kernel
theorem dX6_measure_10 : decode cX6_measure 10 = .ok (.aload_n 0, 1) := by decide +kernel
theorem dX6_measure_11 : decode cX6_measure 11 = .ok (.getfield 105, 3) := by decide +kernel
theorem dX6_measure_14 : decode cX6_measure 14 = .ok (.if_icmp .ge 96, 3) := by decide +kernel
theorem dX6_measure_17 : decode cX6_measure 17 = .ok (.iload_n 2, 1) := by decide +kernel
theorem dX6_measure_18 : decode cX6_measure 18 = .ok (.ifCond .eq 20, 3) := by decide +kernel
theorem dX6_measure_21 : decode cX6_measure 21 = .ok (.aload_n 0, 1) := by decide +kernel
theorem dX6_measure_22 : decode cX6_measure 22 = .ok (.getfield 36, 3) := by decide +kernel
theorem dX6_measure_25 : decode cX6_measure 25 = .ok (.iload_n 2, 1) := by decide +kernel
theorem dX6_measure_26 : decode cX6_measure 26 = .ok (.iaload, 1) := by decide +kernel
theorem dX6_measure_27 : decode cX6_measure 27 = .ok (.aload_n 0, 1) := by decide +kernel
theorem dX6_measure_28 : decode cX6_measure 28 = .ok (.getfield 36, 3) := by decide +kernel
theorem dX6_measure_31 : decode cX6_measure 31 = .ok (.iload_n 2, 1) := by decide +kernel
theorem dX6_measure_32 : decode cX6_measure 32 = .ok (.iconst 1, 1) := by decide +kernel
theorem dX6_measure_33 : decode cX6_measure 33 = .ok (.isub, 1) := by decide +kernel
theorem dX6_measure_34 : decode cX6_measure 34 = .ok (.iaload, 1) := by decide +kernel
theorem dX6_measure_35 : decode cX6_measure 35 = .ok (.if_icmp .eq 23, 3) := by decide +kernel
theorem dX6_measure_38 : decode cX6_measure 38 = .ok (.aload_n 0, 1) := by decide +kernel
theorem dX6_measure_39 : decode cX6_measure 39 = .ok (.getfield 39, 3) := by decide +kernel
theorem dX6_measure_42 : decode cX6_measure 42 = .ok (.aload_n 0, 1) := by decide +kernel
theorem dX6_measure_43 : decode cX6_measure 43 = .ok (.getfield 108, 3) := by decide +kernel
theorem dX6_measure_46 : decode cX6_measure 46 = .ok (.iconst 0, 1) := by decide +kernel
theorem dX6_measure_47 : decode cX6_measure 47 = .ok (.iastore, 1) := by decide +kernel
theorem dX6_measure_48 : decode cX6_measure 48 = .ok (.aload_n 0, 1) := by decide +kernel
theorem dX6_measure_49 : decode cX6_measure 49 = .ok (.dup, 1) := by decide +kernel
theorem dX6_measure_50 : decode cX6_measure 50 = .ok (.getfield 108, 3) := by decide +kernel
theorem dX6_measure_53 : decode cX6_measure 53 = .ok (.iconst 1, 1) := by decide +kernel
theorem dX6_measure_54 : decode cX6_measure 54 = .ok (.iadd, 1) := by decide +kernel
theorem dX6_measure_55 : decode cX6_measure 55 = .ok (.putfield 108, 3) := by decide +kernel
theorem dX6_measure_58 : decode cX6_measure 58 = .ok (.aload_n 0, 1) := by decide +kernel
theorem dX6_measure_59 : decode cX6_measure 59 = .ok (.getfield 39, 3) := by decide +kernel
theorem dX6_measure_62 : decode cX6_measure 62 = .ok (.aload_n 0, 1) := by decide +kernel
theorem dX6_measure_63 : decode cX6_measure 63 = .ok (.getfield 108, 3) := by decide +kernel
theorem dX6_measure_66 : decode cX6_measure 66 = .ok (.iconst 1, 1) := by decide +kernel
theorem dX6_measure_67 : decode cX6_measure 67 = .ok (.isub, 1) := by decide +kernel
theorem dX6_measure_68 : decode cX6_measure 68 = .ok (.dup2, 1) := by decide +kernel
theorem dX6_measure_69 : decode cX6_measure 69 = .ok (.iaload, 1) := by decide +kernel
theorem dX6_measure_70 : decode cX6_measure 70 = .ok (.iconst 1, 1) := by decide +kernel
theorem dX6_measure_71 : decode cX6_measure 71 = .ok (.iadd, 1) := by decide +kernel
theorem dX6_measure_72 : decode cX6_measure 72 = .ok (.iastore, 1) := by decide +kernel
theorem dX6_measure_73 : decode cX6_measure 73 = .ok (.aload_n 0, 1) := by decide +kernel
theorem dX6_measure_74 : decode cX6_measure 74 = .ok (.getfield 39, 3) := by decide +kernel
theorem dX6_measure_77 : decode cX6_measure 77 = .ok (.aload_n 0, 1) := by decide +kernel
theorem dX6_measure_78 : decode cX6_measure 78 = .ok (.getfield 108, 3) := by decide +kernel
theorem dX6_measure_81 : decode cX6_measure 81 = .ok (.iconst 1, 1) := by decide +kernel
theorem dX6_measure_82 : decode cX6_measure 82 = .ok (.isub, 1) := by decide +kernel
theorem dX6_measure_83 : decode cX6_measure 83 = .ok (.iaload, 1) := by decide +kernel
theorem dX6_measure_84 : decode cX6_measure 84 = .ok (.iload_n 1, 1) := by decide +kernel
theorem dX6_measure_85 : decode cX6_measure 85 = .ok (.if_icmp .le 17, 3) := by decide +kernel
theorem dX6_measure_88 : decode cX6_measure 88 = .ok (.aload_n 0, 1) := by decide +kernel
theorem dX6_measure_89 : decode cX6_measure 89 = .ok (.getfield 39, 3) := by decide +kernel
theorem dX6_measure_92 : decode cX6_measure 92 = .ok (.aload_n 0, 1) := by decide +kernel
theorem dX6_measure_93 : decode cX6_measure 93 = .ok (.getfield 108, 3) := by decide +kernel
theorem dX6_measure_96 : decode cX6_measure 96 = .ok (.iconst 1, 1) := by decide +kernel
theorem dX6_measure_97 : decode cX6_measure 97 = .ok (.isub, 1) := by decide +kernel
theorem dX6_measure_98 : decode cX6_measure 98 = .ok (.iaload, 1) := by decide +kernel
theorem dX6_measure_99 : decode cX6_measure 99 = .ok (.goto 4, 3) := by decide +kernel
theorem dX6_measure_102 : decode cX6_measure 102 = .ok (.iload_n 1, 1) := by decide +kernel
theorem dX6_measure_103 : decode cX6_measure 103 = .ok (.istore_n 1, 1) := by decide +kernel
theorem dX6_measure_104 : decode cX6_measure 104 = .ok (.iinc 2 1, 3) := by decide +kernel
theorem dX6_measure_107 : decode cX6_measure 107 = .ok (.goto (-98), 3) := by decide +kernel
theorem dX6_measure_110 : decode cX6_measure 110 = .ok (.iload_n 1, 1) := by decide +kernel
theorem dX6_measure_111 : decode cX6_measure 111 = .ok (.ireturn, 1) := by decide +kernel
theorem dX6_cut_0 : decode cX6_cut 0 = .ok (.aload_n 0, 1) := by decide +kernel
theorem dX6_cut_1 : decode cX6_cut 1 = .ok (.getfield 108, 3) := by decide +kernel
theorem dX6_cut_4 : decode cX6_cut 4 = .ok (.ifCond .le 17, 3) := by decide +kernel
theorem dX6_cut_7 : decode cX6_cut 7 = .ok (.aload_n 0, 1) := by decide +kernel
theorem dX6_cut_8 : decode cX6_cut 8 = .ok (.getfield 39, 3) := by decide +kernel
theorem dX6_cut_11 : decode cX6_cut 11 = .ok (.iconst 0, 1) := by decide +kernel
theorem dX6_cut_12 : decode cX6_cut 12 = .ok (.iaload, 1) := by decide +kernel
theorem dX6_cut_13 : decode cX6_cut 13 = .ok (.iload_n 1, 1) := by decide +kernel
theorem dX6_cut_14 : decode cX6_cut 14 = .ok (.if_icmp .ge 7, 3) := by decide +kernel
theorem dX6_cut_17 : decode cX6_cut 17 = .ok (.iconst 1, 1) := by decide +kernel
theorem dX6_cut_18 : decode cX6_cut 18 = .ok (.goto 4, 3) := by decide +kernel
theorem dX6_cut_21 : decode cX6_cut 21 = .ok (.iconst 0, 1) := by decide +kernel
theorem dX6_cut_22 : decode cX6_cut 22 = .ok (.istore_n 2, 1) := by decide +kernel
theorem dX6_cut_23 : decode cX6_cut 23 = .ok (.aload_n 0, 1) := by decide +kernel
theorem dX6_cut_24 : decode cX6_cut 24 = .ok (.getfield 108, 3) := by decide +kernel
theorem dX6_cut_27 : decode cX6_cut 27 = .ok (.ifCond .le 27, 3) := by decide +kernel
theorem dX6_cut_30 : decode cX6_cut 30 = .ok (.aload_n 0, 1) := by decide +kernel
theorem dX6_cut_31 : decode cX6_cut 31 = .ok (.getfield 39, 3) := by decide +kernel
theorem dX6_cut_34 : decode cX6_cut 34 = .ok (.aload_n 0, 1) := by decide +kernel
theorem dX6_cut_35 : decode cX6_cut 35 = .ok (.getfield 108, 3) := by decide +kernel
theorem dX6_cut_38 : decode cX6_cut 38 = .ok (.iconst 1, 1) := by decide +kernel
theorem dX6_cut_39 : decode cX6_cut 39 = .ok (.isub, 1) := by decide +kernel
theorem dX6_cut_40 : decode cX6_cut 40 = .ok (.iaload, 1) := by decide +kernel
theorem dX6_cut_41 : decode cX6_cut 41 = .ok (.iload_n 1, 1) := by decide +kernel
theorem dX6_cut_42 : decode cX6_cut 42 = .ok (.if_icmp .ge 12, 3) := by decide +kernel
theorem dX6_cut_45 : decode cX6_cut 45 = .ok (.aload_n 0, 1) := by decide +kernel
theorem dX6_cut_46 : decode cX6_cut 46 = .ok (.getfield 108, 3) := by decide +kernel
theorem dX6_cut_49 : decode cX6_cut 49 = .ok (.iconst 1, 1) := by decide +kernel
theorem dX6_cut_50 : decode cX6_cut 50 = .ok (.isub, 1) := by decide +kernel
theorem dX6_cut_51 : decode cX6_cut 51 = .ok (.goto 7, 3) := by decide +kernel
theorem dX6_cut_54 : decode cX6_cut 54 = .ok (.aload_n 0, 1) := by decide +kernel
theorem dX6_cut_55 : decode cX6_cut 55 = .ok (.getfield 108, 3) := by decide +kernel
theorem dX6_cut_58 : decode cX6_cut 58 = .ok (.istore_n 3, 1) := by decide +kernel
theorem dX6_cut_59 : decode cX6_cut 59 = .ok (.aload_n 0, 1) := by decide +kernel
theorem dX6_cut_60 : decode cX6_cut 60 = .ok (.iconst 0, 1) := by decide +kernel
theorem dX6_cut_61 : decode cX6_cut 61 = .ok (.putfield 105, 3) := by decide +kernel
theorem dX6_cut_64 : decode cX6_cut 64 = .ok (.iload_n 2, 1) := by decide +kernel
theorem dX6_cut_65 : decode cX6_cut 65 = .ok (.istore 4, 2) := by decide +kernel
theorem dX6_cut_67 : decode cX6_cut 67 = .ok (.iload 4, 2) := by decide +kernel
theorem dX6_cut_69 : decode cX6_cut 69 = .ok (.iload_n 3, 1) := by decide +kernel
theorem dX6_cut_70 : decode cX6_cut 70 = .ok (.if_icmp .ge 35, 3) := by decide +kernel
theorem dX6_cut_73 : decode cX6_cut 73 = .ok (.aload_n 0, 1) := by decide +kernel
theorem dX6_cut_74 : decode cX6_cut 74 = .ok (.getfield 36, 3) := by decide +kernel
theorem dX6_cut_77 : decode cX6_cut 77 = .ok (.aload_n 0, 1) := by decide +kernel
theorem dX6_cut_78 : decode cX6_cut 78 = .ok (.getfield 105, 3) := by decide +kernel
theorem dX6_cut_81 : decode cX6_cut 81 = .ok (.aload_n 0, 1) := by decide +kernel
theorem dX6_cut_82 : decode cX6_cut 82 = .ok (.getfield 39, 3) := by decide +kernel
theorem dX6_cut_85 : decode cX6_cut 85 = .ok (.iload 4, 2) := by decide +kernel
theorem dX6_cut_87 : decode cX6_cut 87 = .ok (.iaload, 1) := by decide +kernel
theorem dX6_cut_88 : decode cX6_cut 88 = .ok (.iastore, 1) := by decide +kernel
theorem dX6_cut_89 : decode cX6_cut 89 = .ok (.aload_n 0, 1) := by decide +kernel
theorem dX6_cut_90 : decode cX6_cut 90 = .ok (.dup, 1) := by decide +kernel
theorem dX6_cut_91 : decode cX6_cut 91 = .ok (.getfield 105, 3) := by decide +kernel
theorem dX6_cut_94 : decode cX6_cut 94 = .ok (.iconst 1, 1) := by decide +kernel
theorem dX6_cut_95 : decode cX6_cut 95 = .ok (.iadd, 1) := by decide +kernel
theorem dX6_cut_96 : decode cX6_cut 96 = .ok (.putfield 105, 3) := by decide +kernel
theorem dX6_cut_99 : decode cX6_cut 99 = .ok (.iinc 4 1, 3) := by decide +kernel
theorem dX6_cut_102 : decode cX6_cut 102 = .ok (.goto (-35), 3) := by decide +kernel
theorem dX6_cut_105 : decode cX6_cut 105 = .ok (.return_, 1) := by decide +kernel
theorem dX6_keep_0 : decode cX6_keep 0 = .ok (.aload_n 0, 1) := by decide +kernel
theorem dX6_keep_1 : decode cX6_keep 1 = .ok (.aload_n 0, 1) := by decide +kernel
theorem dX6_keep_2 : decode cX6_keep 2 = .ok (.getfield 105, 3) := by decide +kernel
theorem dX6_keep_5 : decode cX6_keep 5 = .ok (.putfield 100, 3) := by decide +kernel
theorem dX6_keep_8 : decode cX6_keep 8 = .ok (.iconst 0, 1) := by decide +kernel
theorem dX6_keep_9 : decode cX6_keep 9 = .ok (.istore_n 1, 1) := by decide +kernel
theorem dX6_keep_10 : decode cX6_keep 10 = .ok (.iload_n 1, 1) := by decide +kernel
theorem dX6_keep_11 : decode cX6_keep 11 = .ok (.aload_n 0, 1) := by decide +kernel
theorem dX6_keep_12 : decode cX6_keep 12 = .ok (.getfield 105, 3) := by decide +kernel
theorem dX6_keep_15 : decode cX6_keep 15 = .ok (.if_icmp .ge 21, 3) := by decide +kernel
theorem dX6_keep_18 : decode cX6_keep 18 = .ok (.aload_n 0, 1) := by decide +kernel
theorem dX6_keep_19 : decode cX6_keep 19 = .ok (.getfield 33, 3) := by decide +kernel
theorem dX6_keep_22 : decode cX6_keep 22 = .ok (.iload_n 1, 1) := by decide +kernel
theorem dX6_keep_23 : decode cX6_keep 23 = .ok (.aload_n 0, 1) := by decide +kernel
theorem dX6_keep_24 : decode cX6_keep 24 = .ok (.getfield 36, 3) := by decide +kernel
theorem dX6_keep_27 : decode cX6_keep 27 = .ok (.iload_n 1, 1) := by decide +kernel
theorem dX6_keep_28 : decode cX6_keep 28 = .ok (.iaload, 1) := by decide +kernel
theorem dX6_keep_29 : decode cX6_keep 29 = .ok (.iastore, 1) := by decide +kernel
theorem dX6_keep_30 : decode cX6_keep 30 = .ok (.iinc 1 1, 3) := by decide +kernel
theorem dX6_keep_33 : decode cX6_keep 33 = .ok (.goto (-23), 3) := by decide +kernel
theorem dX6_keep_36 : decode cX6_keep 36 = .ok (.return_, 1) := by decide +kernel
set_option maxRecDepth 20000 in
theorem ggX6_runs_X6_load : GoodIn wsX6_runs wsX6_load := goodIn_r _ [6, 7, 8, 9, 10, 16, 17, 18, 19, 20, 21, 22, 23, 24, 25, 26, 27, 28, 29, 30, 31, 32, 33, 34, 35] (by decide +kernel) (by decide +kernel)
set_option maxRecDepth 20000 in
theorem gX6_runs_X6_load : GoodIn wsX6_runs (wsV RX6 111 RX6 yX6_load wsX6_load) := goodIn_app (goodIn_of _ (by decide +kernel)) ggX6_runs_X6_load
set_option maxRecDepth 20000 in
theorem ggX6_runs_X6_measure : GoodIn wsX6_runs wsX6_measure := goodIn_r _ [14, 1, 8, 9, 15, 16, 17, 18, 19, 20, 21, 22, 23, 24, 25, 26, 27, 28, 29, 30, 31, 32, 33, 34, 35] (by decide +kernel) (by decide +kernel)
set_option maxRecDepth 20000 in
theorem gX6_runs_X6_measure : GoodIn wsX6_runs (wsV RX6 114 RX6 yX6_measure wsX6_measure) := goodIn_app (goodIn_of _ (by decide +kernel)) ggX6_runs_X6_measure
theorem dX6_runs_0 : decode cX6_runs 0 = .ok (.aload_n 0, 1) := by decide +kernel
theorem dX6_runs_1 : decode cX6_runs 1 = .ok (.invokevirtual 111, 3) := by decide +kernel
theorem dX6_runs_4 : decode cX6_runs 4 = .ok (.aload_n 0, 1) := by decide +kernel
theorem dX6_runs_5 : decode cX6_runs 5 = .ok (.invokevirtual 114, 3) := by decide +kernel
theorem dX6_runs_8 : decode cX6_runs 8 = .ok (.istore_n 1, 1) := by decide +kernel
theorem dX6_runs_9 : decode cX6_runs 9 = .ok (.iload_n 1, 1) := by decide +kernel
theorem dX6_runs_10 : decode cX6_runs 10 = .ok (.ifCond .ge 7, 3) := by decide +kernel
theorem dX6_runs_13 : decode cX6_runs 13 = .ok (.iconst (-1), 1) := by decide +kernel
theorem dX6_runs_14 : decode cX6_runs 14 = .ok (.goto 7, 3) := by decide +kernel
theorem dX6_runs_17 : decode cX6_runs 17 = .ok (.aload_n 0, 1) := by decide +kernel
theorem dX6_runs_18 : decode cX6_runs 18 = .ok (.getfield 108, 3) := by decide +kernel
theorem dX6_runs_21 : decode cX6_runs 21 = .ok (.ireturn, 1) := by decide +kernel
set_option maxRecDepth 20000 in
theorem ggX6_shorten_X6_in : GoodIn wsX6_shorten wsX6_in := goodIn_r _ [6] (by decide +kernel) (by decide +kernel)
set_option maxRecDepth 20000 in
theorem gX6_shorten_X6_in : GoodIn wsX6_shorten (va_wsS RX6 59 yX6_in wsX6_in) := goodIn_app (goodIn_of _ (by decide +kernel)) ggX6_shorten_X6_in
set_option maxRecDepth 20000 in
theorem ggX6_shorten_X6_load : GoodIn wsX6_shorten wsX6_load := goodIn_r _ [10, 2, 11, 12, 13, 28, 29, 30, 31, 32, 33, 34, 35, 36, 37, 38, 39, 40, 41, 42, 43, 44, 45, 46, 47] (by decide +kernel) (by decide +kernel)
set_option maxRecDepth 20000 in
theorem gX6_shorten_X6_load : GoodIn wsX6_shorten (wsV RX6 111 RX6 yX6_load wsX6_load) := goodIn_app (goodIn_of _ (by decide +kernel)) ggX6_shorten_X6_load
set_option maxRecDepth 20000 in
theorem ggX6_shorten_X6_measure : GoodIn wsX6_shorten wsX6_measure := goodIn_r _ [17, 18, 11, 12, 19, 28, 29, 30, 31, 32, 33, 34, 35, 36, 37, 38, 39, 40, 41, 42, 43, 44, 45, 46, 47] (by decide +kernel) (by decide +kernel)
set_option maxRecDepth 20000 in
theorem gX6_shorten_X6_measure : GoodIn wsX6_shorten (wsV RX6 114 RX6 yX6_measure wsX6_measure) := goodIn_app (goodIn_of _ (by decide +kernel)) ggX6_shorten_X6_measure
set_option maxRecDepth 20000 in
theorem ggX6_shorten_X6_cut : GoodIn wsX6_shorten wsX6_cut := goodIn_r _ [23, 18, 19, 11, 12, 28, 29, 30, 31, 32, 33, 34, 35, 36, 37, 38, 39, 40, 41, 42, 43, 44, 45, 46, 47] (by decide +kernel) (by decide +kernel)
set_option maxRecDepth 20000 in
theorem gX6_shorten_X6_cut : GoodIn wsX6_shorten (wsV RX6 118 RX6 yX6_cut wsX6_cut) := goodIn_app (goodIn_of _ (by decide +kernel)) ggX6_shorten_X6_cut
set_option maxRecDepth 20000 in
theorem ggX6_shorten_X6_keep : GoodIn wsX6_shorten wsX6_keep := goodIn_r _ [27, 11, 2, 13, 12, 28, 29, 30, 31, 32, 33, 34, 35, 36, 37, 38, 39, 40, 41, 42, 43, 44, 45, 46, 47] (by decide +kernel) (by decide +kernel)
set_option maxRecDepth 20000 in
theorem gX6_shorten_X6_keep : GoodIn wsX6_shorten (wsV RX6 122 RX6 yX6_keep wsX6_keep) := goodIn_app (goodIn_of _ (by decide +kernel)) ggX6_shorten_X6_keep
theorem dX6_shorten_0 : decode cX6_shorten 0 = .ok (.iload_n 1, 1) := by decide +kernel
theorem dX6_shorten_1 : decode cX6_shorten 1 = .ok (.i2l, 1) := by decide +kernel
theorem dX6_shorten_2 : decode cX6_shorten 2 = .ok (.lconst 1, 1) := by decide +kernel
theorem dX6_shorten_3 : decode cX6_shorten 3 = .ok (.ldc2_w 71, 3) := by decide +kernel
theorem dX6_shorten_6 : decode cX6_shorten 6 = .ok (.invokestatic 59, 3) := by decide +kernel
theorem dX6_shorten_9 : decode cX6_shorten 9 = .ok (.ifCond .ne 6, 3) := by decide +kernel
theorem dX6_shorten_12 : decode cX6_shorten 12 = .ok (.bipush (-102), 2) := by decide +kernel
theorem dX6_shorten_14 : decode cX6_shorten 14 = .ok (.ireturn, 1) := by decide +kernel
theorem dX6_shorten_15 : decode cX6_shorten 15 = .ok (.aload_n 0, 1) := by decide +kernel
theorem dX6_shorten_16 : decode cX6_shorten 16 = .ok (.invokevirtual 111, 3) := by decide +kernel
theorem dX6_shorten_19 : decode cX6_shorten 19 = .ok (.aload_n 0, 1) := by decide +kernel
theorem dX6_shorten_20 : decode cX6_shorten 20 = .ok (.invokevirtual 114, 3) := by decide +kernel
theorem dX6_shorten_23 : decode cX6_shorten 23 = .ok (.bipush 6, 2) := by decide +kernel
theorem dX6_shorten_25 : decode cX6_shorten 25 = .ok (.if_icmp .le 6, 3) := by decide +kernel
theorem dX6_shorten_28 : decode cX6_shorten 28 = .ok (.bipush (-103), 2) := by decide +kernel
theorem dX6_shorten_30 : decode cX6_shorten 30 = .ok (.ireturn, 1) := by decide +kernel
theorem dX6_shorten_31 : decode cX6_shorten 31 = .ok (.aload_n 0, 1) := by decide +kernel
theorem dX6_shorten_32 : decode cX6_shorten 32 = .ok (.iload_n 1, 1) := by decide +kernel
theorem dX6_shorten_33 : decode cX6_shorten 33 = .ok (.invokevirtual 118, 3) := by decide +kernel
theorem dX6_shorten_36 : decode cX6_shorten 36 = .ok (.aload_n 0, 1) := by decide +kernel
theorem dX6_shorten_37 : decode cX6_shorten 37 = .ok (.invokevirtual 122, 3) := by decide +kernel
theorem dX6_shorten_40 : decode cX6_shorten 40 = .ok (.aload_n 0, 1) := by decide +kernel
theorem dX6_shorten_41 : decode cX6_shorten 41 = .ok (.getfield 100, 3) := by decide +kernel
theorem dX6_shorten_44 : decode cX6_shorten 44 = .ok (.ireturn, 1) := by decide +kernel
set_option maxRecDepth 20000 in
theorem ggX6_lengthen_X6_isAlphabet : GoodIn wsX6_lengthen wsX6_isAlphabet := goodIn_r _ [10, 11, 12, 13, 9, 14] (by decide +kernel) (by decide +kernel)
set_option maxRecDepth 20000 in
theorem gX6_lengthen_X6_isAlphabet : GoodIn wsX6_lengthen (va_wsS RX6 63 yX6_isAlphabet wsX6_isAlphabet) := goodIn_app (goodIn_of _ (by decide +kernel)) ggX6_lengthen_X6_isAlphabet
set_option maxRecDepth 20000 in
theorem ggX6_lengthen_X6_in : GoodIn wsX6_lengthen wsX6_in := goodIn_r _ [14] (by decide +kernel) (by decide +kernel)
set_option maxRecDepth 20000 in
theorem gX6_lengthen_X6_in : GoodIn wsX6_lengthen (va_wsS RX6 59 yX6_in wsX6_in) := goodIn_app (goodIn_of _ (by decide +kernel)) ggX6_lengthen_X6_in
set_option maxRecDepth 20000 in
theorem ggX6_lengthen_X6_keep : GoodIn wsX6_lengthen wsX6_keep := goodIn_r _ [18, 4, 2, 3, 5, 19, 20, 21, 22, 23, 24, 25, 26, 27, 28, 29, 30, 31, 32, 33, 34, 35, 36, 37, 38] (by decide +kernel) (by decide +kernel)
set_option maxRecDepth 20000 in
theorem gX6_lengthen_X6_keep : GoodIn wsX6_lengthen (wsV RX6 122 RX6 yX6_keep wsX6_keep) := goodIn_app (goodIn_of _ (by decide +kernel)) ggX6_lengthen_X6_keep
theorem dX6_lengthen_0 : decode cX6_lengthen 0 = .ok (.iload_n 1, 1) := by decide +kernel
theorem dX6_lengthen_1 : decode cX6_lengthen 1 = .ok (.invokestatic 63, 3) := by decide +kernel
theorem dX6_lengthen_4 : decode cX6_lengthen 4 = .ok (.ifCond .ne 6, 3) := by decide +kernel
theorem dX6_lengthen_7 : decode cX6_lengthen 7 = .ok (.bipush (-101), 2) := by decide +kernel
theorem dX6_lengthen_9 : decode cX6_lengthen 9 = .ok (.ireturn, 1) := by decide +kernel
theorem dX6_lengthen_10 : decode cX6_lengthen 10 = .ok (.iload_n 2, 1) := by decide +kernel
theorem dX6_lengthen_11 : decode cX6_lengthen 11 = .ok (.i2l, 1) := by decide +kernel
theorem dX6_lengthen_12 : decode cX6_lengthen 12 = .ok (.lconst 0, 1) := by decide +kernel
theorem dX6_lengthen_13 : decode cX6_lengthen 13 = .ok (.aload_n 0, 1) := by decide +kernel
theorem dX6_lengthen_14 : decode cX6_lengthen 14 = .ok (.getfield 13, 3) := by decide +kernel
theorem dX6_lengthen_17 : decode cX6_lengthen 17 = .ok (.iload_n 1, 1) := by decide +kernel
theorem dX6_lengthen_18 : decode cX6_lengthen 18 = .ok (.iaload, 1) := by decide +kernel
theorem dX6_lengthen_19 : decode cX6_lengthen 19 = .ok (.iconst 1, 1) := by decide +kernel
theorem dX6_lengthen_20 : decode cX6_lengthen 20 = .ok (.isub, 1) := by decide +kernel
theorem dX6_lengthen_21 : decode cX6_lengthen 21 = .ok (.i2l, 1) := by decide +kernel
theorem dX6_lengthen_22 : decode cX6_lengthen 22 = .ok (.invokestatic 59, 3) := by decide +kernel
theorem dX6_lengthen_25 : decode cX6_lengthen 25 = .ok (.ifCond .ne 6, 3) := by decide +kernel
theorem dX6_lengthen_28 : decode cX6_lengthen 28 = .ok (.bipush (-102), 2) := by decide +kernel
theorem dX6_lengthen_30 : decode cX6_lengthen 30 = .ok (.ireturn, 1) := by decide +kernel
theorem dX6_lengthen_31 : decode cX6_lengthen 31 = .ok (.iconst 0, 1) := by decide +kernel
theorem dX6_lengthen_32 : decode cX6_lengthen 32 = .ok (.istore_n 3, 1) := by decide +kernel
theorem dX6_lengthen_33 : decode cX6_lengthen 33 = .ok (.iconst 0, 1) := by decide +kernel
theorem dX6_lengthen_34 : decode cX6_lengthen 34 = .ok (.istore 4, 2) := by decide +kernel
theorem dX6_lengthen_36 : decode cX6_lengthen 36 = .ok (.iload 4, 2) := by decide +kernel
theorem dX6_lengthen_38 : decode cX6_lengthen 38 = .ok (.aload_n 0, 1) := by decide +kernel
theorem dX6_lengthen_39 : decode cX6_lengthen 39 = .ok (.getfield 100, 3) := by decide +kernel
theorem dX6_lengthen_42 : decode cX6_lengthen 42 = .ok (.if_icmp .ge 19, 3) := by decide +kernel
theorem dX6_lengthen_45 : decode cX6_lengthen 45 = .ok (.iload_n 3, 1) := by decide +kernel
theorem dX6_lengthen_46 : decode cX6_lengthen 46 = .ok (.aload_n 0, 1) := by decide +kernel
theorem dX6_lengthen_47 : decode cX6_lengthen 47 = .ok (.getfield 33, 3) := by decide +kernel
theorem dX6_lengthen_50 : decode cX6_lengthen 50 = .ok (.iload 4, 2) := by decide +kernel
theorem dX6_lengthen_52 : decode cX6_lengthen 52 = .ok (.iaload, 1) := by decide +kernel
theorem dX6_lengthen_53 : decode cX6_lengthen 53 = .ok (.iadd, 1) := by decide +kernel
theorem dX6_lengthen_54 : decode cX6_lengthen 54 = .ok (.istore_n 3, 1) := by decide +kernel
theorem dX6_lengthen_55 : decode cX6_lengthen 55 = .ok (.iinc 4 1, 3) := by decide +kernel
theorem dX6_lengthen_58 : decode cX6_lengthen 58 = .ok (.goto (-22), 3) := by decide +kernel
theorem dX6_lengthen_61 : decode cX6_lengthen 61 = .ok (.iload_n 3, 1) := by decide +kernel
theorem dX6_lengthen_62 : decode cX6_lengthen 62 = .ok (.bipush 60, 2) := by decide +kernel
theorem dX6_lengthen_64 : decode cX6_lengthen 64 = .ok (.if_icmp .le 6, 3) := by decide +kernel
theorem dX6_lengthen_67 : decode cX6_lengthen 67 = .ok (.bipush (-104), 2) := by decide +kernel
theorem dX6_lengthen_69 : decode cX6_lengthen 69 = .ok (.ireturn, 1) := by decide +kernel
theorem dX6_lengthen_70 : decode cX6_lengthen 70 = .ok (.aload_n 0, 1) := by decide +kernel
theorem dX6_lengthen_71 : decode cX6_lengthen 71 = .ok (.iconst 0, 1) := by decide +kernel
theorem dX6_lengthen_72 : decode cX6_lengthen 72 = .ok (.putfield 105, 3) := by decide +kernel
theorem dX6_lengthen_75 : decode cX6_lengthen 75 = .ok (.iconst 0, 1) := by decide +kernel
theorem dX6_lengthen_76 : decode cX6_lengthen 76 = .ok (.istore 4, 2) := by decide +kernel
theorem dX6_lengthen_78 : decode cX6_lengthen 78 = .ok (.iload 4, 2) := by decide +kernel
theorem dX6_lengthen_80 : decode cX6_lengthen 80 = .ok (.aload_n 0, 1) := by decide +kernel
theorem dX6_lengthen_81 : decode cX6_lengthen 81 = .ok (.getfield 100, 3) := by decide +kernel
theorem dX6_lengthen_84 : decode cX6_lengthen 84 = .ok (.if_icmp .ge 69, 3) := by decide +kernel
theorem dX6_lengthen_87 : decode cX6_lengthen 87 = .ok (.iconst 0, 1) := by decide +kernel
theorem dX6_lengthen_88 : decode cX6_lengthen 88 = .ok (.istore 5, 2) := by decide +kernel
theorem dX6_lengthen_90 : decode cX6_lengthen 90 = .ok (.iload 5, 2) := by decide +kernel
theorem dX6_lengthen_92 : decode cX6_lengthen 92 = .ok (.aload_n 0, 1) := by decide +kernel
theorem dX6_lengthen_93 : decode cX6_lengthen 93 = .ok (.getfield 33, 3) := by decide +kernel
theorem dX6_lengthen_96 : decode cX6_lengthen 96 = .ok (.iload 4, 2) := by decide +kernel
theorem dX6_lengthen_98 : decode cX6_lengthen 98 = .ok (.iaload, 1) := by decide +kernel
theorem dX6_lengthen_99 : decode cX6_lengthen 99 = .ok (.if_icmp .ge 48, 3) := by decide +kernel
theorem dX6_lengthen_102 : decode cX6_lengthen 102 = .ok (.aload_n 0, 1) := by decide +kernel
theorem dX6_lengthen_103 : decode cX6_lengthen 103 = .ok (.getfield 36, 3) := by decide +kernel
theorem dX6_lengthen_106 : decode cX6_lengthen 106 = .ok (.aload_n 0, 1) := by decide +kernel
theorem dX6_lengthen_107 : decode cX6_lengthen 107 = .ok (.getfield 105, 3) := by decide +kernel
theorem dX6_lengthen_110 : decode cX6_lengthen 110 = .ok (.aload_n 0, 1) := by decide +kernel
theorem dX6_lengthen_111 : decode cX6_lengthen 111 = .ok (.getfield 7, 3) := by decide +kernel
theorem dX6_lengthen_114 : decode cX6_lengthen 114 = .ok (.iconst 4, 1) := by decide +kernel
theorem dX6_lengthen_115 : decode cX6_lengthen 115 = .ok (.iload_n 1, 1) := by decide +kernel
theorem dX6_lengthen_116 : decode cX6_lengthen 116 = .ok (.imul, 1) := by decide +kernel
theorem dX6_lengthen_117 : decode cX6_lengthen 117 = .ok (.iload_n 2, 1) := by decide +kernel
theorem dX6_lengthen_118 : decode cX6_lengthen 118 = .ok (.iload 4, 2) := by decide +kernel
theorem dX6_lengthen_120 : decode cX6_lengthen 120 = .ok (.iadd, 1) := by decide +kernel
theorem dX6_lengthen_121 : decode cX6_lengthen 121 = .ok (.aload_n 0, 1) := by decide +kernel
theorem dX6_lengthen_122 : decode cX6_lengthen 122 = .ok (.getfield 13, 3) := by decide +kernel
theorem dX6_lengthen_125 : decode cX6_lengthen 125 = .ok (.iload_n 1, 1) := by decide +kernel
theorem dX6_lengthen_126 : decode cX6_lengthen 126 = .ok (.iaload, 1) := by decide +kernel
theorem dX6_lengthen_127 : decode cX6_lengthen 127 = .ok (.irem, 1) := by decide +kernel
theorem dX6_lengthen_128 : decode cX6_lengthen 128 = .ok (.iadd, 1) := by decide +kernel
theorem dX6_lengthen_129 : decode cX6_lengthen 129 = .ok (.iaload, 1) := by decide +kernel
theorem dX6_lengthen_130 : decode cX6_lengthen 130 = .ok (.iastore, 1) := by decide +kernel
theorem dX6_lengthen_131 : decode cX6_lengthen 131 = .ok (.aload_n 0, 1) := by decide +kernel
theorem dX6_lengthen_132 : decode cX6_lengthen 132 = .ok (.dup, 1) := by decide +kernel
theorem dX6_lengthen_133 : decode cX6_lengthen 133 = .ok (.getfield 105, 3) := by decide +kernel
theorem dX6_lengthen_136 : decode cX6_lengthen 136 = .ok (.iconst 1, 1) := by decide +kernel
theorem dX6_lengthen_137 : decode cX6_lengthen 137 = .ok (.iadd, 1) := by decide +kernel
theorem dX6_lengthen_138 : decode cX6_lengthen 138 = .ok (.putfield 105, 3) := by decide +kernel
theorem dX6_lengthen_141 : decode cX6_lengthen 141 = .ok (.iinc 5 1, 3) := by decide +kernel
theorem dX6_lengthen_144 : decode cX6_lengthen 144 = .ok (.goto (-54), 3) := by decide +kernel
theorem dX6_lengthen_147 : decode cX6_lengthen 147 = .ok (.iinc 4 1, 3) := by decide +kernel
theorem dX6_lengthen_150 : decode cX6_lengthen 150 = .ok (.goto (-72), 3) := by decide +kernel
theorem dX6_lengthen_153 : decode cX6_lengthen 153 = .ok (.aload_n 0, 1) := by decide +kernel
theorem dX6_lengthen_154 : decode cX6_lengthen 154 = .ok (.invokevirtual 122, 3) := by decide +kernel
theorem dX6_lengthen_157 : decode cX6_lengthen 157 = .ok (.aload_n 0, 1) := by decide +kernel
theorem dX6_lengthen_158 : decode cX6_lengthen 158 = .ok (.getfield 100, 3) := by decide +kernel
theorem dX6_lengthen_161 : decode cX6_lengthen 161 = .ok (.ireturn, 1) := by decide +kernel
set_option maxRecDepth 20000 in
theorem ggX6_mirror_X6_load : GoodIn wsX6_mirror wsX6_load := goodIn_r _ [8, 1, 9, 3, 2, 10, 11, 12, 13, 14, 15, 16, 17, 18, 19, 20, 21, 22, 23, 24, 25, 26, 27, 28, 29] (by decide +kernel) (by decide +kernel)
set_option maxRecDepth 20000 in
theorem gX6_mirror_X6_load : GoodIn wsX6_mirror (wsV RX6 111 RX6 yX6_load wsX6_load) := goodIn_app (goodIn_of _ (by decide +kernel)) ggX6_mirror_X6_load
theorem dX6_mirror_0 : decode cX6_mirror 0 = .ok (.aload_n 0, 1) := by decide +kernel
theorem dX6_mirror_1 : decode cX6_mirror 1 = .ok (.invokevirtual 111, 3) := by decide +kernel
theorem dX6_mirror_4 : decode cX6_mirror 4 = .ok (.iconst 0, 1) := by decide +kernel
theorem dX6_mirror_5 : decode cX6_mirror 5 = .ok (.istore_n 1, 1) := by decide +kernel
theorem dX6_mirror_6 : decode cX6_mirror 6 = .ok (.iload_n 1, 1) := by decide +kernel
theorem dX6_mirror_7 : decode cX6_mirror 7 = .ok (.aload_n 0, 1) := by decide +kernel
theorem dX6_mirror_8 : decode cX6_mirror 8 = .ok (.getfield 100, 3) := by decide +kernel
theorem dX6_mirror_11 : decode cX6_mirror 11 = .ok (.if_icmp .ge 28, 3) := by decide +kernel
theorem dX6_mirror_14 : decode cX6_mirror 14 = .ok (.aload_n 0, 1) := by decide +kernel
theorem dX6_mirror_15 : decode cX6_mirror 15 = .ok (.getfield 33, 3) := by decide +kernel
theorem dX6_mirror_18 : decode cX6_mirror 18 = .ok (.iload_n 1, 1) := by decide +kernel
theorem dX6_mirror_19 : decode cX6_mirror 19 = .ok (.aload_n 0, 1) := by decide +kernel
theorem dX6_mirror_20 : decode cX6_mirror 20 = .ok (.getfield 36, 3) := by decide +kernel
theorem dX6_mirror_23 : decode cX6_mirror 23 = .ok (.aload_n 0, 1) := by decide +kernel
theorem dX6_mirror_24 : decode cX6_mirror 24 = .ok (.getfield 100, 3) := by decide +kernel
theorem dX6_mirror_27 : decode cX6_mirror 27 = .ok (.iconst 1, 1) := by decide +kernel
theorem dX6_mirror_28 : decode cX6_mirror 28 = .ok (.isub, 1) := by decide +kernel
theorem dX6_mirror_29 : decode cX6_mirror 29 = .ok (.iload_n 1, 1) := by decide +kernel
theorem dX6_mirror_30 : decode cX6_mirror 30 = .ok (.isub, 1) := by decide +kernel
theorem dX6_mirror_31 : decode cX6_mirror 31 = .ok (.iaload, 1) := by decide +kernel
theorem dX6_mirror_32 : decode cX6_mirror 32 = .ok (.iastore, 1) := by decide +kernel
theorem dX6_mirror_33 : decode cX6_mirror 33 = .ok (.iinc 1 1, 3) := by decide +kernel
theorem dX6_mirror_36 : decode cX6_mirror 36 = .ok (.goto (-30), 3) := by decide +kernel
theorem dX6_mirror_39 : decode cX6_mirror 39 = .ok (.aload_n 0, 1) := by decide +kernel
theorem dX6_mirror_40 : decode cX6_mirror 40 = .ok (.getfield 100, 3) := by decide +kernel
theorem dX6_mirror_43 : decode cX6_mirror 43 = .ok (.ireturn, 1) := by decide +kernel
set_option maxRecDepth 20000 in
theorem ggX6_turn_X6_isAlphabet : GoodIn wsX6_turn wsX6_isAlphabet := goodIn_r _ [8, 9, 10, 11, 7, 12] (by decide +kernel) (by decide +kernel)
set_option maxRecDepth 20000 in
theorem gX6_turn_X6_isAlphabet : GoodIn wsX6_turn (va_wsS RX6 63 yX6_isAlphabet wsX6_isAlphabet) := goodIn_app (goodIn_of _ (by decide +kernel)) ggX6_turn_X6_isAlphabet
theorem dX6_turn_0 : decode cX6_turn 0 = .ok (.iload_n 1, 1) := by decide +kernel
theorem dX6_turn_1 : decode cX6_turn 1 = .ok (.invokestatic 63, 3) := by decide +kernel
theorem dX6_turn_4 : decode cX6_turn 4 = .ok (.ifCond .ne 6, 3) := by decide +kernel
theorem dX6_turn_7 : decode cX6_turn 7 = .ok (.bipush (-101), 2) := by decide +kernel
theorem dX6_turn_9 : decode cX6_turn 9 = .ok (.ireturn, 1) := by decide +kernel
theorem dX6_turn_10 : decode cX6_turn 10 = .ok (.iconst 0, 1) := by decide +kernel
theorem dX6_turn_11 : decode cX6_turn 11 = .ok (.istore_n 2, 1) := by decide +kernel
theorem dX6_turn_12 : decode cX6_turn 12 = .ok (.iconst 0, 1) := by decide +kernel
theorem dX6_turn_13 : decode cX6_turn 13 = .ok (.istore_n 3, 1) := by decide +kernel
theorem dX6_turn_14 : decode cX6_turn 14 = .ok (.iload_n 3, 1) := by decide +kernel
theorem dX6_turn_15 : decode cX6_turn 15 = .ok (.aload_n 0, 1) := by decide +kernel
theorem dX6_turn_16 : decode cX6_turn 16 = .ok (.getfield 100, 3) := by decide +kernel
theorem dX6_turn_19 : decode cX6_turn 19 = .ok (.if_icmp .ge 109, 3) := by decide +kernel
theorem dX6_turn_22 : decode cX6_turn 22 = .ok (.iconst 0, 1) := by decide +kernel
theorem dX6_turn_23 : decode cX6_turn 23 = .ok (.istore 4, 2) := by decide +kernel
theorem dX6_turn_25 : decode cX6_turn 25 = .ok (.iload 4, 2) := by decide +kernel
theorem dX6_turn_27 : decode cX6_turn 27 = .ok (.aload_n 0, 1) := by decide +kernel
theorem dX6_turn_28 : decode cX6_turn 28 = .ok (.getfield 13, 3) := by decide +kernel
theorem dX6_turn_31 : decode cX6_turn 31 = .ok (.iload_n 1, 1) := by decide +kernel
theorem dX6_turn_32 : decode cX6_turn 32 = .ok (.iaload, 1) := by decide +kernel
theorem dX6_turn_33 : decode cX6_turn 33 = .ok (.if_icmp .ge 29, 3) := by decide +kernel
theorem dX6_turn_36 : decode cX6_turn 36 = .ok (.aload_n 0, 1) := by decide +kernel
theorem dX6_turn_37 : decode cX6_turn 37 = .ok (.getfield 7, 3) := by decide +kernel
theorem dX6_turn_40 : decode cX6_turn 40 = .ok (.iconst 4, 1) := by decide +kernel
theorem dX6_turn_41 : decode cX6_turn 41 = .ok (.iload_n 1, 1) := by decide +kernel
theorem dX6_turn_42 : decode cX6_turn 42 = .ok (.imul, 1) := by decide +kernel
theorem dX6_turn_43 : decode cX6_turn 43 = .ok (.iload 4, 2) := by decide +kernel
theorem dX6_turn_45 : decode cX6_turn 45 = .ok (.iadd, 1) := by decide +kernel
theorem dX6_turn_46 : decode cX6_turn 46 = .ok (.iaload, 1) := by decide +kernel
theorem dX6_turn_47 : decode cX6_turn 47 = .ok (.aload_n 0, 1) := by decide +kernel
theorem dX6_turn_48 : decode cX6_turn 48 = .ok (.getfield 33, 3) := by decide +kernel
theorem dX6_turn_51 : decode cX6_turn 51 = .ok (.iload_n 3, 1) := by decide +kernel
theorem dX6_turn_52 : decode cX6_turn 52 = .ok (.iaload, 1) := by decide +kernel
theorem dX6_turn_53 : decode cX6_turn 53 = .ok (.if_icmp .eq 9, 3) := by decide +kernel
theorem dX6_turn_56 : decode cX6_turn 56 = .ok (.iinc 4 1, 3) := by decide +kernel
theorem dX6_turn_59 : decode cX6_turn 59 = .ok (.goto (-34), 3) := by decide +kernel
theorem dX6_turn_62 : decode cX6_turn 62 = .ok (.iload 4, 2) := by decide +kernel
theorem dX6_turn_64 : decode cX6_turn 64 = .ok (.aload_n 0, 1) := by decide +kernel
theorem dX6_turn_65 : decode cX6_turn 65 = .ok (.getfield 13, 3) := by decide +kernel
theorem dX6_turn_68 : decode cX6_turn 68 = .ok (.iload_n 1, 1) := by decide +kernel
theorem dX6_turn_69 : decode cX6_turn 69 = .ok (.iaload, 1) := by decide +kernel
theorem dX6_turn_70 : decode cX6_turn 70 = .ok (.if_icmp .ge 52, 3) := by decide +kernel
theorem dX6_turn_73 : decode cX6_turn 73 = .ok (.aload_n 0, 1) := by decide +kernel
theorem dX6_turn_74 : decode cX6_turn 74 = .ok (.getfield 7, 3) := by decide +kernel
theorem dX6_turn_77 : decode cX6_turn 77 = .ok (.iconst 4, 1) := by decide +kernel
theorem dX6_turn_78 : decode cX6_turn 78 = .ok (.iload_n 1, 1) := by decide +kernel
theorem dX6_turn_79 : decode cX6_turn 79 = .ok (.imul, 1) := by decide +kernel
theorem dX6_turn_80 : decode cX6_turn 80 = .ok (.iload 4, 2) := by decide +kernel
theorem dX6_turn_82 : decode cX6_turn 82 = .ok (.iconst 1, 1) := by decide +kernel
theorem dX6_turn_83 : decode cX6_turn 83 = .ok (.iadd, 1) := by decide +kernel
theorem dX6_turn_84 : decode cX6_turn 84 = .ok (.aload_n 0, 1) := by decide +kernel
theorem dX6_turn_85 : decode cX6_turn 85 = .ok (.getfield 13, 3) := by decide +kernel
theorem dX6_turn_88 : decode cX6_turn 88 = .ok (.iload_n 1, 1) := by decide +kernel
theorem dX6_turn_89 : decode cX6_turn 89 = .ok (.iaload, 1) := by decide +kernel
theorem dX6_turn_90 : decode cX6_turn 90 = .ok (.irem, 1) := by decide +kernel
theorem dX6_turn_91 : decode cX6_turn 91 = .ok (.iadd, 1) := by decide +kernel
theorem dX6_turn_92 : decode cX6_turn 92 = .ok (.iaload, 1) := by decide +kernel
theorem dX6_turn_93 : decode cX6_turn 93 = .ok (.istore 5, 2) := by decide +kernel
theorem dX6_turn_95 : decode cX6_turn 95 = .ok (.iload_n 2, 1) := by decide +kernel
theorem dX6_turn_96 : decode cX6_turn 96 = .ok (.iload 5, 2) := by decide +kernel
theorem dX6_turn_98 : decode cX6_turn 98 = .ok (.aload_n 0, 1) := by decide +kernel
theorem dX6_turn_99 : decode cX6_turn 99 = .ok (.getfield 33, 3) := by decide +kernel
theorem dX6_turn_102 : decode cX6_turn 102 = .ok (.iload_n 3, 1) := by decide +kernel
theorem dX6_turn_103 : decode cX6_turn 103 = .ok (.iaload, 1) := by decide +kernel
theorem dX6_turn_104 : decode cX6_turn 104 = .ok (.if_icmp .ne 7, 3) := by decide +kernel
theorem dX6_turn_107 : decode cX6_turn 107 = .ok (.iconst 0, 1) := by decide +kernel
theorem dX6_turn_108 : decode cX6_turn 108 = .ok (.goto 4, 3) := by decide +kernel
theorem dX6_turn_111 : decode cX6_turn 111 = .ok (.iconst 1, 1) := by decide +kernel
theorem dX6_turn_112 : decode cX6_turn 112 = .ok (.iadd, 1) := by decide +kernel
theorem dX6_turn_113 : decode cX6_turn 113 = .ok (.istore_n 2, 1) := by decide +kernel
theorem dX6_turn_114 : decode cX6_turn 114 = .ok (.aload_n 0, 1) := by decide +kernel
theorem dX6_turn_115 : decode cX6_turn 115 = .ok (.getfield 33, 3) := by decide +kernel
theorem dX6_turn_118 : decode cX6_turn 118 = .ok (.iload_n 3, 1) := by decide +kernel
theorem dX6_turn_119 : decode cX6_turn 119 = .ok (.iload 5, 2) := by decide +kernel
theorem dX6_turn_121 : decode cX6_turn 121 = .ok (.iastore, 1) := by decide +kernel
theorem dX6_turn_122 : decode cX6_turn 122 = .ok (.iinc 3 1, 3) := by decide +kernel
theorem dX6_turn_125 : decode cX6_turn 125 = .ok (.goto (-111), 3) := by decide +kernel
theorem dX6_turn_128 : decode cX6_turn 128 = .ok (.iload_n 2, 1) := by decide +kernel
theorem dX6_turn_129 : decode cX6_turn 129 = .ok (.ireturn, 1) := by decide +kernel
set_option maxRecDepth 20000 in
theorem ggX6_depthOf_X6_measure : GoodIn wsX6_depthOf wsX6_measure := goodIn_r _ [7, 8, 1, 2, 9, 14, 15, 16, 17, 18, 19, 20, 21, 22, 23, 24, 25, 26, 27, 28, 29, 30, 31, 32, 33] (by decide +kernel) (by decide +kernel)
set_option maxRecDepth 20000 in
theorem gX6_depthOf_X6_measure : GoodIn wsX6_depthOf (wsV RX6 114 RX6 yX6_measure wsX6_measure) := goodIn_app (goodIn_of _ (by decide +kernel)) ggX6_depthOf_X6_measure
set_option maxRecDepth 20000 in
theorem ggX6_depthOf_X6_cut : GoodIn wsX6_depthOf wsX6_cut := goodIn_r _ [13, 8, 9, 1, 2, 14, 15, 16, 17, 18, 19, 20, 21, 22, 23, 24, 25, 26, 27, 28, 29, 30, 31, 32, 33] (by decide +kernel) (by decide +kernel)
set_option maxRecDepth 20000 in
theorem gX6_depthOf_X6_cut : GoodIn wsX6_depthOf (wsV RX6 118 RX6 yX6_cut wsX6_cut) := goodIn_app (goodIn_of _ (by decide +kernel)) ggX6_depthOf_X6_cut
theorem dX6_depthOf_0 : decode cX6_depthOf 0 = .ok (.iconst 0, 1) := by decide +kernel
theorem dX6_depthOf_1 : decode cX6_depthOf 1 = .ok (.istore_n 2, 1) := by decide +kernel
theorem dX6_depthOf_2 : decode cX6_depthOf 2 = .ok (.aload_n 0, 1) := by decide +kernel
theorem dX6_depthOf_3 : decode cX6_depthOf 3 = .ok (.getfield 105, 3) := by decide +kernel
theorem dX6_depthOf_6 : decode cX6_depthOf 6 = .ok (.ifCond .le 52, 3) := by decide +kernel
theorem dX6_depthOf_9 : decode cX6_depthOf 9 = .ok (.iconst 0, 1) := by decide +kernel
theorem dX6_depthOf_10 : decode cX6_depthOf 10 = .ok (.istore_n 3, 1) := by decide +kernel
theorem dX6_depthOf_11 : decode cX6_depthOf 11 = .ok (.iload_n 3, 1) := by decide +kernel
theorem dX6_depthOf_12 : decode cX6_depthOf 12 = .ok (.aload_n 0, 1) := by decide +kernel
theorem dX6_depthOf_13 : decode cX6_depthOf 13 = .ok (.getfield 105, 3) := by decide +kernel
theorem dX6_depthOf_16 : decode cX6_depthOf 16 = .ok (.if_icmp .ge 21, 3) := by decide +kernel
theorem dX6_depthOf_19 : decode cX6_depthOf 19 = .ok (.aload_n 0, 1) := by decide +kernel
theorem dX6_depthOf_20 : decode cX6_depthOf 20 = .ok (.getfield 36, 3) := by decide +kernel
theorem dX6_depthOf_23 : decode cX6_depthOf 23 = .ok (.iload_n 3, 1) := by decide +kernel
theorem dX6_depthOf_24 : decode cX6_depthOf 24 = .ok (.iaload, 1) := by decide +kernel
theorem dX6_depthOf_25 : decode cX6_depthOf 25 = .ok (.iload_n 1, 1) := by decide +kernel
theorem dX6_depthOf_26 : decode cX6_depthOf 26 = .ok (.if_icmp .le 5, 3) := by decide +kernel
theorem dX6_depthOf_29 : decode cX6_depthOf 29 = .ok (.iconst (-1), 1) := by decide +kernel
theorem dX6_depthOf_30 : decode cX6_depthOf 30 = .ok (.ireturn, 1) := by decide +kernel
theorem dX6_depthOf_31 : decode cX6_depthOf 31 = .ok (.iinc 3 1, 3) := by decide +kernel
theorem dX6_depthOf_34 : decode cX6_depthOf 34 = .ok (.goto (-23), 3) := by decide +kernel
theorem dX6_depthOf_37 : decode cX6_depthOf 37 = .ok (.aload_n 0, 1) := by decide +kernel
theorem dX6_depthOf_38 : decode cX6_depthOf 38 = .ok (.invokevirtual 114, 3) := by decide +kernel
theorem dX6_depthOf_41 : decode cX6_depthOf 41 = .ok (.iload_n 1, 1) := by decide +kernel
theorem dX6_depthOf_42 : decode cX6_depthOf 42 = .ok (.if_icmp .le 5, 3) := by decide +kernel
theorem dX6_depthOf_45 : decode cX6_depthOf 45 = .ok (.iconst (-1), 1) := by decide +kernel
theorem dX6_depthOf_46 : decode cX6_depthOf 46 = .ok (.ireturn, 1) := by decide +kernel
theorem dX6_depthOf_47 : decode cX6_depthOf 47 = .ok (.aload_n 0, 1) := by decide +kernel
theorem dX6_depthOf_48 : decode cX6_depthOf 48 = .ok (.iload_n 1, 1) := by decide +kernel
theorem dX6_depthOf_49 : decode cX6_depthOf 49 = .ok (.invokevirtual 118, 3) := by decide +kernel
theorem dX6_depthOf_52 : decode cX6_depthOf 52 = .ok (.iinc 2 1, 3) := by decide +kernel
theorem dX6_depthOf_55 : decode cX6_depthOf 55 = .ok (.goto (-53), 3) := by decide +kernel
theorem dX6_depthOf_58 : decode cX6_depthOf 58 = .ok (.iload_n 2, 1) := by decide +kernel
theorem dX6_depthOf_59 : decode cX6_depthOf 59 = .ok (.ireturn, 1) := by decide +kernel
set_option maxRecDepth 20000 in
theorem ggX6_depth_X6_in : GoodIn wsX6_depth wsX6_in := goodIn_r _ [6] (by decide +kernel) (by decide +kernel)
set_option maxRecDepth 20000 in
theorem gX6_depth_X6_in : GoodIn wsX6_depth (va_wsS RX6 59 yX6_in wsX6_in) := goodIn_app (goodIn_of _ (by decide +kernel)) ggX6_depth_X6_in
set_option maxRecDepth 20000 in
theorem ggX6_depth_X6_load : GoodIn wsX6_depth wsX6_load := goodIn_r _ [10, 11, 12, 13, 14, 29, 30, 31, 32, 33, 34, 35, 36, 37, 38, 39, 40, 41, 42, 43, 44, 45, 46, 47, 48] (by decide +kernel) (by decide +kernel)
set_option maxRecDepth 20000 in
theorem gX6_depth_X6_load : GoodIn wsX6_depth (wsV RX6 111 RX6 yX6_load wsX6_load) := goodIn_app (goodIn_of _ (by decide +kernel)) ggX6_depth_X6_load
set_option maxRecDepth 20000 in
theorem ggX6_depth_X6_depthOf : GoodIn wsX6_depth wsX6_depthOf := goodIn_r _ [18, 12, 13, 19, 20, 21, 5, 22, 23, 24, 25, 26, 27, 28, 29, 30, 31, 32, 33, 34, 35, 36, 37, 38, 39, 40, 41, 42, 43, 44, 45, 46, 47, 48] (by decide +kernel) (by decide +kernel)
set_option maxRecDepth 20000 in
theorem gX6_depth_X6_depthOf : GoodIn wsX6_depth (wsV RX6 125 RX6 yX6_depthOf wsX6_depthOf) := goodIn_app (goodIn_of _ (by decide +kernel)) ggX6_depth_X6_depthOf
theorem dX6_depth_0 : decode cX6_depth 0 = .ok (.iload_n 1, 1) := by decide +kernel
theorem dX6_depth_1 : decode cX6_depth 1 = .ok (.i2l, 1) := by decide +kernel
theorem dX6_depth_2 : decode cX6_depth 2 = .ok (.ldc2_w 67, 3) := by decide +kernel
theorem dX6_depth_5 : decode cX6_depth 5 = .ok (.ldc2_w 71, 3) := by decide +kernel
theorem dX6_depth_8 : decode cX6_depth 8 = .ok (.invokestatic 59, 3) := by decide +kernel
theorem dX6_depth_11 : decode cX6_depth 11 = .ok (.ifCond .ne 6, 3) := by decide +kernel
theorem dX6_depth_14 : decode cX6_depth 14 = .ok (.bipush (-102), 2) := by decide +kernel
theorem dX6_depth_16 : decode cX6_depth 16 = .ok (.ireturn, 1) := by decide +kernel
theorem dX6_depth_17 : decode cX6_depth 17 = .ok (.aload_n 0, 1) := by decide +kernel
theorem dX6_depth_18 : decode cX6_depth 18 = .ok (.invokevirtual 111, 3) := by decide +kernel
theorem dX6_depth_21 : decode cX6_depth 21 = .ok (.aload_n 0, 1) := by decide +kernel
theorem dX6_depth_22 : decode cX6_depth 22 = .ok (.iload_n 1, 1) := by decide +kernel
theorem dX6_depth_23 : decode cX6_depth 23 = .ok (.invokevirtual 125, 3) := by decide +kernel
theorem dX6_depth_26 : decode cX6_depth 26 = .ok (.ireturn, 1) := by decide +kernel
set_option maxRecDepth 20000 in
theorem ggX6_many_X6_in : GoodIn wsX6_many wsX6_in := goodIn_r _ [12] (by decide +kernel) (by decide +kernel)
set_option maxRecDepth 20000 in
theorem gX6_many_X6_in : GoodIn wsX6_many (va_wsS RX6 59 yX6_in wsX6_in) := goodIn_app (goodIn_of _ (by decide +kernel)) ggX6_many_X6_in
set_option maxRecDepth 20000 in
theorem ggX6_many_X6_depthOf : GoodIn wsX6_many wsX6_depthOf := goodIn_r _ [16, 7, 8, 17, 18, 19, 11, 20, 21, 22, 23, 24, 25, 26, 27, 28, 29, 30, 31, 32, 33, 34, 35, 36, 37, 38, 39, 40, 41, 42, 43, 44, 45, 46] (by decide +kernel) (by decide +kernel)
set_option maxRecDepth 20000 in
theorem gX6_many_X6_depthOf : GoodIn wsX6_many (wsV RX6 125 RX6 yX6_depthOf wsX6_depthOf) := goodIn_app (goodIn_of _ (by decide +kernel)) ggX6_many_X6_depthOf
theorem dX6_many_0 : decode cX6_many 0 = .ok (.iload_n 2, 1) := by decide +kernel
theorem dX6_many_1 : decode cX6_many 1 = .ok (.i2l, 1) := by decide +kernel
theorem dX6_many_2 : decode cX6_many 2 = .ok (.ldc2_w 67, 3) := by decide +kernel
theorem dX6_many_5 : decode cX6_many 5 = .ok (.ldc2_w 57, 3) := by decide +kernel
theorem dX6_many_8 : decode cX6_many 8 = .ok (.invokestatic 59, 3) := by decide +kernel
theorem dX6_many_11 : decode cX6_many 11 = .ok (.ifCond .eq 26, 3) := by decide +kernel
theorem dX6_many_14 : decode cX6_many 14 = .ok (.iload_n 1, 1) := by decide +kernel
theorem dX6_many_15 : decode cX6_many 15 = .ok (.i2l, 1) := by decide +kernel
theorem dX6_many_16 : decode cX6_many 16 = .ok (.lconst 0, 1) := by decide +kernel
theorem dX6_many_17 : decode cX6_many 17 = .ok (.iload_n 2, 1) := by decide +kernel
theorem dX6_many_18 : decode cX6_many 18 = .ok (.iconst 2, 1) := by decide +kernel
theorem dX6_many_19 : decode cX6_many 19 = .ok (.if_icmp .ne 9, 3) := by decide +kernel
theorem dX6_many_22 : decode cX6_many 22 = .ok (.ldc2_w 129, 3) := by decide +kernel
theorem dX6_many_25 : decode cX6_many 25 = .ok (.goto 6, 3) := by decide +kernel
theorem dX6_many_28 : decode cX6_many 28 = .ok (.ldc2_w 131, 3) := by decide +kernel
theorem dX6_many_31 : decode cX6_many 31 = .ok (.invokestatic 59, 3) := by decide +kernel
theorem dX6_many_34 : decode cX6_many 34 = .ok (.ifCond .ne 6, 3) := by decide +kernel
theorem dX6_many_37 : decode cX6_many 37 = .ok (.bipush (-102), 2) := by decide +kernel
theorem dX6_many_39 : decode cX6_many 39 = .ok (.ireturn, 1) := by decide +kernel
theorem dX6_many_40 : decode cX6_many 40 = .ok (.aload_n 0, 1) := by decide +kernel
theorem dX6_many_41 : decode cX6_many 41 = .ok (.getfield 133, 3) := by decide +kernel
theorem dX6_many_44 : decode cX6_many 44 = .ok (.bipush 10, 2) := by decide +kernel
theorem dX6_many_46 : decode cX6_many 46 = .ok (.if_icmp .ne 6, 3) := by decide +kernel
theorem dX6_many_49 : decode cX6_many 49 = .ok (.bipush (-103), 2) := by decide +kernel
theorem dX6_many_51 : decode cX6_many 51 = .ok (.ireturn, 1) := by decide +kernel
theorem dX6_many_52 : decode cX6_many 52 = .ok (.aload_n 0, 1) := by decide +kernel
theorem dX6_many_53 : decode cX6_many 53 = .ok (.dup, 1) := by decide +kernel
theorem dX6_many_54 : decode cX6_many 54 = .ok (.getfield 133, 3) := by decide +kernel
theorem dX6_many_57 : decode cX6_many 57 = .ok (.iconst 1, 1) := by decide +kernel
theorem dX6_many_58 : decode cX6_many 58 = .ok (.iadd, 1) := by decide +kernel
theorem dX6_many_59 : decode cX6_many 59 = .ok (.putfield 133, 3) := by decide +kernel
theorem dX6_many_62 : decode cX6_many 62 = .ok (.iload_n 1, 1) := by decide +kernel
theorem dX6_many_63 : decode cX6_many 63 = .ok (.ifCond .ne 5, 3) := by decide +kernel
theorem dX6_many_66 : decode cX6_many 66 = .ok (.iconst 1, 1) := by decide +kernel
theorem dX6_many_67 : decode cX6_many 67 = .ok (.ireturn, 1) := by decide +kernel
theorem dX6_many_68 : decode cX6_many 68 = .ok (.iconst 0, 1) := by decide +kernel
theorem dX6_many_69 : decode cX6_many 69 = .ok (.istore_n 3, 1) := by decide +kernel
theorem dX6_many_70 : decode cX6_many 70 = .ok (.iconst 0, 1) := by decide +kernel
theorem dX6_many_71 : decode cX6_many 71 = .ok (.istore 4, 2) := by decide +kernel
theorem dX6_many_73 : decode cX6_many 73 = .ok (.aload_n 0, 1) := by decide +kernel
theorem dX6_many_74 : decode cX6_many 74 = .ok (.getfield 42, 3) := by decide +kernel
theorem dX6_many_77 : decode cX6_many 77 = .ok (.iconst 0, 1) := by decide +kernel
theorem dX6_many_78 : decode cX6_many 78 = .ok (.iconst 0, 1) := by decide +kernel
theorem dX6_many_79 : decode cX6_many 79 = .ok (.iastore, 1) := by decide +kernel
theorem dX6_many_80 : decode cX6_many 80 = .ok (.iload 4, 2) := by decide +kernel
theorem dX6_many_82 : decode cX6_many 82 = .ok (.ifCond .lt 106, 3) := by decide +kernel
theorem dX6_many_85 : decode cX6_many 85 = .ok (.aload_n 0, 1) := by decide +kernel
theorem dX6_many_86 : decode cX6_many 86 = .ok (.getfield 42, 3) := by decide +kernel
theorem dX6_many_89 : decode cX6_many 89 = .ok (.iload 4, 2) := by decide +kernel
theorem dX6_many_91 : decode cX6_many 91 = .ok (.dup2, 1) := by decide +kernel
theorem dX6_many_92 : decode cX6_many 92 = .ok (.iaload, 1) := by decide +kernel
theorem dX6_many_93 : decode cX6_many 93 = .ok (.iconst 1, 1) := by decide +kernel
theorem dX6_many_94 : decode cX6_many 94 = .ok (.iadd, 1) := by decide +kernel
theorem dX6_many_95 : decode cX6_many 95 = .ok (.iastore, 1) := by decide +kernel
theorem dX6_many_96 : decode cX6_many 96 = .ok (.aload_n 0, 1) := by decide +kernel
theorem dX6_many_97 : decode cX6_many 97 = .ok (.getfield 42, 3) := by decide +kernel
theorem dX6_many_100 : decode cX6_many 100 = .ok (.iload 4, 2) := by decide +kernel
theorem dX6_many_102 : decode cX6_many 102 = .ok (.iaload, 1) := by decide +kernel
theorem dX6_many_103 : decode cX6_many 103 = .ok (.iload_n 2, 1) := by decide +kernel
theorem dX6_many_104 : decode cX6_many 104 = .ok (.if_icmp .le 9, 3) := by decide +kernel
theorem dX6_many_107 : decode cX6_many 107 = .ok (.iinc 4 (-1), 3) := by decide +kernel
end
section
theorem dX6_many_110 : decode cX6_many 110 = .ok (.goto (-30), 3) := by decide +kernel
theorem dX6_many_113 : decode cX6_many 113 = .ok (.aload_n 0, 1) := by decide +kernel
theorem dX6_many_114 : decode cX6_many 114 = .ok (.iload 4, 2) := by decide +kernel
theorem dX6_many_116 : decode cX6_many 116 = .ok (.iconst 1, 1) := by decide +kernel
theorem dX6_many_117 : decode cX6_many 117 = .ok (.iadd, 1) := by decide +kernel
theorem dX6_many_118 : decode cX6_many 118 = .ok (.putfield 105, 3) := by decide +kernel
theorem dX6_many_121 : decode cX6_many 121 = .ok (.iconst 0, 1) := by decide +kernel
theorem dX6_many_122 : decode cX6_many 122 = .ok (.istore 5, 2) := by decide +kernel
theorem dX6_many_124 : decode cX6_many 124 = .ok (.iload 5, 2) := by decide +kernel
theorem dX6_many_126 : decode cX6_many 126 = .ok (.iload 4, 2) := by decide +kernel
theorem dX6_many_128 : decode cX6_many 128 = .ok (.if_icmp .gt 23, 3) := by decide +kernel
theorem dX6_many_131 : decode cX6_many 131 = .ok (.aload_n 0, 1) := by decide +kernel
theorem dX6_many_132 : decode cX6_many 132 = .ok (.getfield 36, 3) := by decide +kernel
theorem dX6_many_135 : decode cX6_many 135 = .ok (.iload 5, 2) := by decide +kernel
theorem dX6_many_137 : decode cX6_many 137 = .ok (.aload_n 0, 1) := by decide +kernel
theorem dX6_many_138 : decode cX6_many 138 = .ok (.getfield 42, 3) := by decide +kernel
theorem dX6_many_141 : decode cX6_many 141 = .ok (.iload 5, 2) := by decide +kernel
theorem dX6_many_143 : decode cX6_many 143 = .ok (.iaload, 1) := by decide +kernel
theorem dX6_many_144 : decode cX6_many 144 = .ok (.iastore, 1) := by decide +kernel
theorem dX6_many_145 : decode cX6_many 145 = .ok (.iinc 5 1, 3) := by decide +kernel
theorem dX6_many_148 : decode cX6_many 148 = .ok (.goto (-24), 3) := by decide +kernel
theorem dX6_many_151 : decode cX6_many 151 = .ok (.aload_n 0, 1) := by decide +kernel
theorem dX6_many_152 : decode cX6_many 152 = .ok (.iload_n 2, 1) := by decide +kernel
theorem dX6_many_153 : decode cX6_many 153 = .ok (.invokevirtual 125, 3) := by decide +kernel
theorem dX6_many_156 : decode cX6_many 156 = .ok (.iconst (-1), 1) := by decide +kernel
theorem dX6_many_157 : decode cX6_many 157 = .ok (.if_icmp .eq (-77), 3) := by decide +kernel
theorem dX6_many_160 : decode cX6_many 160 = .ok (.iload 4, 2) := by decide +kernel
theorem dX6_many_162 : decode cX6_many 162 = .ok (.iload_n 1, 1) := by decide +kernel
theorem dX6_many_163 : decode cX6_many 163 = .ok (.iconst 1, 1) := by decide +kernel
theorem dX6_many_164 : decode cX6_many 164 = .ok (.isub, 1) := by decide +kernel
theorem dX6_many_165 : decode cX6_many 165 = .ok (.if_icmp .ne 9, 3) := by decide +kernel
theorem dX6_many_168 : decode cX6_many 168 = .ok (.iinc 3 1, 3) := by decide +kernel
theorem dX6_many_171 : decode cX6_many 171 = .ok (.goto (-91), 3) := by decide +kernel
theorem dX6_many_174 : decode cX6_many 174 = .ok (.iinc 4 1, 3) := by decide +kernel
theorem dX6_many_177 : decode cX6_many 177 = .ok (.aload_n 0, 1) := by decide +kernel
theorem dX6_many_178 : decode cX6_many 178 = .ok (.getfield 42, 3) := by decide +kernel
theorem dX6_many_181 : decode cX6_many 181 = .ok (.iload 4, 2) := by decide +kernel
theorem dX6_many_183 : decode cX6_many 183 = .ok (.iconst 0, 1) := by decide +kernel
theorem dX6_many_184 : decode cX6_many 184 = .ok (.iastore, 1) := by decide +kernel
theorem dX6_many_185 : decode cX6_many 185 = .ok (.goto (-105), 3) := by decide +kernel
theorem dX6_many_188 : decode cX6_many 188 = .ok (.iload_n 3, 1) := by decide +kernel
theorem dX6_many_189 : decode cX6_many 189 = .ok (.ireturn, 1) := by decide +kernel
theorem dX6_isMirror_0 : decode cX6_isMirror 0 = .ok (.iconst 1, 1) := by decide +kernel
theorem dX6_isMirror_1 : decode cX6_isMirror 1 = .ok (.istore_n 1, 1) := by decide +kernel
theorem dX6_isMirror_2 : decode cX6_isMirror 2 = .ok (.iconst 0, 1) := by decide +kernel
theorem dX6_isMirror_3 : decode cX6_isMirror 3 = .ok (.istore_n 2, 1) := by decide +kernel
theorem dX6_isMirror_4 : decode cX6_isMirror 4 = .ok (.iload_n 2, 1) := by decide +kernel
theorem dX6_isMirror_5 : decode cX6_isMirror 5 = .ok (.aload_n 0, 1) := by decide +kernel
theorem dX6_isMirror_6 : decode cX6_isMirror 6 = .ok (.getfield 100, 3) := by decide +kernel
theorem dX6_isMirror_9 : decode cX6_isMirror 9 = .ok (.if_icmp .ge 41, 3) := by decide +kernel
theorem dX6_isMirror_12 : decode cX6_isMirror 12 = .ok (.iload_n 1, 1) := by decide +kernel
theorem dX6_isMirror_13 : decode cX6_isMirror 13 = .ok (.ifCond .eq 29, 3) := by decide +kernel
theorem dX6_isMirror_16 : decode cX6_isMirror 16 = .ok (.aload_n 0, 1) := by decide +kernel
theorem dX6_isMirror_17 : decode cX6_isMirror 17 = .ok (.getfield 33, 3) := by decide +kernel
theorem dX6_isMirror_20 : decode cX6_isMirror 20 = .ok (.iload_n 2, 1) := by decide +kernel
theorem dX6_isMirror_21 : decode cX6_isMirror 21 = .ok (.iaload, 1) := by decide +kernel
theorem dX6_isMirror_22 : decode cX6_isMirror 22 = .ok (.aload_n 0, 1) := by decide +kernel
theorem dX6_isMirror_23 : decode cX6_isMirror 23 = .ok (.getfield 33, 3) := by decide +kernel
theorem dX6_isMirror_26 : decode cX6_isMirror 26 = .ok (.aload_n 0, 1) := by decide +kernel
theorem dX6_isMirror_27 : decode cX6_isMirror 27 = .ok (.getfield 100, 3) := by decide +kernel
theorem dX6_isMirror_30 : decode cX6_isMirror 30 = .ok (.iconst 1, 1) := by decide +kernel
theorem dX6_isMirror_31 : decode cX6_isMirror 31 = .ok (.isub, 1) := by decide +kernel
theorem dX6_isMirror_32 : decode cX6_isMirror 32 = .ok (.iload_n 2, 1) := by decide +kernel
theorem dX6_isMirror_33 : decode cX6_isMirror 33 = .ok (.isub, 1) := by decide +kernel
theorem dX6_isMirror_34 : decode cX6_isMirror 34 = .ok (.iaload, 1) := by decide +kernel
theorem dX6_isMirror_35 : decode cX6_isMirror 35 = .ok (.if_icmp .ne 7, 3) := by decide +kernel
theorem dX6_isMirror_38 : decode cX6_isMirror 38 = .ok (.iconst 1, 1) := by decide +kernel
theorem dX6_isMirror_39 : decode cX6_isMirror 39 = .ok (.goto 4, 3) := by decide +kernel
theorem dX6_isMirror_42 : decode cX6_isMirror 42 = .ok (.iconst 0, 1) := by decide +kernel
theorem dX6_isMirror_43 : decode cX6_isMirror 43 = .ok (.istore_n 1, 1) := by decide +kernel
theorem dX6_isMirror_44 : decode cX6_isMirror 44 = .ok (.iinc 2 1, 3) := by decide +kernel
theorem dX6_isMirror_47 : decode cX6_isMirror 47 = .ok (.goto (-43), 3) := by decide +kernel
theorem dX6_isMirror_50 : decode cX6_isMirror 50 = .ok (.iload_n 1, 1) := by decide +kernel
theorem dX6_isMirror_51 : decode cX6_isMirror 51 = .ok (.ifCond .eq 7, 3) := by decide +kernel
theorem dX6_isMirror_54 : decode cX6_isMirror 54 = .ok (.iconst 1, 1) := by decide +kernel
theorem dX6_isMirror_55 : decode cX6_isMirror 55 = .ok (.goto 4, 3) := by decide +kernel
theorem dX6_isMirror_58 : decode cX6_isMirror 58 = .ok (.iconst 0, 1) := by decide +kernel
theorem dX6_isMirror_59 : decode cX6_isMirror 59 = .ok (.ireturn, 1) := by decide +kernel
theorem dX6_twice_0 : decode cX6_twice 0 = .ok (.iconst 1, 1) := by decide +kernel
theorem dX6_twice_1 : decode cX6_twice 1 = .ok (.istore_n 1, 1) := by decide +kernel
theorem dX6_twice_2 : decode cX6_twice 2 = .ok (.iconst 2, 1) := by decide +kernel
theorem dX6_twice_3 : decode cX6_twice 3 = .ok (.iload_n 1, 1) := by decide +kernel
theorem dX6_twice_4 : decode cX6_twice 4 = .ok (.imul, 1) := by decide +kernel
theorem dX6_twice_5 : decode cX6_twice 5 = .ok (.aload_n 0, 1) := by decide +kernel
theorem dX6_twice_6 : decode cX6_twice 6 = .ok (.getfield 100, 3) := by decide +kernel
theorem dX6_twice_9 : decode cX6_twice 9 = .ok (.if_icmp .gt 70, 3) := by decide +kernel
theorem dX6_twice_12 : decode cX6_twice 12 = .ok (.iconst 0, 1) := by decide +kernel
theorem dX6_twice_13 : decode cX6_twice 13 = .ok (.istore_n 2, 1) := by decide +kernel
theorem dX6_twice_14 : decode cX6_twice 14 = .ok (.iload_n 2, 1) := by decide +kernel
theorem dX6_twice_15 : decode cX6_twice 15 = .ok (.iconst 2, 1) := by decide +kernel
theorem dX6_twice_16 : decode cX6_twice 16 = .ok (.iload_n 1, 1) := by decide +kernel
theorem dX6_twice_17 : decode cX6_twice 17 = .ok (.imul, 1) := by decide +kernel
theorem dX6_twice_18 : decode cX6_twice 18 = .ok (.iadd, 1) := by decide +kernel
theorem dX6_twice_19 : decode cX6_twice 19 = .ok (.aload_n 0, 1) := by decide +kernel
theorem dX6_twice_20 : decode cX6_twice 20 = .ok (.getfield 100, 3) := by decide +kernel
theorem dX6_twice_23 : decode cX6_twice 23 = .ok (.if_icmp .gt 50, 3) := by decide +kernel
theorem dX6_twice_26 : decode cX6_twice 26 = .ok (.iconst 0, 1) := by decide +kernel
theorem dX6_twice_27 : decode cX6_twice 27 = .ok (.istore_n 3, 1) := by decide +kernel
theorem dX6_twice_28 : decode cX6_twice 28 = .ok (.iload_n 3, 1) := by decide +kernel
theorem dX6_twice_29 : decode cX6_twice 29 = .ok (.iload_n 1, 1) := by decide +kernel
theorem dX6_twice_30 : decode cX6_twice 30 = .ok (.if_icmp .ge 30, 3) := by decide +kernel
theorem dX6_twice_33 : decode cX6_twice 33 = .ok (.aload_n 0, 1) := by decide +kernel
theorem dX6_twice_34 : decode cX6_twice 34 = .ok (.getfield 33, 3) := by decide +kernel
theorem dX6_twice_37 : decode cX6_twice 37 = .ok (.iload_n 2, 1) := by decide +kernel
theorem dX6_twice_38 : decode cX6_twice 38 = .ok (.iload_n 3, 1) := by decide +kernel
theorem dX6_twice_39 : decode cX6_twice 39 = .ok (.iadd, 1) := by decide +kernel
theorem dX6_twice_40 : decode cX6_twice 40 = .ok (.iaload, 1) := by decide +kernel
theorem dX6_twice_41 : decode cX6_twice 41 = .ok (.aload_n 0, 1) := by decide +kernel
theorem dX6_twice_42 : decode cX6_twice 42 = .ok (.getfield 33, 3) := by decide +kernel
theorem dX6_twice_45 : decode cX6_twice 45 = .ok (.iload_n 2, 1) := by decide +kernel
theorem dX6_twice_46 : decode cX6_twice 46 = .ok (.iload_n 1, 1) := by decide +kernel
theorem dX6_twice_47 : decode cX6_twice 47 = .ok (.iadd, 1) := by decide +kernel
theorem dX6_twice_48 : decode cX6_twice 48 = .ok (.iload_n 3, 1) := by decide +kernel
theorem dX6_twice_49 : decode cX6_twice 49 = .ok (.iadd, 1) := by decide +kernel
theorem dX6_twice_50 : decode cX6_twice 50 = .ok (.iaload, 1) := by decide +kernel
theorem dX6_twice_51 : decode cX6_twice 51 = .ok (.if_icmp .ne 9, 3) := by decide +kernel
theorem dX6_twice_54 : decode cX6_twice 54 = .ok (.iinc 3 1, 3) := by decide +kernel
theorem dX6_twice_57 : decode cX6_twice 57 = .ok (.goto (-29), 3) := by decide +kernel
theorem dX6_twice_60 : decode cX6_twice 60 = .ok (.iload_n 3, 1) := by decide +kernel
theorem dX6_twice_61 : decode cX6_twice 61 = .ok (.iload_n 1, 1) := by decide +kernel
theorem dX6_twice_62 : decode cX6_twice 62 = .ok (.if_icmp .ne 5, 3) := by decide +kernel
theorem dX6_twice_65 : decode cX6_twice 65 = .ok (.iload_n 1, 1) := by decide +kernel
theorem dX6_twice_66 : decode cX6_twice 66 = .ok (.ireturn, 1) := by decide +kernel
theorem dX6_twice_67 : decode cX6_twice 67 = .ok (.iinc 2 1, 3) := by decide +kernel
theorem dX6_twice_70 : decode cX6_twice 70 = .ok (.goto (-56), 3) := by decide +kernel
theorem dX6_twice_73 : decode cX6_twice 73 = .ok (.iinc 1 1, 3) := by decide +kernel
theorem dX6_twice_76 : decode cX6_twice 76 = .ok (.goto (-74), 3) := by decide +kernel
theorem dX6_twice_79 : decode cX6_twice 79 = .ok (.iconst 0, 1) := by decide +kernel
theorem dX6_twice_80 : decode cX6_twice 80 = .ok (.ireturn, 1) := by decide +kernel
set_option maxRecDepth 20000 in
theorem ggX6_find_X6_isRow : GoodIn wsX6_find wsX6_isRow := goodIn_r _ [7, 8, 9, 10, 6, 11, 42, 43, 44, 45, 46, 47, 48, 49, 50, 51, 52, 53, 54, 55, 56, 57, 58, 59, 60, 61] (by decide +kernel) (by decide +kernel)
set_option maxRecDepth 20000 in
theorem gX6_find_X6_isRow : GoodIn wsX6_find (wsV RX6 90 RX6 yX6_isRow wsX6_isRow) := goodIn_app (goodIn_of _ (by decide +kernel)) ggX6_find_X6_isRow
set_option maxRecDepth 20000 in
theorem ggX6_find_X6_isPlace : GoodIn wsX6_find wsX6_isPlace := goodIn_r _ [14, 15, 9, 10, 6, 11] (by decide +kernel) (by decide +kernel)
set_option maxRecDepth 20000 in
theorem gX6_find_X6_isPlace : GoodIn wsX6_find (va_wsS RX6 93 yX6_isPlace wsX6_isPlace) := goodIn_app (goodIn_of _ (by decide +kernel)) ggX6_find_X6_isPlace
set_option maxRecDepth 20000 in
theorem ggX6_find_X6_make : GoodIn wsX6_find wsX6_make := goodIn_r _ [19, 20, 21, 22, 8, 23, 24, 25, 26, 6, 27, 28, 29, 30, 31, 32, 33, 34, 35, 36, 37, 38, 39, 40, 41, 42, 43, 44, 45, 46, 47, 48, 49, 50, 51, 52, 53, 54, 55, 56, 57, 58, 59, 60, 61] (by decide +kernel) (by decide +kernel)
set_option maxRecDepth 20000 in
theorem gX6_find_X6_make : GoodIn wsX6_find (wsV RX6 96 RX6 yX6_make wsX6_make) := goodIn_app (goodIn_of _ (by decide +kernel)) ggX6_find_X6_make
set_option maxRecDepth 20000 in
theorem ggX6_find_X6_number : GoodIn wsX6_find wsX6_number := goodIn_r _ [27, 28, 29, 30, 42, 43, 44, 45, 46, 47, 48, 49, 50, 51, 52, 53, 54, 55, 56, 57, 58, 59, 60, 61] (by decide +kernel) (by decide +kernel)
set_option maxRecDepth 20000 in
theorem gX6_find_X6_number : GoodIn wsX6_find (wsV RX6 76 RX6 yX6_number wsX6_number) := goodIn_app (goodIn_of _ (by decide +kernel)) ggX6_find_X6_number
theorem dX6_find_0 : decode cX6_find 0 = .ok (.aload_n 0, 1) := by decide +kernel
theorem dX6_find_1 : decode cX6_find 1 = .ok (.iload_n 1, 1) := by decide +kernel
theorem dX6_find_2 : decode cX6_find 2 = .ok (.invokevirtual 90, 3) := by decide +kernel
theorem dX6_find_5 : decode cX6_find 5 = .ok (.ifCond .ne 6, 3) := by decide +kernel
theorem dX6_find_8 : decode cX6_find 8 = .ok (.bipush (-101), 2) := by decide +kernel
theorem dX6_find_10 : decode cX6_find 10 = .ok (.ireturn, 1) := by decide +kernel
theorem dX6_find_11 : decode cX6_find 11 = .ok (.iload_n 2, 1) := by decide +kernel
theorem dX6_find_12 : decode cX6_find 12 = .ok (.invokestatic 93, 3) := by decide +kernel
theorem dX6_find_15 : decode cX6_find 15 = .ok (.ifCond .eq 10, 3) := by decide +kernel
theorem dX6_find_18 : decode cX6_find 18 = .ok (.iload_n 3, 1) := by decide +kernel
theorem dX6_find_19 : decode cX6_find 19 = .ok (.invokestatic 93, 3) := by decide +kernel
theorem dX6_find_22 : decode cX6_find 22 = .ok (.ifCond .ne 6, 3) := by decide +kernel
theorem dX6_find_25 : decode cX6_find 25 = .ok (.bipush (-102), 2) := by decide +kernel
theorem dX6_find_27 : decode cX6_find 27 = .ok (.ireturn, 1) := by decide +kernel
theorem dX6_find_28 : decode cX6_find 28 = .ok (.aload_n 0, 1) := by decide +kernel
theorem dX6_find_29 : decode cX6_find 29 = .ok (.iload_n 1, 1) := by decide +kernel
theorem dX6_find_30 : decode cX6_find 30 = .ok (.iload_n 3, 1) := by decide +kernel
theorem dX6_find_31 : decode cX6_find 31 = .ok (.iconst 1, 1) := by decide +kernel
theorem dX6_find_32 : decode cX6_find 32 = .ok (.isub, 1) := by decide +kernel
theorem dX6_find_33 : decode cX6_find 33 = .ok (.invokevirtual 96, 3) := by decide +kernel
theorem dX6_find_36 : decode cX6_find 36 = .ok (.iload_n 2, 1) := by decide +kernel
theorem dX6_find_37 : decode cX6_find 37 = .ok (.istore 4, 2) := by decide +kernel
theorem dX6_find_39 : decode cX6_find 39 = .ok (.iload 4, 2) := by decide +kernel
theorem dX6_find_41 : decode cX6_find 41 = .ok (.aload_n 0, 1) := by decide +kernel
theorem dX6_find_42 : decode cX6_find 42 = .ok (.getfield 100, 3) := by decide +kernel
theorem dX6_find_45 : decode cX6_find 45 = .ok (.iadd, 1) := by decide +kernel
theorem dX6_find_46 : decode cX6_find 46 = .ok (.iload_n 3, 1) := by decide +kernel
theorem dX6_find_47 : decode cX6_find 47 = .ok (.if_icmp .gt 59, 3) := by decide +kernel
theorem dX6_find_50 : decode cX6_find 50 = .ok (.iconst 0, 1) := by decide +kernel
theorem dX6_find_51 : decode cX6_find 51 = .ok (.istore 5, 2) := by decide +kernel
theorem dX6_find_53 : decode cX6_find 53 = .ok (.iload 5, 2) := by decide +kernel
theorem dX6_find_55 : decode cX6_find 55 = .ok (.aload_n 0, 1) := by decide +kernel
theorem dX6_find_56 : decode cX6_find 56 = .ok (.getfield 100, 3) := by decide +kernel
theorem dX6_find_59 : decode cX6_find 59 = .ok (.if_icmp .ge 29, 3) := by decide +kernel
theorem dX6_find_62 : decode cX6_find 62 = .ok (.aload_n 0, 1) := by decide +kernel
theorem dX6_find_63 : decode cX6_find 63 = .ok (.iload_n 1, 1) := by decide +kernel
theorem dX6_find_64 : decode cX6_find 64 = .ok (.iload 4, 2) := by decide +kernel
theorem dX6_find_66 : decode cX6_find 66 = .ok (.iload 5, 2) := by decide +kernel
theorem dX6_find_68 : decode cX6_find 68 = .ok (.iadd, 1) := by decide +kernel
theorem dX6_find_69 : decode cX6_find 69 = .ok (.invokevirtual 76, 3) := by decide +kernel
theorem dX6_find_72 : decode cX6_find 72 = .ok (.aload_n 0, 1) := by decide +kernel
theorem dX6_find_73 : decode cX6_find 73 = .ok (.getfield 33, 3) := by decide +kernel
theorem dX6_find_76 : decode cX6_find 76 = .ok (.iload 5, 2) := by decide +kernel
theorem dX6_find_78 : decode cX6_find 78 = .ok (.iaload, 1) := by decide +kernel
theorem dX6_find_79 : decode cX6_find 79 = .ok (.if_icmp .ne 9, 3) := by decide +kernel
theorem dX6_find_82 : decode cX6_find 82 = .ok (.iinc 5 1, 3) := by decide +kernel
theorem dX6_find_85 : decode cX6_find 85 = .ok (.goto (-32), 3) := by decide +kernel
theorem dX6_find_88 : decode cX6_find 88 = .ok (.iload 5, 2) := by decide +kernel
theorem dX6_find_90 : decode cX6_find 90 = .ok (.aload_n 0, 1) := by decide +kernel
theorem dX6_find_91 : decode cX6_find 91 = .ok (.getfield 100, 3) := by decide +kernel
theorem dX6_find_94 : decode cX6_find 94 = .ok (.if_icmp .ne 6, 3) := by decide +kernel
theorem dX6_find_97 : decode cX6_find 97 = .ok (.iload 4, 2) := by decide +kernel
theorem dX6_find_99 : decode cX6_find 99 = .ok (.ireturn, 1) := by decide +kernel
theorem dX6_find_100 : decode cX6_find 100 = .ok (.iinc 4 1, 3) := by decide +kernel
theorem dX6_find_103 : decode cX6_find 103 = .ok (.goto (-64), 3) := by decide +kernel
theorem dX6_find_106 : decode cX6_find 106 = .ok (.iconst (-1), 1) := by decide +kernel
theorem dX6_find_107 : decode cX6_find 107 = .ok (.ireturn, 1) := by decide +kernel
set_option maxRecDepth 20000 in
theorem ggX6_unlike_X6_isRow : GoodIn wsX6_unlike wsX6_isRow := goodIn_r _ [10, 11, 12, 13, 9, 14, 41, 42, 43, 44, 45, 46, 47, 48, 49, 50, 51, 52, 53, 54, 55, 56, 57, 58, 59, 60] (by decide +kernel) (by decide +kernel)
set_option maxRecDepth 20000 in
theorem gX6_unlike_X6_isRow : GoodIn wsX6_unlike (wsV RX6 90 RX6 yX6_isRow wsX6_isRow) := goodIn_app (goodIn_of _ (by decide +kernel)) ggX6_unlike_X6_isRow
set_option maxRecDepth 20000 in
theorem ggX6_unlike_X6_in : GoodIn wsX6_unlike wsX6_in := goodIn_r _ [14] (by decide +kernel) (by decide +kernel)
set_option maxRecDepth 20000 in
theorem gX6_unlike_X6_in : GoodIn wsX6_unlike (va_wsS RX6 59 yX6_in wsX6_in) := goodIn_app (goodIn_of _ (by decide +kernel)) ggX6_unlike_X6_in
set_option maxRecDepth 20000 in
theorem ggX6_unlike_X6_make : GoodIn wsX6_unlike wsX6_make := goodIn_r _ [18, 19, 20, 21, 11, 22, 23, 24, 25, 9, 26, 27, 28, 29, 30, 31, 32, 33, 34, 35, 36, 37, 38, 39, 40, 41, 42, 43, 44, 45, 46, 47, 48, 49, 50, 51, 52, 53, 54, 55, 56, 57, 58, 59, 60] (by decide +kernel) (by decide +kernel)
set_option maxRecDepth 20000 in
theorem gX6_unlike_X6_make : GoodIn wsX6_unlike (wsV RX6 96 RX6 yX6_make wsX6_make) := goodIn_app (goodIn_of _ (by decide +kernel)) ggX6_unlike_X6_make
set_option maxRecDepth 20000 in
theorem ggX6_unlike_X6_number : GoodIn wsX6_unlike wsX6_number := goodIn_r _ [26, 27, 28, 29, 41, 42, 43, 44, 45, 46, 47, 48, 49, 50, 51, 52, 53, 54, 55, 56, 57, 58, 59, 60] (by decide +kernel) (by decide +kernel)
set_option maxRecDepth 20000 in
theorem gX6_unlike_X6_number : GoodIn wsX6_unlike (wsV RX6 76 RX6 yX6_number wsX6_number) := goodIn_app (goodIn_of _ (by decide +kernel)) ggX6_unlike_X6_number
theorem dX6_unlike_0 : decode cX6_unlike 0 = .ok (.aload_n 0, 1) := by decide +kernel
theorem dX6_unlike_1 : decode cX6_unlike 1 = .ok (.iload_n 1, 1) := by decide +kernel
theorem dX6_unlike_2 : decode cX6_unlike 2 = .ok (.invokevirtual 90, 3) := by decide +kernel
theorem dX6_unlike_5 : decode cX6_unlike 5 = .ok (.ifCond .ne 6, 3) := by decide +kernel
theorem dX6_unlike_8 : decode cX6_unlike 8 = .ok (.bipush (-101), 2) := by decide +kernel
theorem dX6_unlike_10 : decode cX6_unlike 10 = .ok (.ireturn, 1) := by decide +kernel
theorem dX6_unlike_11 : decode cX6_unlike 11 = .ok (.iload_n 2, 1) := by decide +kernel
theorem dX6_unlike_12 : decode cX6_unlike 12 = .ok (.i2l, 1) := by decide +kernel
theorem dX6_unlike_13 : decode cX6_unlike 13 = .ok (.lconst 1, 1) := by decide +kernel
theorem dX6_unlike_14 : decode cX6_unlike 14 = .ok (.ldc2_w 136, 3) := by decide +kernel
theorem dX6_unlike_17 : decode cX6_unlike 17 = .ok (.invokestatic 59, 3) := by decide +kernel
theorem dX6_unlike_20 : decode cX6_unlike 20 = .ok (.ifCond .eq 15, 3) := by decide +kernel
theorem dX6_unlike_23 : decode cX6_unlike 23 = .ok (.iload_n 3, 1) := by decide +kernel
theorem dX6_unlike_24 : decode cX6_unlike 24 = .ok (.i2l, 1) := by decide +kernel
theorem dX6_unlike_25 : decode cX6_unlike 25 = .ok (.lconst 0, 1) := by decide +kernel
theorem dX6_unlike_26 : decode cX6_unlike 26 = .ok (.ldc2_w 138, 3) := by decide +kernel
theorem dX6_unlike_29 : decode cX6_unlike 29 = .ok (.invokestatic 59, 3) := by decide +kernel
theorem dX6_unlike_32 : decode cX6_unlike 32 = .ok (.ifCond .ne 6, 3) := by decide +kernel
theorem dX6_unlike_35 : decode cX6_unlike 35 = .ok (.bipush (-102), 2) := by decide +kernel
theorem dX6_unlike_37 : decode cX6_unlike 37 = .ok (.ireturn, 1) := by decide +kernel
theorem dX6_unlike_38 : decode cX6_unlike 38 = .ok (.aload_n 0, 1) := by decide +kernel
theorem dX6_unlike_39 : decode cX6_unlike 39 = .ok (.getfield 140, 3) := by decide +kernel
theorem dX6_unlike_42 : decode cX6_unlike 42 = .ok (.bipush 40, 2) := by decide +kernel
theorem dX6_unlike_44 : decode cX6_unlike 44 = .ok (.if_icmp .ne 6, 3) := by decide +kernel
theorem dX6_unlike_47 : decode cX6_unlike 47 = .ok (.bipush (-103), 2) := by decide +kernel
theorem dX6_unlike_49 : decode cX6_unlike 49 = .ok (.ireturn, 1) := by decide +kernel
theorem dX6_unlike_50 : decode cX6_unlike 50 = .ok (.aload_n 0, 1) := by decide +kernel
theorem dX6_unlike_51 : decode cX6_unlike 51 = .ok (.dup, 1) := by decide +kernel
theorem dX6_unlike_52 : decode cX6_unlike 52 = .ok (.getfield 140, 3) := by decide +kernel
theorem dX6_unlike_55 : decode cX6_unlike 55 = .ok (.iconst 1, 1) := by decide +kernel
theorem dX6_unlike_56 : decode cX6_unlike 56 = .ok (.iadd, 1) := by decide +kernel
theorem dX6_unlike_57 : decode cX6_unlike 57 = .ok (.putfield 140, 3) := by decide +kernel
theorem dX6_unlike_60 : decode cX6_unlike 60 = .ok (.aload_n 0, 1) := by decide +kernel
theorem dX6_unlike_61 : decode cX6_unlike 61 = .ok (.iload_n 1, 1) := by decide +kernel
theorem dX6_unlike_62 : decode cX6_unlike 62 = .ok (.iload_n 3, 1) := by decide +kernel
theorem dX6_unlike_63 : decode cX6_unlike 63 = .ok (.iconst 1, 1) := by decide +kernel
theorem dX6_unlike_64 : decode cX6_unlike 64 = .ok (.isub, 1) := by decide +kernel
theorem dX6_unlike_65 : decode cX6_unlike 65 = .ok (.invokevirtual 96, 3) := by decide +kernel
theorem dX6_unlike_68 : decode cX6_unlike 68 = .ok (.iconst 0, 1) := by decide +kernel
theorem dX6_unlike_69 : decode cX6_unlike 69 = .ok (.istore 4, 2) := by decide +kernel
theorem dX6_unlike_71 : decode cX6_unlike 71 = .ok (.iconst 0, 1) := by decide +kernel
theorem dX6_unlike_72 : decode cX6_unlike 72 = .ok (.istore 5, 2) := by decide +kernel
theorem dX6_unlike_74 : decode cX6_unlike 74 = .ok (.iload 5, 2) := by decide +kernel
theorem dX6_unlike_76 : decode cX6_unlike 76 = .ok (.iload_n 2, 1) := by decide +kernel
theorem dX6_unlike_77 : decode cX6_unlike 77 = .ok (.iadd, 1) := by decide +kernel
theorem dX6_unlike_78 : decode cX6_unlike 78 = .ok (.iload_n 3, 1) := by decide +kernel
theorem dX6_unlike_79 : decode cX6_unlike 79 = .ok (.if_icmp .gt 164, 3) := by decide +kernel
theorem dX6_unlike_82 : decode cX6_unlike 82 = .ok (.lconst 0, 1) := by decide +kernel
theorem dX6_unlike_83 : decode cX6_unlike 83 = .ok (.lstore 6, 2) := by decide +kernel
theorem dX6_unlike_85 : decode cX6_unlike 85 = .ok (.iconst 0, 1) := by decide +kernel
theorem dX6_unlike_86 : decode cX6_unlike 86 = .ok (.istore 8, 2) := by decide +kernel
theorem dX6_unlike_88 : decode cX6_unlike 88 = .ok (.iload 8, 2) := by decide +kernel
theorem dX6_unlike_90 : decode cX6_unlike 90 = .ok (.iload_n 2, 1) := by decide +kernel
theorem dX6_unlike_91 : decode cX6_unlike 91 = .ok (.if_icmp .ge 29, 3) := by decide +kernel
theorem dX6_unlike_94 : decode cX6_unlike 94 = .ok (.ldc2_w 143, 3) := by decide +kernel
theorem dX6_unlike_97 : decode cX6_unlike 97 = .ok (.lload 6, 2) := by decide +kernel
theorem dX6_unlike_99 : decode cX6_unlike 99 = .ok (.lmul, 1) := by decide +kernel
theorem dX6_unlike_100 : decode cX6_unlike 100 = .ok (.aload_n 0, 1) := by decide +kernel
theorem dX6_unlike_101 : decode cX6_unlike 101 = .ok (.iload_n 1, 1) := by decide +kernel
theorem dX6_unlike_102 : decode cX6_unlike 102 = .ok (.iload 5, 2) := by decide +kernel
theorem dX6_unlike_104 : decode cX6_unlike 104 = .ok (.iload 8, 2) := by decide +kernel
theorem dX6_unlike_106 : decode cX6_unlike 106 = .ok (.iadd, 1) := by decide +kernel
theorem dX6_unlike_107 : decode cX6_unlike 107 = .ok (.invokevirtual 76, 3) := by decide +kernel
theorem dX6_unlike_110 : decode cX6_unlike 110 = .ok (.i2l, 1) := by decide +kernel
theorem dX6_unlike_111 : decode cX6_unlike 111 = .ok (.ladd, 1) := by decide +kernel
theorem dX6_unlike_112 : decode cX6_unlike 112 = .ok (.lstore 6, 2) := by decide +kernel
theorem dX6_unlike_114 : decode cX6_unlike 114 = .ok (.iinc 8 1, 3) := by decide +kernel
theorem dX6_unlike_117 : decode cX6_unlike 117 = .ok (.goto (-29), 3) := by decide +kernel
theorem dX6_unlike_120 : decode cX6_unlike 120 = .ok (.iconst 0, 1) := by decide +kernel
theorem dX6_unlike_121 : decode cX6_unlike 121 = .ok (.istore 8, 2) := by decide +kernel
theorem dX6_unlike_123 : decode cX6_unlike 123 = .ok (.iload 4, 2) := by decide +kernel
theorem dX6_unlike_125 : decode cX6_unlike 125 = .ok (.istore 9, 2) := by decide +kernel
theorem dX6_unlike_127 : decode cX6_unlike 127 = .ok (.iload 8, 2) := by decide +kernel
theorem dX6_unlike_129 : decode cX6_unlike 129 = .ok (.iload 9, 2) := by decide +kernel
theorem dX6_unlike_131 : decode cX6_unlike 131 = .ok (.if_icmp .ge 41, 3) := by decide +kernel
theorem dX6_unlike_134 : decode cX6_unlike 134 = .ok (.iload 8, 2) := by decide +kernel
theorem dX6_unlike_136 : decode cX6_unlike 136 = .ok (.iload 9, 2) := by decide +kernel
theorem dX6_unlike_138 : decode cX6_unlike 138 = .ok (.iadd, 1) := by decide +kernel
theorem dX6_unlike_139 : decode cX6_unlike 139 = .ok (.iconst 2, 1) := by decide +kernel
theorem dX6_unlike_140 : decode cX6_unlike 140 = .ok (.idiv, 1) := by decide +kernel
theorem dX6_unlike_141 : decode cX6_unlike 141 = .ok (.istore 10, 2) := by decide +kernel
theorem dX6_unlike_143 : decode cX6_unlike 143 = .ok (.aload_n 0, 1) := by decide +kernel
theorem dX6_unlike_144 : decode cX6_unlike 144 = .ok (.getfield 45, 3) := by decide +kernel
theorem dX6_unlike_147 : decode cX6_unlike 147 = .ok (.iload 10, 2) := by decide +kernel
theorem dX6_unlike_149 : decode cX6_unlike 149 = .ok (.laload, 1) := by decide +kernel
theorem dX6_unlike_150 : decode cX6_unlike 150 = .ok (.lload 6, 2) := by decide +kernel
theorem dX6_unlike_152 : decode cX6_unlike 152 = .ok (.lcmp, 1) := by decide +kernel
theorem dX6_unlike_153 : decode cX6_unlike 153 = .ok (.ifCond .ge 12, 3) := by decide +kernel
theorem dX6_unlike_156 : decode cX6_unlike 156 = .ok (.iload 10, 2) := by decide +kernel
theorem dX6_unlike_158 : decode cX6_unlike 158 = .ok (.iconst 1, 1) := by decide +kernel
theorem dX6_unlike_159 : decode cX6_unlike 159 = .ok (.iadd, 1) := by decide +kernel
theorem dX6_unlike_160 : decode cX6_unlike 160 = .ok (.istore 8, 2) := by decide +kernel
theorem dX6_unlike_162 : decode cX6_unlike 162 = .ok (.goto 7, 3) := by decide +kernel
theorem dX6_unlike_165 : decode cX6_unlike 165 = .ok (.iload 10, 2) := by decide +kernel
theorem dX6_unlike_167 : decode cX6_unlike 167 = .ok (.istore 9, 2) := by decide +kernel
theorem dX6_unlike_169 : decode cX6_unlike 169 = .ok (.goto (-42), 3) := by decide +kernel
theorem dX6_unlike_172 : decode cX6_unlike 172 = .ok (.iload 8, 2) := by decide +kernel
theorem dX6_unlike_174 : decode cX6_unlike 174 = .ok (.iload 4, 2) := by decide +kernel
theorem dX6_unlike_176 : decode cX6_unlike 176 = .ok (.if_icmp .eq 16, 3) := by decide +kernel
theorem dX6_unlike_179 : decode cX6_unlike 179 = .ok (.aload_n 0, 1) := by decide +kernel
theorem dX6_unlike_180 : decode cX6_unlike 180 = .ok (.getfield 45, 3) := by decide +kernel
theorem dX6_unlike_183 : decode cX6_unlike 183 = .ok (.iload 8, 2) := by decide +kernel
theorem dX6_unlike_185 : decode cX6_unlike 185 = .ok (.laload, 1) := by decide +kernel
theorem dX6_unlike_186 : decode cX6_unlike 186 = .ok (.lload 6, 2) := by decide +kernel
theorem dX6_unlike_188 : decode cX6_unlike 188 = .ok (.lcmp, 1) := by decide +kernel
theorem dX6_unlike_189 : decode cX6_unlike 189 = .ok (.ifCond .eq 48, 3) := by decide +kernel
theorem dX6_unlike_192 : decode cX6_unlike 192 = .ok (.iload 4, 2) := by decide +kernel
theorem dX6_unlike_194 : decode cX6_unlike 194 = .ok (.istore 10, 2) := by decide +kernel
theorem dX6_unlike_196 : decode cX6_unlike 196 = .ok (.iload 10, 2) := by decide +kernel
theorem dX6_unlike_198 : decode cX6_unlike 198 = .ok (.iload 8, 2) := by decide +kernel
theorem dX6_unlike_200 : decode cX6_unlike 200 = .ok (.if_icmp .le 25, 3) := by decide +kernel
theorem dX6_unlike_203 : decode cX6_unlike 203 = .ok (.aload_n 0, 1) := by decide +kernel
theorem dX6_unlike_204 : decode cX6_unlike 204 = .ok (.getfield 45, 3) := by decide +kernel
theorem dX6_unlike_207 : decode cX6_unlike 207 = .ok (.iload 10, 2) := by decide +kernel
theorem dX6_unlike_209 : decode cX6_unlike 209 = .ok (.aload_n 0, 1) := by decide +kernel
theorem dX6_unlike_210 : decode cX6_unlike 210 = .ok (.getfield 45, 3) := by decide +kernel
theorem dX6_unlike_213 : decode cX6_unlike 213 = .ok (.iload 10, 2) := by decide +kernel
theorem dX6_unlike_215 : decode cX6_unlike 215 = .ok (.iconst 1, 1) := by decide +kernel
theorem dX6_unlike_216 : decode cX6_unlike 216 = .ok (.isub, 1) := by decide +kernel
theorem dX6_unlike_217 : decode cX6_unlike 217 = .ok (.laload, 1) := by decide +kernel
theorem dX6_unlike_218 : decode cX6_unlike 218 = .ok (.lastore, 1) := by decide +kernel
theorem dX6_unlike_219 : decode cX6_unlike 219 = .ok (.iinc 10 (-1), 3) := by decide +kernel
theorem dX6_unlike_222 : decode cX6_unlike 222 = .ok (.goto (-26), 3) := by decide +kernel
theorem dX6_unlike_225 : decode cX6_unlike 225 = .ok (.aload_n 0, 1) := by decide +kernel
theorem dX6_unlike_226 : decode cX6_unlike 226 = .ok (.getfield 45, 3) := by decide +kernel
theorem dX6_unlike_229 : decode cX6_unlike 229 = .ok (.iload 8, 2) := by decide +kernel
theorem dX6_unlike_231 : decode cX6_unlike 231 = .ok (.lload 6, 2) := by decide +kernel
theorem dX6_unlike_233 : decode cX6_unlike 233 = .ok (.lastore, 1) := by decide +kernel
theorem dX6_unlike_234 : decode cX6_unlike 234 = .ok (.iinc 4 1, 3) := by decide +kernel
theorem dX6_unlike_237 : decode cX6_unlike 237 = .ok (.iinc 5 1, 3) := by decide +kernel
theorem dX6_unlike_240 : decode cX6_unlike 240 = .ok (.goto (-166), 3) := by decide +kernel
theorem dX6_unlike_243 : decode cX6_unlike 243 = .ok (.iload 4, 2) := by decide +kernel
theorem dX6_unlike_245 : decode cX6_unlike 245 = .ok (.ireturn, 1) := by decide +kernel
set_option maxRecDepth 20000 in
theorem ggX6_told_X6_in : GoodIn wsX6_told wsX6_in := goodIn_r _ [11] (by decide +kernel) (by decide +kernel)
set_option maxRecDepth 20000 in
theorem gX6_told_X6_in : GoodIn wsX6_told (va_wsS RX6 59 yX6_in wsX6_in) := goodIn_app (goodIn_of _ (by decide +kernel)) ggX6_told_X6_in
theorem dX6_told_0 : decode cX6_told 0 = .ok (.iload_n 1, 1) := by decide +kernel
theorem dX6_told_1 : decode cX6_told 1 = .ok (.i2l, 1) := by decide +kernel
theorem dX6_told_2 : decode cX6_told 2 = .ok (.ldc2_w 69, 3) := by decide +kernel
theorem dX6_told_5 : decode cX6_told 5 = .ok (.ldc2_w 143, 3) := by decide +kernel
theorem dX6_told_8 : decode cX6_told 8 = .ok (.invokestatic 59, 3) := by decide +kernel
theorem dX6_told_11 : decode cX6_told 11 = .ok (.ifCond .eq 12, 3) := by decide +kernel
theorem dX6_told_14 : decode cX6_told 14 = .ok (.aload_n 0, 1) := by decide +kernel
theorem dX6_told_15 : decode cX6_told 15 = .ok (.getfield 13, 3) := by decide +kernel
theorem dX6_told_18 : decode cX6_told 18 = .ok (.iload_n 1, 1) := by decide +kernel
theorem dX6_told_19 : decode cX6_told 19 = .ok (.iconst 4, 1) := by decide +kernel
theorem dX6_told_20 : decode cX6_told 20 = .ok (.isub, 1) := by decide +kernel
theorem dX6_told_21 : decode cX6_told 21 = .ok (.iaload, 1) := by decide +kernel
theorem dX6_told_22 : decode cX6_told 22 = .ok (.ireturn, 1) := by decide +kernel
theorem dX6_told_23 : decode cX6_told 23 = .ok (.iload_n 1, 1) := by decide +kernel
theorem dX6_told_24 : decode cX6_told 24 = .ok (.ifCond .ne 10, 3) := by decide +kernel
theorem dX6_told_27 : decode cX6_told 27 = .ok (.aload_n 0, 1) := by decide +kernel
theorem dX6_told_28 : decode cX6_told 28 = .ok (.getfield 49, 3) := by decide +kernel
theorem dX6_told_31 : decode cX6_told 31 = .ok (.goto 41, 3) := by decide +kernel
theorem dX6_told_34 : decode cX6_told 34 = .ok (.iload_n 1, 1) := by decide +kernel
theorem dX6_told_35 : decode cX6_told 35 = .ok (.iconst 1, 1) := by decide +kernel
theorem dX6_told_36 : decode cX6_told 36 = .ok (.if_icmp .ne 10, 3) := by decide +kernel
theorem dX6_told_39 : decode cX6_told 39 = .ok (.aload_n 0, 1) := by decide +kernel
theorem dX6_told_40 : decode cX6_told 40 = .ok (.getfield 100, 3) := by decide +kernel
theorem dX6_told_43 : decode cX6_told 43 = .ok (.goto 29, 3) := by decide +kernel
theorem dX6_told_46 : decode cX6_told 46 = .ok (.iload_n 1, 1) := by decide +kernel
theorem dX6_told_47 : decode cX6_told 47 = .ok (.iconst 2, 1) := by decide +kernel
theorem dX6_told_48 : decode cX6_told 48 = .ok (.if_icmp .ne 10, 3) := by decide +kernel
theorem dX6_told_51 : decode cX6_told 51 = .ok (.aload_n 0, 1) := by decide +kernel
theorem dX6_told_52 : decode cX6_told 52 = .ok (.getfield 133, 3) := by decide +kernel
theorem dX6_told_55 : decode cX6_told 55 = .ok (.goto 17, 3) := by decide +kernel
theorem dX6_told_58 : decode cX6_told 58 = .ok (.iload_n 1, 1) := by decide +kernel
theorem dX6_told_59 : decode cX6_told 59 = .ok (.iconst 3, 1) := by decide +kernel
theorem dX6_told_60 : decode cX6_told 60 = .ok (.if_icmp .ne 10, 3) := by decide +kernel
theorem dX6_told_63 : decode cX6_told 63 = .ok (.aload_n 0, 1) := by decide +kernel
theorem dX6_told_64 : decode cX6_told 64 = .ok (.getfield 140, 3) := by decide +kernel
theorem dX6_told_67 : decode cX6_told 67 = .ok (.goto 5, 3) := by decide +kernel
theorem dX6_told_70 : decode cX6_told 70 = .ok (.bipush (-102), 2) := by decide +kernel
theorem dX6_told_72 : decode cX6_told 72 = .ok (.ireturn, 1) := by decide +kernel
theorem dX6_digest_0 : decode cX6_digest 0 = .ok (.ldc2_w 145, 3) := by decide +kernel
theorem dX6_digest_3 : decode cX6_digest 3 = .ok (.lstore_n 1, 1) := by decide +kernel
theorem dX6_digest_4 : decode cX6_digest 4 = .ok (.iconst 0, 1) := by decide +kernel
theorem dX6_digest_5 : decode cX6_digest 5 = .ok (.istore_n 3, 1) := by decide +kernel
theorem dX6_digest_6 : decode cX6_digest 6 = .ok (.iload_n 3, 1) := by decide +kernel
theorem dX6_digest_7 : decode cX6_digest 7 = .ok (.iconst 4, 1) := by decide +kernel
theorem dX6_digest_8 : decode cX6_digest 8 = .ok (.if_icmp .ge 48, 3) := by decide +kernel
theorem dX6_digest_11 : decode cX6_digest 11 = .ok (.iconst 0, 1) := by decide +kernel
theorem dX6_digest_12 : decode cX6_digest 12 = .ok (.istore 4, 2) := by decide +kernel
theorem dX6_digest_14 : decode cX6_digest 14 = .ok (.iload 4, 2) := by decide +kernel
theorem dX6_digest_16 : decode cX6_digest 16 = .ok (.aload_n 0, 1) := by decide +kernel
theorem dX6_digest_17 : decode cX6_digest 17 = .ok (.getfield 13, 3) := by decide +kernel
theorem dX6_digest_20 : decode cX6_digest 20 = .ok (.iload_n 3, 1) := by decide +kernel
theorem dX6_digest_21 : decode cX6_digest 21 = .ok (.iaload, 1) := by decide +kernel
theorem dX6_digest_22 : decode cX6_digest 22 = .ok (.if_icmp .ge 28, 3) := by decide +kernel
theorem dX6_digest_25 : decode cX6_digest 25 = .ok (.ldc2_w 147, 3) := by decide +kernel
theorem dX6_digest_28 : decode cX6_digest 28 = .ok (.lload_n 1, 1) := by decide +kernel
theorem dX6_digest_29 : decode cX6_digest 29 = .ok (.lmul, 1) := by decide +kernel
theorem dX6_digest_30 : decode cX6_digest 30 = .ok (.aload_n 0, 1) := by decide +kernel
theorem dX6_digest_31 : decode cX6_digest 31 = .ok (.getfield 7, 3) := by decide +kernel
theorem dX6_digest_34 : decode cX6_digest 34 = .ok (.iconst 4, 1) := by decide +kernel
theorem dX6_digest_35 : decode cX6_digest 35 = .ok (.iload_n 3, 1) := by decide +kernel
theorem dX6_digest_36 : decode cX6_digest 36 = .ok (.imul, 1) := by decide +kernel
theorem dX6_digest_37 : decode cX6_digest 37 = .ok (.iload 4, 2) := by decide +kernel
theorem dX6_digest_39 : decode cX6_digest 39 = .ok (.iadd, 1) := by decide +kernel
theorem dX6_digest_40 : decode cX6_digest 40 = .ok (.iaload, 1) := by decide +kernel
theorem dX6_digest_41 : decode cX6_digest 41 = .ok (.i2l, 1) := by decide +kernel
theorem dX6_digest_42 : decode cX6_digest 42 = .ok (.ladd, 1) := by decide +kernel
theorem dX6_digest_43 : decode cX6_digest 43 = .ok (.lstore_n 1, 1) := by decide +kernel
theorem dX6_digest_44 : decode cX6_digest 44 = .ok (.iinc 4 1, 3) := by decide +kernel
theorem dX6_digest_47 : decode cX6_digest 47 = .ok (.goto (-33), 3) := by decide +kernel
theorem dX6_digest_50 : decode cX6_digest 50 = .ok (.iinc 3 1, 3) := by decide +kernel
theorem dX6_digest_53 : decode cX6_digest 53 = .ok (.goto (-47), 3) := by decide +kernel
theorem dX6_digest_56 : decode cX6_digest 56 = .ok (.iconst 0, 1) := by decide +kernel
theorem dX6_digest_57 : decode cX6_digest 57 = .ok (.istore_n 3, 1) := by decide +kernel
theorem dX6_digest_58 : decode cX6_digest 58 = .ok (.iload_n 3, 1) := by decide +kernel
theorem dX6_digest_59 : decode cX6_digest 59 = .ok (.aload_n 0, 1) := by decide +kernel
theorem dX6_digest_60 : decode cX6_digest 60 = .ok (.getfield 49, 3) := by decide +kernel
theorem dX6_digest_63 : decode cX6_digest 63 = .ok (.if_icmp .ge 23, 3) := by decide +kernel
theorem dX6_digest_66 : decode cX6_digest 66 = .ok (.ldc2_w 147, 3) := by decide +kernel
theorem dX6_digest_69 : decode cX6_digest 69 = .ok (.lload_n 1, 1) := by decide +kernel
theorem dX6_digest_70 : decode cX6_digest 70 = .ok (.lmul, 1) := by decide +kernel
theorem dX6_digest_71 : decode cX6_digest 71 = .ok (.aload_n 0, 1) := by decide +kernel
theorem dX6_digest_72 : decode cX6_digest 72 = .ok (.getfield 16, 3) := by decide +kernel
theorem dX6_digest_75 : decode cX6_digest 75 = .ok (.iload_n 3, 1) := by decide +kernel
theorem dX6_digest_76 : decode cX6_digest 76 = .ok (.iaload, 1) := by decide +kernel
theorem dX6_digest_77 : decode cX6_digest 77 = .ok (.i2l, 1) := by decide +kernel
theorem dX6_digest_78 : decode cX6_digest 78 = .ok (.ladd, 1) := by decide +kernel
theorem dX6_digest_79 : decode cX6_digest 79 = .ok (.lstore_n 1, 1) := by decide +kernel
theorem dX6_digest_80 : decode cX6_digest 80 = .ok (.iinc 3 1, 3) := by decide +kernel
theorem dX6_digest_83 : decode cX6_digest 83 = .ok (.goto (-25), 3) := by decide +kernel
theorem dX6_digest_86 : decode cX6_digest 86 = .ok (.iconst 0, 1) := by decide +kernel
theorem dX6_digest_87 : decode cX6_digest 87 = .ok (.istore_n 3, 1) := by decide +kernel
theorem dX6_digest_88 : decode cX6_digest 88 = .ok (.iload_n 3, 1) := by decide +kernel
theorem dX6_digest_89 : decode cX6_digest 89 = .ok (.aload_n 0, 1) := by decide +kernel
theorem dX6_digest_90 : decode cX6_digest 90 = .ok (.getfield 100, 3) := by decide +kernel
theorem dX6_digest_93 : decode cX6_digest 93 = .ok (.if_icmp .ge 23, 3) := by decide +kernel
theorem dX6_digest_96 : decode cX6_digest 96 = .ok (.ldc2_w 147, 3) := by decide +kernel
theorem dX6_digest_99 : decode cX6_digest 99 = .ok (.lload_n 1, 1) := by decide +kernel
theorem dX6_digest_100 : decode cX6_digest 100 = .ok (.lmul, 1) := by decide +kernel
theorem dX6_digest_101 : decode cX6_digest 101 = .ok (.aload_n 0, 1) := by decide +kernel
theorem dX6_digest_102 : decode cX6_digest 102 = .ok (.getfield 33, 3) := by decide +kernel
theorem dX6_digest_105 : decode cX6_digest 105 = .ok (.iload_n 3, 1) := by decide +kernel
theorem dX6_digest_106 : decode cX6_digest 106 = .ok (.iaload, 1) := by decide +kernel
theorem dX6_digest_107 : decode cX6_digest 107 = .ok (.i2l, 1) := by decide +kernel
theorem dX6_digest_108 : decode cX6_digest 108 = .ok (.ladd, 1) := by decide +kernel
theorem dX6_digest_109 : decode cX6_digest 109 = .ok (.lstore_n 1, 1) := by decide +kernel
theorem dX6_digest_110 : decode cX6_digest 110 = .ok (.iinc 3 1, 3) := by decide +kernel
theorem dX6_digest_113 : decode cX6_digest 113 = .ok (.goto (-25), 3) := by decide +kernel
theorem dX6_digest_116 : decode cX6_digest 116 = .ok (.ldc2_w 147, 3) := by decide +kernel
theorem dX6_digest_119 : decode cX6_digest 119 = .ok (.lload_n 1, 1) := by decide +kernel
theorem dX6_digest_120 : decode cX6_digest 120 = .ok (.lmul, 1) := by decide +kernel
theorem dX6_digest_121 : decode cX6_digest 121 = .ok (.aload_n 0, 1) := by decide +kernel
theorem dX6_digest_122 : decode cX6_digest 122 = .ok (.getfield 133, 3) := by decide +kernel
theorem dX6_digest_125 : decode cX6_digest 125 = .ok (.i2l, 1) := by decide +kernel
theorem dX6_digest_126 : decode cX6_digest 126 = .ok (.ladd, 1) := by decide +kernel
theorem dX6_digest_127 : decode cX6_digest 127 = .ok (.lstore_n 1, 1) := by decide +kernel
theorem dX6_digest_128 : decode cX6_digest 128 = .ok (.ldc2_w 147, 3) := by decide +kernel
theorem dX6_digest_131 : decode cX6_digest 131 = .ok (.lload_n 1, 1) := by decide +kernel
theorem dX6_digest_132 : decode cX6_digest 132 = .ok (.lmul, 1) := by decide +kernel
theorem dX6_digest_133 : decode cX6_digest 133 = .ok (.aload_n 0, 1) := by decide +kernel
theorem dX6_digest_134 : decode cX6_digest 134 = .ok (.getfield 140, 3) := by decide +kernel
theorem dX6_digest_137 : decode cX6_digest 137 = .ok (.i2l, 1) := by decide +kernel
theorem dX6_digest_138 : decode cX6_digest 138 = .ok (.ladd, 1) := by decide +kernel
theorem dX6_digest_139 : decode cX6_digest 139 = .ok (.lreturn, 1) := by decide +kernel
theorem dJ9_abs_0f7a4_0 : decode cJ9_abs_0f7a4 0 = .ok (.iload_n 0, 1) := by decide +kernel
theorem dJ9_abs_0f7a4_1 : decode cJ9_abs_0f7a4 1 = .ok (.ifCond .ge 8, 3) := by decide +kernel
theorem dJ9_abs_0f7a4_4 : decode cJ9_abs_0f7a4 4 = .ok (.iload_n 0, 1) := by decide +kernel
theorem dJ9_abs_0f7a4_5 : decode cJ9_abs_0f7a4 5 = .ok (.ineg, 1) := by decide +kernel
theorem dJ9_abs_0f7a4_6 : decode cJ9_abs_0f7a4 6 = .ok (.goto 4, 3) := by decide +kernel
theorem dJ9_abs_0f7a4_9 : decode cJ9_abs_0f7a4 9 = .ok (.iload_n 0, 1) := by decide +kernel
theorem dJ9_abs_0f7a4_10 : decode cJ9_abs_0f7a4 10 = .ok (.ireturn, 1) := by decide +kernel
theorem dJ9_max_7cf53_0 : decode cJ9_max_7cf53 0 = .ok (.iload_n 0, 1) := by decide +kernel
theorem dJ9_max_7cf53_1 : decode cJ9_max_7cf53 1 = .ok (.iload_n 1, 1) := by decide +kernel
theorem dJ9_max_7cf53_2 : decode cJ9_max_7cf53 2 = .ok (.if_icmp .lt 7, 3) := by decide +kernel
theorem dJ9_max_7cf53_5 : decode cJ9_max_7cf53 5 = .ok (.iload_n 0, 1) := by decide +kernel
theorem dJ9_max_7cf53_6 : decode cJ9_max_7cf53 6 = .ok (.goto 4, 3) := by decide +kernel
theorem dJ9_max_7cf53_9 : decode cJ9_max_7cf53 9 = .ok (.iload_n 1, 1) := by decide +kernel
theorem dJ9_max_7cf53_10 : decode cJ9_max_7cf53 10 = .ok (.ireturn, 1) := by decide +kernel
end
section
/-! own framework: whole numbers for the machine's ints, a world of one shape, a judgement with heap and locals inside -/
abbrev St_ : Type := (Nat → Int) × (Nat → Int → Int)
def ii (z : Int) : Int32 := Int32.ofInt z
def jj (z : Int) : Int64 := Int64.ofInt z
theorem ii_add (a b : Int) : ii a + ii b = ii (a + b) := (Int32.ofInt_add a b).symm
theorem ii_sub (a b : Int) : ii a - ii b = ii (a - b) := (Int32.ofInt_sub a b).symm
theorem ii_mul (a b : Int) : ii a * ii b = ii (a * b) := (Int32.ofInt_mul a b).symm
theorem ii_neg (a : Int) : - ii a = ii (-a) := (Int32.ofInt_neg a).symm
theorem jj_add (a b : Int) : jj a + jj b = jj (a + b) := (Int64.ofInt_add a b).symm
theorem jj_sub (a b : Int) : jj a - jj b = jj (a - b) := (Int64.ofInt_sub a b).symm
theorem jj_mul (a b : Int) : jj a * jj b = jj (a * b) := (Int64.ofInt_mul a b).symm
theorem ii_toInt {z : Int} (h : -2147483648 ≤ z ∧ z < 2147483648) : (ii z).toInt = z := Int32.toInt_ofInt_of_le (by omega) (by omega)
theorem jj_toInt {z : Int} (h : -9223372036854775808 ≤ z ∧ z < 9223372036854775808) : (jj z).toInt = z := Int64.toInt_ofInt_of_le (by omega) (by omega)
theorem ii_self (x : Int32) : ii x.toInt = x := Int32.ofInt_toInt x
theorem ii_lt {a b : Int} (ha : -2147483648 ≤ a ∧ a < 2147483648) (hb : -2147483648 ≤ b ∧ b < 2147483648) : ii a < ii b ↔ a < b := by
  rw [Int32.lt_iff_toInt_lt, ii_toInt ha, ii_toInt hb]
theorem ii_le {a b : Int} (ha : -2147483648 ≤ a ∧ a < 2147483648) (hb : -2147483648 ≤ b ∧ b < 2147483648) : ii a ≤ ii b ↔ a ≤ b := by
  rw [Int32.le_iff_toInt_le, ii_toInt ha, ii_toInt hb]
theorem ii_eq {a b : Int} (ha : -2147483648 ≤ a ∧ a < 2147483648) (hb : -2147483648 ≤ b ∧ b < 2147483648) : ii a = ii b ↔ a = b := by
  rw [← Int32.toInt_inj, ii_toInt ha, ii_toInt hb]
theorem jj_lt {a b : Int} (ha : -9223372036854775808 ≤ a ∧ a < 9223372036854775808) (hb : -9223372036854775808 ≤ b ∧ b < 9223372036854775808) : jj a < jj b ↔ a < b := by
  rw [Int64.lt_iff_toInt_lt, jj_toInt ha, jj_toInt hb]
theorem jj_le {a b : Int} (ha : -9223372036854775808 ≤ a ∧ a < 9223372036854775808) (hb : -9223372036854775808 ≤ b ∧ b < 9223372036854775808) : jj a ≤ jj b ↔ a ≤ b := by
  rw [Int64.le_iff_toInt_le, jj_toInt ha, jj_toInt hb]
theorem jj_eq {a b : Int} (ha : -9223372036854775808 ≤ a ∧ a < 9223372036854775808) (hb : -9223372036854775808 ≤ b ∧ b < 9223372036854775808) : jj a = jj b ↔ a = b := by
  rw [← Int64.toInt_inj, jj_toInt ha, jj_toInt hb]
theorem ii_0 : ii 0 = 0 := by decide
theorem ii_cl {z : Int} (h0 : 0 ≤ z) (h1 : z < 2147483648) : (ii z).toNatClampNeg = z.toNat := by
  show (ii z).toInt.toNat = _
  rw [ii_toInt (by omega)]
theorem ii_in {z : Int} {n : Nat} (h0 : 0 ≤ z) (h1 : z < (n : Int)) (hn : n < 2147483648) : vp_in (ii z) n := by
  rw [vp_in_iff, ii_toInt (by omega)]
  exact ⟨h0, h1⟩
theorem ii_i2l {z : Int} (h : -2147483648 ≤ z ∧ z < 2147483648) : (ii z).toInt64 = jj z := by
  rw [← Int64.toInt_inj, Int32.toInt_toInt64, ii_toInt h, jj_toInt (by omega)]
theorem ii_nI (n : Nat) : nI n = ii (n : Int) := by
  show Int32.ofNat n = Int32.ofInt (n : Int)
  rw [Int32.ofInt_eq_ofNat]
theorem ii_byte : ∀ z : Nat, z < 128 → (ii (z : Int)).toInt8.toInt32 = ii (z : Int) := by
  intro z hz
  rw [← ii_nI]
  have h : ∀ n, n < 128 → (nI n).toInt8.toInt32 = nI n := by decide +kernel
  exact h z hz
theorem ii_byteZ {z : Int} (h0 : 0 ≤ z) (h1 : z < 128) : (ii z).toInt8.toInt32 = ii z := by
  obtain ⟨n, rfl⟩ := Int.eq_ofNat_of_zero_le h0
  exact ii_byte n (by omega)
theorem ii_remZ {a b : Int} (h0 : 0 ≤ a) (h1 : a < 2147483648) (h2 : 0 < b) (h3 : b < 2147483648) : ii a - ii a / ii b * ii b = ii (a % b) := by
  obtain ⟨n, rfl⟩ := Int.eq_ofNat_of_zero_le h0
  obtain ⟨k, rfl⟩ := Int.eq_ofNat_of_zero_le (Int.le_of_lt h2)
  rw [← ii_nI, ← ii_nI, pk_rem (by omega) (by omega) (by omega), ii_nI]
  rfl
theorem ii_divZ {a b : Int} (h0 : 0 ≤ a) (h1 : a < 2147483648) (h2 : 0 < b) (h3 : b < 2147483648) : ii a / ii b = ii (a / b) := by
  obtain ⟨n, rfl⟩ := Int.eq_ofNat_of_zero_le h0
  obtain ⟨k, rfl⟩ := Int.eq_ofNat_of_zero_le (Int.le_of_lt h2)
  rw [← ii_nI, ← ii_nI, pk_div (by omega) (by omega) (by omega), ii_nI]
  rfl
theorem ii_max (a b : Int) (ha : -2147483648 ≤ a ∧ a < 2147483648) (hb : -2147483648 ≤ b ∧ b < 2147483648) : (if ii a < ii b then ii b else ii a) = ii (if a < b then b else a) := by
  by_cases h : a < b
  · rw [if_pos ((ii_lt ha hb).mpr h), if_pos h]
  · rw [if_neg (fun q => h ((ii_lt ha hb).mp q)), if_neg h]
/-- one place changed -/
def zup (f : Int → Int) (k v : Int) : Int → Int := fun j => if j = k then v else f j
theorem zup_eq (f : Int → Int) (k v : Int) : zup f k v k = v := by simp [zup]
theorem zup_ne (f : Int → Int) {k j : Int} (v : Int) (h : j ≠ k) : zup f k v j = f j := by simp [zup, h]
theorem upd_ii (f : Int → Int) {z : Int} (v : Int) (h0 : 0 ≤ z) (h1 : z < 2147483648) : upd (fun k : Nat => ii (f (k : Int))) (ii z).toNatClampNeg (ii v) = fun k : Nat => ii (zup f z v (k : Int)) := by
  funext j
  rw [ii_cl h0 h1]
  unfold upd zup
  by_cases h : j = z.toNat
  · rw [if_pos h, if_pos (by omega)]
  · rw [if_neg h, if_neg (by omega)]
theorem updL_jj (f : Int → Int) {z : Int} (v : Int) (h0 : 0 ≤ z) (h1 : z < 2147483648) : vp_updL (fun k : Nat => jj (f (k : Int))) (ii z).toNatClampNeg (jj v) = fun k : Nat => jj (zup f z v (k : Int)) := by
  funext j
  rw [ii_cl h0 h1]
  unfold vp_updL zup
  by_cases h : j = z.toNat
  · rw [if_pos h, if_pos (by omega)]
  · rw [if_neg h, if_neg (by omega)]
/-- a scalar, an array's place of the state -/
def sG (st : St_) (k : Nat) (v : Int) : St_ := (fun j => if j = k then v else st.1 j, st.2)
def sA (st : St_) (r : Nat) (z v : Int) : St_ := (st.1, fun q => if q = r then zup (st.2 r) z v else st.2 q)
theorem sG_1 (st : St_) (k : Nat) (v : Int) (j : Nat) : (sG st k v).1 j = if j = k then v else st.1 j := rfl
theorem sG_2 (st : St_) (k : Nat) (v : Int) : (sG st k v).2 = st.2 := rfl
theorem sA_1 (st : St_) (r : Nat) (z v : Int) : (sA st r z v).1 = st.1 := rfl
theorem sA_2 (st : St_) (r : Nat) (z v : Int) (q : Nat) : (sA st r z v).2 q = if q = r then zup (st.2 r) z v else st.2 q := rfl
theorem sG_s (st : St_) (k : Nat) (v : Int) : (sG st k v).1 k = v := by simp [sG]
theorem sG_n (st : St_) {k j : Nat} (v : Int) (h : j ≠ k) : (sG st k v).1 j = st.1 j := by simp [sG, h]
theorem sA_s (st : St_) (r : Nat) (z v : Int) : (sA st r z v).2 r = zup (st.2 r) z v := by simp [sA]
theorem sA_n (st : St_) {r q : Nat} (z v : Int) (h : q ≠ r) : (sA st r z v).2 q = st.2 q := by simp [sA, h]
/-- the words on nest mates, which travel with the state -/
def NW (U : State) : Prop := va_Nw (.methodLinkNest RX0 23 yX5_isLetter "SelfRows") U ∧ va_Nw (.methodLinkNest RX2 27 yX5_isLetter "SelfRows") U ∧ va_Nw (.methodLinkNest RX1 32 yX2_init "SelfRows") U ∧ va_Nw (.methodLinkNest RX5 18 yX4_init "SelfRows") U ∧ va_Nw (.methodLinkNest RX5 31 yX3_init "SelfRows") U
theorem NW.warm {s U : State} (hW : s.WarmedH U.vm) (h : NW s) : NW U := ⟨va_Nw.warmM hW h.1, va_Nw.warmM hW h.2.1, va_Nw.warmM hW h.2.2.1, va_Nw.warmM hW h.2.2.2.1, va_Nw.warmM hW h.2.2.2.2⟩
theorem NW.same {s U : State} (e : s.vm = U.vm) (h : NW s) : NW U := ⟨va_Nw.same rfl e h.1, va_Nw.same rfl e h.2.1, va_Nw.same rfl e h.2.2.1, va_Nw.same rfl e h.2.2.2.1, va_Nw.same rfl e h.2.2.2.2⟩
/-- what a method may change: the world's addresses, and what is new -/
def mX (al : List Nat) (sz : Nat) : Nat → Prop := fun q => q ∈ al ∨ sz ≤ q
def kX (D : va_G) (tys : List (ClassId × FieldType)) (wd : va_W) (sz : Nat) : State → Prop := fun U => U.heap.size = sz ∧ va_P D vwCl wd U.heap ∧ va_K D vwCl tys U ∧ NW U
def okW {σ : Type} (Wd : σ → va_W) (al : List Nat) : Prop := ∀ st, va_D (fun q => q ∈ al) (Wd st)
abbrev rmX (f lo : Nat) : Room := { frames := f, cells := 0, slots := 0, locals := lo }
/-- contracts: an int, a long, nothing, an address -/
def CXi {σ : Type} (l : Launch) (y : MethodName) (ws : List Cond) (rm : Room) (av : List Value) (D : va_G) (tys : List (ClassId × FieldType)) (Wd : σ → va_W) (al : List Nat) (st : σ) (post : Int → σ → Prop) : Prop :=
  ∀ sz : Nat, Met l y ws rm (va_Pc av (kX D tys (Wd st) sz)) (va_Qi (fun (r : Int32) (u : Int × σ) => r = ii u.1 ∧ post u.1 u.2) (fun u t => va_P D vwCl (Wd u.2) t.heap) (mX al sz)) 0 0 (mX al sz)
def CXl {σ : Type} (l : Launch) (y : MethodName) (ws : List Cond) (rm : Room) (av : List Value) (D : va_G) (tys : List (ClassId × FieldType)) (Wd : σ → va_W) (al : List Nat) (st : σ) (post : Int → σ → Prop) : Prop :=
  ∀ sz : Nat, Met l y ws rm (va_Pc av (kX D tys (Wd st) sz)) (va_Ql (fun (r : Int64) (u : Int × σ) => r = jj u.1 ∧ post u.1 u.2) (fun u t => va_P D vwCl (Wd u.2) t.heap) (mX al sz)) 0 0 (mX al sz)
def CXv {σ : Type} (l : Launch) (y : MethodName) (ws : List Cond) (rm : Room) (av : List Value) (D : va_G) (tys : List (ClassId × FieldType)) (Wd : σ → va_W) (al : List Nat) (st : σ) (post : σ → Prop) : Prop :=
  ∀ sz : Nat, Met l y ws rm (va_Pc av (kX D tys (Wd st) sz)) (va_Qv (fun u : σ => post u) (fun u t => va_P D vwCl (Wd u) t.heap) (mX al sz)) 0 0 (mX al sz)
def CXr {σ : Type} (l : Launch) (y : MethodName) (ws : List Cond) (rm : Room) (av : List Value) (D : va_G) (tys : List (ClassId × FieldType)) (Wd : σ → va_W) (al : List Nat) (st : σ) (post : Option Nat → σ → Prop) : Prop :=
  ∀ sz : Nat, Met l y ws rm (va_Pc av (kX D tys (Wd st) sz)) (va_Qq (fun (r : Option Nat) (u : σ) => post r u) (fun u t => va_P D vwCl (Wd u) t.heap) (mX al sz)) 0 0 (mX al sz)
/-- what holds all through a method's body -/
def EN {σ : Type} (R : Room) (ce sl : Nat) (p : Program) (s : State) (m : MethodId) (args : Array Value) (meth : Method) (c : Code) (cc : ByteArray) (nL : Nat) (ret : Option FieldType) (Ts : List Cond) (own : String) (D : va_G) (tys : List (ClassId × FieldType)) (Wd : σ → va_W) (al : List Nat) (A : Nat → Prop) : Prop :=
  p.tables.exec = Jvm.exec ∧ c.code = cc ∧ c.maxLocals = nL ∧ meth.sig.returnType = ret ∧ meth.locks = false ∧ s.vm.findClass own = some m.cls ∧ (∀ w ∈ Ts, w.before args s = true) ∧ va_K D vwCl tys s ∧ (∀ st, va_D A (Wd st)) ∧ (∀ q ∈ al, A q) ∧ (∀ q : Nat, s.heap.size ≤ q → A q) ∧ ce ≤ R.cells ∧ sl ≤ R.slots ∧ NW s
def XJ {σ : Type} (p : Program) (l : Launch) (e : Env) (R : Room) (s : State) (m : MethodId) (args : Array Value) (below : List Frame) (meth : Method) (c : Code) (D : va_G) (Wd : σ → va_W) (A : Nat → Prop) (nL : Nat) (Q : State → Prop) (ce sl : Nat) (st : σ) (pc : Nat) (lv : List (Nat × Value)) (stk : List Value) : Prop :=
  ∀ (H : Heap) (locs : List Loc) (ls : Array Slot), va_P D vwCl (Wd st) H → va_S A s.heap H locs → lv_has ls nL lv → W p l e R s m args below meth c H locs ce sl Q (F0 m pc ls stk)
theorem okW.A {σ : Type} {Wd : σ → va_W} {al : List Nat} (h : okW Wd al) (sz : Nat) (st : σ) : va_D (mX al sz) (Wd st) := (h st).weaken (fun _ _ _ q => Or.inl q)
theorem kX_blind (av : List Value) (D : va_G) (tys : List (ClassId × FieldType)) (wd : va_W) (sz : Nat) : FrameBlind (va_Pc av (kX D tys wd sz)) := fun a U g mk q => ⟨q.1, q.2.1, q.2.2.1, va_K.moved (u := U) (U := U.calling g mk a) (Vm.Alike.refl U.vm) q.2.2.2.1, NW.same rfl q.2.2.2.2⟩
section XR
variable {σ : Type} {p : Program} {l : Launch} {e : Env} {R : Room} {s : State} {m : MethodId} {args : Array Value} {below : List Frame} {meth : Method} {c : Code} {cc : ByteArray} {nL : Nat} {ret : Option FieldType} {Ts : List Cond} {own : String} {D : va_G} {tys : List (ClassId × FieldType)} {Wd : σ → va_W} {al : List Nat} {A : Nat → Prop} {Q : State → Prop} {ce sl : Nat} {st st' : σ} {pc q : Nat} {lv lv' : List (Nat × Value)} {r stk : List Value}
theorem x_iconst (E : EN R ce sl p s m args meth c cc nL ret Ts own D tys Wd al A) {n : Int} (hdg : decode cc pc = .ok (.iconst n, 1)) (hq : pc + 1 = q) (kk : XJ p l e R s m args below meth c D Wd A nL Q ce sl st q lv (.int (ii n) :: r)) : XJ p l e R s m args below meth c D Wd A nL Q ce sl st pc lv r := by
  subst hq
  intro H locs ls hP hS hl
  exact lv_iconst E.1 E.2.1 hdg rfl (kk H locs ls hP hS hl)
theorem x_bipush (E : EN R ce sl p s m args meth c cc nL ret Ts own D tys Wd al A) {n : Int} (hdg : decode cc pc = .ok (.bipush n, 2)) (hv : (Int8.ofInt n).toInt32 = ii n) (hq : pc + 2 = q) (kk : XJ p l e R s m args below meth c D Wd A nL Q ce sl st q lv (.int (ii n) :: r)) : XJ p l e R s m args below meth c D Wd A nL Q ce sl st pc lv r := by
  subst hq
  intro H locs ls hP hS hl
  exact lv_bipush E.1 E.2.1 hdg hv (kk H locs ls hP hS hl)
theorem x_sipush (E : EN R ce sl p s m args meth c cc nL ret Ts own D tys Wd al A) {n : Int} (hdg : decode cc pc = .ok (.sipush n, 3)) (hv : (Int16.ofInt n).toInt32 = ii n) (hq : pc + 3 = q) (kk : XJ p l e R s m args below meth c D Wd A nL Q ce sl st q lv (.int (ii n) :: r)) : XJ p l e R s m args below meth c D Wd A nL Q ce sl st pc lv r := by
  subst hq
  intro H locs ls hP hS hl
  exact lv_sipush E.1 E.2.1 hdg hv (kk H locs ls hP hS hl)
theorem x_ldc (E : EN R ce sl p s m args meth c cc nL ret Ts own D tys Wd al A) {ix : Nat} {v : Int32} {z : Int} (hc : Jvm.Cond.constant own ix v ∈ Ts) (hv : v = ii z) (hdg : decode cc pc = .ok (.ldc ix, 2)) (hq : pc + 2 = q) (kk : XJ p l e R s m args below meth c D Wd A nL Q ce sl st q lv (.int (ii z) :: r)) : XJ p l e R s m args below meth c D Wd A nL Q ce sl st pc lv r := by
  subst hq
  intro H locs ls hP hS hl
  exact lv_ldc E.1 E.2.1 E.2.2.2.2.2.1 (E.2.2.2.2.2.2.1 _ hc) hdg (by rw [hv]; exact (kk H locs ls hP hS hl))
theorem x_ldc2 (E : EN R ce sl p s m args meth c cc nL ret Ts own D tys Wd al A) {ix : Nat} {v : Int64} {z : Int} (hc : Jvm.Cond.constantLong own ix v ∈ Ts) (hv : v = jj z) (hdg : decode cc pc = .ok (.ldc2_w ix, 3)) (hq : pc + 3 = q) (kk : XJ p l e R s m args below meth c D Wd A nL Q ce sl st q lv (.long (jj z) :: r)) : XJ p l e R s m args below meth c D Wd A nL Q ce sl st pc lv r := by
  subst hq
  intro H locs ls hP hS hl
  exact lv_ldc2 E.1 E.2.1 E.2.2.2.2.2.1 (E.2.2.2.2.2.2.1 _ hc) hdg (by rw [hv]; exact (kk H locs ls hP hS hl))
theorem x_lconst (E : EN R ce sl p s m args meth c cc nL ret Ts own D tys Wd al A) {n : Fin 2} {z : Int} (hdg : decode cc pc = .ok (.lconst n, 1)) (hv : Int64.ofNat (n : Nat) = jj z) (hq : pc + 1 = q) (kk : XJ p l e R s m args below meth c D Wd A nL Q ce sl st q lv (.long (jj z) :: r)) : XJ p l e R s m args below meth c D Wd A nL Q ce sl st pc lv r := by
  subst hq
  intro H locs ls hP hS hl
  exact lv_lconst E.1 E.2.1 hdg hv (kk H locs ls hP hS hl)
theorem x_null (E : EN R ce sl p s m args meth c cc nL ret Ts own D tys Wd al A)  (hdg : decode cc pc = .ok (.aconst_null, 1)) (hq : pc + 1 = q) (kk : XJ p l e R s m args below meth c D Wd A nL Q ce sl st q lv (.null :: r)) : XJ p l e R s m args below meth c D Wd A nL Q ce sl st pc lv r := by
  subst hq
  intro H locs ls hP hS hl
  exact lv_null E.1 E.2.1 hdg (kk H locs ls hP hS hl)
theorem x_iload_n (E : EN R ce sl p s m args meth c cc nL ret Ts own D tys Wd al A) {k : Fin 4} {x : Int32} (hdg : decode cc pc = .ok (.iload_n k, 1)) (j : Nat) (hj : lv[j]? = some ((k : Nat), .int x)) (hq : pc + 1 = q) (kk : XJ p l e R s m args below meth c D Wd A nL Q ce sl st q lv (.int x :: r)) : XJ p l e R s m args below meth c D Wd A nL Q ce sl st pc lv r := by
  subst hq
  intro H locs ls hP hS hl
  exact lv_iload_n E.1 E.2.1 hdg rfl (lv_at hl j hj) (kk H locs ls hP hS hl)
theorem x_iload (E : EN R ce sl p s m args meth c cc nL ret Ts own D tys Wd al A) {i : Nat} {x : Int32} (hdg : decode cc pc = .ok (.iload i, 2)) (j : Nat) (hj : lv[j]? = some (i, .int x)) (hq : pc + 2 = q) (kk : XJ p l e R s m args below meth c D Wd A nL Q ce sl st q lv (.int x :: r)) : XJ p l e R s m args below meth c D Wd A nL Q ce sl st pc lv r := by
  subst hq
  intro H locs ls hP hS hl
  exact lv_iload E.1 E.2.1 hdg (lv_at hl j hj) (kk H locs ls hP hS hl)
theorem x_aload_n (E : EN R ce sl p s m args meth c cc nL ret Ts own D tys Wd al A) {k : Fin 4} {x : Nat} (hdg : decode cc pc = .ok (.aload_n k, 1)) (j : Nat) (hj : lv[j]? = some ((k : Nat), .ref x)) (hq : pc + 1 = q) (kk : XJ p l e R s m args below meth c D Wd A nL Q ce sl st q lv (.ref x :: r)) : XJ p l e R s m args below meth c D Wd A nL Q ce sl st pc lv r := by
  subst hq
  intro H locs ls hP hS hl
  exact lv_aload_n E.1 E.2.1 hdg rfl (lv_at hl j hj) (kk H locs ls hP hS hl)
theorem x_aload (E : EN R ce sl p s m args meth c cc nL ret Ts own D tys Wd al A) {i : Nat} {x : Nat} (hdg : decode cc pc = .ok (.aload i, 2)) (j : Nat) (hj : lv[j]? = some (i, .ref x)) (hq : pc + 2 = q) (kk : XJ p l e R s m args below meth c D Wd A nL Q ce sl st q lv (.ref x :: r)) : XJ p l e R s m args below meth c D Wd A nL Q ce sl st pc lv r := by
  subst hq
  intro H locs ls hP hS hl
  exact lv_aload E.1 E.2.1 hdg (lv_at hl j hj) (kk H locs ls hP hS hl)
theorem x_lload_n (E : EN R ce sl p s m args meth c cc nL ret Ts own D tys Wd al A) {k : Fin 4} {x : Int64} (hdg : decode cc pc = .ok (.lload_n k, 1)) (j : Nat) (hj : lv[j]? = some ((k : Nat), .long x)) (hq : pc + 1 = q) (kk : XJ p l e R s m args below meth c D Wd A nL Q ce sl st q lv (.long x :: r)) : XJ p l e R s m args below meth c D Wd A nL Q ce sl st pc lv r := by
  subst hq
  intro H locs ls hP hS hl
  exact lv_lload_n E.1 E.2.1 hdg rfl (lv_at hl j hj) (kk H locs ls hP hS hl)
theorem x_lload (E : EN R ce sl p s m args meth c cc nL ret Ts own D tys Wd al A) {i : Nat} {x : Int64} (hdg : decode cc pc = .ok (.lload i, 2)) (j : Nat) (hj : lv[j]? = some (i, .long x)) (hq : pc + 2 = q) (kk : XJ p l e R s m args below meth c D Wd A nL Q ce sl st q lv (.long x :: r)) : XJ p l e R s m args below meth c D Wd A nL Q ce sl st pc lv r := by
  subst hq
  intro H locs ls hP hS hl
  exact lv_lload E.1 E.2.1 hdg (lv_at hl j hj) (kk H locs ls hP hS hl)
theorem x_istore_n (E : EN R ce sl p s m args meth c cc nL ret Ts own D tys Wd al A) {k : Fin 4} {x : Int32} (hdg : decode cc pc = .ok (.istore_n k, 1)) (hn : (k : Nat) < nL) (hl' : ((k : Nat), Value.int x) :: lv.filter (fun q => !(q.1 == (k : Nat)) && !(q.1 + 1 == (k : Nat) && q.2.category == 2)) = lv') (hq : pc + 1 = q) (kk : XJ p l e R s m args below meth c D Wd A nL Q ce sl st q lv' r) : XJ p l e R s m args below meth c D Wd A nL Q ce sl st pc lv (.int x :: r) := by
  subst hq
  intro H locs ls hP hS hl
  exact lv_istore_n E.1 E.2.1 hdg rfl hl hn hl' (fun ls hl => (kk H locs ls hP hS hl))
theorem x_istore (E : EN R ce sl p s m args meth c cc nL ret Ts own D tys Wd al A) {i : Nat} {x : Int32} (hdg : decode cc pc = .ok (.istore i, 2)) (hn : i < nL) (hl' : (i, Value.int x) :: lv.filter (fun q => !(q.1 == i) && !(q.1 + 1 == i && q.2.category == 2)) = lv') (hq : pc + 2 = q) (kk : XJ p l e R s m args below meth c D Wd A nL Q ce sl st q lv' r) : XJ p l e R s m args below meth c D Wd A nL Q ce sl st pc lv (.int x :: r) := by
  subst hq
  intro H locs ls hP hS hl
  exact lv_istore E.1 E.2.1 hdg hl hn hl' (fun ls hl => (kk H locs ls hP hS hl))
theorem x_astore_n (E : EN R ce sl p s m args meth c cc nL ret Ts own D tys Wd al A) {k : Fin 4} {x : Nat} (hdg : decode cc pc = .ok (.astore_n k, 1)) (hn : (k : Nat) < nL) (hl' : ((k : Nat), Value.ref x) :: lv.filter (fun q => !(q.1 == (k : Nat)) && !(q.1 + 1 == (k : Nat) && q.2.category == 2)) = lv') (hq : pc + 1 = q) (kk : XJ p l e R s m args below meth c D Wd A nL Q ce sl st q lv' r) : XJ p l e R s m args below meth c D Wd A nL Q ce sl st pc lv (.ref x :: r) := by
  subst hq
  intro H locs ls hP hS hl
  exact lv_astore_n E.1 E.2.1 hdg rfl hl hn hl' (fun ls hl => (kk H locs ls hP hS hl))
theorem x_astore (E : EN R ce sl p s m args meth c cc nL ret Ts own D tys Wd al A) {i : Nat} {x : Nat} (hdg : decode cc pc = .ok (.astore i, 2)) (hn : i < nL) (hl' : (i, Value.ref x) :: lv.filter (fun q => !(q.1 == i) && !(q.1 + 1 == i && q.2.category == 2)) = lv') (hq : pc + 2 = q) (kk : XJ p l e R s m args below meth c D Wd A nL Q ce sl st q lv' r) : XJ p l e R s m args below meth c D Wd A nL Q ce sl st pc lv (.ref x :: r) := by
  subst hq
  intro H locs ls hP hS hl
  exact lv_astore E.1 E.2.1 hdg hl hn hl' (fun ls hl => (kk H locs ls hP hS hl))
theorem x_lstore_n (E : EN R ce sl p s m args meth c cc nL ret Ts own D tys Wd al A) {k : Fin 4} {x : Int64} (hdg : decode cc pc = .ok (.lstore_n k, 1)) (hn : (k : Nat) + 1 < nL) (hl' : ((k : Nat), Value.long x) :: lv.filter (fun q => !(q.1 == (k : Nat)) && (!(q.1 == (k : Nat) + 1) && !(q.1 + 1 == (k : Nat) && q.2.category == 2))) = lv') (hq : pc + 1 = q) (kk : XJ p l e R s m args below meth c D Wd A nL Q ce sl st q lv' r) : XJ p l e R s m args below meth c D Wd A nL Q ce sl st pc lv (.long x :: r) := by
  subst hq
  intro H locs ls hP hS hl
  exact lv_lstore_n E.1 E.2.1 hdg rfl hl hn hl' (fun ls hl => (kk H locs ls hP hS hl))
theorem x_lstore (E : EN R ce sl p s m args meth c cc nL ret Ts own D tys Wd al A) {i : Nat} {x : Int64} (hdg : decode cc pc = .ok (.lstore i, 2)) (hn : i + 1 < nL) (hl' : (i, Value.long x) :: lv.filter (fun q => !(q.1 == i) && (!(q.1 == i + 1) && !(q.1 + 1 == i && q.2.category == 2))) = lv') (hq : pc + 2 = q) (kk : XJ p l e R s m args below meth c D Wd A nL Q ce sl st q lv' r) : XJ p l e R s m args below meth c D Wd A nL Q ce sl st pc lv (.long x :: r) := by
  subst hq
  intro H locs ls hP hS hl
  exact lv_lstore E.1 E.2.1 hdg hl hn hl' (fun ls hl => (kk H locs ls hP hS hl))
theorem x_iinc (E : EN R ce sl p s m args meth c cc nL ret Ts own D tys Wd al A) {i k : Nat} {n x : Int} (hdg : decode cc pc = .ok (.iinc i n, 3)) (hk : lv[k]? = some (i, .int (ii x))) (hn : i < nL) (hl' : (i, Value.int (ii (x + n))) :: lv.filter (fun q => !(q.1 == i) && !(q.1 + 1 == i && q.2.category == 2)) = lv') (hq : pc + 3 = q) (kk : XJ p l e R s m args below meth c D Wd A nL Q ce sl st q lv' r) : XJ p l e R s m args below meth c D Wd A nL Q ce sl st pc lv r := by
  subst hq
  intro H locs ls hP hS hl
  exact lv_iinc E.1 E.2.1 hdg hl hk (ii_add x n) hn hl' (fun ls hl => (kk H locs ls hP hS hl))
theorem x_iadd (E : EN R ce sl p s m args meth c cc nL ret Ts own D tys Wd al A) {a b : Int} (hdg : decode cc pc = .ok (.iadd, 1)) (hq : pc + 1 = q) (kk : XJ p l e R s m args below meth c D Wd A nL Q ce sl st q lv (.int (ii (a + b)) :: r)) : XJ p l e R s m args below meth c D Wd A nL Q ce sl st pc lv (.int (ii b) :: .int (ii a) :: r) := by
  subst hq
  intro H locs ls hP hS hl
  exact lv_iadd E.1 E.2.1 hdg (by rw [ii_add]; exact (kk H locs ls hP hS hl))
theorem x_ladd (E : EN R ce sl p s m args meth c cc nL ret Ts own D tys Wd al A) {a b : Int} (hdg : decode cc pc = .ok (.ladd, 1)) (hq : pc + 1 = q) (kk : XJ p l e R s m args below meth c D Wd A nL Q ce sl st q lv (.long (jj (a + b)) :: r)) : XJ p l e R s m args below meth c D Wd A nL Q ce sl st pc lv (.long (jj b) :: .long (jj a) :: r) := by
  subst hq
  intro H locs ls hP hS hl
  exact lv_ladd E.1 E.2.1 hdg (by rw [jj_add]; exact (kk H locs ls hP hS hl))
theorem x_isub (E : EN R ce sl p s m args meth c cc nL ret Ts own D tys Wd al A) {a b : Int} (hdg : decode cc pc = .ok (.isub, 1)) (hq : pc + 1 = q) (kk : XJ p l e R s m args below meth c D Wd A nL Q ce sl st q lv (.int (ii (a - b)) :: r)) : XJ p l e R s m args below meth c D Wd A nL Q ce sl st pc lv (.int (ii b) :: .int (ii a) :: r) := by
  subst hq
  intro H locs ls hP hS hl
  exact lv_isub E.1 E.2.1 hdg (by rw [ii_sub]; exact (kk H locs ls hP hS hl))
theorem x_lsub (E : EN R ce sl p s m args meth c cc nL ret Ts own D tys Wd al A) {a b : Int} (hdg : decode cc pc = .ok (.lsub, 1)) (hq : pc + 1 = q) (kk : XJ p l e R s m args below meth c D Wd A nL Q ce sl st q lv (.long (jj (a - b)) :: r)) : XJ p l e R s m args below meth c D Wd A nL Q ce sl st pc lv (.long (jj b) :: .long (jj a) :: r) := by
  subst hq
  intro H locs ls hP hS hl
  exact lv_lsub E.1 E.2.1 hdg (by rw [jj_sub]; exact (kk H locs ls hP hS hl))
theorem x_imul (E : EN R ce sl p s m args meth c cc nL ret Ts own D tys Wd al A) {a b : Int} (hdg : decode cc pc = .ok (.imul, 1)) (hq : pc + 1 = q) (kk : XJ p l e R s m args below meth c D Wd A nL Q ce sl st q lv (.int (ii (a * b)) :: r)) : XJ p l e R s m args below meth c D Wd A nL Q ce sl st pc lv (.int (ii b) :: .int (ii a) :: r) := by
  subst hq
  intro H locs ls hP hS hl
  exact lv_imul E.1 E.2.1 hdg (by rw [ii_mul]; exact (kk H locs ls hP hS hl))
theorem x_lmul (E : EN R ce sl p s m args meth c cc nL ret Ts own D tys Wd al A) {a b : Int} (hdg : decode cc pc = .ok (.lmul, 1)) (hq : pc + 1 = q) (kk : XJ p l e R s m args below meth c D Wd A nL Q ce sl st q lv (.long (jj (a * b)) :: r)) : XJ p l e R s m args below meth c D Wd A nL Q ce sl st pc lv (.long (jj b) :: .long (jj a) :: r) := by
  subst hq
  intro H locs ls hP hS hl
  exact lv_lmul E.1 E.2.1 hdg (by rw [jj_mul]; exact (kk H locs ls hP hS hl))
theorem x_irem (E : EN R ce sl p s m args meth c cc nL ret Ts own D tys Wd al A) {a b : Int} (hdg : decode cc pc = .ok (.irem, 1)) (h0 : 0 ≤ a) (h1 : a < 2147483648) (h2 : 0 < b) (h3 : b < 2147483648) (hq : pc + 1 = q) (kk : XJ p l e R s m args below meth c D Wd A nL Q ce sl st q lv (.int (ii (a % b)) :: r)) : XJ p l e R s m args below meth c D Wd A nL Q ce sl st pc lv (.int (ii b) :: .int (ii a) :: r) := by
  subst hq
  intro H locs ls hP hS hl
  exact lv_irem E.1 E.2.1 hdg (by rw [← ii_0]; exact fun z => absurd ((ii_eq (by omega) (by omega)).mp z) (by omega)) (by rw [ii_remZ h0 h1 h2 h3]; exact (kk H locs ls hP hS hl))
theorem x_idiv (E : EN R ce sl p s m args meth c cc nL ret Ts own D tys Wd al A) {a b : Int} (hdg : decode cc pc = .ok (.idiv, 1)) (h0 : 0 ≤ a) (h1 : a < 2147483648) (h2 : 0 < b) (h3 : b < 2147483648) (hq : pc + 1 = q) (kk : XJ p l e R s m args below meth c D Wd A nL Q ce sl st q lv (.int (ii (a / b)) :: r)) : XJ p l e R s m args below meth c D Wd A nL Q ce sl st pc lv (.int (ii b) :: .int (ii a) :: r) := by
  subst hq
  intro H locs ls hP hS hl
  exact lv_idiv E.1 E.2.1 hdg (by rw [← ii_0]; exact fun z => absurd ((ii_eq (by omega) (by omega)).mp z) (by omega)) (by rw [ii_divZ h0 h1 h2 h3]; exact (kk H locs ls hP hS hl))
theorem x_ineg (E : EN R ce sl p s m args meth c cc nL ret Ts own D tys Wd al A) {a : Int} (hdg : decode cc pc = .ok (.ineg, 1)) (hq : pc + 1 = q) (kk : XJ p l e R s m args below meth c D Wd A nL Q ce sl st q lv (.int (ii (-a)) :: r)) : XJ p l e R s m args below meth c D Wd A nL Q ce sl st pc lv (.int (ii a) :: r) := by
  subst hq
  intro H locs ls hP hS hl
  exact lv_ineg E.1 E.2.1 hdg (by first | (rw [ii_neg]; exact (kk H locs ls hP hS hl)) | (rw [show (0 : Int32) - ii a = ii (-a) from by rw [← ii_neg]; simp]; exact (kk H locs ls hP hS hl)))
theorem x_i2l (E : EN R ce sl p s m args meth c cc nL ret Ts own D tys Wd al A) {a : Int} (hdg : decode cc pc = .ok (.i2l, 1)) (ha : -2147483648 ≤ a ∧ a < 2147483648) (hq : pc + 1 = q) (kk : XJ p l e R s m args below meth c D Wd A nL Q ce sl st q lv (.long (jj a) :: r)) : XJ p l e R s m args below meth c D Wd A nL Q ce sl st pc lv (.int (ii a) :: r) := by
  subst hq
  intro H locs ls hP hS hl
  exact lv_i2l E.1 E.2.1 hdg (ii_i2l ha) (kk H locs ls hP hS hl)
theorem x_i2b (E : EN R ce sl p s m args meth c cc nL ret Ts own D tys Wd al A) {a : Int} (hdg : decode cc pc = .ok (.i2b, 1)) (h0 : 0 ≤ a) (h1 : a < 128) (hq : pc + 1 = q) (kk : XJ p l e R s m args below meth c D Wd A nL Q ce sl st q lv (.int (ii a) :: r)) : XJ p l e R s m args below meth c D Wd A nL Q ce sl st pc lv (.int (ii a) :: r) := by
  subst hq
  intro H locs ls hP hS hl
  exact lv_i2b E.1 E.2.1 hdg (ii_byteZ h0 h1) (kk H locs ls hP hS hl)
theorem x_dup (E : EN R ce sl p s m args meth c cc nL ret Ts own D tys Wd al A) {v : Value} (hdg : decode cc pc = .ok (.dup, 1)) (hv : v.category = 1) (hq : pc + 1 = q) (kk : XJ p l e R s m args below meth c D Wd A nL Q ce sl st q lv (v :: v :: r)) : XJ p l e R s m args below meth c D Wd A nL Q ce sl st pc lv (v :: r) := by
  subst hq
  intro H locs ls hP hS hl
  exact lv_dup E.1 E.2.1 hdg hv (kk H locs ls hP hS hl)
theorem x_dup2 (E : EN R ce sl p s m args meth c cc nL ret Ts own D tys Wd al A) {v u : Value} (hdg : decode cc pc = .ok (.dup2, 1)) (hv : v.category = 1) (hu : u.category = 1) (hq : pc + 1 = q) (kk : XJ p l e R s m args below meth c D Wd A nL Q ce sl st q lv (v :: u :: v :: u :: r)) : XJ p l e R s m args below meth c D Wd A nL Q ce sl st pc lv (v :: u :: r) := by
  subst hq
  intro H locs ls hP hS hl
  exact lv_dup2_11 E.1 E.2.1 hdg (by first | exact hv | exact hu) (by first | exact hu | exact hv) (kk H locs ls hP hS hl)
theorem x_pop (E : EN R ce sl p s m args meth c cc nL ret Ts own D tys Wd al A) {v : Value} (hdg : decode cc pc = .ok (.pop, 1)) (hv : v.category = 1) (hq : pc + 1 = q) (kk : XJ p l e R s m args below meth c D Wd A nL Q ce sl st q lv r) : XJ p l e R s m args below meth c D Wd A nL Q ce sl st pc lv (v :: r) := by
  subst hq
  intro H locs ls hP hS hl
  exact lv_pop E.1 E.2.1 hdg hv (kk H locs ls hP hS hl)
theorem x_icmp_eq (E : EN R ce sl p s m args meth c cc nL ret Ts own D tys Wd al A) {a b : Int} {off : Int} {tgt : Nat} (hdg : decode cc pc = .ok (.if_icmp .eq off, 3)) (ht : (pc : Int) + off = (tgt : Int)) (hq : pc + 3 = q) (ha : -2147483648 ≤ a ∧ a < 2147483648) (hb' : -2147483648 ≤ b ∧ b < 2147483648) (kt : a = b → XJ p l e R s m args below meth c D Wd A nL Q ce sl st tgt lv r) (kf : ¬ (a = b) → XJ p l e R s m args below meth c D Wd A nL Q ce sl st q lv r) : XJ p l e R s m args below meth c D Wd A nL Q ce sl st pc lv (.int (ii b) :: .int (ii a) :: r) := by
  subst hq
  intro H locs ls hP hS hl
  exact lv_icmp_eq E.1 E.2.1 hdg ht (fun z => kt ((ii_eq ha hb').mp z) H locs ls hP hS hl) (fun z => kf (fun z' => z ((ii_eq ha hb').mpr z')) H locs ls hP hS hl)
theorem x_if_eq (E : EN R ce sl p s m args meth c cc nL ret Ts own D tys Wd al A) {a : Int} {off : Int} {tgt : Nat} (hdg : decode cc pc = .ok (.ifCond .eq off, 3)) (ht : (pc : Int) + off = (tgt : Int)) (hq : pc + 3 = q) (ha : -2147483648 ≤ a ∧ a < 2147483648) (kt : a = 0 → XJ p l e R s m args below meth c D Wd A nL Q ce sl st tgt lv r) (kf : ¬ (a = 0) → XJ p l e R s m args below meth c D Wd A nL Q ce sl st q lv r) : XJ p l e R s m args below meth c D Wd A nL Q ce sl st pc lv (.int (ii a) :: r) := by
  subst hq
  have h0 : -2147483648 ≤ (0 : Int) ∧ (0 : Int) < 2147483648 := by omega
  intro H locs ls hP hS hl
  exact lv_if_eq E.1 E.2.1 hdg ht (by rw [← ii_0]; exact (fun z => kt ((ii_eq ha h0).mp z) H locs ls hP hS hl)) (by rw [← ii_0]; exact (fun z => kf (fun z' => z ((ii_eq ha h0).mpr z')) H locs ls hP hS hl))
theorem x_icmp_ne (E : EN R ce sl p s m args meth c cc nL ret Ts own D tys Wd al A) {a b : Int} {off : Int} {tgt : Nat} (hdg : decode cc pc = .ok (.if_icmp .ne off, 3)) (ht : (pc : Int) + off = (tgt : Int)) (hq : pc + 3 = q) (ha : -2147483648 ≤ a ∧ a < 2147483648) (hb' : -2147483648 ≤ b ∧ b < 2147483648) (kt : ¬ a = b → XJ p l e R s m args below meth c D Wd A nL Q ce sl st tgt lv r) (kf : ¬ (¬ a = b) → XJ p l e R s m args below meth c D Wd A nL Q ce sl st q lv r) : XJ p l e R s m args below meth c D Wd A nL Q ce sl st pc lv (.int (ii b) :: .int (ii a) :: r) := by
  subst hq
  intro H locs ls hP hS hl
  exact lv_icmp_ne E.1 E.2.1 hdg ht (fun z => kt (fun z' => z ((ii_eq ha hb').mpr z')) H locs ls hP hS hl) (fun z => kf (fun z' => z' ((ii_eq ha hb').mp z)) H locs ls hP hS hl)
theorem x_if_ne (E : EN R ce sl p s m args meth c cc nL ret Ts own D tys Wd al A) {a : Int} {off : Int} {tgt : Nat} (hdg : decode cc pc = .ok (.ifCond .ne off, 3)) (ht : (pc : Int) + off = (tgt : Int)) (hq : pc + 3 = q) (ha : -2147483648 ≤ a ∧ a < 2147483648) (kt : ¬ a = 0 → XJ p l e R s m args below meth c D Wd A nL Q ce sl st tgt lv r) (kf : ¬ (¬ a = 0) → XJ p l e R s m args below meth c D Wd A nL Q ce sl st q lv r) : XJ p l e R s m args below meth c D Wd A nL Q ce sl st pc lv (.int (ii a) :: r) := by
  subst hq
  have h0 : -2147483648 ≤ (0 : Int) ∧ (0 : Int) < 2147483648 := by omega
  intro H locs ls hP hS hl
  exact lv_if_ne E.1 E.2.1 hdg ht (by rw [← ii_0]; exact (fun z => kt (fun z' => z ((ii_eq ha h0).mpr z')) H locs ls hP hS hl)) (by rw [← ii_0]; exact (fun z => kf (fun z' => z' ((ii_eq ha h0).mp z)) H locs ls hP hS hl))
theorem x_icmp_lt (E : EN R ce sl p s m args meth c cc nL ret Ts own D tys Wd al A) {a b : Int} {off : Int} {tgt : Nat} (hdg : decode cc pc = .ok (.if_icmp .lt off, 3)) (ht : (pc : Int) + off = (tgt : Int)) (hq : pc + 3 = q) (ha : -2147483648 ≤ a ∧ a < 2147483648) (hb' : -2147483648 ≤ b ∧ b < 2147483648) (kt : a < b → XJ p l e R s m args below meth c D Wd A nL Q ce sl st tgt lv r) (kf : ¬ (a < b) → XJ p l e R s m args below meth c D Wd A nL Q ce sl st q lv r) : XJ p l e R s m args below meth c D Wd A nL Q ce sl st pc lv (.int (ii b) :: .int (ii a) :: r) := by
  subst hq
  intro H locs ls hP hS hl
  exact lv_icmp_lt E.1 E.2.1 hdg ht (fun z => kt ((ii_lt ha hb').mp z) H locs ls hP hS hl) (fun z => kf (fun z' => z ((ii_lt ha hb').mpr z')) H locs ls hP hS hl)
theorem x_if_lt (E : EN R ce sl p s m args meth c cc nL ret Ts own D tys Wd al A) {a : Int} {off : Int} {tgt : Nat} (hdg : decode cc pc = .ok (.ifCond .lt off, 3)) (ht : (pc : Int) + off = (tgt : Int)) (hq : pc + 3 = q) (ha : -2147483648 ≤ a ∧ a < 2147483648) (kt : a < 0 → XJ p l e R s m args below meth c D Wd A nL Q ce sl st tgt lv r) (kf : ¬ (a < 0) → XJ p l e R s m args below meth c D Wd A nL Q ce sl st q lv r) : XJ p l e R s m args below meth c D Wd A nL Q ce sl st pc lv (.int (ii a) :: r) := by
  subst hq
  have h0 : -2147483648 ≤ (0 : Int) ∧ (0 : Int) < 2147483648 := by omega
  intro H locs ls hP hS hl
  exact lv_if_lt E.1 E.2.1 hdg ht (by rw [← ii_0]; exact (fun z => kt ((ii_lt ha h0).mp z) H locs ls hP hS hl)) (by rw [← ii_0]; exact (fun z => kf (fun z' => z ((ii_lt ha h0).mpr z')) H locs ls hP hS hl))
theorem x_icmp_ge (E : EN R ce sl p s m args meth c cc nL ret Ts own D tys Wd al A) {a b : Int} {off : Int} {tgt : Nat} (hdg : decode cc pc = .ok (.if_icmp .ge off, 3)) (ht : (pc : Int) + off = (tgt : Int)) (hq : pc + 3 = q) (ha : -2147483648 ≤ a ∧ a < 2147483648) (hb' : -2147483648 ≤ b ∧ b < 2147483648) (kt : b ≤ a → XJ p l e R s m args below meth c D Wd A nL Q ce sl st tgt lv r) (kf : ¬ (b ≤ a) → XJ p l e R s m args below meth c D Wd A nL Q ce sl st q lv r) : XJ p l e R s m args below meth c D Wd A nL Q ce sl st pc lv (.int (ii b) :: .int (ii a) :: r) := by
  subst hq
  intro H locs ls hP hS hl
  exact lv_icmp_ge E.1 E.2.1 hdg ht (fun z => kt ((ii_le hb' ha).mp z) H locs ls hP hS hl) (fun z => kf (fun z' => z ((ii_le hb' ha).mpr z')) H locs ls hP hS hl)
theorem x_if_ge (E : EN R ce sl p s m args meth c cc nL ret Ts own D tys Wd al A) {a : Int} {off : Int} {tgt : Nat} (hdg : decode cc pc = .ok (.ifCond .ge off, 3)) (ht : (pc : Int) + off = (tgt : Int)) (hq : pc + 3 = q) (ha : -2147483648 ≤ a ∧ a < 2147483648) (kt : 0 ≤ a → XJ p l e R s m args below meth c D Wd A nL Q ce sl st tgt lv r) (kf : ¬ (0 ≤ a) → XJ p l e R s m args below meth c D Wd A nL Q ce sl st q lv r) : XJ p l e R s m args below meth c D Wd A nL Q ce sl st pc lv (.int (ii a) :: r) := by
  subst hq
  have h0 : -2147483648 ≤ (0 : Int) ∧ (0 : Int) < 2147483648 := by omega
  intro H locs ls hP hS hl
  exact lv_if_ge E.1 E.2.1 hdg ht (by rw [← ii_0]; exact (fun z => kt ((ii_le h0 ha).mp z) H locs ls hP hS hl)) (by rw [← ii_0]; exact (fun z => kf (fun z' => z ((ii_le h0 ha).mpr z')) H locs ls hP hS hl))
theorem x_icmp_gt (E : EN R ce sl p s m args meth c cc nL ret Ts own D tys Wd al A) {a b : Int} {off : Int} {tgt : Nat} (hdg : decode cc pc = .ok (.if_icmp .gt off, 3)) (ht : (pc : Int) + off = (tgt : Int)) (hq : pc + 3 = q) (ha : -2147483648 ≤ a ∧ a < 2147483648) (hb' : -2147483648 ≤ b ∧ b < 2147483648) (kt : b < a → XJ p l e R s m args below meth c D Wd A nL Q ce sl st tgt lv r) (kf : ¬ (b < a) → XJ p l e R s m args below meth c D Wd A nL Q ce sl st q lv r) : XJ p l e R s m args below meth c D Wd A nL Q ce sl st pc lv (.int (ii b) :: .int (ii a) :: r) := by
  subst hq
  intro H locs ls hP hS hl
  exact lv_icmp_gt E.1 E.2.1 hdg ht (fun z => kt ((ii_lt hb' ha).mp z) H locs ls hP hS hl) (fun z => kf (fun z' => z ((ii_lt hb' ha).mpr z')) H locs ls hP hS hl)
theorem x_if_gt (E : EN R ce sl p s m args meth c cc nL ret Ts own D tys Wd al A) {a : Int} {off : Int} {tgt : Nat} (hdg : decode cc pc = .ok (.ifCond .gt off, 3)) (ht : (pc : Int) + off = (tgt : Int)) (hq : pc + 3 = q) (ha : -2147483648 ≤ a ∧ a < 2147483648) (kt : 0 < a → XJ p l e R s m args below meth c D Wd A nL Q ce sl st tgt lv r) (kf : ¬ (0 < a) → XJ p l e R s m args below meth c D Wd A nL Q ce sl st q lv r) : XJ p l e R s m args below meth c D Wd A nL Q ce sl st pc lv (.int (ii a) :: r) := by
  subst hq
  have h0 : -2147483648 ≤ (0 : Int) ∧ (0 : Int) < 2147483648 := by omega
  intro H locs ls hP hS hl
  exact lv_if_gt E.1 E.2.1 hdg ht (by rw [← ii_0]; exact (fun z => kt ((ii_lt h0 ha).mp z) H locs ls hP hS hl)) (by rw [← ii_0]; exact (fun z => kf (fun z' => z ((ii_lt h0 ha).mpr z')) H locs ls hP hS hl))
theorem x_icmp_le (E : EN R ce sl p s m args meth c cc nL ret Ts own D tys Wd al A) {a b : Int} {off : Int} {tgt : Nat} (hdg : decode cc pc = .ok (.if_icmp .le off, 3)) (ht : (pc : Int) + off = (tgt : Int)) (hq : pc + 3 = q) (ha : -2147483648 ≤ a ∧ a < 2147483648) (hb' : -2147483648 ≤ b ∧ b < 2147483648) (kt : a ≤ b → XJ p l e R s m args below meth c D Wd A nL Q ce sl st tgt lv r) (kf : ¬ (a ≤ b) → XJ p l e R s m args below meth c D Wd A nL Q ce sl st q lv r) : XJ p l e R s m args below meth c D Wd A nL Q ce sl st pc lv (.int (ii b) :: .int (ii a) :: r) := by
  subst hq
  intro H locs ls hP hS hl
  exact lv_icmp_le E.1 E.2.1 hdg ht (fun z => kt ((ii_le ha hb').mp z) H locs ls hP hS hl) (fun z => kf (fun z' => z ((ii_le ha hb').mpr z')) H locs ls hP hS hl)
theorem x_if_le (E : EN R ce sl p s m args meth c cc nL ret Ts own D tys Wd al A) {a : Int} {off : Int} {tgt : Nat} (hdg : decode cc pc = .ok (.ifCond .le off, 3)) (ht : (pc : Int) + off = (tgt : Int)) (hq : pc + 3 = q) (ha : -2147483648 ≤ a ∧ a < 2147483648) (kt : a ≤ 0 → XJ p l e R s m args below meth c D Wd A nL Q ce sl st tgt lv r) (kf : ¬ (a ≤ 0) → XJ p l e R s m args below meth c D Wd A nL Q ce sl st q lv r) : XJ p l e R s m args below meth c D Wd A nL Q ce sl st pc lv (.int (ii a) :: r) := by
  subst hq
  have h0 : -2147483648 ≤ (0 : Int) ∧ (0 : Int) < 2147483648 := by omega
  intro H locs ls hP hS hl
  exact lv_if_le E.1 E.2.1 hdg ht (by rw [← ii_0]; exact (fun z => kt ((ii_le ha h0).mp z) H locs ls hP hS hl)) (by rw [← ii_0]; exact (fun z => kf (fun z' => z ((ii_le ha h0).mpr z')) H locs ls hP hS hl))
theorem x_goto (E : EN R ce sl p s m args meth c cc nL ret Ts own D tys Wd al A) {off : Int} {tgt : Nat} (hdg : decode cc pc = .ok (.goto off, 3)) (ht : (pc : Int) + off = (tgt : Int)) (kk : XJ p l e R s m args below meth c D Wd A nL Q ce sl st tgt lv r) : XJ p l e R s m args below meth c D Wd A nL Q ce sl st pc lv r := by
  intro H locs ls hP hS hl
  exact lv_goto E.1 E.2.1 hdg ht (kk H locs ls hP hS hl)
theorem x_ifnonnull (E : EN R ce sl p s m args meth c cc nL ret Ts own D tys Wd al A) {x : Nat} {off : Int} {tgt : Nat} (hdg : decode cc pc = .ok (.ifnonnull off, 3)) (ht : (pc : Int) + off = (tgt : Int)) (kk : XJ p l e R s m args below meth c D Wd A nL Q ce sl st tgt lv r) : XJ p l e R s m args below meth c D Wd A nL Q ce sl st pc lv (.ref x :: r) := by
  intro H locs ls hP hS hl
  exact lv_ifnonnull E.1 E.2.1 hdg ht (kk H locs ls hP hS hl)
theorem x_ifnonnullN (E : EN R ce sl p s m args meth c cc nL ret Ts own D tys Wd al A) {off : Int} (hdg : decode cc pc = .ok (.ifnonnull off, 3)) (hq : pc + 3 = q) (kk : XJ p l e R s m args below meth c D Wd A nL Q ce sl st q lv r) : XJ p l e R s m args below meth c D Wd A nL Q ce sl st pc lv (.null :: r) := by
  subst hq
  intro H locs ls hP hS hl
  exact lv_ifnonnullN E.1 E.2.1 hdg (kk H locs ls hP hS hl)
theorem x_get (E : EN R ce sl p s m args meth c cc nL ret Ts own D tys Wd al A) {C : String} {T : u_T} {N ci ix a : Nat} (hin : ∀ w ∈ u_ws C T N, w ∈ Ts) (q0 : Nat) {fs : List Value} (he : (Wd st)[q0]? = some (a, .inr (ci, fs))) (hc : vwCl[ci]? = some (C, T, N)) (k : Nat) (hk : k < N) (hlink : Cond.fieldLink own ix (T k).1 (T k).2.1 (T k).2.2.1 ∈ Ts) {v : Value} (hv : fs[k]? = some v) (hdg : decode cc pc = .ok (.getfield ix, 3)) (hq : pc + 3 = q) (kk : XJ p l e R s m args below meth c D Wd A nL Q ce sl st q lv (v :: r)) : XJ p l e R s m args below meth c D Wd A nL Q ce sl st pc lv (.ref a :: r) := by
  subst hq
  intro H locs ls hP hS hl
  exact va_get E.1 E.2.1 E.2.2.2.2.2.2.1 hin E.2.2.2.2.2.1 E.2.2.2.2.2.2.2.1 hP q0 he hc k hk (E.2.2.2.2.2.2.1 _ hlink) (fun _ h => h) hv hdg (kk H locs ls hP hS hl)
theorem x_put (E : EN R ce sl p s m args meth c cc nL ret Ts own D tys Wd al A) {C : String} {T : u_T} {N ci ix a : Nat} (hin : ∀ w ∈ u_ws C T N, w ∈ Ts) (ty0 : Nat → FieldType) (hty : ∀ k, k < N → parseFieldDescriptor (T k).2.2.1 = some (ty0 k)) (hnm : ∀ a, a < N → ∀ b, b < N → a ≠ b → (T a).2.1 ≠ (T b).2.1) (q0 : Nat) {fs : List Value} (he : (Wd st)[q0]? = some (a, .inr (ci, fs))) (hc : vwCl[ci]? = some (C, T, N)) (k : Nat) (hk : k < N) (hlink : Cond.fieldLink own ix (T k).1 (T k).2.1 (T k).2.2.1 ∈ Ts) (hfin : (T k).2.2.2 = false) {ty : FieldType} {v : Value} (hd : parseFieldDescriptor (T k).2.2.1 = some ty) (hn : narrow ty v = v) (hfit : fits ty v = true) (hl9 : k < fs.length) (hdg : decode cc pc = .ok (.putfield ix, 3)) (hset : (Wd st).set q0 (a, .inr (ci, fs.set k v)) = Wd st') (hq : pc + 3 = q) (kk : XJ p l e R s m args below meth c D Wd A nL Q ce sl st' q lv r) : XJ p l e R s m args below meth c D Wd A nL Q ce sl st pc lv (v :: .ref a :: r) := by
  subst hq
  intro H locs ls hP hS hl
  exact va_put E.1 E.2.1 E.2.2.2.2.2.2.1 hin ty0 hty hnm E.2.2.2.2.2.1 E.2.2.2.2.2.2.2.1 hP (E.2.2.2.2.2.2.2.2.1 st) hS q0 he hc k hk (E.2.2.2.2.2.2.1 _ hlink) (fun _ h => h) hfin hd hn hfit hl9 hdg (fun H1 locs1 hP1 hD1 hS1 => kk H1 locs1 ls (by rw [← hset]; exact hP1) hS1 hl)
theorem x_iald (E : EN R ce sl p s m args meth c cc nL ret Ts own D tys Wd al A) {cA : ClassId} {n a : Nat} (q0 : Nat) {f : Int → Int} (ha : (Wd st)[q0]? = some (a, .inl (cA, n, .inl (fun k => ii (f (k : Int)))))) (t0 : Nat) (ht : tys[t0]? = some (cA, .int)) {z : Int} (h0 : 0 ≤ z) (h1 : z < (n : Int)) (hn : n < 2147483648) (hdg : decode cc pc = .ok (.iaload, 1)) (hq : pc + 1 = q) (kk : XJ p l e R s m args below meth c D Wd A nL Q ce sl st q lv (.int (ii (f z)) :: r)) : XJ p l e R s m args below meth c D Wd A nL Q ce sl st pc lv (.int (ii z) :: .ref a :: r) := by
  subst hq
  intro H locs ls hP hS hl
  refine va_iald E.1 E.2.1 E.2.2.2.2.2.2.2.1 hP q0 t0 ha ht (ii_in h0 h1 hn) hdg ?_
  have e1 : (((ii z).toNatClampNeg : Nat) : Int) = z := by rw [ii_cl h0 (by omega)]; omega
  show W p l e R s m args below meth c H locs ce sl Q (F0 m (pc + 1) ls (.int (ii (f (((ii z).toNatClampNeg : Nat) : Int))) :: r))
  rw [e1]
  exact (kk H locs ls hP hS hl)
theorem x_bald (E : EN R ce sl p s m args meth c cc nL ret Ts own D tys Wd al A) {cA : ClassId} {n a : Nat} (q0 : Nat) {f : Int → Int} (ha : (Wd st)[q0]? = some (a, .inl (cA, n, .inl (fun k => ii (f (k : Int)))))) (t0 : Nat) (ht : tys[t0]? = some (cA, .byte)) {z : Int} (h0 : 0 ≤ z) (h1 : z < (n : Int)) (hn : n < 2147483648) (hdg : decode cc pc = .ok (.baload, 1)) (hq : pc + 1 = q) (kk : XJ p l e R s m args below meth c D Wd A nL Q ce sl st q lv (.int (ii (f z)) :: r)) : XJ p l e R s m args below meth c D Wd A nL Q ce sl st pc lv (.int (ii z) :: .ref a :: r) := by
  subst hq
  intro H locs ls hP hS hl
  refine va_bald E.1 E.2.1 E.2.2.2.2.2.2.2.1 hP q0 t0 ha ht (ii_in h0 h1 hn) hdg ?_
  have e1 : (((ii z).toNatClampNeg : Nat) : Int) = z := by rw [ii_cl h0 (by omega)]; omega
  show W p l e R s m args below meth c H locs ce sl Q (F0 m (pc + 1) ls (.int (ii (f (((ii z).toNatClampNeg : Nat) : Int))) :: r))
  rw [e1]
  exact (kk H locs ls hP hS hl)
theorem x_lald (E : EN R ce sl p s m args meth c cc nL ret Ts own D tys Wd al A) {cA : ClassId} {n a : Nat} (q0 : Nat) {f : Int → Int} (ha : (Wd st)[q0]? = some (a, .inl (cA, n, .inr (.inl (fun k => jj (f (k : Int))))))) (t0 : Nat) (ht : tys[t0]? = some (cA, .long)) {z : Int} (h0 : 0 ≤ z) (h1 : z < (n : Int)) (hn : n < 2147483648) (hdg : decode cc pc = .ok (.laload, 1)) (hq : pc + 1 = q) (kk : XJ p l e R s m args below meth c D Wd A nL Q ce sl st q lv (.long (jj (f z)) :: r)) : XJ p l e R s m args below meth c D Wd A nL Q ce sl st pc lv (.int (ii z) :: .ref a :: r) := by
  subst hq
  intro H locs ls hP hS hl
  refine va_lald E.1 E.2.1 E.2.2.2.2.2.2.2.1 hP q0 t0 ha ht (ii_in h0 h1 hn) hdg ?_
  have e1 : (((ii z).toNatClampNeg : Nat) : Int) = z := by rw [ii_cl h0 (by omega)]; omega
  show W p l e R s m args below meth c H locs ce sl Q (F0 m (pc + 1) ls (.long (jj (f (((ii z).toNatClampNeg : Nat) : Int))) :: r))
  rw [e1]
  exact (kk H locs ls hP hS hl)
theorem x_aald (E : EN R ce sl p s m args meth c cc nL ret Ts own D tys Wd al A) {cA : ClassId} {C : String} {n a : Nat} (q0 : Nat) {f : Nat → Option Nat} (ha : (Wd st)[q0]? = some (a, .inl (cA, n, .inr (.inr (.inr (.inr f)))))) (t0 : Nat) (ht : tys[t0]? = some (cA, .object C)) (j : Nat) {b : Nat} (h1 : j < n) (hn : n < 2147483648) (hf : f j = some b) (hdg : decode cc pc = .ok (.aaload, 1)) (hq : pc + 1 = q) (kk : XJ p l e R s m args below meth c D Wd A nL Q ce sl st q lv (.ref b :: r)) : XJ p l e R s m args below meth c D Wd A nL Q ce sl st pc lv (.int (ii (j : Int)) :: .ref a :: r) := by
  subst hq
  intro H locs ls hP hS hl
  refine va_aldq E.1 E.2.1 E.2.2.2.2.2.2.2.1 hP q0 t0 ha ht (ii_in (by omega) (by omega) hn) hdg ?_
  rw [ii_cl (by omega) (by omega), show ((j : Int)).toNat = j from by omega, hf]
  exact (kk H locs ls hP hS hl)
theorem x_iast (E : EN R ce sl p s m args meth c cc nL ret Ts own D tys Wd al A) {cA : ClassId} {n a : Nat} (q0 : Nat) {f : Int → Int} (ha : (Wd st)[q0]? = some (a, .inl (cA, n, .inl (fun k => ii (f (k : Int)))))) (t0 : Nat) (ht : tys[t0]? = some (cA, .int)) {z v : Int} (h0 : 0 ≤ z) (h1 : z < (n : Int)) (hn : n < 2147483648) (hdg : decode cc pc = .ok (.iastore, 1)) (hset : (Wd st).set q0 (a, .inl (cA, n, .inl (fun k => ii (zup f z v (k : Int))))) = Wd st') (hq : pc + 1 = q) (kk : XJ p l e R s m args below meth c D Wd A nL Q ce sl st' q lv r) : XJ p l e R s m args below meth c D Wd A nL Q ce sl st pc lv (.int (ii v) :: .int (ii z) :: .ref a :: r) := by
  subst hq
  intro H locs ls hP hS hl
  refine va_iast E.1 E.2.1 E.2.2.2.2.2.2.2.1 hP (E.2.2.2.2.2.2.2.2.1 st) hS q0 t0 ha ht (ii_in h0 h1 hn) hdg (fun H1 locs1 hP1 hD1 hS1 => ?_)
  rw [upd_ii f v h0 (by omega), hset] at hP1
  exact kk H1 locs1 ls hP1 hS1 hl
theorem x_bast (E : EN R ce sl p s m args meth c cc nL ret Ts own D tys Wd al A) {cA : ClassId} {n a : Nat} (q0 : Nat) {f : Int → Int} (ha : (Wd st)[q0]? = some (a, .inl (cA, n, .inl (fun k => ii (f (k : Int)))))) (t0 : Nat) (ht : tys[t0]? = some (cA, .byte)) {z v : Int} (h0 : 0 ≤ z) (h1 : z < (n : Int)) (hn : n < 2147483648) (h2 : 0 ≤ v) (h3 : v < 128) (hdg : decode cc pc = .ok (.bastore, 1)) (hset : (Wd st).set q0 (a, .inl (cA, n, .inl (fun k => ii (zup f z v (k : Int))))) = Wd st') (hq : pc + 1 = q) (kk : XJ p l e R s m args below meth c D Wd A nL Q ce sl st' q lv r) : XJ p l e R s m args below meth c D Wd A nL Q ce sl st pc lv (.int (ii v) :: .int (ii z) :: .ref a :: r) := by
  subst hq
  intro H locs ls hP hS hl
  refine va_bast E.1 E.2.1 E.2.2.2.2.2.2.2.1 hP (E.2.2.2.2.2.2.2.2.1 st) hS q0 t0 ha ht (ii_in h0 h1 hn) hdg (fun H1 locs1 hP1 hD1 hS1 => ?_)
  rw [vp_nar_byte, ii_byteZ h2 h3, upd_ii f v h0 (by omega), hset] at hP1
  exact kk H1 locs1 ls hP1 hS1 hl
theorem x_last (E : EN R ce sl p s m args meth c cc nL ret Ts own D tys Wd al A) {cA : ClassId} {n a : Nat} (q0 : Nat) {f : Int → Int} (ha : (Wd st)[q0]? = some (a, .inl (cA, n, .inr (.inl (fun k => jj (f (k : Int))))))) (t0 : Nat) (ht : tys[t0]? = some (cA, .long)) {z v : Int} (h0 : 0 ≤ z) (h1 : z < (n : Int)) (hn : n < 2147483648) (hdg : decode cc pc = .ok (.lastore, 1)) (hset : (Wd st).set q0 (a, .inl (cA, n, .inr (.inl (fun k => jj (zup f z v (k : Int)))))) = Wd st') (hq : pc + 1 = q) (kk : XJ p l e R s m args below meth c D Wd A nL Q ce sl st' q lv r) : XJ p l e R s m args below meth c D Wd A nL Q ce sl st pc lv (.long (jj v) :: .int (ii z) :: .ref a :: r) := by
  subst hq
  intro H locs ls hP hS hl
  refine va_last E.1 E.2.1 E.2.2.2.2.2.2.2.1 hP (E.2.2.2.2.2.2.2.2.1 st) hS q0 t0 ha ht (ii_in h0 h1 hn) hdg (fun H1 locs1 hP1 hD1 hS1 => ?_)
  rw [updL_jj f v h0 (by omega), hset] at hP1
  exact kk H1 locs1 ls hP1 hS1 hl
theorem x_alen (E : EN R ce sl p s m args meth c cc nL ret Ts own D tys Wd al A) {cA : ClassId} {n a : Nat} {f : ((Nat → Int32) ⊕ (Nat → Int64) ⊕ (Nat → UInt32) ⊕ (Nat → UInt64) ⊕ (Nat → Option Nat))} (q0 : Nat) (ha : (Wd st)[q0]? = some (a, .inl (cA, n, f))) {ty : FieldType} (t0 : Nat) (ht : tys[t0]? = some (cA, ty)) (hdg : decode cc pc = .ok (.arraylength, 1)) (hq : pc + 1 = q) (kk : XJ p l e R s m args below meth c D Wd A nL Q ce sl st q lv (.int (ii (n : Int)) :: r)) : XJ p l e R s m args below meth c D Wd A nL Q ce sl st pc lv (.ref a :: r) := by
  subst hq
  intro H locs ls hP hS hl
  exact va_alen E.1 E.2.1 E.2.2.2.2.2.2.2.1 hP q0 t0 ha ht (ii_nI n) hdg (kk H locs ls hP hS hl)
theorem x_max (E : EN R ce sl p s m args meth c cc nL ret Ts own D tys Wd al A) {ix : Nat} {a b : Int} (h1 : Cond.methodLink own ix Lib.Math.max.name ∈ Ts) (h2 : Cond.static Lib.Math.max.name ∈ Ts) (h3 : Cond.initialized "java/lang/Math" ∈ Ts) (h4 : Cond.code Lib.Math.max.name Lib.Math.max.code 2 (some .int) ∈ Ts) (hf : 1 ≤ R.frames) (hlo : (r.map fun v => v.category).sum + 13 ≤ R.locals) (ha : -2147483648 ≤ a ∧ a < 2147483648) (hb' : -2147483648 ≤ b ∧ b < 2147483648) (hdg : decode cc pc = .ok (.invokestatic ix, 3)) (hq : pc + 3 = q) (kk : XJ p l e R s m args below meth c D Wd A nL Q ce sl st q lv (.int (ii (if a < b then b else a)) :: r)) : XJ p l e R s m args below meth c D Wd A nL Q ce sl st pc lv (.int (ii b) :: .int (ii a) :: r) := by
  subst hq
  intro H locs ls hP hS hl
  refine va_mmax E.1 E.2.1 ((E.2.2.1).trans hl.1.symm) E.2.2.2.2.2.1 (E.2.2.2.2.2.2.1 _ h1) (E.2.2.2.2.2.2.1 _ h2) (E.2.2.2.2.2.2.1 _ h3) (E.2.2.2.2.2.2.1 _ h4) hf hlo E.2.2.2.2.2.2.2.2.2.2.2.1 E.2.2.2.2.2.2.2.2.2.2.2.2.1 hdg ?_
  rw [ii_max a b ha hb']
  exact (kk H locs ls hP hS hl)
theorem x_abs (E : EN R ce sl p s m args meth c cc nL ret Ts own D tys Wd al A) {ix : Nat} {a : Int} (h1 : Cond.methodLink own ix Lib.Math.abs.name ∈ Ts) (h2 : Cond.static Lib.Math.abs.name ∈ Ts) (h3 : Cond.initialized "java/lang/Math" ∈ Ts) (h4 : Cond.code Lib.Math.abs.name Lib.Math.abs.code 1 (some .int) ∈ Ts) (hf : 1 ≤ R.frames) (hlo : (r.map fun v => v.category).sum + 13 ≤ R.locals) (ha : -2147483648 ≤ a ∧ a < 2147483648) (hdg : decode cc pc = .ok (.invokestatic ix, 3)) (hq : pc + 3 = q) (kk : XJ p l e R s m args below meth c D Wd A nL Q ce sl st q lv (.int (ii (if 0 ≤ a then a else -a)) :: r)) : XJ p l e R s m args below meth c D Wd A nL Q ce sl st pc lv (.int (ii a) :: r) := by
  subst hq
  intro H locs ls hP hS hl
  have h0 : -2147483648 ≤ (0 : Int) ∧ (0 : Int) < 2147483648 := by omega
  refine va_mabs E.1 E.2.1 ((E.2.2.1).trans hl.1.symm) E.2.2.2.2.2.1 (E.2.2.2.2.2.2.1 _ h1) (E.2.2.2.2.2.2.1 _ h2) (E.2.2.2.2.2.2.1 _ h3) (E.2.2.2.2.2.2.1 _ h4) hf hlo E.2.2.2.2.2.2.2.2.2.2.2.1 E.2.2.2.2.2.2.2.2.2.2.2.2.1 hdg ?_
  have e1 : (if 0 ≤ ii a then ii a else 0 - ii a) = ii (if 0 ≤ a then a else -a) := by
    rw [← ii_0]
    by_cases h : 0 ≤ a
    · rw [if_pos ((ii_le h0 ha).mpr h), if_pos h]
    · rw [if_neg (fun q => h ((ii_le h0 ha).mp q)), if_neg h, ii_sub]
      exact congrArg ii (by omega)
  rw [e1]
  exact (kk H locs ls hP hS hl)
theorem x_st (E : EN R ce sl p s m args meth c cc nL ret Ts own D tys Wd al A) (h : st = st') (kk : XJ p l e R s m args below meth c D Wd A nL Q ce sl st' pc lv r) : XJ p l e R s m args below meth c D Wd A nL Q ce sl st pc lv r := by rw [h]; exact kk
theorem x_lv (E : EN R ce sl p s m args meth c cc nL ret Ts own D tys Wd al A) (ks : List Nat) (h : lv_pick lv ks = lv') (kk : XJ p l e R s m args below meth c D Wd A nL Q ce sl st pc lv' r) : XJ p l e R s m args below meth c D Wd A nL Q ce sl st pc lv r := fun H locs ls hP hS hl => kk H locs ls hP hS (lv_sub hl ks h)
theorem x_ti {a b : Int} (h : a = b) (kk : XJ p l e R s m args below meth c D Wd A nL Q ce sl st pc lv (.int (ii b) :: r)) : XJ p l e R s m args below meth c D Wd A nL Q ce sl st pc lv (.int (ii a) :: r) := by rw [h]; exact kk
theorem x_tl {a b : Int} (h : a = b) (kk : XJ p l e R s m args below meth c D Wd A nL Q ce sl st pc lv (.long (jj b) :: r)) : XJ p l e R s m args below meth c D Wd A nL Q ce sl st pc lv (.long (jj a) :: r) := by rw [h]; exact kk
end XR
section XE
variable {σ : Type} {p : Program} {l : Launch} {e : Env} {R : Room} {s : State} {m : MethodId} {args : Array Value} {below : List Frame} {meth : Method} {c : Code} {cc : ByteArray} {nL : Nat} {ret : Option FieldType} {Ts : List Cond} {own : String} {D : va_G} {tys : List (ClassId × FieldType)} {Wd : σ → va_W} {al : List Nat} {A : Nat → Prop} {Q : State → Prop} {ce sl : Nat} {st st' : σ} {pc q : Nat} {lv lv' : List (Nat × Value)} {r stk : List Value}
theorem CXi.mk {σ : Type} {l : Launch} {y : MethodName} {ws ws' : List Cond} {rm : Room} {av : List Value} {D : va_G} {tys : List (ClassId × FieldType)} {Wd : σ → va_W} {al : List Nat} {st : σ} {post : Int → σ → Prop} {cc : ByteArray} {nL : Nat} {ret : Option FieldType} (hy : plainName y.cls = true) (hw : ws = Cond.code y cc nL ret :: ws') (hok : okW Wd al) (hlen : (lg_sl av).length ≤ nL) (lv : List (Nat × Value)) (hlv : lv_args 0 av = lv)
    (body : ∀ (p : Program) (e : Env) (s : State) (m : MethodId) (args : Array Value) (below : List Frame) (meth : Method) (c : Code) (A : Nat → Prop), EN (headSpec ws rm).room 0 0 p s m args meth c cc nL ret ws y.cls D tys Wd al A → XJ p l e (headSpec ws rm).room s m args below meth c D Wd A nL (MQ below (va_Qi (fun (r : Int32) (u : Int × σ) => r = ii u.1 ∧ post u.1 u.2) (fun u t => va_P D vwCl (Wd u.2) t.heap) A) args s 0 0 A) 0 0 st 0 lv []) : CXi l y ws rm av D tys Wd al st post := by
  intro sz
  refine Met.ofW (cc := cc) (maxL := nL) (ret := ret) hy hw ?_
  intro p e s m args below meth c s₁ B hml hv
  obtain ⟨rfl, hsz, hP, hK, hnw⟩ := hv
  subst hsz
  have hl := lv_entry av (n := nL) hlen
  rw [hlv] at hl
  rw [lg_entry_eq]
  exact body p e s m _ below meth c (mX al s.heap.size) ⟨B.exec, B.bytes, hml, B.returns, B.notSynchronized, findClass_of_methodNamed B.named, atoms_spec (ws := ws) B.pre, hK, fun st => hok.A _ st, fun q hq => Or.inl hq, fun q hq => Or.inr hq, Nat.zero_le _, Nat.zero_le _, hnw⟩ s.heap [] _ hP va_S.rf hl
theorem x_iret {post : Int → σ → Prop} (E : EN R 0 0 p s m args meth c cc nL ret Ts own D tys Wd al A) {z : Int} (hr : ret = some .int) (hp : post z st) (hdg : decode cc pc = .ok (.ireturn, 1)) : XJ p l e R s m args below meth c D Wd A nL (MQ below (va_Qi (fun (r : Int32) (u : Int × σ) => r = ii u.1 ∧ post u.1 u.2) (fun u t => va_P D vwCl (Wd u.2) t.heap) A) args s 0 0 A) 0 0 st pc lv [.int (ii z)] := by
  intro H locs ls hP hS hl
  exact W.iret E.1 E.2.1 ((E.2.2.2.1).trans hr) (fun t ht hW => ⟨⟨ii z, (z, st), rfl, ⟨rfl, hp⟩, (show va_P D vwCl (Wd st) t.heap by rw [ht]; exact hP)⟩, hS.F ht⟩) hS.2.2 hdg E.2.2.2.2.1
theorem x_zret {post : Int → σ → Prop} (E : EN R 0 0 p s m args meth c cc nL ret Ts own D tys Wd al A) {z : Int} {ty : FieldType} (hr : ret = some ty) (hn : narrow ty (.int (ii z)) = .int (ii z)) (hp : post z st) (hdg : decode cc pc = .ok (.ireturn, 1)) : XJ p l e R s m args below meth c D Wd A nL (MQ below (va_Qi (fun (r : Int32) (u : Int × σ) => r = ii u.1 ∧ post u.1 u.2) (fun u t => va_P D vwCl (Wd u.2) t.heap) A) args s 0 0 A) 0 0 st pc lv [.int (ii z)] := by
  intro H locs ls hP hS hl
  exact W.zret E.1 E.2.1 ((E.2.2.2.1).trans hr) hn (fun t ht hW => ⟨⟨ii z, (z, st), rfl, ⟨rfl, hp⟩, (show va_P D vwCl (Wd st) t.heap by rw [ht]; exact hP)⟩, hS.F ht⟩) hS.2.2 hdg E.2.2.2.2.1
theorem CXl.mk {σ : Type} {l : Launch} {y : MethodName} {ws ws' : List Cond} {rm : Room} {av : List Value} {D : va_G} {tys : List (ClassId × FieldType)} {Wd : σ → va_W} {al : List Nat} {st : σ} {post : Int → σ → Prop} {cc : ByteArray} {nL : Nat} {ret : Option FieldType} (hy : plainName y.cls = true) (hw : ws = Cond.code y cc nL ret :: ws') (hok : okW Wd al) (hlen : (lg_sl av).length ≤ nL) (lv : List (Nat × Value)) (hlv : lv_args 0 av = lv)
    (body : ∀ (p : Program) (e : Env) (s : State) (m : MethodId) (args : Array Value) (below : List Frame) (meth : Method) (c : Code) (A : Nat → Prop), EN (headSpec ws rm).room 0 0 p s m args meth c cc nL ret ws y.cls D tys Wd al A → XJ p l e (headSpec ws rm).room s m args below meth c D Wd A nL (MQ below (va_Ql (fun (r : Int64) (u : Int × σ) => r = jj u.1 ∧ post u.1 u.2) (fun u t => va_P D vwCl (Wd u.2) t.heap) A) args s 0 0 A) 0 0 st 0 lv []) : CXl l y ws rm av D tys Wd al st post := by
  intro sz
  refine Met.ofW (cc := cc) (maxL := nL) (ret := ret) hy hw ?_
  intro p e s m args below meth c s₁ B hml hv
  obtain ⟨rfl, hsz, hP, hK, hnw⟩ := hv
  subst hsz
  have hl := lv_entry av (n := nL) hlen
  rw [hlv] at hl
  rw [lg_entry_eq]
  exact body p e s m _ below meth c (mX al s.heap.size) ⟨B.exec, B.bytes, hml, B.returns, B.notSynchronized, findClass_of_methodNamed B.named, atoms_spec (ws := ws) B.pre, hK, fun st => hok.A _ st, fun q hq => Or.inl hq, fun q hq => Or.inr hq, Nat.zero_le _, Nat.zero_le _, hnw⟩ s.heap [] _ hP va_S.rf hl
theorem x_lret {post : Int → σ → Prop} (E : EN R 0 0 p s m args meth c cc nL ret Ts own D tys Wd al A) {z : Int} (hr : ret = some .long) (hp : post z st) (hdg : decode cc pc = .ok (.lreturn, 1)) : XJ p l e R s m args below meth c D Wd A nL (MQ below (va_Ql (fun (r : Int64) (u : Int × σ) => r = jj u.1 ∧ post u.1 u.2) (fun u t => va_P D vwCl (Wd u.2) t.heap) A) args s 0 0 A) 0 0 st pc lv [.long (jj z)] := by
  intro H locs ls hP hS hl
  exact W.lret E.1 E.2.1 ((E.2.2.2.1).trans hr) (fun t ht hW => ⟨⟨jj z, (z, st), rfl, ⟨rfl, hp⟩, (show va_P D vwCl (Wd st) t.heap by rw [ht]; exact hP)⟩, hS.F ht⟩) hS.2.2 hdg E.2.2.2.2.1
theorem CXv.mk {σ : Type} {l : Launch} {y : MethodName} {ws ws' : List Cond} {rm : Room} {av : List Value} {D : va_G} {tys : List (ClassId × FieldType)} {Wd : σ → va_W} {al : List Nat} {st : σ} {post : σ → Prop} {cc : ByteArray} {nL : Nat} {ret : Option FieldType} (hy : plainName y.cls = true) (hw : ws = Cond.code y cc nL ret :: ws') (hok : okW Wd al) (hlen : (lg_sl av).length ≤ nL) (lv : List (Nat × Value)) (hlv : lv_args 0 av = lv)
    (body : ∀ (p : Program) (e : Env) (s : State) (m : MethodId) (args : Array Value) (below : List Frame) (meth : Method) (c : Code) (A : Nat → Prop), EN (headSpec ws rm).room 0 0 p s m args meth c cc nL ret ws y.cls D tys Wd al A → XJ p l e (headSpec ws rm).room s m args below meth c D Wd A nL (MQ below (va_Qv (fun u : σ => post u) (fun u t => va_P D vwCl (Wd u) t.heap) A) args s 0 0 A) 0 0 st 0 lv []) : CXv l y ws rm av D tys Wd al st post := by
  intro sz
  refine Met.ofW (cc := cc) (maxL := nL) (ret := ret) hy hw ?_
  intro p e s m args below meth c s₁ B hml hv
  obtain ⟨rfl, hsz, hP, hK, hnw⟩ := hv
  subst hsz
  have hl := lv_entry av (n := nL) hlen
  rw [hlv] at hl
  rw [lg_entry_eq]
  exact body p e s m _ below meth c (mX al s.heap.size) ⟨B.exec, B.bytes, hml, B.returns, B.notSynchronized, findClass_of_methodNamed B.named, atoms_spec (ws := ws) B.pre, hK, fun st => hok.A _ st, fun q hq => Or.inl hq, fun q hq => Or.inr hq, Nat.zero_le _, Nat.zero_le _, hnw⟩ s.heap [] _ hP va_S.rf hl
theorem x_vret {post : σ → Prop} (E : EN R 0 0 p s m args meth c cc nL ret Ts own D tys Wd al A) (hr : ret = none) (hp : post st) (hdg : decode cc pc = .ok (.return_, 1)) : XJ p l e R s m args below meth c D Wd A nL (MQ below (va_Qv (fun u : σ => post u) (fun u t => va_P D vwCl (Wd u) t.heap) A) args s 0 0 A) 0 0 st pc lv [] := by
  intro H locs ls hP hS hl
  exact W.vret E.1 E.2.1 ((E.2.2.2.1).trans hr) (fun t ht hW => ⟨⟨st, rfl, hp, (show va_P D vwCl (Wd st) t.heap by rw [ht]; exact hP)⟩, hS.F ht⟩) hS.2.2 hdg E.2.2.2.2.1
theorem CXr.mk {σ : Type} {l : Launch} {y : MethodName} {ws ws' : List Cond} {rm : Room} {av : List Value} {D : va_G} {tys : List (ClassId × FieldType)} {Wd : σ → va_W} {al : List Nat} {st : σ} {post : Option Nat → σ → Prop} {cc : ByteArray} {nL : Nat} {ret : Option FieldType} (hy : plainName y.cls = true) (hw : ws = Cond.code y cc nL ret :: ws') (hok : okW Wd al) (hlen : (lg_sl av).length ≤ nL) (lv : List (Nat × Value)) (hlv : lv_args 0 av = lv)
    (body : ∀ (p : Program) (e : Env) (s : State) (m : MethodId) (args : Array Value) (below : List Frame) (meth : Method) (c : Code) (A : Nat → Prop), EN (headSpec ws rm).room 0 0 p s m args meth c cc nL ret ws y.cls D tys Wd al A → XJ p l e (headSpec ws rm).room s m args below meth c D Wd A nL (MQ below (va_Qq (fun (r : Option Nat) (u : σ) => post r u) (fun u t => va_P D vwCl (Wd u) t.heap) A) args s 0 0 A) 0 0 st 0 lv []) : CXr l y ws rm av D tys Wd al st post := by
  intro sz
  refine Met.ofW (cc := cc) (maxL := nL) (ret := ret) hy hw ?_
  intro p e s m args below meth c s₁ B hml hv
  obtain ⟨rfl, hsz, hP, hK, hnw⟩ := hv
  subst hsz
  have hl := lv_entry av (n := nL) hlen
  rw [hlv] at hl
  rw [lg_entry_eq]
  exact body p e s m _ below meth c (mX al s.heap.size) ⟨B.exec, B.bytes, hml, B.returns, B.notSynchronized, findClass_of_methodNamed B.named, atoms_spec (ws := ws) B.pre, hK, fun st => hok.A _ st, fun q hq => Or.inl hq, fun q hq => Or.inr hq, Nat.zero_le _, Nat.zero_le _, hnw⟩ s.heap [] _ hP va_S.rf hl
theorem x_aret {post : Option Nat → σ → Prop} (E : EN R 0 0 p s m args meth c cc nL ret Ts own D tys Wd al A) {b : Nat} {C : String} (hr : ret = some (.object C)) (hp : post (some b) st) (hdg : decode cc pc = .ok (.areturn, 1)) : XJ p l e R s m args below meth c D Wd A nL (MQ below (va_Qq (fun (r : Option Nat) (u : σ) => post r u) (fun u t => va_P D vwCl (Wd u) t.heap) A) args s 0 0 A) 0 0 st pc lv [.ref b] := by
  intro H locs ls hP hS hl
  exact W.aret E.1 E.2.1 ((E.2.2.2.1).trans hr) (Or.inl ⟨_, rfl⟩) (Or.inr ⟨_, rfl⟩) (fun t ht hW => ⟨⟨some b, st, rfl, hp, (show va_P D vwCl (Wd st) t.heap by rw [ht]; exact hP)⟩, hS.F ht⟩) hS.2.2 hdg E.2.2.2.2.1
theorem x_nret {post : Option Nat → σ → Prop} (E : EN R 0 0 p s m args meth c cc nL ret Ts own D tys Wd al A) {C : String} (hr : ret = some (.object C)) (hp : post none st) (hdg : decode cc pc = .ok (.areturn, 1)) : XJ p l e R s m args below meth c D Wd A nL (MQ below (va_Qq (fun (r : Option Nat) (u : σ) => post r u) (fun u t => va_P D vwCl (Wd u) t.heap) A) args s 0 0 A) 0 0 st pc lv [.null] := by
  intro H locs ls hP hS hl
  exact W.aret E.1 E.2.1 ((E.2.2.2.1).trans hr) (Or.inl ⟨_, rfl⟩) (Or.inl rfl) (fun t ht hW => ⟨⟨none, st, rfl, hp, (show va_P D vwCl (Wd st) t.heap by rw [ht]; exact hP)⟩, hS.F ht⟩) hS.2.2 hdg E.2.2.2.2.1
end XE
theorem mk_i {σ : Type} {l : Launch} {y : MethodName} {ws ws' : List Cond} {rm : Room} {av : List Value} {D : va_G} {tys : List (ClassId × FieldType)} {Wd : σ → va_W} {al : List Nat} {st : σ} {post : Int → σ → Prop} {cc : ByteArray} {nL : Nat}  (hy : plainName y.cls = true) (hw : ws = Cond.code y cc nL (some .int) :: ws') (hok : okW Wd al) (hlen : (lg_sl av).length ≤ nL) (lv : List (Nat × Value)) (hlv : lv_args 0 av = lv)
    (body : ∀ (p : Program) (e : Env) (s : State) (m : MethodId) (args : Array Value) (below : List Frame) (meth : Method) (c : Code) (A : Nat → Prop) (Q : State → Prop), EN rm 0 0 p s m args meth c cc nL (some .int) ws y.cls D tys Wd al A → (∀ (z : Int) (st : σ) (pc : Nat) (lv : List (Nat × Value)), decode cc pc = .ok (.ireturn, 1) → post z st → XJ p l e rm s m args below meth c D Wd A nL Q 0 0 st pc lv [.int (ii z)]) → XJ p l e rm s m args below meth c D Wd A nL Q 0 0 st 0 lv []) : CXi l y ws rm av D tys Wd al st post := by
  refine CXi.mk hy hw hok hlen lv hlv (fun p e s m args below meth c A E => ?_)
  exact body p e s m args below meth c A _ E (fun z st pc lv hdg hp => x_iret E rfl hp hdg)
theorem mk_z {σ : Type} {l : Launch} {y : MethodName} {ws ws' : List Cond} {rm : Room} {av : List Value} {D : va_G} {tys : List (ClassId × FieldType)} {Wd : σ → va_W} {al : List Nat} {st : σ} {post : Int → σ → Prop} {cc : ByteArray} {nL : Nat}  (hy : plainName y.cls = true) (hw : ws = Cond.code y cc nL (some .boolean) :: ws') (hok : okW Wd al) (hlen : (lg_sl av).length ≤ nL) (lv : List (Nat × Value)) (hlv : lv_args 0 av = lv)
    (body : ∀ (p : Program) (e : Env) (s : State) (m : MethodId) (args : Array Value) (below : List Frame) (meth : Method) (c : Code) (A : Nat → Prop) (Q : State → Prop), EN rm 0 0 p s m args meth c cc nL (some .boolean) ws y.cls D tys Wd al A → (∀ (z : Int) (st : σ) (pc : Nat) (lv : List (Nat × Value)), decode cc pc = .ok (.ireturn, 1) → (z = 0 ∨ z = 1) → post z st → XJ p l e rm s m args below meth c D Wd A nL Q 0 0 st pc lv [.int (ii z)]) → XJ p l e rm s m args below meth c D Wd A nL Q 0 0 st 0 lv []) : CXi l y ws rm av D tys Wd al st post := by
  refine CXi.mk hy hw hok hlen lv hlv (fun p e s m args below meth c A E => ?_)
  exact body p e s m args below meth c A _ E (fun z st pc lv hdg hz hp => x_zret E rfl (by rcases hz with rfl | rfl <;> decide) hp hdg)
theorem mk_l {σ : Type} {l : Launch} {y : MethodName} {ws ws' : List Cond} {rm : Room} {av : List Value} {D : va_G} {tys : List (ClassId × FieldType)} {Wd : σ → va_W} {al : List Nat} {st : σ} {post : Int → σ → Prop} {cc : ByteArray} {nL : Nat}  (hy : plainName y.cls = true) (hw : ws = Cond.code y cc nL (some .long) :: ws') (hok : okW Wd al) (hlen : (lg_sl av).length ≤ nL) (lv : List (Nat × Value)) (hlv : lv_args 0 av = lv)
    (body : ∀ (p : Program) (e : Env) (s : State) (m : MethodId) (args : Array Value) (below : List Frame) (meth : Method) (c : Code) (A : Nat → Prop) (Q : State → Prop), EN rm 0 0 p s m args meth c cc nL (some .long) ws y.cls D tys Wd al A → (∀ (z : Int) (st : σ) (pc : Nat) (lv : List (Nat × Value)), decode cc pc = .ok (.lreturn, 1) → post z st → XJ p l e rm s m args below meth c D Wd A nL Q 0 0 st pc lv [.long (jj z)]) → XJ p l e rm s m args below meth c D Wd A nL Q 0 0 st 0 lv []) : CXl l y ws rm av D tys Wd al st post := by
  refine CXl.mk hy hw hok hlen lv hlv (fun p e s m args below meth c A E => ?_)
  exact body p e s m args below meth c A _ E (fun z st pc lv hdg hp => x_lret E rfl hp hdg)
theorem mk_v {σ : Type} {l : Launch} {y : MethodName} {ws ws' : List Cond} {rm : Room} {av : List Value} {D : va_G} {tys : List (ClassId × FieldType)} {Wd : σ → va_W} {al : List Nat} {st : σ} {post : σ → Prop} {cc : ByteArray} {nL : Nat}  (hy : plainName y.cls = true) (hw : ws = Cond.code y cc nL none :: ws') (hok : okW Wd al) (hlen : (lg_sl av).length ≤ nL) (lv : List (Nat × Value)) (hlv : lv_args 0 av = lv)
    (body : ∀ (p : Program) (e : Env) (s : State) (m : MethodId) (args : Array Value) (below : List Frame) (meth : Method) (c : Code) (A : Nat → Prop) (Q : State → Prop), EN rm 0 0 p s m args meth c cc nL none ws y.cls D tys Wd al A → (∀ (st : σ) (pc : Nat) (lv : List (Nat × Value)), decode cc pc = .ok (.return_, 1) → post st → XJ p l e rm s m args below meth c D Wd A nL Q 0 0 st pc lv []) → XJ p l e rm s m args below meth c D Wd A nL Q 0 0 st 0 lv []) : CXv l y ws rm av D tys Wd al st post := by
  refine CXv.mk hy hw hok hlen lv hlv (fun p e s m args below meth c A E => ?_)
  exact body p e s m args below meth c A _ E (fun st pc lv hdg hp => x_vret E rfl hp hdg)
theorem mk_r {σ : Type} {l : Launch} {y : MethodName} {ws ws' : List Cond} {rm : Room} {av : List Value} {D : va_G} {tys : List (ClassId × FieldType)} {Wd : σ → va_W} {al : List Nat} {st : σ} {post : Option Nat → σ → Prop} {cc : ByteArray} {nL : Nat} {C : String} (hy : plainName y.cls = true) (hw : ws = Cond.code y cc nL (some (.object C)) :: ws') (hok : okW Wd al) (hlen : (lg_sl av).length ≤ nL) (lv : List (Nat × Value)) (hlv : lv_args 0 av = lv)
    (body : ∀ (p : Program) (e : Env) (s : State) (m : MethodId) (args : Array Value) (below : List Frame) (meth : Method) (c : Code) (A : Nat → Prop) (Q : State → Prop), EN rm 0 0 p s m args meth c cc nL (some (.object C)) ws y.cls D tys Wd al A → (∀ (b : Nat) (st : σ) (pc : Nat) (lv : List (Nat × Value)), decode cc pc = .ok (.areturn, 1) → post (some b) st → XJ p l e rm s m args below meth c D Wd A nL Q 0 0 st pc lv [.ref b]) → XJ p l e rm s m args below meth c D Wd A nL Q 0 0 st 0 lv []) : CXr l y ws rm av D tys Wd al st post := by
  refine CXr.mk hy hw hok hlen lv hlv (fun p e s m args below meth c A E => ?_)
  exact body p e s m args below meth c A _ E (fun b st pc lv hdg hp => x_aret E rfl hp hdg)
theorem mk_q {σ : Type} {l : Launch} {y : MethodName} {ws ws' : List Cond} {rm : Room} {av : List Value} {D : va_G} {tys : List (ClassId × FieldType)} {Wd : σ → va_W} {al : List Nat} {st : σ} {post : Option Nat → σ → Prop} {cc : ByteArray} {nL : Nat} {C : String} (hy : plainName y.cls = true) (hw : ws = Cond.code y cc nL (some (.object C)) :: ws') (hok : okW Wd al) (hlen : (lg_sl av).length ≤ nL) (lv : List (Nat × Value)) (hlv : lv_args 0 av = lv)
    (body : ∀ (p : Program) (e : Env) (s : State) (m : MethodId) (args : Array Value) (below : List Frame) (meth : Method) (c : Code) (A : Nat → Prop) (Q : State → Prop), EN rm 0 0 p s m args meth c cc nL (some (.object C)) ws y.cls D tys Wd al A → (∀ (b : Option Nat) (st : σ) (pc : Nat) (lv : List (Nat × Value)), decode cc pc = .ok (.areturn, 1) → post b st → XJ p l e rm s m args below meth c D Wd A nL Q 0 0 st pc lv [va_rf b]) → XJ p l e rm s m args below meth c D Wd A nL Q 0 0 st 0 lv []) : CXr l y ws rm av D tys Wd al st post := by
  refine CXr.mk hy hw hok hlen lv hlv (fun p e s m args below meth c A E => ?_)
  exact body p e s m args below meth c A _ E (fun b st pc lv hdg hp => by cases b with | none => exact x_nret E rfl hp hdg | some b => exact x_aret E rfl hp hdg)
theorem EN.nw {σ : Type} {R : Room} {ce sl : Nat} {p : Program} {s : State} {m : MethodId} {args : Array Value} {meth : Method} {c : Code} {cc : ByteArray} {nL : Nat} {ret : Option FieldType} {Ts : List Cond} {own : String} {D : va_G} {tys : List (ClassId × FieldType)} {Wd : σ → va_W} {al : List Nat} {A : Nat → Prop} (E : EN R ce sl p s m args meth c cc nL ret Ts own D tys Wd al A) : NW s := E.2.2.2.2.2.2.2.2.2.2.2.2.2
section XC
variable {σ : Type} {p : Program} {l : Launch} {e : Env} {R : Room} {s : State} {m : MethodId} {args : Array Value} {below : List Frame} {meth : Method} {c : Code} {cc : ByteArray} {nL : Nat} {ret : Option FieldType} {Ts : List Cond} {own : String} {D : va_G} {tys : List (ClassId × FieldType)} {Wd : σ → va_W} {al : List Nat} {A : Nat → Prop} {Q : State → Prop} {ce sl : Nat} {st st' : σ} {pc q : Nat} {lv lv' : List (Nat × Value)} {r stk : List Value}
theorem x_callVi (E : EN R ce sl p s m args meth c cc nL ret Ts own D tys Wd al A) {y : MethodName} {ws ws' : List Cond} {rm : Room} {As : List Value} {ix n maxL : Nat} {bytes : ByteArray} {rt : Option FieldType} {post : Int → σ → Prop} {b : Nat} {C : String} {T : u_T} {N ci : Nat} {fs : List Value} (hM : CXi l y ws rm (.ref b :: As) D tys Wd al st post) (hT : GoodIn Ts (wsV own ix C y ws)) (hw : ws = Cond.code y bytes maxL rt :: ws') (hrc : rm.cells = 0) (hrs : rm.slots = 0) (hd : y.cls = C ∧ y.cls ≠ "java/lang/invoke/MethodHandle" ∧ y.cls ≠ "java/lang/invoke/VarHandle" ∧ (parseMethodDescriptor y.desc).map (fun d => d.parameters.length) = some n) (hR : rm.frames + 1 ≤ R.frames ∧ 8 + (maxL + 11) + rm.locals ≤ R.locals) (q0 : Nat) (hrecv : (Wd st)[q0]? = some (b, .inr (ci, fs))) (hc : vwCl[ci]? = some (C, T, N)) (hn : As.length = n) (hst : stk = As.reverse ++ .ref b :: r) (hroom : (r.map fun v => v.category).sum ≤ 8) (hdg : decode cc pc = .ok (.invokevirtual ix, 3)) (hq : pc + 3 = q) (kk : ∀ (z : Int) (st1 : σ), post z st1 → XJ p l e R s m args below meth c D Wd A nL Q ce sl st1 q lv (.int (ii z) :: r)) : XJ p l e R s m args below meth c D Wd A nL Q ce sl st pc lv stk := by
  subst hq
  intro H locs ls hP hS hl
  refine va_calli (va_runV (As := As) (rest := r) (Ts := Ts) (own := own) ⟨E.1, E.2.1, E.2.2.1, E.2.2.2.2.2.1, E.2.2.2.2.2.2.1⟩ (hM H.size) (cwV n E.2.2.2.2.2.2.1 hT hw hrc hrs hd hR) ⟨kX_blind _ _ _ _ _, va_recv E.2.2.2.2.2.2.2.1 hP hc hrecv, fun U hU hW => ⟨rfl, by rw [hU], by rw [hU]; exact hP, va_K.moved hW.alike E.2.2.2.2.2.2.2.1, NW.warm hW E.2.2.2.2.2.2.2.2.2.2.2.2.2⟩⟩ rfl hn hl.1 hst (lv_room hroom) hdg ⟨by rw [Nat.add_zero]; exact E.2.2.2.2.2.2.2.2.2.2.2.1, by rw [Nat.add_zero]; exact E.2.2.2.2.2.2.2.2.2.2.2.2.1⟩) hS (fun q hq h => h.elim (E.2.2.2.2.2.2.2.2.2.1 q) (fun z => absurd z (Nat.not_le.mpr hq))) (fun q h => h.elim (E.2.2.2.2.2.2.2.2.2.1 q) (fun z => E.2.2.2.2.2.2.2.2.2.2.1 q (Nat.le_trans hS.1 z))) (fun r9 u t H1 locs1 ht hvm hw' hB hz1 hk1 hS1 => ?_)
  obtain ⟨z, st1⟩ := u
  obtain ⟨rfl, hp⟩ := hw'
  exact kk z st1 hp H1 locs1 ls (by rw [← ht]; exact hB) hS1 hl
theorem x_callVNi (E : EN R ce sl p s m args meth c cc nL ret Ts own D tys Wd al A) {y : MethodName} {ws ws' : List Cond} {rm : Room} {As : List Value} {ix n maxL : Nat} {bytes : ByteArray} {rt : Option FieldType} {post : Int → σ → Prop} {b : Nat} {C : String} {T : u_T} {N ci : Nat} {fs : List Value} {host : String} (hM : CXi l y ws rm (.ref b :: As) D tys Wd al st post) (hT : GoodIn Ts (ws)) (hw : ws = Cond.code y bytes maxL rt :: ws') (hrc : rm.cells = 0) (hrs : rm.slots = 0) (hl0 : va_Nw (.methodLinkNest own ix y host) s) (hini : Cond.initialized y.cls ∈ Ts) (hi1 : Cond.instanceMethod y ∈ Ts) (hi2 : Cond.selects C y y ∈ Ts) (hd : y.cls ≠ "java/lang/invoke/MethodHandle" ∧ y.cls ≠ "java/lang/invoke/VarHandle" ∧ (parseMethodDescriptor y.desc).map (fun d => d.parameters.length) = some n) (hR : rm.frames + 1 ≤ R.frames ∧ 8 + (maxL + 11) + rm.locals ≤ R.locals) (q0 : Nat) (hrecv : (Wd st)[q0]? = some (b, .inr (ci, fs))) (hc : vwCl[ci]? = some (C, T, N)) (hn : As.length = n) (hst : stk = As.reverse ++ .ref b :: r) (hroom : (r.map fun v => v.category).sum ≤ 8) (hdg : decode cc pc = .ok (.invokevirtual ix, 3)) (hq : pc + 3 = q) (kk : ∀ (z : Int) (st1 : σ), post z st1 → XJ p l e R s m args below meth c D Wd A nL Q ce sl st1 q lv (.int (ii z) :: r)) : XJ p l e R s m args below meth c D Wd A nL Q ce sl st pc lv stk := by
  subst hq
  intro H locs ls hP hS hl
  refine va_calli (va_runVN (As := As) (rest := r) (Ts := Ts) (own := own) ⟨E.1, E.2.1, E.2.2.1, E.2.2.2.2.2.1, E.2.2.2.2.2.2.1⟩ (hM H.size) ⟨va_cnB n E.2.2.2.2.2.2.1 hT hw hrc hrs hl0 (E.2.2.2.2.2.2.1 _ hini) hd hR, E.2.2.2.2.2.2.1 _ hi1, E.2.2.2.2.2.2.1 _ hi2⟩ ⟨kX_blind _ _ _ _ _, va_recv E.2.2.2.2.2.2.2.1 hP hc hrecv, fun U hU hW => ⟨rfl, by rw [hU], by rw [hU]; exact hP, va_K.moved hW.alike E.2.2.2.2.2.2.2.1, NW.warm hW E.2.2.2.2.2.2.2.2.2.2.2.2.2⟩⟩ rfl hn hl.1 hst (lv_room hroom) hdg ⟨by rw [Nat.add_zero]; exact E.2.2.2.2.2.2.2.2.2.2.2.1, by rw [Nat.add_zero]; exact E.2.2.2.2.2.2.2.2.2.2.2.2.1⟩) hS (fun q hq h => h.elim (E.2.2.2.2.2.2.2.2.2.1 q) (fun z => absurd z (Nat.not_le.mpr hq))) (fun q h => h.elim (E.2.2.2.2.2.2.2.2.2.1 q) (fun z => E.2.2.2.2.2.2.2.2.2.2.1 q (Nat.le_trans hS.1 z))) (fun r9 u t H1 locs1 ht hvm hw' hB hz1 hk1 hS1 => ?_)
  obtain ⟨z, st1⟩ := u
  obtain ⟨rfl, hp⟩ := hw'
  exact kk z st1 hp H1 locs1 ls (by rw [← ht]; exact hB) hS1 hl
theorem x_callSi (E : EN R ce sl p s m args meth c cc nL ret Ts own D tys Wd al A) {y : MethodName} {ws ws' : List Cond} {rm : Room} {As : List Value} {ix n maxL : Nat} {bytes : ByteArray} {rt : Option FieldType} {post : Int → σ → Prop} (hM : CXi l y ws rm As D tys Wd al st post) (hT : GoodIn Ts (wsS own ix y ws)) (hw : ws = Cond.code y bytes maxL rt :: ws') (hrc : rm.cells = 0) (hrs : rm.slots = 0) (hd : y.cls = own ∧ y.cls ≠ "java/lang/invoke/MethodHandle" ∧ y.cls ≠ "java/lang/invoke/VarHandle" ∧ (parseMethodDescriptor y.desc).map (fun d => d.parameters.length) = some n) (hR : rm.frames + 1 ≤ R.frames ∧ 8 + (maxL + 11) + rm.locals ≤ R.locals) (hn : As.length = n) (hst : stk = As.reverse ++ r) (hroom : (r.map fun v => v.category).sum ≤ 8) (hdg : decode cc pc = .ok (.invokestatic ix, 3)) (hq : pc + 3 = q) (kk : ∀ (z : Int) (st1 : σ), post z st1 → XJ p l e R s m args below meth c D Wd A nL Q ce sl st1 q lv (.int (ii z) :: r)) : XJ p l e R s m args below meth c D Wd A nL Q ce sl st pc lv stk := by
  subst hq
  intro H locs ls hP hS hl
  refine va_calli (va_runS (As := As) (rest := r) (Ts := Ts) (own := own) ⟨E.1, E.2.1, E.2.2.1, E.2.2.2.2.2.1, E.2.2.2.2.2.2.1⟩ (hM H.size) (cwS n E.2.2.2.2.2.2.1 hT hw hrc hrs hd hR) ⟨kX_blind _ _ _ _ _, fun U hU hW => ⟨rfl, by rw [hU], by rw [hU]; exact hP, va_K.moved hW.alike E.2.2.2.2.2.2.2.1, NW.warm hW E.2.2.2.2.2.2.2.2.2.2.2.2.2⟩⟩ rfl hn hl.1 hst (lv_room hroom) hdg ⟨by rw [Nat.add_zero]; exact E.2.2.2.2.2.2.2.2.2.2.2.1, by rw [Nat.add_zero]; exact E.2.2.2.2.2.2.2.2.2.2.2.2.1⟩) hS (fun q hq h => h.elim (E.2.2.2.2.2.2.2.2.2.1 q) (fun z => absurd z (Nat.not_le.mpr hq))) (fun q h => h.elim (E.2.2.2.2.2.2.2.2.2.1 q) (fun z => E.2.2.2.2.2.2.2.2.2.2.1 q (Nat.le_trans hS.1 z))) (fun r9 u t H1 locs1 ht hvm hw' hB hz1 hk1 hS1 => ?_)
  obtain ⟨z, st1⟩ := u
  obtain ⟨rfl, hp⟩ := hw'
  exact kk z st1 hp H1 locs1 ls (by rw [← ht]; exact hB) hS1 hl
theorem x_callSNi (E : EN R ce sl p s m args meth c cc nL ret Ts own D tys Wd al A) {y : MethodName} {ws ws' : List Cond} {rm : Room} {As : List Value} {ix n maxL : Nat} {bytes : ByteArray} {rt : Option FieldType} {post : Int → σ → Prop} {host : String} (hM : CXi l y ws rm As D tys Wd al st post) (hT : GoodIn Ts (ws)) (hw : ws = Cond.code y bytes maxL rt :: ws') (hrc : rm.cells = 0) (hrs : rm.slots = 0) (hl0 : va_Nw (.methodLinkNest own ix y host) s) (hini : Cond.initialized y.cls ∈ Ts) (hi1 : Cond.static y ∈ Ts) (hd : y.cls ≠ "java/lang/invoke/MethodHandle" ∧ y.cls ≠ "java/lang/invoke/VarHandle" ∧ (parseMethodDescriptor y.desc).map (fun d => d.parameters.length) = some n) (hR : rm.frames + 1 ≤ R.frames ∧ 8 + (maxL + 11) + rm.locals ≤ R.locals) (hn : As.length = n) (hst : stk = As.reverse ++ r) (hroom : (r.map fun v => v.category).sum ≤ 8) (hdg : decode cc pc = .ok (.invokestatic ix, 3)) (hq : pc + 3 = q) (kk : ∀ (z : Int) (st1 : σ), post z st1 → XJ p l e R s m args below meth c D Wd A nL Q ce sl st1 q lv (.int (ii z) :: r)) : XJ p l e R s m args below meth c D Wd A nL Q ce sl st pc lv stk := by
  subst hq
  intro H locs ls hP hS hl
  refine va_calli (va_runSN (As := As) (rest := r) (Ts := Ts) (own := own) ⟨E.1, E.2.1, E.2.2.1, E.2.2.2.2.2.1, E.2.2.2.2.2.2.1⟩ (hM H.size) ⟨va_cnB n E.2.2.2.2.2.2.1 hT hw hrc hrs hl0 (E.2.2.2.2.2.2.1 _ hini) hd hR, E.2.2.2.2.2.2.1 _ hi1, trivial⟩ ⟨kX_blind _ _ _ _ _, fun U hU hW => ⟨rfl, by rw [hU], by rw [hU]; exact hP, va_K.moved hW.alike E.2.2.2.2.2.2.2.1, NW.warm hW E.2.2.2.2.2.2.2.2.2.2.2.2.2⟩⟩ rfl hn hl.1 hst (lv_room hroom) hdg ⟨by rw [Nat.add_zero]; exact E.2.2.2.2.2.2.2.2.2.2.2.1, by rw [Nat.add_zero]; exact E.2.2.2.2.2.2.2.2.2.2.2.2.1⟩) hS (fun q hq h => h.elim (E.2.2.2.2.2.2.2.2.2.1 q) (fun z => absurd z (Nat.not_le.mpr hq))) (fun q h => h.elim (E.2.2.2.2.2.2.2.2.2.1 q) (fun z => E.2.2.2.2.2.2.2.2.2.2.1 q (Nat.le_trans hS.1 z))) (fun r9 u t H1 locs1 ht hvm hw' hB hz1 hk1 hS1 => ?_)
  obtain ⟨z, st1⟩ := u
  obtain ⟨rfl, hp⟩ := hw'
  exact kk z st1 hp H1 locs1 ls (by rw [← ht]; exact hB) hS1 hl
theorem x_callVl (E : EN R ce sl p s m args meth c cc nL ret Ts own D tys Wd al A) {y : MethodName} {ws ws' : List Cond} {rm : Room} {As : List Value} {ix n maxL : Nat} {bytes : ByteArray} {rt : Option FieldType} {post : Int → σ → Prop} {b : Nat} {C : String} {T : u_T} {N ci : Nat} {fs : List Value} (hM : CXl l y ws rm (.ref b :: As) D tys Wd al st post) (hT : GoodIn Ts (wsV own ix C y ws)) (hw : ws = Cond.code y bytes maxL rt :: ws') (hrc : rm.cells = 0) (hrs : rm.slots = 0) (hd : y.cls = C ∧ y.cls ≠ "java/lang/invoke/MethodHandle" ∧ y.cls ≠ "java/lang/invoke/VarHandle" ∧ (parseMethodDescriptor y.desc).map (fun d => d.parameters.length) = some n) (hR : rm.frames + 1 ≤ R.frames ∧ 8 + (maxL + 11) + rm.locals ≤ R.locals) (q0 : Nat) (hrecv : (Wd st)[q0]? = some (b, .inr (ci, fs))) (hc : vwCl[ci]? = some (C, T, N)) (hn : As.length = n) (hst : stk = As.reverse ++ .ref b :: r) (hroom : (r.map fun v => v.category).sum ≤ 8) (hdg : decode cc pc = .ok (.invokevirtual ix, 3)) (hq : pc + 3 = q) (kk : ∀ (z : Int) (st1 : σ), post z st1 → XJ p l e R s m args below meth c D Wd A nL Q ce sl st1 q lv (.long (jj z) :: r)) : XJ p l e R s m args below meth c D Wd A nL Q ce sl st pc lv stk := by
  subst hq
  intro H locs ls hP hS hl
  refine va_calll (va_runV (As := As) (rest := r) (Ts := Ts) (own := own) ⟨E.1, E.2.1, E.2.2.1, E.2.2.2.2.2.1, E.2.2.2.2.2.2.1⟩ (hM H.size) (cwV n E.2.2.2.2.2.2.1 hT hw hrc hrs hd hR) ⟨kX_blind _ _ _ _ _, va_recv E.2.2.2.2.2.2.2.1 hP hc hrecv, fun U hU hW => ⟨rfl, by rw [hU], by rw [hU]; exact hP, va_K.moved hW.alike E.2.2.2.2.2.2.2.1, NW.warm hW E.2.2.2.2.2.2.2.2.2.2.2.2.2⟩⟩ rfl hn hl.1 hst (lv_room hroom) hdg ⟨by rw [Nat.add_zero]; exact E.2.2.2.2.2.2.2.2.2.2.2.1, by rw [Nat.add_zero]; exact E.2.2.2.2.2.2.2.2.2.2.2.2.1⟩) hS (fun q hq h => h.elim (E.2.2.2.2.2.2.2.2.2.1 q) (fun z => absurd z (Nat.not_le.mpr hq))) (fun q h => h.elim (E.2.2.2.2.2.2.2.2.2.1 q) (fun z => E.2.2.2.2.2.2.2.2.2.2.1 q (Nat.le_trans hS.1 z))) (fun r9 u t H1 locs1 ht hvm hw' hB hz1 hk1 hS1 => ?_)
  obtain ⟨z, st1⟩ := u
  obtain ⟨rfl, hp⟩ := hw'
  exact kk z st1 hp H1 locs1 ls (by rw [← ht]; exact hB) hS1 hl
theorem x_callVNl (E : EN R ce sl p s m args meth c cc nL ret Ts own D tys Wd al A) {y : MethodName} {ws ws' : List Cond} {rm : Room} {As : List Value} {ix n maxL : Nat} {bytes : ByteArray} {rt : Option FieldType} {post : Int → σ → Prop} {b : Nat} {C : String} {T : u_T} {N ci : Nat} {fs : List Value} {host : String} (hM : CXl l y ws rm (.ref b :: As) D tys Wd al st post) (hT : GoodIn Ts (ws)) (hw : ws = Cond.code y bytes maxL rt :: ws') (hrc : rm.cells = 0) (hrs : rm.slots = 0) (hl0 : va_Nw (.methodLinkNest own ix y host) s) (hini : Cond.initialized y.cls ∈ Ts) (hi1 : Cond.instanceMethod y ∈ Ts) (hi2 : Cond.selects C y y ∈ Ts) (hd : y.cls ≠ "java/lang/invoke/MethodHandle" ∧ y.cls ≠ "java/lang/invoke/VarHandle" ∧ (parseMethodDescriptor y.desc).map (fun d => d.parameters.length) = some n) (hR : rm.frames + 1 ≤ R.frames ∧ 8 + (maxL + 11) + rm.locals ≤ R.locals) (q0 : Nat) (hrecv : (Wd st)[q0]? = some (b, .inr (ci, fs))) (hc : vwCl[ci]? = some (C, T, N)) (hn : As.length = n) (hst : stk = As.reverse ++ .ref b :: r) (hroom : (r.map fun v => v.category).sum ≤ 8) (hdg : decode cc pc = .ok (.invokevirtual ix, 3)) (hq : pc + 3 = q) (kk : ∀ (z : Int) (st1 : σ), post z st1 → XJ p l e R s m args below meth c D Wd A nL Q ce sl st1 q lv (.long (jj z) :: r)) : XJ p l e R s m args below meth c D Wd A nL Q ce sl st pc lv stk := by
  subst hq
  intro H locs ls hP hS hl
  refine va_calll (va_runVN (As := As) (rest := r) (Ts := Ts) (own := own) ⟨E.1, E.2.1, E.2.2.1, E.2.2.2.2.2.1, E.2.2.2.2.2.2.1⟩ (hM H.size) ⟨va_cnB n E.2.2.2.2.2.2.1 hT hw hrc hrs hl0 (E.2.2.2.2.2.2.1 _ hini) hd hR, E.2.2.2.2.2.2.1 _ hi1, E.2.2.2.2.2.2.1 _ hi2⟩ ⟨kX_blind _ _ _ _ _, va_recv E.2.2.2.2.2.2.2.1 hP hc hrecv, fun U hU hW => ⟨rfl, by rw [hU], by rw [hU]; exact hP, va_K.moved hW.alike E.2.2.2.2.2.2.2.1, NW.warm hW E.2.2.2.2.2.2.2.2.2.2.2.2.2⟩⟩ rfl hn hl.1 hst (lv_room hroom) hdg ⟨by rw [Nat.add_zero]; exact E.2.2.2.2.2.2.2.2.2.2.2.1, by rw [Nat.add_zero]; exact E.2.2.2.2.2.2.2.2.2.2.2.2.1⟩) hS (fun q hq h => h.elim (E.2.2.2.2.2.2.2.2.2.1 q) (fun z => absurd z (Nat.not_le.mpr hq))) (fun q h => h.elim (E.2.2.2.2.2.2.2.2.2.1 q) (fun z => E.2.2.2.2.2.2.2.2.2.2.1 q (Nat.le_trans hS.1 z))) (fun r9 u t H1 locs1 ht hvm hw' hB hz1 hk1 hS1 => ?_)
  obtain ⟨z, st1⟩ := u
  obtain ⟨rfl, hp⟩ := hw'
  exact kk z st1 hp H1 locs1 ls (by rw [← ht]; exact hB) hS1 hl
theorem x_callSl (E : EN R ce sl p s m args meth c cc nL ret Ts own D tys Wd al A) {y : MethodName} {ws ws' : List Cond} {rm : Room} {As : List Value} {ix n maxL : Nat} {bytes : ByteArray} {rt : Option FieldType} {post : Int → σ → Prop} (hM : CXl l y ws rm As D tys Wd al st post) (hT : GoodIn Ts (wsS own ix y ws)) (hw : ws = Cond.code y bytes maxL rt :: ws') (hrc : rm.cells = 0) (hrs : rm.slots = 0) (hd : y.cls = own ∧ y.cls ≠ "java/lang/invoke/MethodHandle" ∧ y.cls ≠ "java/lang/invoke/VarHandle" ∧ (parseMethodDescriptor y.desc).map (fun d => d.parameters.length) = some n) (hR : rm.frames + 1 ≤ R.frames ∧ 8 + (maxL + 11) + rm.locals ≤ R.locals) (hn : As.length = n) (hst : stk = As.reverse ++ r) (hroom : (r.map fun v => v.category).sum ≤ 8) (hdg : decode cc pc = .ok (.invokestatic ix, 3)) (hq : pc + 3 = q) (kk : ∀ (z : Int) (st1 : σ), post z st1 → XJ p l e R s m args below meth c D Wd A nL Q ce sl st1 q lv (.long (jj z) :: r)) : XJ p l e R s m args below meth c D Wd A nL Q ce sl st pc lv stk := by
  subst hq
  intro H locs ls hP hS hl
  refine va_calll (va_runS (As := As) (rest := r) (Ts := Ts) (own := own) ⟨E.1, E.2.1, E.2.2.1, E.2.2.2.2.2.1, E.2.2.2.2.2.2.1⟩ (hM H.size) (cwS n E.2.2.2.2.2.2.1 hT hw hrc hrs hd hR) ⟨kX_blind _ _ _ _ _, fun U hU hW => ⟨rfl, by rw [hU], by rw [hU]; exact hP, va_K.moved hW.alike E.2.2.2.2.2.2.2.1, NW.warm hW E.2.2.2.2.2.2.2.2.2.2.2.2.2⟩⟩ rfl hn hl.1 hst (lv_room hroom) hdg ⟨by rw [Nat.add_zero]; exact E.2.2.2.2.2.2.2.2.2.2.2.1, by rw [Nat.add_zero]; exact E.2.2.2.2.2.2.2.2.2.2.2.2.1⟩) hS (fun q hq h => h.elim (E.2.2.2.2.2.2.2.2.2.1 q) (fun z => absurd z (Nat.not_le.mpr hq))) (fun q h => h.elim (E.2.2.2.2.2.2.2.2.2.1 q) (fun z => E.2.2.2.2.2.2.2.2.2.2.1 q (Nat.le_trans hS.1 z))) (fun r9 u t H1 locs1 ht hvm hw' hB hz1 hk1 hS1 => ?_)
  obtain ⟨z, st1⟩ := u
  obtain ⟨rfl, hp⟩ := hw'
  exact kk z st1 hp H1 locs1 ls (by rw [← ht]; exact hB) hS1 hl
theorem x_callSNl (E : EN R ce sl p s m args meth c cc nL ret Ts own D tys Wd al A) {y : MethodName} {ws ws' : List Cond} {rm : Room} {As : List Value} {ix n maxL : Nat} {bytes : ByteArray} {rt : Option FieldType} {post : Int → σ → Prop} {host : String} (hM : CXl l y ws rm As D tys Wd al st post) (hT : GoodIn Ts (ws)) (hw : ws = Cond.code y bytes maxL rt :: ws') (hrc : rm.cells = 0) (hrs : rm.slots = 0) (hl0 : va_Nw (.methodLinkNest own ix y host) s) (hini : Cond.initialized y.cls ∈ Ts) (hi1 : Cond.static y ∈ Ts) (hd : y.cls ≠ "java/lang/invoke/MethodHandle" ∧ y.cls ≠ "java/lang/invoke/VarHandle" ∧ (parseMethodDescriptor y.desc).map (fun d => d.parameters.length) = some n) (hR : rm.frames + 1 ≤ R.frames ∧ 8 + (maxL + 11) + rm.locals ≤ R.locals) (hn : As.length = n) (hst : stk = As.reverse ++ r) (hroom : (r.map fun v => v.category).sum ≤ 8) (hdg : decode cc pc = .ok (.invokestatic ix, 3)) (hq : pc + 3 = q) (kk : ∀ (z : Int) (st1 : σ), post z st1 → XJ p l e R s m args below meth c D Wd A nL Q ce sl st1 q lv (.long (jj z) :: r)) : XJ p l e R s m args below meth c D Wd A nL Q ce sl st pc lv stk := by
  subst hq
  intro H locs ls hP hS hl
  refine va_calll (va_runSN (As := As) (rest := r) (Ts := Ts) (own := own) ⟨E.1, E.2.1, E.2.2.1, E.2.2.2.2.2.1, E.2.2.2.2.2.2.1⟩ (hM H.size) ⟨va_cnB n E.2.2.2.2.2.2.1 hT hw hrc hrs hl0 (E.2.2.2.2.2.2.1 _ hini) hd hR, E.2.2.2.2.2.2.1 _ hi1, trivial⟩ ⟨kX_blind _ _ _ _ _, fun U hU hW => ⟨rfl, by rw [hU], by rw [hU]; exact hP, va_K.moved hW.alike E.2.2.2.2.2.2.2.1, NW.warm hW E.2.2.2.2.2.2.2.2.2.2.2.2.2⟩⟩ rfl hn hl.1 hst (lv_room hroom) hdg ⟨by rw [Nat.add_zero]; exact E.2.2.2.2.2.2.2.2.2.2.2.1, by rw [Nat.add_zero]; exact E.2.2.2.2.2.2.2.2.2.2.2.2.1⟩) hS (fun q hq h => h.elim (E.2.2.2.2.2.2.2.2.2.1 q) (fun z => absurd z (Nat.not_le.mpr hq))) (fun q h => h.elim (E.2.2.2.2.2.2.2.2.2.1 q) (fun z => E.2.2.2.2.2.2.2.2.2.2.1 q (Nat.le_trans hS.1 z))) (fun r9 u t H1 locs1 ht hvm hw' hB hz1 hk1 hS1 => ?_)
  obtain ⟨z, st1⟩ := u
  obtain ⟨rfl, hp⟩ := hw'
  exact kk z st1 hp H1 locs1 ls (by rw [← ht]; exact hB) hS1 hl
theorem x_callVv (E : EN R ce sl p s m args meth c cc nL ret Ts own D tys Wd al A) {y : MethodName} {ws ws' : List Cond} {rm : Room} {As : List Value} {ix n maxL : Nat} {bytes : ByteArray} {rt : Option FieldType} {post : σ → Prop} {b : Nat} {C : String} {T : u_T} {N ci : Nat} {fs : List Value} (hM : CXv l y ws rm (.ref b :: As) D tys Wd al st post) (hT : GoodIn Ts (wsV own ix C y ws)) (hw : ws = Cond.code y bytes maxL rt :: ws') (hrc : rm.cells = 0) (hrs : rm.slots = 0) (hd : y.cls = C ∧ y.cls ≠ "java/lang/invoke/MethodHandle" ∧ y.cls ≠ "java/lang/invoke/VarHandle" ∧ (parseMethodDescriptor y.desc).map (fun d => d.parameters.length) = some n) (hR : rm.frames + 1 ≤ R.frames ∧ 8 + (maxL + 11) + rm.locals ≤ R.locals) (q0 : Nat) (hrecv : (Wd st)[q0]? = some (b, .inr (ci, fs))) (hc : vwCl[ci]? = some (C, T, N)) (hn : As.length = n) (hst : stk = As.reverse ++ .ref b :: r) (hroom : (r.map fun v => v.category).sum ≤ 8) (hdg : decode cc pc = .ok (.invokevirtual ix, 3)) (hq : pc + 3 = q) (kk : ∀ (st1 : σ), post st1 → XJ p l e R s m args below meth c D Wd A nL Q ce sl st1 q lv r) : XJ p l e R s m args below meth c D Wd A nL Q ce sl st pc lv stk := by
  subst hq
  intro H locs ls hP hS hl
  refine va_callv (va_runV (As := As) (rest := r) (Ts := Ts) (own := own) ⟨E.1, E.2.1, E.2.2.1, E.2.2.2.2.2.1, E.2.2.2.2.2.2.1⟩ (hM H.size) (cwV n E.2.2.2.2.2.2.1 hT hw hrc hrs hd hR) ⟨kX_blind _ _ _ _ _, va_recv E.2.2.2.2.2.2.2.1 hP hc hrecv, fun U hU hW => ⟨rfl, by rw [hU], by rw [hU]; exact hP, va_K.moved hW.alike E.2.2.2.2.2.2.2.1, NW.warm hW E.2.2.2.2.2.2.2.2.2.2.2.2.2⟩⟩ rfl hn hl.1 hst (lv_room hroom) hdg ⟨by rw [Nat.add_zero]; exact E.2.2.2.2.2.2.2.2.2.2.2.1, by rw [Nat.add_zero]; exact E.2.2.2.2.2.2.2.2.2.2.2.2.1⟩) hS (fun q hq h => h.elim (E.2.2.2.2.2.2.2.2.2.1 q) (fun z => absurd z (Nat.not_le.mpr hq))) (fun q h => h.elim (E.2.2.2.2.2.2.2.2.2.1 q) (fun z => E.2.2.2.2.2.2.2.2.2.2.1 q (Nat.le_trans hS.1 z))) (fun u t H1 locs1 ht hvm hw' hB hz1 hk1 hS1 => ?_)
  exact kk u hw' H1 locs1 ls (by rw [← ht]; exact hB) hS1 hl
theorem x_callVNv (E : EN R ce sl p s m args meth c cc nL ret Ts own D tys Wd al A) {y : MethodName} {ws ws' : List Cond} {rm : Room} {As : List Value} {ix n maxL : Nat} {bytes : ByteArray} {rt : Option FieldType} {post : σ → Prop} {b : Nat} {C : String} {T : u_T} {N ci : Nat} {fs : List Value} {host : String} (hM : CXv l y ws rm (.ref b :: As) D tys Wd al st post) (hT : GoodIn Ts (ws)) (hw : ws = Cond.code y bytes maxL rt :: ws') (hrc : rm.cells = 0) (hrs : rm.slots = 0) (hl0 : va_Nw (.methodLinkNest own ix y host) s) (hini : Cond.initialized y.cls ∈ Ts) (hi1 : Cond.instanceMethod y ∈ Ts) (hi2 : Cond.selects C y y ∈ Ts) (hd : y.cls ≠ "java/lang/invoke/MethodHandle" ∧ y.cls ≠ "java/lang/invoke/VarHandle" ∧ (parseMethodDescriptor y.desc).map (fun d => d.parameters.length) = some n) (hR : rm.frames + 1 ≤ R.frames ∧ 8 + (maxL + 11) + rm.locals ≤ R.locals) (q0 : Nat) (hrecv : (Wd st)[q0]? = some (b, .inr (ci, fs))) (hc : vwCl[ci]? = some (C, T, N)) (hn : As.length = n) (hst : stk = As.reverse ++ .ref b :: r) (hroom : (r.map fun v => v.category).sum ≤ 8) (hdg : decode cc pc = .ok (.invokevirtual ix, 3)) (hq : pc + 3 = q) (kk : ∀ (st1 : σ), post st1 → XJ p l e R s m args below meth c D Wd A nL Q ce sl st1 q lv r) : XJ p l e R s m args below meth c D Wd A nL Q ce sl st pc lv stk := by
  subst hq
  intro H locs ls hP hS hl
  refine va_callv (va_runVN (As := As) (rest := r) (Ts := Ts) (own := own) ⟨E.1, E.2.1, E.2.2.1, E.2.2.2.2.2.1, E.2.2.2.2.2.2.1⟩ (hM H.size) ⟨va_cnB n E.2.2.2.2.2.2.1 hT hw hrc hrs hl0 (E.2.2.2.2.2.2.1 _ hini) hd hR, E.2.2.2.2.2.2.1 _ hi1, E.2.2.2.2.2.2.1 _ hi2⟩ ⟨kX_blind _ _ _ _ _, va_recv E.2.2.2.2.2.2.2.1 hP hc hrecv, fun U hU hW => ⟨rfl, by rw [hU], by rw [hU]; exact hP, va_K.moved hW.alike E.2.2.2.2.2.2.2.1, NW.warm hW E.2.2.2.2.2.2.2.2.2.2.2.2.2⟩⟩ rfl hn hl.1 hst (lv_room hroom) hdg ⟨by rw [Nat.add_zero]; exact E.2.2.2.2.2.2.2.2.2.2.2.1, by rw [Nat.add_zero]; exact E.2.2.2.2.2.2.2.2.2.2.2.2.1⟩) hS (fun q hq h => h.elim (E.2.2.2.2.2.2.2.2.2.1 q) (fun z => absurd z (Nat.not_le.mpr hq))) (fun q h => h.elim (E.2.2.2.2.2.2.2.2.2.1 q) (fun z => E.2.2.2.2.2.2.2.2.2.2.1 q (Nat.le_trans hS.1 z))) (fun u t H1 locs1 ht hvm hw' hB hz1 hk1 hS1 => ?_)
  exact kk u hw' H1 locs1 ls (by rw [← ht]; exact hB) hS1 hl
theorem x_callSv (E : EN R ce sl p s m args meth c cc nL ret Ts own D tys Wd al A) {y : MethodName} {ws ws' : List Cond} {rm : Room} {As : List Value} {ix n maxL : Nat} {bytes : ByteArray} {rt : Option FieldType} {post : σ → Prop} (hM : CXv l y ws rm As D tys Wd al st post) (hT : GoodIn Ts (wsS own ix y ws)) (hw : ws = Cond.code y bytes maxL rt :: ws') (hrc : rm.cells = 0) (hrs : rm.slots = 0) (hd : y.cls = own ∧ y.cls ≠ "java/lang/invoke/MethodHandle" ∧ y.cls ≠ "java/lang/invoke/VarHandle" ∧ (parseMethodDescriptor y.desc).map (fun d => d.parameters.length) = some n) (hR : rm.frames + 1 ≤ R.frames ∧ 8 + (maxL + 11) + rm.locals ≤ R.locals) (hn : As.length = n) (hst : stk = As.reverse ++ r) (hroom : (r.map fun v => v.category).sum ≤ 8) (hdg : decode cc pc = .ok (.invokestatic ix, 3)) (hq : pc + 3 = q) (kk : ∀ (st1 : σ), post st1 → XJ p l e R s m args below meth c D Wd A nL Q ce sl st1 q lv r) : XJ p l e R s m args below meth c D Wd A nL Q ce sl st pc lv stk := by
  subst hq
  intro H locs ls hP hS hl
  refine va_callv (va_runS (As := As) (rest := r) (Ts := Ts) (own := own) ⟨E.1, E.2.1, E.2.2.1, E.2.2.2.2.2.1, E.2.2.2.2.2.2.1⟩ (hM H.size) (cwS n E.2.2.2.2.2.2.1 hT hw hrc hrs hd hR) ⟨kX_blind _ _ _ _ _, fun U hU hW => ⟨rfl, by rw [hU], by rw [hU]; exact hP, va_K.moved hW.alike E.2.2.2.2.2.2.2.1, NW.warm hW E.2.2.2.2.2.2.2.2.2.2.2.2.2⟩⟩ rfl hn hl.1 hst (lv_room hroom) hdg ⟨by rw [Nat.add_zero]; exact E.2.2.2.2.2.2.2.2.2.2.2.1, by rw [Nat.add_zero]; exact E.2.2.2.2.2.2.2.2.2.2.2.2.1⟩) hS (fun q hq h => h.elim (E.2.2.2.2.2.2.2.2.2.1 q) (fun z => absurd z (Nat.not_le.mpr hq))) (fun q h => h.elim (E.2.2.2.2.2.2.2.2.2.1 q) (fun z => E.2.2.2.2.2.2.2.2.2.2.1 q (Nat.le_trans hS.1 z))) (fun u t H1 locs1 ht hvm hw' hB hz1 hk1 hS1 => ?_)
  exact kk u hw' H1 locs1 ls (by rw [← ht]; exact hB) hS1 hl
theorem x_callSNv (E : EN R ce sl p s m args meth c cc nL ret Ts own D tys Wd al A) {y : MethodName} {ws ws' : List Cond} {rm : Room} {As : List Value} {ix n maxL : Nat} {bytes : ByteArray} {rt : Option FieldType} {post : σ → Prop} {host : String} (hM : CXv l y ws rm As D tys Wd al st post) (hT : GoodIn Ts (ws)) (hw : ws = Cond.code y bytes maxL rt :: ws') (hrc : rm.cells = 0) (hrs : rm.slots = 0) (hl0 : va_Nw (.methodLinkNest own ix y host) s) (hini : Cond.initialized y.cls ∈ Ts) (hi1 : Cond.static y ∈ Ts) (hd : y.cls ≠ "java/lang/invoke/MethodHandle" ∧ y.cls ≠ "java/lang/invoke/VarHandle" ∧ (parseMethodDescriptor y.desc).map (fun d => d.parameters.length) = some n) (hR : rm.frames + 1 ≤ R.frames ∧ 8 + (maxL + 11) + rm.locals ≤ R.locals) (hn : As.length = n) (hst : stk = As.reverse ++ r) (hroom : (r.map fun v => v.category).sum ≤ 8) (hdg : decode cc pc = .ok (.invokestatic ix, 3)) (hq : pc + 3 = q) (kk : ∀ (st1 : σ), post st1 → XJ p l e R s m args below meth c D Wd A nL Q ce sl st1 q lv r) : XJ p l e R s m args below meth c D Wd A nL Q ce sl st pc lv stk := by
  subst hq
  intro H locs ls hP hS hl
  refine va_callv (va_runSN (As := As) (rest := r) (Ts := Ts) (own := own) ⟨E.1, E.2.1, E.2.2.1, E.2.2.2.2.2.1, E.2.2.2.2.2.2.1⟩ (hM H.size) ⟨va_cnB n E.2.2.2.2.2.2.1 hT hw hrc hrs hl0 (E.2.2.2.2.2.2.1 _ hini) hd hR, E.2.2.2.2.2.2.1 _ hi1, trivial⟩ ⟨kX_blind _ _ _ _ _, fun U hU hW => ⟨rfl, by rw [hU], by rw [hU]; exact hP, va_K.moved hW.alike E.2.2.2.2.2.2.2.1, NW.warm hW E.2.2.2.2.2.2.2.2.2.2.2.2.2⟩⟩ rfl hn hl.1 hst (lv_room hroom) hdg ⟨by rw [Nat.add_zero]; exact E.2.2.2.2.2.2.2.2.2.2.2.1, by rw [Nat.add_zero]; exact E.2.2.2.2.2.2.2.2.2.2.2.2.1⟩) hS (fun q hq h => h.elim (E.2.2.2.2.2.2.2.2.2.1 q) (fun z => absurd z (Nat.not_le.mpr hq))) (fun q h => h.elim (E.2.2.2.2.2.2.2.2.2.1 q) (fun z => E.2.2.2.2.2.2.2.2.2.2.1 q (Nat.le_trans hS.1 z))) (fun u t H1 locs1 ht hvm hw' hB hz1 hk1 hS1 => ?_)
  exact kk u hw' H1 locs1 ls (by rw [← ht]; exact hB) hS1 hl
theorem x_callVr (E : EN R ce sl p s m args meth c cc nL ret Ts own D tys Wd al A) {y : MethodName} {ws ws' : List Cond} {rm : Room} {As : List Value} {ix n maxL : Nat} {bytes : ByteArray} {rt : Option FieldType} {post : Option Nat → σ → Prop} {b : Nat} {C : String} {T : u_T} {N ci : Nat} {fs : List Value} (hM : CXr l y ws rm (.ref b :: As) D tys Wd al st post) (hT : GoodIn Ts (wsV own ix C y ws)) (hw : ws = Cond.code y bytes maxL rt :: ws') (hrc : rm.cells = 0) (hrs : rm.slots = 0) (hd : y.cls = C ∧ y.cls ≠ "java/lang/invoke/MethodHandle" ∧ y.cls ≠ "java/lang/invoke/VarHandle" ∧ (parseMethodDescriptor y.desc).map (fun d => d.parameters.length) = some n) (hR : rm.frames + 1 ≤ R.frames ∧ 8 + (maxL + 11) + rm.locals ≤ R.locals) (q0 : Nat) (hrecv : (Wd st)[q0]? = some (b, .inr (ci, fs))) (hc : vwCl[ci]? = some (C, T, N)) (hn : As.length = n) (hst : stk = As.reverse ++ .ref b :: r) (hroom : (r.map fun v => v.category).sum ≤ 8) (hdg : decode cc pc = .ok (.invokevirtual ix, 3)) (hq : pc + 3 = q) (kk : ∀ (b9 : Option Nat) (st1 : σ), post b9 st1 → XJ p l e R s m args below meth c D Wd A nL Q ce sl st1 q lv (va_rf b9 :: r)) : XJ p l e R s m args below meth c D Wd A nL Q ce sl st pc lv stk := by
  subst hq
  intro H locs ls hP hS hl
  refine va_callq (va_runV (As := As) (rest := r) (Ts := Ts) (own := own) ⟨E.1, E.2.1, E.2.2.1, E.2.2.2.2.2.1, E.2.2.2.2.2.2.1⟩ (hM H.size) (cwV n E.2.2.2.2.2.2.1 hT hw hrc hrs hd hR) ⟨kX_blind _ _ _ _ _, va_recv E.2.2.2.2.2.2.2.1 hP hc hrecv, fun U hU hW => ⟨rfl, by rw [hU], by rw [hU]; exact hP, va_K.moved hW.alike E.2.2.2.2.2.2.2.1, NW.warm hW E.2.2.2.2.2.2.2.2.2.2.2.2.2⟩⟩ rfl hn hl.1 hst (lv_room hroom) hdg ⟨by rw [Nat.add_zero]; exact E.2.2.2.2.2.2.2.2.2.2.2.1, by rw [Nat.add_zero]; exact E.2.2.2.2.2.2.2.2.2.2.2.2.1⟩) hS (fun q hq h => h.elim (E.2.2.2.2.2.2.2.2.2.1 q) (fun z => absurd z (Nat.not_le.mpr hq))) (fun q h => h.elim (E.2.2.2.2.2.2.2.2.2.1 q) (fun z => E.2.2.2.2.2.2.2.2.2.2.1 q (Nat.le_trans hS.1 z))) (fun r9 u t H1 locs1 ht hvm hw' hB hz1 hk1 hS1 => ?_)
  exact kk r9 u hw' H1 locs1 ls (by rw [← ht]; exact hB) hS1 hl
theorem x_callVNr (E : EN R ce sl p s m args meth c cc nL ret Ts own D tys Wd al A) {y : MethodName} {ws ws' : List Cond} {rm : Room} {As : List Value} {ix n maxL : Nat} {bytes : ByteArray} {rt : Option FieldType} {post : Option Nat → σ → Prop} {b : Nat} {C : String} {T : u_T} {N ci : Nat} {fs : List Value} {host : String} (hM : CXr l y ws rm (.ref b :: As) D tys Wd al st post) (hT : GoodIn Ts (ws)) (hw : ws = Cond.code y bytes maxL rt :: ws') (hrc : rm.cells = 0) (hrs : rm.slots = 0) (hl0 : va_Nw (.methodLinkNest own ix y host) s) (hini : Cond.initialized y.cls ∈ Ts) (hi1 : Cond.instanceMethod y ∈ Ts) (hi2 : Cond.selects C y y ∈ Ts) (hd : y.cls ≠ "java/lang/invoke/MethodHandle" ∧ y.cls ≠ "java/lang/invoke/VarHandle" ∧ (parseMethodDescriptor y.desc).map (fun d => d.parameters.length) = some n) (hR : rm.frames + 1 ≤ R.frames ∧ 8 + (maxL + 11) + rm.locals ≤ R.locals) (q0 : Nat) (hrecv : (Wd st)[q0]? = some (b, .inr (ci, fs))) (hc : vwCl[ci]? = some (C, T, N)) (hn : As.length = n) (hst : stk = As.reverse ++ .ref b :: r) (hroom : (r.map fun v => v.category).sum ≤ 8) (hdg : decode cc pc = .ok (.invokevirtual ix, 3)) (hq : pc + 3 = q) (kk : ∀ (b9 : Option Nat) (st1 : σ), post b9 st1 → XJ p l e R s m args below meth c D Wd A nL Q ce sl st1 q lv (va_rf b9 :: r)) : XJ p l e R s m args below meth c D Wd A nL Q ce sl st pc lv stk := by
  subst hq
  intro H locs ls hP hS hl
  refine va_callq (va_runVN (As := As) (rest := r) (Ts := Ts) (own := own) ⟨E.1, E.2.1, E.2.2.1, E.2.2.2.2.2.1, E.2.2.2.2.2.2.1⟩ (hM H.size) ⟨va_cnB n E.2.2.2.2.2.2.1 hT hw hrc hrs hl0 (E.2.2.2.2.2.2.1 _ hini) hd hR, E.2.2.2.2.2.2.1 _ hi1, E.2.2.2.2.2.2.1 _ hi2⟩ ⟨kX_blind _ _ _ _ _, va_recv E.2.2.2.2.2.2.2.1 hP hc hrecv, fun U hU hW => ⟨rfl, by rw [hU], by rw [hU]; exact hP, va_K.moved hW.alike E.2.2.2.2.2.2.2.1, NW.warm hW E.2.2.2.2.2.2.2.2.2.2.2.2.2⟩⟩ rfl hn hl.1 hst (lv_room hroom) hdg ⟨by rw [Nat.add_zero]; exact E.2.2.2.2.2.2.2.2.2.2.2.1, by rw [Nat.add_zero]; exact E.2.2.2.2.2.2.2.2.2.2.2.2.1⟩) hS (fun q hq h => h.elim (E.2.2.2.2.2.2.2.2.2.1 q) (fun z => absurd z (Nat.not_le.mpr hq))) (fun q h => h.elim (E.2.2.2.2.2.2.2.2.2.1 q) (fun z => E.2.2.2.2.2.2.2.2.2.2.1 q (Nat.le_trans hS.1 z))) (fun r9 u t H1 locs1 ht hvm hw' hB hz1 hk1 hS1 => ?_)
  exact kk r9 u hw' H1 locs1 ls (by rw [← ht]; exact hB) hS1 hl
theorem x_callSr (E : EN R ce sl p s m args meth c cc nL ret Ts own D tys Wd al A) {y : MethodName} {ws ws' : List Cond} {rm : Room} {As : List Value} {ix n maxL : Nat} {bytes : ByteArray} {rt : Option FieldType} {post : Option Nat → σ → Prop} (hM : CXr l y ws rm As D tys Wd al st post) (hT : GoodIn Ts (wsS own ix y ws)) (hw : ws = Cond.code y bytes maxL rt :: ws') (hrc : rm.cells = 0) (hrs : rm.slots = 0) (hd : y.cls = own ∧ y.cls ≠ "java/lang/invoke/MethodHandle" ∧ y.cls ≠ "java/lang/invoke/VarHandle" ∧ (parseMethodDescriptor y.desc).map (fun d => d.parameters.length) = some n) (hR : rm.frames + 1 ≤ R.frames ∧ 8 + (maxL + 11) + rm.locals ≤ R.locals) (hn : As.length = n) (hst : stk = As.reverse ++ r) (hroom : (r.map fun v => v.category).sum ≤ 8) (hdg : decode cc pc = .ok (.invokestatic ix, 3)) (hq : pc + 3 = q) (kk : ∀ (b9 : Option Nat) (st1 : σ), post b9 st1 → XJ p l e R s m args below meth c D Wd A nL Q ce sl st1 q lv (va_rf b9 :: r)) : XJ p l e R s m args below meth c D Wd A nL Q ce sl st pc lv stk := by
  subst hq
  intro H locs ls hP hS hl
  refine va_callq (va_runS (As := As) (rest := r) (Ts := Ts) (own := own) ⟨E.1, E.2.1, E.2.2.1, E.2.2.2.2.2.1, E.2.2.2.2.2.2.1⟩ (hM H.size) (cwS n E.2.2.2.2.2.2.1 hT hw hrc hrs hd hR) ⟨kX_blind _ _ _ _ _, fun U hU hW => ⟨rfl, by rw [hU], by rw [hU]; exact hP, va_K.moved hW.alike E.2.2.2.2.2.2.2.1, NW.warm hW E.2.2.2.2.2.2.2.2.2.2.2.2.2⟩⟩ rfl hn hl.1 hst (lv_room hroom) hdg ⟨by rw [Nat.add_zero]; exact E.2.2.2.2.2.2.2.2.2.2.2.1, by rw [Nat.add_zero]; exact E.2.2.2.2.2.2.2.2.2.2.2.2.1⟩) hS (fun q hq h => h.elim (E.2.2.2.2.2.2.2.2.2.1 q) (fun z => absurd z (Nat.not_le.mpr hq))) (fun q h => h.elim (E.2.2.2.2.2.2.2.2.2.1 q) (fun z => E.2.2.2.2.2.2.2.2.2.2.1 q (Nat.le_trans hS.1 z))) (fun r9 u t H1 locs1 ht hvm hw' hB hz1 hk1 hS1 => ?_)
  exact kk r9 u hw' H1 locs1 ls (by rw [← ht]; exact hB) hS1 hl
theorem x_callSNr (E : EN R ce sl p s m args meth c cc nL ret Ts own D tys Wd al A) {y : MethodName} {ws ws' : List Cond} {rm : Room} {As : List Value} {ix n maxL : Nat} {bytes : ByteArray} {rt : Option FieldType} {post : Option Nat → σ → Prop} {host : String} (hM : CXr l y ws rm As D tys Wd al st post) (hT : GoodIn Ts (ws)) (hw : ws = Cond.code y bytes maxL rt :: ws') (hrc : rm.cells = 0) (hrs : rm.slots = 0) (hl0 : va_Nw (.methodLinkNest own ix y host) s) (hini : Cond.initialized y.cls ∈ Ts) (hi1 : Cond.static y ∈ Ts) (hd : y.cls ≠ "java/lang/invoke/MethodHandle" ∧ y.cls ≠ "java/lang/invoke/VarHandle" ∧ (parseMethodDescriptor y.desc).map (fun d => d.parameters.length) = some n) (hR : rm.frames + 1 ≤ R.frames ∧ 8 + (maxL + 11) + rm.locals ≤ R.locals) (hn : As.length = n) (hst : stk = As.reverse ++ r) (hroom : (r.map fun v => v.category).sum ≤ 8) (hdg : decode cc pc = .ok (.invokestatic ix, 3)) (hq : pc + 3 = q) (kk : ∀ (b9 : Option Nat) (st1 : σ), post b9 st1 → XJ p l e R s m args below meth c D Wd A nL Q ce sl st1 q lv (va_rf b9 :: r)) : XJ p l e R s m args below meth c D Wd A nL Q ce sl st pc lv stk := by
  subst hq
  intro H locs ls hP hS hl
  refine va_callq (va_runSN (As := As) (rest := r) (Ts := Ts) (own := own) ⟨E.1, E.2.1, E.2.2.1, E.2.2.2.2.2.1, E.2.2.2.2.2.2.1⟩ (hM H.size) ⟨va_cnB n E.2.2.2.2.2.2.1 hT hw hrc hrs hl0 (E.2.2.2.2.2.2.1 _ hini) hd hR, E.2.2.2.2.2.2.1 _ hi1, trivial⟩ ⟨kX_blind _ _ _ _ _, fun U hU hW => ⟨rfl, by rw [hU], by rw [hU]; exact hP, va_K.moved hW.alike E.2.2.2.2.2.2.2.1, NW.warm hW E.2.2.2.2.2.2.2.2.2.2.2.2.2⟩⟩ rfl hn hl.1 hst (lv_room hroom) hdg ⟨by rw [Nat.add_zero]; exact E.2.2.2.2.2.2.2.2.2.2.2.1, by rw [Nat.add_zero]; exact E.2.2.2.2.2.2.2.2.2.2.2.2.1⟩) hS (fun q hq h => h.elim (E.2.2.2.2.2.2.2.2.2.1 q) (fun z => absurd z (Nat.not_le.mpr hq))) (fun q h => h.elim (E.2.2.2.2.2.2.2.2.2.1 q) (fun z => E.2.2.2.2.2.2.2.2.2.2.1 q (Nat.le_trans hS.1 z))) (fun r9 u t H1 locs1 ht hvm hw' hB hz1 hk1 hS1 => ?_)
  exact kk r9 u hw' H1 locs1 ls (by rw [← ht]; exact hB) hS1 hl
end XC
end
section
abbrev tyX (T : Nat → ClassId) : List (ClassId × FieldType) := [(T 0, .int), (T 1, .byte), (T 2, .long), (T 3, .object "SelfRows$Alphabet"), (T 4, .object "SelfRows$Row")]
def XW (T : Nat → ClassId) (ad : Nat → Nat) (st : St_) : va_W := [(ad 0, .inr (5, [.ref (ad 1), .ref (ad 25), .ref (ad 26), .ref (ad 27), .ref (ad 31), .int (ii (st.1 0)), .int (ii (st.1 1))])),
  (ad 1, .inr (1, [.ref (ad 2), .ref (ad 3), .ref (ad 4), .int (ii (st.1 2))])),
  (ad 2, .inl (T 3, 4, .inr (.inr (.inr (.inr (fun k => some (ad (5 + k)))))))),
  (ad 3, .inl (T 4, 3, .inr (.inr (.inr (.inr (fun k => some (ad (13 + k)))))))),
  (ad 4, .inl (T 0, 3, .inl (fun k => ii (st.2 (0) (k : Int))))),
  (ad 5, .inr (0, [.ref (ad 9), .int (ii (st.1 3))])),
  (ad 6, .inr (0, [.ref (ad 10), .int (ii (st.1 4))])),
  (ad 7, .inr (0, [.ref (ad 11), .int (ii (st.1 5))])),
  (ad 8, .inr (0, [.ref (ad 12), .int (ii (st.1 6))])),
  (ad 9, .inl (T 0, 4, .inl (fun k => ii (st.2 (1) (k : Int))))),
  (ad 10, .inl (T 0, 4, .inl (fun k => ii (st.2 (2) (k : Int))))),
  (ad 11, .inl (T 0, 4, .inl (fun k => ii (st.2 (3) (k : Int))))),
  (ad 12, .inl (T 0, 4, .inl (fun k => ii (st.2 (4) (k : Int))))),
  (ad 13, .inr (2, [.ref (ad 16), .ref (ad 19), .ref (ad 22), .int (ii (st.1 7))])),
  (ad 14, .inr (2, [.ref (ad 17), .ref (ad 20), .ref (ad 23), .int (ii (st.1 8))])),
  (ad 15, .inr (2, [.ref (ad 18), .ref (ad 21), .ref (ad 24), .int (ii (st.1 9))])),
  (ad 16, .inl (T 1, 100001, .inl (fun k => ii (st.2 (5) (k : Int))))),
  (ad 17, .inl (T 1, 100001, .inl (fun k => ii (st.2 (6) (k : Int))))),
  (ad 18, .inl (T 1, 100001, .inl (fun k => ii (st.2 (7) (k : Int))))),
  (ad 19, .inl (T 0, 2737, .inl (fun k => ii (st.2 (8) (k : Int))))),
  (ad 20, .inl (T 0, 2737, .inl (fun k => ii (st.2 (9) (k : Int))))),
  (ad 21, .inl (T 0, 2737, .inl (fun k => ii (st.2 (10) (k : Int))))),
  (ad 22, .inl (T 0, 7, .inl (fun k => ii (st.2 (11) (k : Int))))),
  (ad 23, .inl (T 0, 7, .inl (fun k => ii (st.2 (12) (k : Int))))),
  (ad 24, .inl (T 0, 7, .inl (fun k => ii (st.2 (13) (k : Int))))),
  (ad 25, .inr (4, [.ref (ad 28), .int (ii (st.1 10))])),
  (ad 26, .inr (4, [.ref (ad 29), .int (ii (st.1 11))])),
  (ad 27, .inr (4, [.ref (ad 30), .int (ii (st.1 12))])),
  (ad 28, .inl (T 0, 60, .inl (fun k => ii (st.2 (14) (k : Int))))),
  (ad 29, .inl (T 0, 60, .inl (fun k => ii (st.2 (15) (k : Int))))),
  (ad 30, .inl (T 0, 60, .inl (fun k => ii (st.2 (16) (k : Int))))),
  (ad 31, .inr (3, [.ref (ad 32)])),
  (ad 32, .inl (T 2, 4096, .inr (.inl (fun k => jj (st.2 17 (k : Int))))))]
def alX (ad : Nat → Nat) : List Nat := (List.range 33).map ad
theorem XW_map (T : Nat → ClassId) (ad : Nat → Nat) (st : St_) : (XW T ad st).map Prod.fst = (List.range 33).map ad := rfl
theorem XW_at (T : Nat → ClassId) (ad : Nat → Nat) (st : St_) {k : Nat} {q : Nat × va_E} (h : (XW T ad st)[k]? = some q) : k < 33 ∧ q.1 = ad k := by
  have h1 : ((XW T ad st).map Prod.fst)[k]? = some q.1 := by rw [List.getElem?_map, h]; rfl
  rw [XW_map, List.getElem?_map] at h1
  by_cases hk : k < 33
  · rw [List.getElem?_range hk] at h1
    exact ⟨hk, (Option.some.inj h1).symm⟩
  · rw [List.getElem?_eq_none (by rw [List.length_range]; omega)] at h1
    cases h1
theorem XW_ok {T : Nat → ClassId} {ad : Nat → Nat} (h : ∀ i j, i < 33 → j < 33 → ad i = ad j → i = j) : okW (XW T ad) (alX ad) := by
  intro st
  refine ⟨fun i j p q hp hq e => ?_, fun k q hq => ?_⟩
  · obtain ⟨h1, h2⟩ := XW_at T ad st hp
    obtain ⟨h3, h4⟩ := XW_at T ad st hq
    exact h i j h1 h3 (by rw [← h2, ← h4, e])
  · obtain ⟨h1, h2⟩ := XW_at T ad st hq
    rw [h2]
    exact List.mem_map.mpr ⟨k, List.mem_range.mpr h1, rfl⟩
def MW (T : Nat → ClassId) (ad : Nat → Nat) (st : St_) : va_W := [(ad 0, .inr (6, [.ref (ad 1), .ref (ad 2), .int (ii (st.1 0)), .ref (ad 3), .int (ii (st.1 1)), .ref (ad 4), .ref (ad 5), .ref (ad 6), .ref (ad 7), .int (ii (st.1 2)), .ref (ad 8), .int (ii (st.1 3)), .ref (ad 9), .int (ii (st.1 4)), .ref (ad 10), .int (ii (st.1 5)), .int (ii (st.1 6)), .ref (ad 11), .int (ii (st.1 7)), .ref (ad 12)])),
  (ad 1, .inl (T 0, 16, .inl (fun k => ii (st.2 (0) (k : Int))))),
  (ad 2, .inl (T 0, 4, .inl (fun k => ii (st.2 (1) (k : Int))))),
  (ad 3, .inl (T 0, 3, .inl (fun k => ii (st.2 (2) (k : Int))))),
  (ad 4, .inl (T 1, 100001, .inl (fun k => ii (st.2 (3) (k : Int))))),
  (ad 5, .inl (T 1, 100001, .inl (fun k => ii (st.2 (4) (k : Int))))),
  (ad 6, .inl (T 1, 100001, .inl (fun k => ii (st.2 (5) (k : Int))))),
  (ad 7, .inl (T 0, 3, .inl (fun k => ii (st.2 (6) (k : Int))))),
  (ad 8, .inl (T 0, 60, .inl (fun k => ii (st.2 (7) (k : Int))))),
  (ad 9, .inl (T 0, 60, .inl (fun k => ii (st.2 (8) (k : Int))))),
  (ad 10, .inl (T 0, 60, .inl (fun k => ii (st.2 (9) (k : Int))))),
  (ad 11, .inl (T 0, 15, .inl (fun k => ii (st.2 (10) (k : Int))))),
  (ad 12, .inl (T 2, 2000, .inr (.inl (fun k => jj (st.2 11 (k : Int))))))]
def alM (ad : Nat → Nat) : List Nat := (List.range 13).map ad
theorem MW_map (T : Nat → ClassId) (ad : Nat → Nat) (st : St_) : (MW T ad st).map Prod.fst = (List.range 13).map ad := rfl
theorem MW_at (T : Nat → ClassId) (ad : Nat → Nat) (st : St_) {k : Nat} {q : Nat × va_E} (h : (MW T ad st)[k]? = some q) : k < 13 ∧ q.1 = ad k := by
  have h1 : ((MW T ad st).map Prod.fst)[k]? = some q.1 := by rw [List.getElem?_map, h]; rfl
  rw [MW_map, List.getElem?_map] at h1
  by_cases hk : k < 13
  · rw [List.getElem?_range hk] at h1
    exact ⟨hk, (Option.some.inj h1).symm⟩
  · rw [List.getElem?_eq_none (by rw [List.length_range]; omega)] at h1
    cases h1
theorem MW_ok {T : Nat → ClassId} {ad : Nat → Nat} (h : ∀ i j, i < 13 → j < 13 → ad i = ad j → i = j) : okW (MW T ad) (alM ad) := by
  intro st
  refine ⟨fun i j p q hp hq e => ?_, fun k q hq => ?_⟩
  · obtain ⟨h1, h2⟩ := MW_at T ad st hp
    obtain ⟨h3, h4⟩ := MW_at T ad st hq
    exact h i j h1 h3 (by rw [← h2, ← h4, e])
  · obtain ⟨h1, h2⟩ := MW_at T ad st hq
    rw [h2]
    exact List.mem_map.mpr ⟨k, List.mem_range.mpr h1, rfl⟩
theorem xg_row {T : Nat → ClassId} {ad : Nat → Nat} {st : St_} {i : Nat} (hi : i < 3) : (XW T ad st)[13 + i]? = some (ad (13 + i), .inr (2, [.ref (ad (16 + i)), .ref (ad (19 + i)), .ref (ad (22 + i)), .int (ii (st.1 (7 + i)))])) := by
  match i, hi with
  | 0, _ => rfl
  | 1, _ => rfl
  | 2, _ => rfl
  | k + 3, h => exact absurd h (by omega)
theorem xs_row {T : Nat → ClassId} {ad : Nat → Nat} {st : St_} {i : Nat} (hi : i < 3) (v : Int) : (XW T ad st).set (13 + i) (ad (13 + i), .inr (2, [.ref (ad (16 + i)), .ref (ad (19 + i)), .ref (ad (22 + i)), .int (ii v)])) = XW T ad (sG st (7 + i) v) := by
  match i, hi with
  | 0, _ => rfl
  | 1, _ => rfl
  | 2, _ => rfl
  | k + 3, h => exact absurd h (by omega)
theorem xg_alph {T : Nat → ClassId} {ad : Nat → Nat} {st : St_} {i : Nat} (hi : i < 4) : (XW T ad st)[5 + i]? = some (ad (5 + i), .inr (0, [.ref (ad (9 + i)), .int (ii (st.1 (3 + i)))])) := by
  match i, hi with
  | 0, _ => rfl
  | 1, _ => rfl
  | 2, _ => rfl
  | 3, _ => rfl
  | k + 4, h => exact absurd h (by omega)
theorem xs_alph {T : Nat → ClassId} {ad : Nat → Nat} {st : St_} {i : Nat} (hi : i < 4) (v : Int) : (XW T ad st).set (5 + i) (ad (5 + i), .inr (0, [.ref (ad (9 + i)), .int (ii v)])) = XW T ad (sG st (3 + i) v) := by
  match i, hi with
  | 0, _ => rfl
  | 1, _ => rfl
  | 2, _ => rfl
  | 3, _ => rfl
  | k + 4, h => exact absurd h (by omega)
theorem xg_word {T : Nat → ClassId} {ad : Nat → Nat} {st : St_} {i : Nat} (hi : i < 3) : (XW T ad st)[25 + i]? = some (ad (25 + i), .inr (4, [.ref (ad (28 + i)), .int (ii (st.1 (10 + i)))])) := by
  match i, hi with
  | 0, _ => rfl
  | 1, _ => rfl
  | 2, _ => rfl
  | k + 3, h => exact absurd h (by omega)
theorem xs_word {T : Nat → ClassId} {ad : Nat → Nat} {st : St_} {i : Nat} (hi : i < 3) (v : Int) : (XW T ad st).set (25 + i) (ad (25 + i), .inr (4, [.ref (ad (28 + i)), .int (ii v)])) = XW T ad (sG st (10 + i) v) := by
  match i, hi with
  | 0, _ => rfl
  | 1, _ => rfl
  | 2, _ => rfl
  | k + 3, h => exact absurd h (by omega)
theorem xg_let {T : Nat → ClassId} {ad : Nat → Nat} {st : St_} {i : Nat} (hi : i < 4) : (XW T ad st)[9 + i]? = some (ad (9 + i), .inl (T 0, 4, .inl (fun k => ii (st.2 (1 + i) (k : Int))))) := by
  match i, hi with
  | 0, _ => rfl
  | 1, _ => rfl
  | 2, _ => rfl
  | 3, _ => rfl
  | k + 4, h => exact absurd h (by omega)
theorem xs_let {T : Nat → ClassId} {ad : Nat → Nat} {st : St_} {i : Nat} (hi : i < 4) (z v : Int) : (XW T ad st).set (9 + i) (ad (9 + i), .inl (T 0, 4, .inl (fun k => ii (zup (st.2 (1 + i)) z v (k : Int))))) = XW T ad (sA st (1 + i) z v) := by
  match i, hi with
  | 0, _ => rfl
  | 1, _ => rfl
  | 2, _ => rfl
  | 3, _ => rfl
  | k + 4, h => exact absurd h (by omega)
theorem xg_num {T : Nat → ClassId} {ad : Nat → Nat} {st : St_} {i : Nat} (hi : i < 3) : (XW T ad st)[16 + i]? = some (ad (16 + i), .inl (T 1, 100001, .inl (fun k => ii (st.2 (5 + i) (k : Int))))) := by
  match i, hi with
  | 0, _ => rfl
  | 1, _ => rfl
  | 2, _ => rfl
  | k + 3, h => exact absurd h (by omega)
theorem xs_num {T : Nat → ClassId} {ad : Nat → Nat} {st : St_} {i : Nat} (hi : i < 3) (z v : Int) : (XW T ad st).set (16 + i) (ad (16 + i), .inl (T 1, 100001, .inl (fun k => ii (zup (st.2 (5 + i)) z v (k : Int))))) = XW T ad (sA st (5 + i) z v) := by
  match i, hi with
  | 0, _ => rfl
  | 1, _ => rfl
  | 2, _ => rfl
  | k + 3, h => exact absurd h (by omega)
theorem xg_kep {T : Nat → ClassId} {ad : Nat → Nat} {st : St_} {i : Nat} (hi : i < 3) : (XW T ad st)[19 + i]? = some (ad (19 + i), .inl (T 0, 2737, .inl (fun k => ii (st.2 (8 + i) (k : Int))))) := by
  match i, hi with
  | 0, _ => rfl
  | 1, _ => rfl
  | 2, _ => rfl
  | k + 3, h => exact absurd h (by omega)
theorem xs_kep {T : Nat → ClassId} {ad : Nat → Nat} {st : St_} {i : Nat} (hi : i < 3) (z v : Int) : (XW T ad st).set (19 + i) (ad (19 + i), .inl (T 0, 2737, .inl (fun k => ii (zup (st.2 (8 + i)) z v (k : Int))))) = XW T ad (sA st (8 + i) z v) := by
  match i, hi with
  | 0, _ => rfl
  | 1, _ => rfl
  | 2, _ => rfl
  | k + 3, h => exact absurd h (by omega)
theorem xg_cnt {T : Nat → ClassId} {ad : Nat → Nat} {st : St_} {i : Nat} (hi : i < 3) : (XW T ad st)[22 + i]? = some (ad (22 + i), .inl (T 0, 7, .inl (fun k => ii (st.2 (11 + i) (k : Int))))) := by
  match i, hi with
  | 0, _ => rfl
  | 1, _ => rfl
  | 2, _ => rfl
  | k + 3, h => exact absurd h (by omega)
theorem xs_cnt {T : Nat → ClassId} {ad : Nat → Nat} {st : St_} {i : Nat} (hi : i < 3) (z v : Int) : (XW T ad st).set (22 + i) (ad (22 + i), .inl (T 0, 7, .inl (fun k => ii (zup (st.2 (11 + i)) z v (k : Int))))) = XW T ad (sA st (11 + i) z v) := by
  match i, hi with
  | 0, _ => rfl
  | 1, _ => rfl
  | 2, _ => rfl
  | k + 3, h => exact absurd h (by omega)
theorem xg_wl {T : Nat → ClassId} {ad : Nat → Nat} {st : St_} {i : Nat} (hi : i < 3) : (XW T ad st)[28 + i]? = some (ad (28 + i), .inl (T 0, 60, .inl (fun k => ii (st.2 (14 + i) (k : Int))))) := by
  match i, hi with
  | 0, _ => rfl
  | 1, _ => rfl
  | 2, _ => rfl
  | k + 3, h => exact absurd h (by omega)
theorem xs_wl {T : Nat → ClassId} {ad : Nat → Nat} {st : St_} {i : Nat} (hi : i < 3) (z v : Int) : (XW T ad st).set (28 + i) (ad (28 + i), .inl (T 0, 60, .inl (fun k => ii (zup (st.2 (14 + i)) z v (k : Int))))) = XW T ad (sA st (14 + i) z v) := by
  match i, hi with
  | 0, _ => rfl
  | 1, _ => rfl
  | 2, _ => rfl
  | k + 3, h => exact absurd h (by omega)
theorem xs_aor {T : Nat → ClassId} {ad : Nat → Nat} {st : St_} (z v : Int) : (XW T ad st).set (4) (ad (4), .inl (T 0, 3, .inl (fun k => ii (zup (st.2 0) z v (k : Int))))) = XW T ad (sA st 0 z v) := by
  rfl
theorem xs_seat {T : Nat → ClassId} {ad : Nat → Nat} {st : St_} (z v : Int) : (XW T ad st).set (32) (ad (32), .inl (T 2, 4096, .inr (.inl (fun k => jj (zup (st.2 17) z v (k : Int)))))) = XW T ad (sA st 17 z v) := by
  rfl
theorem xs_s0 {T : Nat → ClassId} {ad : Nat → Nat} {st : St_} (v : Int) : (XW T ad st).set (0) (ad (0), .inr (5, [.ref (ad 1), .ref (ad 25), .ref (ad 26), .ref (ad 27), .ref (ad 31), .int (ii v), .int (ii (st.1 1))])) = XW T ad (sG st 0 v) := by
  rfl
theorem xs_s1 {T : Nat → ClassId} {ad : Nat → Nat} {st : St_} (v : Int) : (XW T ad st).set (0) (ad (0), .inr (5, [.ref (ad 1), .ref (ad 25), .ref (ad 26), .ref (ad 27), .ref (ad 31), .int (ii (st.1 0)), .int (ii v)])) = XW T ad (sG st 1 v) := by
  rfl
theorem xs_s2 {T : Nat → ClassId} {ad : Nat → Nat} {st : St_} (v : Int) : (XW T ad st).set (1) (ad (1), .inr (1, [.ref (ad 2), .ref (ad 3), .ref (ad 4), .int (ii v)])) = XW T ad (sG st 2 v) := by
  rfl
theorem ms_0 {T : Nat → ClassId} {ad : Nat → Nat} {st : St_} (v : Int) : (MW T ad st).set (0) (ad (0), .inr (6, [.ref (ad 1), .ref (ad 2), .int (ii v), .ref (ad 3), .int (ii (st.1 1)), .ref (ad 4), .ref (ad 5), .ref (ad 6), .ref (ad 7), .int (ii (st.1 2)), .ref (ad 8), .int (ii (st.1 3)), .ref (ad 9), .int (ii (st.1 4)), .ref (ad 10), .int (ii (st.1 5)), .int (ii (st.1 6)), .ref (ad 11), .int (ii (st.1 7)), .ref (ad 12)])) = MW T ad (sG st 0 v) := by
  rfl
theorem ms_1 {T : Nat → ClassId} {ad : Nat → Nat} {st : St_} (v : Int) : (MW T ad st).set (0) (ad (0), .inr (6, [.ref (ad 1), .ref (ad 2), .int (ii (st.1 0)), .ref (ad 3), .int (ii v), .ref (ad 4), .ref (ad 5), .ref (ad 6), .ref (ad 7), .int (ii (st.1 2)), .ref (ad 8), .int (ii (st.1 3)), .ref (ad 9), .int (ii (st.1 4)), .ref (ad 10), .int (ii (st.1 5)), .int (ii (st.1 6)), .ref (ad 11), .int (ii (st.1 7)), .ref (ad 12)])) = MW T ad (sG st 1 v) := by
  rfl
theorem ms_2 {T : Nat → ClassId} {ad : Nat → Nat} {st : St_} (v : Int) : (MW T ad st).set (0) (ad (0), .inr (6, [.ref (ad 1), .ref (ad 2), .int (ii (st.1 0)), .ref (ad 3), .int (ii (st.1 1)), .ref (ad 4), .ref (ad 5), .ref (ad 6), .ref (ad 7), .int (ii v), .ref (ad 8), .int (ii (st.1 3)), .ref (ad 9), .int (ii (st.1 4)), .ref (ad 10), .int (ii (st.1 5)), .int (ii (st.1 6)), .ref (ad 11), .int (ii (st.1 7)), .ref (ad 12)])) = MW T ad (sG st 2 v) := by
  rfl
theorem ms_3 {T : Nat → ClassId} {ad : Nat → Nat} {st : St_} (v : Int) : (MW T ad st).set (0) (ad (0), .inr (6, [.ref (ad 1), .ref (ad 2), .int (ii (st.1 0)), .ref (ad 3), .int (ii (st.1 1)), .ref (ad 4), .ref (ad 5), .ref (ad 6), .ref (ad 7), .int (ii (st.1 2)), .ref (ad 8), .int (ii v), .ref (ad 9), .int (ii (st.1 4)), .ref (ad 10), .int (ii (st.1 5)), .int (ii (st.1 6)), .ref (ad 11), .int (ii (st.1 7)), .ref (ad 12)])) = MW T ad (sG st 3 v) := by
  rfl
theorem ms_4 {T : Nat → ClassId} {ad : Nat → Nat} {st : St_} (v : Int) : (MW T ad st).set (0) (ad (0), .inr (6, [.ref (ad 1), .ref (ad 2), .int (ii (st.1 0)), .ref (ad 3), .int (ii (st.1 1)), .ref (ad 4), .ref (ad 5), .ref (ad 6), .ref (ad 7), .int (ii (st.1 2)), .ref (ad 8), .int (ii (st.1 3)), .ref (ad 9), .int (ii v), .ref (ad 10), .int (ii (st.1 5)), .int (ii (st.1 6)), .ref (ad 11), .int (ii (st.1 7)), .ref (ad 12)])) = MW T ad (sG st 4 v) := by
  rfl
theorem ms_5 {T : Nat → ClassId} {ad : Nat → Nat} {st : St_} (v : Int) : (MW T ad st).set (0) (ad (0), .inr (6, [.ref (ad 1), .ref (ad 2), .int (ii (st.1 0)), .ref (ad 3), .int (ii (st.1 1)), .ref (ad 4), .ref (ad 5), .ref (ad 6), .ref (ad 7), .int (ii (st.1 2)), .ref (ad 8), .int (ii (st.1 3)), .ref (ad 9), .int (ii (st.1 4)), .ref (ad 10), .int (ii v), .int (ii (st.1 6)), .ref (ad 11), .int (ii (st.1 7)), .ref (ad 12)])) = MW T ad (sG st 5 v) := by
  rfl
theorem ms_6 {T : Nat → ClassId} {ad : Nat → Nat} {st : St_} (v : Int) : (MW T ad st).set (0) (ad (0), .inr (6, [.ref (ad 1), .ref (ad 2), .int (ii (st.1 0)), .ref (ad 3), .int (ii (st.1 1)), .ref (ad 4), .ref (ad 5), .ref (ad 6), .ref (ad 7), .int (ii (st.1 2)), .ref (ad 8), .int (ii (st.1 3)), .ref (ad 9), .int (ii (st.1 4)), .ref (ad 10), .int (ii (st.1 5)), .int (ii v), .ref (ad 11), .int (ii (st.1 7)), .ref (ad 12)])) = MW T ad (sG st 6 v) := by
  rfl
theorem ms_7 {T : Nat → ClassId} {ad : Nat → Nat} {st : St_} (v : Int) : (MW T ad st).set (0) (ad (0), .inr (6, [.ref (ad 1), .ref (ad 2), .int (ii (st.1 0)), .ref (ad 3), .int (ii (st.1 1)), .ref (ad 4), .ref (ad 5), .ref (ad 6), .ref (ad 7), .int (ii (st.1 2)), .ref (ad 8), .int (ii (st.1 3)), .ref (ad 9), .int (ii (st.1 4)), .ref (ad 10), .int (ii (st.1 5)), .int (ii (st.1 6)), .ref (ad 11), .int (ii v), .ref (ad 12)])) = MW T ad (sG st 7 v) := by
  rfl
theorem ma_0 {T : Nat → ClassId} {ad : Nat → Nat} {st : St_} (z v : Int) : (MW T ad st).set (1) (ad (1), .inl (T 0, 16, .inl (fun k => ii (zup (st.2 0) z v (k : Int))))) = MW T ad (sA st 0 z v) := by
  rfl
theorem ma_1 {T : Nat → ClassId} {ad : Nat → Nat} {st : St_} (z v : Int) : (MW T ad st).set (2) (ad (2), .inl (T 0, 4, .inl (fun k => ii (zup (st.2 1) z v (k : Int))))) = MW T ad (sA st 1 z v) := by
  rfl
theorem ma_2 {T : Nat → ClassId} {ad : Nat → Nat} {st : St_} (z v : Int) : (MW T ad st).set (3) (ad (3), .inl (T 0, 3, .inl (fun k => ii (zup (st.2 2) z v (k : Int))))) = MW T ad (sA st 2 z v) := by
  rfl
theorem ma_3 {T : Nat → ClassId} {ad : Nat → Nat} {st : St_} (z v : Int) : (MW T ad st).set (4) (ad (4), .inl (T 1, 100001, .inl (fun k => ii (zup (st.2 3) z v (k : Int))))) = MW T ad (sA st 3 z v) := by
  rfl
theorem ma_4 {T : Nat → ClassId} {ad : Nat → Nat} {st : St_} (z v : Int) : (MW T ad st).set (5) (ad (5), .inl (T 1, 100001, .inl (fun k => ii (zup (st.2 4) z v (k : Int))))) = MW T ad (sA st 4 z v) := by
  rfl
theorem ma_5 {T : Nat → ClassId} {ad : Nat → Nat} {st : St_} (z v : Int) : (MW T ad st).set (6) (ad (6), .inl (T 1, 100001, .inl (fun k => ii (zup (st.2 5) z v (k : Int))))) = MW T ad (sA st 5 z v) := by
  rfl
theorem ma_6 {T : Nat → ClassId} {ad : Nat → Nat} {st : St_} (z v : Int) : (MW T ad st).set (7) (ad (7), .inl (T 0, 3, .inl (fun k => ii (zup (st.2 6) z v (k : Int))))) = MW T ad (sA st 6 z v) := by
  rfl
theorem ma_7 {T : Nat → ClassId} {ad : Nat → Nat} {st : St_} (z v : Int) : (MW T ad st).set (8) (ad (8), .inl (T 0, 60, .inl (fun k => ii (zup (st.2 7) z v (k : Int))))) = MW T ad (sA st 7 z v) := by
  rfl
theorem ma_8 {T : Nat → ClassId} {ad : Nat → Nat} {st : St_} (z v : Int) : (MW T ad st).set (9) (ad (9), .inl (T 0, 60, .inl (fun k => ii (zup (st.2 8) z v (k : Int))))) = MW T ad (sA st 8 z v) := by
  rfl
theorem ma_9 {T : Nat → ClassId} {ad : Nat → Nat} {st : St_} (z v : Int) : (MW T ad st).set (10) (ad (10), .inl (T 0, 60, .inl (fun k => ii (zup (st.2 9) z v (k : Int))))) = MW T ad (sA st 9 z v) := by
  rfl
theorem ma_10 {T : Nat → ClassId} {ad : Nat → Nat} {st : St_} (z v : Int) : (MW T ad st).set (11) (ad (11), .inl (T 0, 15, .inl (fun k => ii (zup (st.2 10) z v (k : Int))))) = MW T ad (sA st 10 z v) := by
  rfl
theorem ma_11 {T : Nat → ClassId} {ad : Nat → Nat} {st : St_} (z v : Int) : (MW T ad st).set (12) (ad (12), .inl (T 2, 2000, .inr (.inl (fun k => jj (zup (st.2 11) z v (k : Int)))))) = MW T ad (sA st 11 z v) := by
  rfl
end
section
/-! base: whole arrays changed, sums, word numbers -/
def sF (st : St_) (q : Nat) (f : Int → Int) : St_ := (st.1, fun r => if r = q then f else st.2 r)
theorem sF_1 (st : St_) (q : Nat) (f : Int → Int) : (sF st q f).1 = st.1 := rfl
theorem sF_2 (st : St_) (q : Nat) (f : Int → Int) (r : Nat) : (sF st q f).2 r = if r = q then f else st.2 r := rfl
theorem sF_s (st : St_) (q : Nat) (f : Int → Int) : (sF st q f).2 q = f := by simp [sF]
theorem sF_n (st : St_) {q r : Nat} (f : Int → Int) (h : r ≠ q) : (sF st q f).2 r = st.2 r := by simp [sF, h]
def nsum (f : Int → Int) : Nat → Int
  | 0 => 0
  | n + 1 => nsum f n + f (n : Int)
def isum (f : Int → Int) (k : Int) : Int := nsum f k.toNat
theorem isum_0 (f : Int → Int) : isum f 0 = 0 := rfl
theorem isum_s (f : Int → Int) {k : Int} (h : 0 ≤ k) : isum f (k + 1) = isum f k + f k := by
  obtain ⟨n, rfl⟩ := Int.eq_ofNat_of_zero_le h
  show nsum f ((n : Int) + 1).toNat = nsum f ((n : Int)).toNat + f n
  rw [show ((n : Int) + 1).toNat = n + 1 from by omega, show ((n : Int)).toNat = n from by omega]
  rfl
end
section
/-! words as lists: the runs' lengths, the shortened word, the depth -/
def wln (f : Int → Int) : Nat → List Int
  | 0 => []
  | n + 1 => wln f n ++ [f (n : Int)]
def wl (f : Int → Int) (n : Int) : List Int := wln f n.toNat
theorem wl_0 (f : Int → Int) : wl f 0 = [] := rfl
theorem wl_n (f : Int → Int) (n : Nat) : wl f (n : Int) = wln f n := by show wln f ((n : Int)).toNat = _; rw [show ((n : Int)).toNat = n from by omega]
theorem wl_s (f : Int → Int) {k : Int} (h : 0 ≤ k) : wl f (k + 1) = wl f k ++ [f k] := by
  obtain ⟨n, rfl⟩ := Int.eq_ofNat_of_zero_le h
  rw [show ((n : Int) + 1) = ((n + 1 : Nat) : Int) from by omega, wl_n, wl_n]
  rfl
theorem wln_len (f : Int → Int) (n : Nat) : (wln f n).length = n := by
  induction n with
  | zero => rfl
  | succ n ih => simp [wln, ih]
theorem wl_len (f : Int → Int) {k : Int} (h : 0 ≤ k) : ((wl f k).length : Int) = k := by
  show ((wln f k.toNat).length : Int) = k
  rw [wln_len]; omega
theorem wln_congr {f g : Int → Int} (n : Nat) (h : ∀ j : Int, 0 ≤ j → j < n → f j = g j) : wln f n = wln g n := by
  induction n with
  | zero => rfl
  | succ n ih =>
    show wln f n ++ [f n] = wln g n ++ [g n]
    rw [ih (fun j h0 h1 => h j h0 (by omega)), h n (by omega) (by omega)]
theorem wl_congr {f g : Int → Int} {k : Int} (h : ∀ j : Int, 0 ≤ j → j < k → f j = g j) : wl f k = wl g k :=
  wln_congr _ (fun j h0 h1 => h j h0 (by omega))
theorem wl_zup (f : Int → Int) {k z : Int} (v : Int) (h : k ≤ z) : wl (zup f z v) k = wl f k :=
  wl_congr (fun j _ h1 => zup_ne f v (by omega))
theorem wl_put (f : Int → Int) {k : Int} (v : Int) (h : 0 ≤ k) : wl (zup f k v) (k + 1) = wl f k ++ [v] := by
  rw [wl_s _ h, wl_zup f v (by omega), zup_eq]
theorem wln_inj {f g : Int → Int} (n : Nat) (h : wln f n = wln g n) : ∀ j : Int, 0 ≤ j → j < n → f j = g j := by
  induction n with
  | zero => intro j h0 h1; omega
  | succ n ih =>
    intro j h0 h1
    have h2 : wln f n ++ [f n] = wln g n ++ [g n] := h
    obtain ⟨h3, h4⟩ := List.append_inj h2 (by rw [wln_len, wln_len])
    by_cases hj : j = n
    · rw [hj]; exact (List.cons.inj h4).1
    · exact ih h3 j h0 (by omega)
theorem wl_inj {f g : Int → Int} {k : Int} (h : wl f k = wl g k) : ∀ j : Int, 0 ≤ j → j < k → f j = g j := fun j h0 h1 => wln_inj _ h j h0 (by omega)
theorem wl_eq {f g : Int → Int} {a b : Int} (ha : 0 ≤ a) (hb : 0 ≤ b) (h : wl f a = wl g b) : a = b ∧ ∀ j : Int, 0 ≤ j → j < a → f j = g j := by
  have h1 : a = b := by rw [← wl_len f ha, ← wl_len g hb, h]
  subst h1
  exact ⟨rfl, wl_inj h⟩
theorem wln_mem (f : Int → Int) (n : Nat) (x : Int) (h : x ∈ wln f n) : ∃ j : Int, 0 ≤ j ∧ j < n ∧ x = f j := by
  induction n with
  | zero => cases h
  | succ n ih =>
    rcases List.mem_append.mp h with h | h
    · obtain ⟨j, h0, h1, h2⟩ := ih h
      exact ⟨j, h0, by omega, h2⟩
    · exact ⟨n, by omega, by omega, List.mem_singleton.mp h⟩
theorem wl_mem (f : Int → Int) (k : Int) (x : Int) (h : x ∈ wl f k) : ∃ j : Int, 0 ≤ j ∧ j < k ∧ x = f j := by
  obtain ⟨j, h0, h1, h2⟩ := wln_mem f _ x h
  exact ⟨j, h0, by omega, h2⟩
theorem mem_wln (f : Int → Int) (n : Nat) (j : Int) (h0 : 0 ≤ j) (h1 : j < n) : f j ∈ wln f n := by
  induction n with
  | zero => omega
  | succ n ih =>
    by_cases hj : j = n
    · rw [hj]; exact List.mem_append_right _ (List.mem_singleton.mpr rfl)
    · exact List.mem_append_left _ (ih (by omega))
theorem mem_wl (f : Int → Int) {k j : Int} (h0 : 0 ≤ j) (h1 : j < k) : f j ∈ wl f k := mem_wln f _ j h0 (by omega)
/-- the last of a list grows by one -/
def incL : List Int → List Int
  | [] => []
  | [x] => [x + 1]
  | x :: y :: t => x :: incL (y :: t)
theorem incL_app (q : List Int) (x : Int) : incL (q ++ [x]) = q ++ [x + 1] := by
  induction q with
  | nil => rfl
  | cons a t ih =>
    cases t with
    | nil => rfl
    | cons b t => exact congrArg (a :: ·) ih
/-- the lengths of the runs of the first n letters -/
def runsP (f : Int → Int) : Nat → List Int
  | 0 => []
  | n + 1 => if n = 0 ∨ f (n : Int) ≠ f ((n : Int) - 1) then runsP f n ++ [1] else incL (runsP f n)
theorem runsP_congr {f g : Int → Int} (n : Nat) (h : ∀ j : Int, 0 ≤ j → j < n → f j = g j) : runsP f n = runsP g n := by
  induction n with
  | zero => rfl
  | succ n ih =>
    have h1 := ih (fun j h0 h1 => h j h0 (by omega))
    by_cases h0 : n = 0
    · subst h0; rfl
    · show (if _ then _ else _) = (if _ then _ else _)
      rw [h1, h n (by omega) (by omega), h ((n : Int) - 1) (by omega) (by omega)]
theorem runsP_new {f : Int → Int} {n : Nat} (h : n = 0 ∨ f (n : Int) ≠ f ((n : Int) - 1)) : runsP f (n + 1) = runsP f n ++ [1] := if_pos h
theorem runsP_old {f : Int → Int} {n : Nat} (h : ¬ (n = 0 ∨ f (n : Int) ≠ f ((n : Int) - 1))) : runsP f (n + 1) = incL (runsP f n) := if_neg h
def lsum (l : List Int) : Int := l.foldr (· + ·) 0
theorem lsum_app (a b : List Int) : lsum (a ++ b) = lsum a + lsum b := by
  induction a with
  | nil => simp [lsum]
  | cons x t ih => simp only [lsum, List.cons_append, List.foldr_cons] at ih ⊢; omega
theorem runsP_facts (f : Int → Int) (n : Nat) : (∀ x ∈ runsP f n, 1 ≤ x) ∧ lsum (runsP f n) = n ∧ (0 < n → ∃ q x, runsP f n = q ++ [x]) := by
  induction n with
  | zero => exact ⟨fun x h => (by cases h), rfl, fun h => absurd h (by omega)⟩
  | succ n ih =>
    obtain ⟨h1, h2, h3⟩ := ih
    by_cases hc : n = 0 ∨ f (n : Int) ≠ f ((n : Int) - 1)
    · rw [runsP_new hc]
      refine ⟨fun x hx => ?_, ?_, fun _ => ⟨_, _, rfl⟩⟩
      · rcases List.mem_append.mp hx with h | h
        · exact h1 x h
        · rw [List.mem_singleton.mp h]; omega
      · rw [lsum_app, h2]; simp [lsum]
    · rw [runsP_old hc]
      obtain ⟨q, y, hq⟩ := h3 (by omega)
      rw [hq, incL_app]
      rw [hq] at h1 h2
      refine ⟨fun x hx => ?_, ?_, fun _ => ⟨_, _, rfl⟩⟩
      · rcases List.mem_append.mp hx with h | h
        · exact h1 x (List.mem_append_left _ h)
        · have := h1 y (List.mem_append_right _ (List.mem_singleton.mpr rfl))
          rw [List.mem_singleton.mp h]; omega
      · rw [lsum_app] at h2 ⊢
        simp only [lsum, List.foldr] at h2 ⊢
        omega
/-- the ends that are shorter than g left out -/
def dropF (g : Int) : List Int → List Int
  | [] => []
  | x :: t => if x < g then t else x :: t
def dropE (g : Int) : List Int → List Int
  | [] => []
  | [x] => if x < g then [] else [x]
  | x :: y :: t => x :: dropE g (y :: t)
theorem dropE_app (g : Int) (q : List Int) (x : Int) : dropE g (q ++ [x]) = if x < g then q else q ++ [x] := by
  induction q with
  | nil => rfl
  | cons a t ih =>
    cases t with
    | nil => simp only [List.cons_append, List.nil_append, dropE]; split <;> rfl
    | cons b t =>
      show a :: dropE g (b :: t ++ [x]) = _
      rw [ih]; split <;> rfl
theorem dropF_app (g : Int) (q : List Int) (x : Int) (h : q ≠ []) : dropF g (q ++ [x]) = dropF g q ++ [x] := by
  cases q with
  | nil => exact absurd rfl h
  | cons a t => simp only [List.cons_append, dropF]; split <;> rfl
def sh (g : Int) (r : List Int) : List Int := dropE g (dropF g r)
theorem dropF_len (g : Int) (l : List Int) : (dropF g l).length ≤ l.length := by
  cases l with
  | nil => exact Nat.le_refl _
  | cons a t => simp only [dropF]; split <;> simp
theorem dropE_len (g : Int) (l : List Int) : (dropE g l).length ≤ l.length := by
  induction l with
  | nil => exact Nat.le_refl _
  | cons a t ih =>
    cases t with
    | nil => simp only [dropE]; split <;> simp
    | cons b t => simp only [dropE, List.length_cons] at ih ⊢; omega
theorem sh_len (g : Int) (l : List Int) : (sh g l).length ≤ l.length := Nat.le_trans (dropE_len _ _) (dropF_len _ _)
theorem lsum_len (l : List Int) (h : ∀ x ∈ l, 1 ≤ x) : (l.length : Int) ≤ lsum l := by
  induction l with
  | nil => exact Int.le_refl _
  | cons a t ih =>
    have h1 := ih (fun x hx => h x (List.mem_cons_of_mem _ hx))
    have h2 := h a List.mem_cons_self
    simp only [lsum, List.foldr_cons, List.length_cons] at h1 ⊢
    omega
/-- a list's letters as a function; the runs of a list -/
def lf (w : List Int) : Int → Int := fun k => w.getD k.toNat 0
def RLw (w : List Int) : List Int := runsP (lf w) w.length
theorem wln_getD (f : Int → Int) (n : Nat) (j : Nat) (h : j < n) : (wln f n).getD j 0 = f j := by
  induction n with
  | zero => omega
  | succ n ih =>
    show (wln f n ++ [f n]).getD j 0 = f j
    by_cases hj : j = n
    · subst hj
      rw [List.getD_eq_getElem?_getD, List.getElem?_append_right (by rw [wln_len]; omega), wln_len]
      simp
    · rw [List.getD_eq_getElem?_getD, List.getElem?_append_left (by rw [wln_len]; omega), ← List.getD_eq_getElem?_getD]
      exact ih (by omega)
theorem RLw_wl (f : Int → Int) (n : Nat) : RLw (wl f (n : Int)) = runsP f n := by
  rw [wl_n]
  show runsP (lf (wln f n)) (wln f n).length = _
  rw [wln_len]
  refine runsP_congr n (fun j h0 h1 => ?_)
  obtain ⟨k, rfl⟩ := Int.eq_ofNat_of_zero_le h0
  show (wln f n).getD ((k : Int)).toNat 0 = f k
  rw [show ((k : Int)).toNat = k from by omega]
  exact wln_getD f n k (by omega)
theorem RLw_facts (w : List Int) : (∀ x ∈ RLw w, 1 ≤ x) ∧ lsum (RLw w) = w.length := ⟨(runsP_facts (lf w) w.length).1, (runsP_facts (lf w) w.length).2.1⟩
theorem RLw_len (w : List Int) : (RLw w).length ≤ w.length := by
  have h := lsum_len _ (RLw_facts w).1
  rw [(RLw_facts w).2] at h
  omega
/-- above g: a letter, or a run -/
def badW (g : Int) (w : List Int) : Bool := w.any (fun x => decide (g < x)) || (RLw w).any (fun x => decide (g < x))
/-- how often a word is shortened till it is empty; -1: it may not stand -/
def dp (g : Int) : Nat → List Int → Int
  | 0, w => if w = [] then 0 else -1
  | n + 1, w => if w = [] then 0 else if badW g w = true then -1 else if dp g n (sh g (RLw w)) = -1 then -1 else dp g n (sh g (RLw w)) + 1
theorem sh_less {g : Int} (hg : 2 ≤ g) (w : List Int) (h : w ≠ []) : (sh g (RLw w)).length < w.length := by
  have h1 := RLw_facts w
  have h2 := sh_len g (RLw w)
  have h3 := RLw_len w
  have hp : 0 < w.length := List.length_pos_iff.mpr h
  by_cases hl : (RLw w).length = w.length
  · cases hr : RLw w with
    | nil => rw [hr] at hl; simp at hl; omega
    | cons a t =>
      have ha : a = 1 := by
        have h4 := h1.1 a (by rw [hr]; exact List.mem_cons_self)
        have h5 := lsum_len t (fun x hx => h1.1 x (by rw [hr]; exact List.mem_cons_of_mem _ hx))
        have h6 := h1.2
        rw [hr] at h6 hl
        simp only [lsum, List.foldr_cons, List.length_cons] at h6 hl h5
        omega
      have h7 : dropF g (a :: t) = t := by simp only [dropF]; rw [if_pos (by omega)]
      show (dropE g (dropF g (a :: t))).length < w.length
      rw [h7]
      have h8 := dropE_len g t
      rw [hr] at hl
      simp only [List.length_cons] at hl
      omega
  · omega
theorem dp_more {g : Int} (hg : 2 ≤ g) : ∀ (n k : Nat) (w : List Int), w.length ≤ n → w.length ≤ k → dp g n w = dp g k w := by
  intro n
  induction n with
  | zero =>
    intro k w h1 h2
    have : w = [] := List.length_eq_zero_iff.mp (by omega)
    subst this
    cases k <;> rfl
  | succ n ih =>
    intro k w h1 h2
    cases k with
    | zero =>
      have : w = [] := List.length_eq_zero_iff.mp (by omega)
      subst this
      rfl
    | succ k =>
      by_cases hw : w = []
      · subst hw; rfl
      · have h3 := sh_less hg w hw
        show (if _ then _ else _) = (if _ then _ else _)
        rw [ih k (sh g (RLw w)) (by omega) (by omega)]
/-- the depth -/
def dpt (g : Int) (w : List Int) : Int := dp g w.length w
theorem dpt_0 (g : Int) : dpt g [] = 0 := rfl
theorem dpt_bad {g : Int} {w : List Int} (h : w ≠ []) (hb : badW g w = true) : dpt g w = -1 := by
  unfold dpt
  cases hl : w.length with
  | zero => exact absurd (List.length_eq_zero_iff.mp hl) h
  | succ n => show (if _ then _ else _) = _; rw [if_neg h, if_pos hb]
theorem dpt_s {g : Int} (hg : 2 ≤ g) {w : List Int} (h : w ≠ []) (hb : badW g w = false) : dpt g w = if dpt g (sh g (RLw w)) = -1 then -1 else dpt g (sh g (RLw w)) + 1 := by
  unfold dpt
  have h3 := sh_less hg w h
  cases hl : w.length with
  | zero => exact absurd (List.length_eq_zero_iff.mp hl) h
  | succ n =>
    rw [dp_more hg (sh g (RLw w)).length n (sh g (RLw w)) (by omega) (by omega)]
    show (if _ then _ else _) = _
    rw [if_neg h, if_neg (by rw [hb]; exact Bool.false_ne_true)]
theorem dpt_ge (g : Int) (w : List Int) : -1 ≤ dpt g w := by
  have h : ∀ (n : Nat) (w : List Int), -1 ≤ dp g n w := by
    intro n
    induction n with
    | zero => intro w; simp only [dp]; split <;> omega
    | succ n ih =>
      intro w
      have h1 := ih (sh g (RLw w))
      simp only [dp]
      split
      · omega
      · split
        · omega
        · split <;> omega
  exact h _ _
theorem badW_iff (g : Int) (w : List Int) : badW g w = true ↔ (∃ x ∈ w, g < x) ∨ ∃ x ∈ RLw w, g < x := by
  unfold badW
  rw [Bool.or_eq_true, List.any_eq_true, List.any_eq_true]
  constructor
  · rintro (⟨x, h1, h2⟩ | ⟨x, h1, h2⟩)
    · exact Or.inl ⟨x, h1, of_decide_eq_true h2⟩
    · exact Or.inr ⟨x, h1, of_decide_eq_true h2⟩
  · rintro (⟨x, h1, h2⟩ | ⟨x, h1, h2⟩)
    · exact Or.inl ⟨x, h1, decide_eq_true h2⟩
    · exact Or.inr ⟨x, h1, decide_eq_true h2⟩
end
section
/-! the rows that tell the lengths of their runs -/
theorem nsum_congr {f g : Int → Int} (n : Nat) (h : ∀ j : Int, 0 ≤ j → j < n → f j = g j) : nsum f n = nsum g n := by
  induction n with
  | zero => rfl
  | succ n ih =>
    show nsum f n + f n = nsum g n + g n
    rw [ih (fun j h0 h1 => h j h0 (by omega)), h n (by omega) (by omega)]
theorem isum_congr {f g : Int → Int} {k : Int} (h : ∀ j : Int, 0 ≤ j → j < k → f j = g j) : isum f k = isum g k :=
  nsum_congr _ (fun j h0 h1 => h j h0 (by omega))
theorem isum_n (f : Int → Int) (n : Nat) : isum f (n : Int) = nsum f n := by
  show nsum f ((n : Int)).toNat = _
  rw [show ((n : Int)).toNat = n from by omega]
theorem isum_neg (f : Int → Int) {k : Int} (h : k ≤ 0) : isum f k = 0 := by
  show nsum f k.toNat = 0
  rw [show k.toNat = 0 from by omega]
  rfl
/-- f is at least 1 -/
theorem isum_mono {f : Int → Int} (h : ∀ j : Int, 0 ≤ j → 1 ≤ f j) {a b : Int} (h0 : 0 ≤ a) (h1 : a ≤ b) : isum f a + (b - a) ≤ isum f b := by
  obtain ⟨d, hd⟩ : ∃ d : Nat, b = a + d := ⟨(b - a).toNat, by omega⟩
  subst hd
  clear h1
  induction d with
  | zero => rw [show a + ((0 : Nat) : Int) = a from by omega]; omega
  | succ d ih =>
    have e : a + ((d + 1 : Nat) : Int) = (a + d) + 1 := by omega
    rw [e, isum_s f (by omega)]
    have := h (a + d) (by omega)
    omega
theorem isum_ge {f : Int → Int} (h : ∀ j : Int, 0 ≤ j → 1 ≤ f j) {b : Int} (h0 : 0 ≤ b) : b ≤ isum f b := by
  have := isum_mono h (Int.le_refl 0) h0
  rw [isum_0] at this
  omega
/-- the greatest t up to c with isum f t ≤ k -/
def fj (f : Int → Int) (k : Int) : Nat → Nat
  | 0 => 0
  | c + 1 => if isum f ((c : Int) + 1) ≤ k then c + 1 else fj f k c
theorem fj_le (f : Int → Int) (k : Int) (c : Nat) : fj f k c ≤ c := by
  induction c with
  | zero => exact Nat.le_refl 0
  | succ c ih => simp only [fj]; split <;> omega
theorem fj_sum {f : Int → Int} {k : Int} (hk : 0 ≤ k) (c : Nat) : isum f (fj f k c : Nat) ≤ k := by
  induction c with
  | zero => exact hk
  | succ c ih =>
    simp only [fj]
    split
    · rw [show (((c + 1 : Nat)) : Int) = (c : Int) + 1 from by omega]; assumption
    · exact ih
theorem fj_gt {f : Int → Int} {k : Int} (c : Nat) : ∀ t : Nat, fj f k c < t → t ≤ c → k < isum f (t : Int) := by
  induction c with
  | zero => intro t h1 h2; omega
  | succ c ih =>
    intro t h1 h2
    simp only [fj] at h1
    split at h1
    · omega
    · by_cases ht : t = c + 1
      · subst ht
        rw [show (((c + 1 : Nat)) : Int) = (c : Int) + 1 from by omega]
        omega
      · exact ih t h1 (by omega)
theorem fj_congr {f g : Int → Int} {k : Int} (c : Nat) (h : ∀ j : Int, 0 ≤ j → j < c → f j = g j) : fj f k c = fj g k c := by
  induction c with
  | zero => rfl
  | succ c ih =>
    simp only [fj]
    rw [ih (fun j h0 h1 => h j h0 (by omega)), isum_congr (fun j h0 h1 => h j h0 (by omega))]
def TQ (lt : Nat → Int → Int) (nx : Nat → Nat) : Nat → Nat → Int → Int
  | 0 => fun _ _ => 0
  | m + 1 => fun r u => if u < (m : Int) then TQ lt nx m r u else lt r ((fj (TQ lt nx m (nx r)) (m : Int) m : Nat) : Int)
/-- number k of row r -/
def SQ (lt : Nat → Int → Int) (nx : Nat → Nat) (r : Nat) (k : Int) : Int := TQ lt nx (k.toNat + 1) r k
theorem TQ_eq (lt : Nat → Int → Int) (nx : Nat → Nat) (m : Nat) : ∀ (r : Nat) (u : Int), 0 ≤ u → u < m → TQ lt nx m r u = SQ lt nx r u := by
  induction m with
  | zero => intro r u h0 h1; omega
  | succ m ih =>
    intro r u h0 h1
    by_cases hu : u < (m : Int)
    · show (if _ then _ else _) = _
      rw [if_pos hu]
      exact ih r u h0 hu
    · have : u.toNat = m := by omega
      unfold SQ
      rw [this]
theorem SQ_val (lt : Nat → Int → Int) (nx : Nat → Nat) (r : Nat) (m : Nat) : SQ lt nx r (m : Int) = lt r ((fj (SQ lt nx (nx r)) (m : Int) m : Nat) : Int) := by
  unfold SQ
  rw [show ((m : Int)).toNat = m from by omega]
  show (if _ then _ else _) = _
  rw [if_neg (by omega), fj_congr m (fun j h0 h1 => TQ_eq lt nx m (nx r) j h0 h1)]
  rfl
theorem SQ_pos {lt : Nat → Int → Int} {nx : Nat → Nat} (h : ∀ r j, 0 ≤ j → 1 ≤ lt r j) (r : Nat) : ∀ k : Int, 0 ≤ k → 1 ≤ SQ lt nx r k := by
  intro k hk
  obtain ⟨m, rfl⟩ := Int.eq_ofNat_of_zero_le hk
  rw [SQ_val]
  exact h _ _ (by omega)
theorem SQ_le {lt : Nat → Int → Int} {nx : Nat → Nat} {b : Int} (h : ∀ r j, 0 ≤ j → lt r j ≤ b) (r : Nat) : ∀ k : Int, 0 ≤ k → SQ lt nx r k ≤ b := by
  intro k hk
  obtain ⟨m, rfl⟩ := Int.eq_ofNat_of_zero_le hk
  rw [SQ_val]
  exact h _ _ (by omega)
/-- where run j of row r begins -/
def BQ (lt : Nat → Int → Int) (nx : Nat → Nat) (r : Nat) (j : Int) : Int := isum (SQ lt nx (nx r)) j
theorem BQ_0 (lt : Nat → Int → Int) (nx : Nat → Nat) (r : Nat) : BQ lt nx r 0 = 0 := rfl
theorem BQ_s (lt : Nat → Int → Int) (nx : Nat → Nat) (r : Nat) {j : Int} (h : 0 ≤ j) : BQ lt nx r (j + 1) = BQ lt nx r j + SQ lt nx (nx r) j := isum_s _ h
theorem BQ_mono {lt : Nat → Int → Int} {nx : Nat → Nat} (h : ∀ r j, 0 ≤ j → 1 ≤ lt r j) (r : Nat) {a b : Int} (h0 : 0 ≤ a) (h1 : a ≤ b) : BQ lt nx r a + (b - a) ≤ BQ lt nx r b := isum_mono (SQ_pos h _) h0 h1
theorem BQ_ge {lt : Nat → Int → Int} {nx : Nat → Nat} (h : ∀ r j, 0 ≤ j → 1 ≤ lt r j) (r : Nat) {b : Int} (h0 : 0 ≤ b) : b ≤ BQ lt nx r b := isum_ge (SQ_pos h _) h0
theorem SQ_run {lt : Nat → Int → Int} {nx : Nat → Nat} (h : ∀ r j, 0 ≤ j → 1 ≤ lt r j) {r : Nat} {j k : Int} (hj : 0 ≤ j) (h1 : BQ lt nx r j ≤ k) (h2 : k < BQ lt nx r (j + 1)) : SQ lt nx r k = lt r j := by
  have hg := BQ_ge (nx := nx) h r hj
  obtain ⟨m, rfl⟩ := Int.eq_ofNat_of_zero_le (show 0 ≤ k by omega)
  obtain ⟨i, rfl⟩ := Int.eq_ofNat_of_zero_le hj
  rw [SQ_val]
  have a1 := fj_le (SQ lt nx (nx r)) (m : Int) m
  have a2 : BQ lt nx r ((fj (SQ lt nx (nx r)) (m : Int) m : Nat) : Int) ≤ m := fj_sum (by omega) m
  have a3 := fj_gt (f := SQ lt nx (nx r)) (k := (m : Int)) m
  generalize fj (SQ lt nx (nx r)) (m : Int) m = w at a1 a2 a3
  have hw : w = i := by
    rcases Nat.lt_trichotomy w i with q | q | q
    · have h3 : (m : Int) < BQ lt nx r (i : Int) := a3 i q (by omega)
      omega
    · exact q
    · have := BQ_mono (nx := nx) h r (a := (i : Int) + 1) (b := (w : Int)) (by omega) (by omega)
      omega
  rw [hw]
/-- how many of the first n places begin a run of f -/
def chg (f : Int → Int) (n : Int) : Int := isum (fun k => if k = 0 ∨ f k ≠ f (k - 1) then 1 else 0) n
/-- how many of the first n are v -/
def cntv (f : Int → Int) (v n : Int) : Int := isum (fun k => if f k = v then 1 else 0) n
theorem chg_s (f : Int → Int) {n : Int} (h : 0 ≤ n) : chg f (n + 1) = chg f n + if n = 0 ∨ f n ≠ f (n - 1) then 1 else 0 := isum_s _ h
theorem cntv_s (f : Int → Int) (v : Int) {n : Int} (h : 0 ≤ n) : cntv f v (n + 1) = cntv f v n + if f n = v then 1 else 0 := isum_s _ h
theorem chg_congr {f g : Int → Int} {n : Int} (h : ∀ j : Int, 0 ≤ j → j < n → f j = g j) : chg f n = chg g n := by
  refine isum_congr (fun j h0 h1 => ?_)
  by_cases hj : j = 0
  · rw [if_pos (Or.inl hj), if_pos (Or.inl hj)]
  · rw [h j h0 h1, h (j - 1) (by omega) (by omega)]
theorem cntv_congr {f g : Int → Int} {v n : Int} (h : ∀ j : Int, 0 ≤ j → j < n → f j = g j) : cntv f v n = cntv g v n :=
  isum_congr (fun j h0 h1 => by rw [h j h0 h1])
theorem chg_run {lt : Nat → Int → Int} {nx : Nat → Nat} (h : ∀ r j, 0 ≤ j → 1 ≤ lt r j) {r : Nat} (hd : ∀ j, 0 ≤ j → lt r j ≠ lt r (j + 1)) : ∀ (n : Nat) (R : Int), 1 ≤ n → 1 ≤ R → BQ lt nx r (R - 1) < n → (n : Int) ≤ BQ lt nx r R → chg (SQ lt nx r) n = R := by
  intro n
  induction n with
  | zero => intro R h0; omega
  | succ n ih =>
    intro R h0 hR h1 h2
    rw [show (((n + 1 : Nat)) : Int) = (n : Int) + 1 from by omega] at h1 h2 ⊢
    rw [chg_s _ (by omega)]
    by_cases hn : n = 0
    · subst hn
      have h3 := BQ_ge (nx := nx) h r (show 0 ≤ R - 1 by omega)
      rw [if_pos (by exact Or.inl rfl)]
      show (0 : Int) + 1 = R
      omega
    · by_cases h4 : BQ lt nx r (R - 1) < n
      · rw [ih R (by omega) hR h4 (by omega)]
        have e1 : SQ lt nx r n = lt r (R - 1) := SQ_run h (by omega) (by omega) (by rw [show R - 1 + 1 = R from by omega]; omega)
        have e2 : SQ lt nx r ((n : Int) - 1) = lt r (R - 1) := SQ_run h (by omega) (by omega) (by rw [show R - 1 + 1 = R from by omega]; omega)
        rw [if_neg (by rw [e1, e2]; rintro (q | q); · omega
                       · exact q rfl)]
        omega
      · have hR2 : 2 ≤ R := by
          rcases Int.lt_or_le 1 R with q | q
          · omega
          · have : R - 1 = 0 := by omega
            rw [this, BQ_0] at h4
            omega
        have h5 := BQ_mono (nx := nx) h r (a := R - 1 - 1) (b := R - 1) (by omega) (by omega)
        have h6 := BQ_s lt nx r (j := R - 1 - 1) (by omega)
        rw [show R - 1 - 1 + 1 = R - 1 from by omega] at h6
        rw [ih (R - 1) (by omega) (by omega) (by omega) (by omega)]
        have e1 : SQ lt nx r n = lt r (R - 1) := SQ_run h (by omega) (by omega) (by rw [show R - 1 + 1 = R from by omega]; omega)
        have e2 : SQ lt nx r ((n : Int) - 1) = lt r (R - 1 - 1) := SQ_run h (by omega) (by omega) (by rw [show R - 1 - 1 + 1 = R - 1 from by omega]; omega)
        have e3 := hd (R - 1 - 1) (by omega)
        rw [show R - 1 - 1 + 1 = R - 1 from by omega] at e3
        rw [if_pos (Or.inr (by rw [e1, e2]; exact fun q => e3 q.symm))]
        omega
theorem run_ex {lt : Nat → Int → Int} {nx : Nat → Nat} (h : ∀ r j, 0 ≤ j → 1 ≤ lt r j) (r : Nat) {n : Int} (h1 : 1 ≤ n) : ∃ R : Int, 1 ≤ R ∧ BQ lt nx r (R - 1) < n ∧ n ≤ BQ lt nx r R := by
  obtain ⟨m, rfl⟩ := Int.eq_ofNat_of_zero_le (show 0 ≤ n by omega)
  have a1 := fj_le (SQ lt nx (nx r)) ((m : Int) - 1) m
  have a2 : BQ lt nx r ((fj (SQ lt nx (nx r)) ((m : Int) - 1) m : Nat) : Int) ≤ (m : Int) - 1 := fj_sum (by omega) m
  have a3 := fj_gt (f := SQ lt nx (nx r)) (k := (m : Int) - 1) m
  generalize fj (SQ lt nx (nx r)) ((m : Int) - 1) m = w at a1 a2 a3
  have a4 := BQ_ge (nx := nx) h r (b := (w : Int)) (by omega)
  refine ⟨(w : Int) + 1, by omega, ?_, ?_⟩
  · rw [show (w : Int) + 1 - 1 = (w : Int) from by omega]; omega
  · have a5 : (m : Int) - 1 < BQ lt nx r ((w + 1 : Nat) : Int) := a3 (w + 1) (by omega) (by omega)
    rw [show (((w + 1 : Nat)) : Int) = (w : Int) + 1 from by omega] at a5
    omega
theorem chg_iff {lt : Nat → Int → Int} {nx : Nat → Nat} (h : ∀ r j, 0 ≤ j → 1 ≤ lt r j) {r : Nat} (hd : ∀ j, 0 ≤ j → lt r j ≠ lt r (j + 1)) {n j : Int} (h1 : 1 ≤ n) (h2 : 0 ≤ j) : chg (SQ lt nx r) n ≤ j ↔ n ≤ BQ lt nx r j := by
  obtain ⟨R, a1, a2, a3⟩ := run_ex (nx := nx) h r h1
  obtain ⟨m, rfl⟩ := Int.eq_ofNat_of_zero_le (show 0 ≤ n by omega)
  rw [chg_run h hd m R (by omega) a1 a2 a3]
  constructor
  · intro q
    have := BQ_mono (nx := nx) h r (a := R) (b := j) (by omega) q
    omega
  · intro q
    rcases Int.lt_or_le j R with w | w
    · have := BQ_mono (nx := nx) h r (a := j) (b := R - 1) h2 (by omega)
      omega
    · exact w
theorem SQ_congr {lt lt' : Nat → Int → Int} {nx : Nat → Nat} (h : ∀ r j, 0 ≤ j → lt r j = lt' r j) (r : Nat) : ∀ k : Int, SQ lt nx r k = SQ lt' nx r k := by
  have e : ∀ (m : Nat) (r : Nat), TQ lt nx m r = TQ lt' nx m r := by
    intro m
    induction m with
    | zero => intro r; rfl
    | succ m ih =>
      intro r
      funext u
      show (if _ then _ else _) = (if _ then _ else _)
      rw [ih r, ih (nx r), h _ _ (by omega)]
  intro k
  unfold SQ
  rw [e]
/-- the numbers' sum by their counts -/
theorem isum_cnt {f : Int → Int} {n : Int} (h : ∀ k : Int, 0 ≤ k → k < n → 1 ≤ f k ∧ f k ≤ 6) (hn : 0 ≤ n) : isum f n = 1 * cntv f 1 n + 2 * cntv f 2 n + 3 * cntv f 3 n + 4 * cntv f 4 n + 5 * cntv f 5 n + 6 * cntv f 6 n := by
  obtain ⟨m, rfl⟩ := Int.eq_ofNat_of_zero_le hn
  induction m with
  | zero => rfl
  | succ m ih =>
    have e := ih (fun k h0 h1 => h k h0 (by omega)) (by omega)
    have b := h m (by omega) (by omega)
    rw [show (((m + 1 : Nat)) : Int) = (m : Int) + 1 from by omega, isum_s f (by omega), cntv_s _ _ (by omega), cntv_s _ _ (by omega), cntv_s _ _ (by omega), cntv_s _ _ (by omega), cntv_s _ _ (by omega), cntv_s _ _ (by omega), e]
    have hc : f m = 1 ∨ f m = 2 ∨ f m = 3 ∨ f m = 4 ∨ f m = 5 ∨ f m = 6 := by omega
    rcases hc with q | q | q | q | q | q <;> rw [q] <;> simp only [reduceIte, Int.reduceEq] <;> omega
theorem cntv_b (f : Int → Int) (v : Int) {n : Int} (hn : 0 ≤ n) : 0 ≤ cntv f v n ∧ cntv f v n ≤ n := by
  obtain ⟨m, rfl⟩ := Int.eq_ofNat_of_zero_le hn
  induction m with
  | zero => exact ⟨Int.le_refl 0, Int.le_refl 0⟩
  | succ m ih =>
    have e := ih (by omega)
    rw [show (((m + 1 : Nat)) : Int) = (m : Int) + 1 from by omega, cntv_s _ _ (by omega)]
    split <;> omega
theorem chg_b (f : Int → Int) {n : Int} (hn : 0 ≤ n) : 0 ≤ chg f n ∧ chg f n ≤ n := by
  obtain ⟨m, rfl⟩ := Int.eq_ofNat_of_zero_le hn
  induction m with
  | zero => exact ⟨Int.le_refl 0, Int.le_refl 0⟩
  | succ m ih =>
    have e := ih (by omega)
    rw [show (((m + 1 : Nat)) : Int) = (m : Int) + 1 from by omega, chg_s _ (by omega)]
    split <;> omega
theorem isum_b {f : Int → Int} {n b : Int} (hn : 0 ≤ n) (h : ∀ k : Int, 0 ≤ k → k < n → 0 ≤ f k ∧ f k ≤ b) : 0 ≤ isum f n ∧ isum f n ≤ n * b := by
  obtain ⟨m, rfl⟩ := Int.eq_ofNat_of_zero_le hn
  induction m with
  | zero => rw [show (((0 : Nat)) : Int) = 0 from rfl, isum_0]; omega
  | succ m ih =>
    have e := ih (by omega) (fun k h0 h1 => h k h0 (by omega))
    have c := h m (by omega) (by omega)
    rw [show (((m + 1 : Nat)) : Int) = (m : Int) + 1 from by omega, isum_s f (by omega)]
    have : ((m : Int) + 1) * b = (m : Int) * b + b := by rw [Int.add_mul, Int.one_mul]
    omega
end
section
/-! words: the run so far, the longest, the greatest -/
def mx2 (a b : Int) : Int := if a < b then b else a
def clP (f : Int → Int) : Nat → Int
  | 0 => 0
  | n + 1 => if n = 0 ∨ f (n : Int) ≠ f ((n : Int) - 1) then 1 else clP f n + 1
def lgP (f : Int → Int) : Nat → Int
  | 0 => 0
  | n + 1 => mx2 (lgP f n) (clP f (n + 1))
def gmP (f : Int → Int) : Nat → Int
  | 0 => 0
  | n + 1 => mx2 (gmP f n) (f (n : Int))
def cl (f : Int → Int) (k : Int) : Int := clP f k.toNat
def lg (f : Int → Int) (k : Int) : Int := lgP f k.toNat
def gm (f : Int → Int) (k : Int) : Int := gmP f k.toNat
def runs (f : Int → Int) (k : Int) : List Int := runsP f k.toNat
theorem toNat_s {k : Int} (h : 0 ≤ k) : (k + 1).toNat = k.toNat + 1 := by omega
theorem cl_0 (f : Int → Int) : cl f 0 = 0 := rfl
theorem lg_0 (f : Int → Int) : lg f 0 = 0 := rfl
theorem gm_0 (f : Int → Int) : gm f 0 = 0 := rfl
theorem runs_0 (f : Int → Int) : runs f 0 = [] := rfl
theorem cl_s (f : Int → Int) {k : Int} (h : 0 ≤ k) : cl f (k + 1) = if k = 0 ∨ f k ≠ f (k - 1) then 1 else cl f k + 1 := by
  obtain ⟨n, rfl⟩ := Int.eq_ofNat_of_zero_le h
  unfold cl
  rw [toNat_s h, show ((n : Int)).toNat = n from by omega]
  show (if _ then _ else _) = _
  by_cases hn : n = 0
  · rw [if_pos (Or.inl hn), if_pos (Or.inl (by omega))]
  · by_cases hc : f (n : Int) ≠ f ((n : Int) - 1)
    · rw [if_pos (Or.inr hc), if_pos (Or.inr hc)]
    · rw [if_neg (fun q => q.elim hn hc), if_neg (fun q => q.elim (fun z => hn (by omega)) hc)]
theorem lg_s (f : Int → Int) {k : Int} (h : 0 ≤ k) : lg f (k + 1) = mx2 (lg f k) (cl f (k + 1)) := by
  unfold lg cl
  rw [toNat_s h]
  rfl
theorem gm_s (f : Int → Int) {k : Int} (h : 0 ≤ k) : gm f (k + 1) = mx2 (gm f k) (f k) := by
  obtain ⟨n, rfl⟩ := Int.eq_ofNat_of_zero_le h
  unfold gm
  rw [toNat_s h, show ((n : Int)).toNat = n from by omega]
  rfl
theorem runs_new {f : Int → Int} {k : Int} (h : 0 ≤ k) (hc : k = 0 ∨ f k ≠ f (k - 1)) : runs f (k + 1) = runs f k ++ [1] := by
  obtain ⟨n, rfl⟩ := Int.eq_ofNat_of_zero_le h
  unfold runs
  rw [toNat_s h, show ((n : Int)).toNat = n from by omega]
  exact runsP_new (hc.elim (fun z => Or.inl (by omega)) Or.inr)
theorem runs_old {f : Int → Int} {k : Int} (h : 0 ≤ k) (hc : ¬ (k = 0 ∨ f k ≠ f (k - 1))) : runs f (k + 1) = incL (runs f k) := by
  obtain ⟨n, rfl⟩ := Int.eq_ofNat_of_zero_le h
  unfold runs
  rw [toNat_s h, show ((n : Int)).toNat = n from by omega]
  exact runsP_old (fun q => hc (q.elim (fun z => Or.inl (by omega)) Or.inr))
theorem runs_facts (f : Int → Int) {k : Int} (h : 0 ≤ k) : (∀ x ∈ runs f k, 1 ≤ x) ∧ lsum (runs f k) = k := by
  obtain ⟨n, rfl⟩ := Int.eq_ofNat_of_zero_le h
  unfold runs
  rw [show ((n : Int)).toNat = n from by omega]
  exact ⟨(runsP_facts f n).1, (runsP_facts f n).2.1⟩
theorem runs_congr {f g : Int → Int} {k : Int} (h : ∀ j : Int, 0 ≤ j → j < k → f j = g j) : runs f k = runs g k := runsP_congr _ (fun j h0 h1 => h j h0 (by omega))
theorem RLw_w (f : Int → Int) {k : Int} (h : 0 ≤ k) : RLw (wl f k) = runs f k := by
  obtain ⟨n, rfl⟩ := Int.eq_ofNat_of_zero_le h
  rw [RLw_wl]
  unfold runs
  rw [show ((n : Int)).toNat = n from by omega]
theorem cl_pos (f : Int → Int) {k : Int} (h : 0 ≤ k) : 0 ≤ cl f k ∧ cl f k ≤ k ∧ (0 < k → 1 ≤ cl f k) := by
  obtain ⟨n, rfl⟩ := Int.eq_ofNat_of_zero_le h
  induction n with
  | zero => exact ⟨Int.le_refl 0, Int.le_refl 0, fun q => by omega⟩
  | succ n ih =>
    have := ih (by omega)
    rw [show (((n + 1 : Nat)) : Int) = (n : Int) + 1 from by omega, cl_s f (by omega)]
    split <;> omega
/-- the runs of k letters: the ended ones, and the last -/
theorem runs_last (f : Int → Int) {k : Int} (h : 0 < k) : ∃ q, runs f k = q ++ [cl f k] ∧ lsum q = k - cl f k ∧ (∀ x ∈ q, 1 ≤ x) := by
  obtain ⟨n, rfl⟩ : ∃ n : Nat, k = (n : Int) + 1 := ⟨(k - 1).toNat, by omega⟩
  clear h
  induction n with
  | zero =>
    refine ⟨[], ?_, ?_, fun x hx => (by cases hx)⟩
    · rw [runs_new (by omega) (Or.inl (by omega)), cl_s f (by omega), if_pos (Or.inl (by omega))]; rfl
    · rw [cl_s f (by omega), if_pos (Or.inl (by omega))]; rfl
  | succ n ih =>
    obtain ⟨q, h1, h2, h3⟩ := ih
    rw [show (((n + 1 : Nat)) : Int) = (n : Int) + 1 from by omega]
    by_cases hc : (n : Int) + 1 = 0 ∨ f ((n : Int) + 1) ≠ f ((n : Int) + 1 - 1)
    · refine ⟨runs f ((n : Int) + 1), ?_, ?_, (runs_facts f (by omega)).1⟩
      · rw [runs_new (by omega) hc, cl_s f (by omega), if_pos hc]
      · rw [(runs_facts f (by omega)).2, cl_s f (by omega), if_pos hc]; omega
    · refine ⟨q, ?_, ?_, h3⟩
      · rw [runs_old (by omega) hc, h1, incL_app, cl_s f (k := (n : Int) + 1) (by omega), if_neg hc]
      · rw [cl_s f (k := (n : Int) + 1) (by omega), if_neg hc]; omega
theorem mx2_lt (a b g : Int) : g < mx2 a b ↔ g < a ∨ g < b := by unfold mx2; split <;> omega
theorem mx2_le (a b g : Int) : mx2 a b ≤ g ↔ a ≤ g ∧ b ≤ g := by unfold mx2; split <;> omega
theorem gm_lt (f : Int → Int) {k g : Int} (h : 0 ≤ k) (hg : 0 ≤ g) : g < gm f k ↔ ∃ x ∈ wl f k, g < x := by
  obtain ⟨n, rfl⟩ := Int.eq_ofNat_of_zero_le h
  induction n with
  | zero =>
    constructor
    · intro q
      have : g < 0 := q
      omega
    · rintro ⟨x, hx, _⟩; cases hx
  | succ n ih =>
    rw [show (((n + 1 : Nat)) : Int) = (n : Int) + 1 from by omega, gm_s f (by omega), mx2_lt, ih (by omega), wl_s f (by omega)]
    constructor
    · rintro (⟨x, h1, h2⟩ | h1)
      · exact ⟨x, List.mem_append_left _ h1, h2⟩
      · exact ⟨_, List.mem_append_right _ (List.mem_singleton.mpr rfl), h1⟩
    · rintro ⟨x, h1, h2⟩
      rcases List.mem_append.mp h1 with h1 | h1
      · exact Or.inl ⟨x, h1, h2⟩
      · rw [List.mem_singleton.mp h1] at h2; exact Or.inr h2
theorem lg_lt (f : Int → Int) {k g : Int} (h : 0 ≤ k) (hg : 0 ≤ g) : g < lg f k ↔ ∃ x ∈ runs f k, g < x := by
  obtain ⟨n, rfl⟩ := Int.eq_ofNat_of_zero_le h
  induction n with
  | zero =>
    constructor
    · intro q
      have : g < 0 := q
      omega
    · rintro ⟨x, hx, _⟩; cases hx
  | succ n ih =>
    rw [show (((n + 1 : Nat)) : Int) = (n : Int) + 1 from by omega, lg_s f (by omega), mx2_lt, ih (by omega)]
    by_cases hc : (n : Int) = 0 ∨ f (n : Int) ≠ f ((n : Int) - 1)
    · rw [runs_new (by omega) hc, cl_s f (by omega), if_pos hc]
      constructor
      · rintro (⟨x, h1, h2⟩ | h1)
        · exact ⟨x, List.mem_append_left _ h1, h2⟩
        · exact ⟨_, List.mem_append_right _ (List.mem_singleton.mpr rfl), h1⟩
      · rintro ⟨x, h1, h2⟩
        rcases List.mem_append.mp h1 with h1 | h1
        · exact Or.inl ⟨x, h1, h2⟩
        · rw [List.mem_singleton.mp h1] at h2; exact Or.inr h2
    · obtain ⟨q, e1, e2, e3⟩ := runs_last f (k := (n : Int)) (by omega)
      rw [runs_old (by omega) hc, cl_s f (by omega), if_neg hc, e1, incL_app]
      constructor
      · rintro (⟨x, h1, h2⟩ | h1)
        · rcases List.mem_append.mp h1 with h1 | h1
          · exact ⟨x, List.mem_append_left _ h1, h2⟩
          · rw [List.mem_singleton.mp h1] at h2
            exact ⟨_, List.mem_append_right _ (List.mem_singleton.mpr rfl), by omega⟩
        · exact ⟨_, List.mem_append_right _ (List.mem_singleton.mpr rfl), h1⟩
      · rintro ⟨x, h1, h2⟩
        rcases List.mem_append.mp h1 with h1 | h1
        · exact Or.inl ⟨x, List.mem_append_left _ h1, h2⟩
        · rw [List.mem_singleton.mp h1] at h2; exact Or.inr h2
theorem lg_b (f : Int → Int) {k : Int} (h : 0 ≤ k) : 0 ≤ lg f k ∧ lg f k ≤ k := by
  obtain ⟨n, rfl⟩ := Int.eq_ofNat_of_zero_le h
  induction n with
  | zero => exact ⟨Int.le_refl 0, Int.le_refl 0⟩
  | succ n ih =>
    have := ih (by omega)
    have c := cl_pos f (k := (n : Int) + 1) (by omega)
    rw [show (((n + 1 : Nat)) : Int) = (n : Int) + 1 from by omega, lg_s f (by omega)]
    unfold mx2
    split <;> omega
theorem gm_b (f : Int → Int) {k b : Int} (h : 0 ≤ k) (hb : 0 ≤ b) (hf : ∀ j, 0 ≤ j → j < k → f j ≤ b) : 0 ≤ gm f k ∧ gm f k ≤ b := by
  obtain ⟨n, rfl⟩ := Int.eq_ofNat_of_zero_le h
  induction n with
  | zero => exact ⟨Int.le_refl 0, hb⟩
  | succ n ih =>
    have := ih (by omega) (fun j h0 h1 => hf j h0 (by omega))
    have c := hf n (by omega) (by omega)
    rw [show (((n + 1 : Nat)) : Int) = (n : Int) + 1 from by omega, gm_s f (by omega)]
    unfold mx2
    split <;> omega
/-- folding letters into a number -/
def mixP (f : Int → Int) (h : Int) : Nat → Int
  | 0 => h
  | n + 1 => 31 * mixP f h n + f (n : Int)
def mix (f : Int → Int) (h k : Int) : Int := mixP f h k.toNat
theorem mix_0 (f : Int → Int) (h : Int) : mix f h 0 = h := rfl
theorem mix_s (f : Int → Int) (h : Int) {k : Int} (hk : 0 ≤ k) : mix f h (k + 1) = 31 * mix f h k + f k := by
  obtain ⟨n, rfl⟩ := Int.eq_ofNat_of_zero_le hk
  unfold mix
  rw [toNat_s hk, show ((n : Int)).toNat = n from by omega]
  rfl
theorem mix_congr {f g : Int → Int} (h : Int) {k : Int} (e : ∀ j : Int, 0 ≤ j → j < k → f j = g j) : mix f h k = mix g h k := by
  unfold mix
  have : ∀ n : Nat, (n : Int) ≤ k → mixP f h n = mixP g h n := by
    intro n
    induction n with
    | zero => intro _; rfl
    | succ n ih =>
      intro hn
      show 31 * mixP f h n + f n = 31 * mixP g h n + g n
      rw [ih (by omega), e n (by omega) (by omega)]
  by_cases hk : 0 ≤ k
  · exact this _ (by omega)
  · rw [show k.toNat = 0 from by omega]; rfl
end
section
def wat (st : St_) (w : Nat) (k : Int) : Int := if 0 ≤ k ∧ k < st.1 (10 + w) ∧ k < 60 then st.2 (14 + w) k else -1
def nat_ (st : St_) (i : Nat) (k : Int) : Int := if 0 ≤ k ∧ k < st.1 (7 + i) ∧ k < 100001 then st.2 (5 + i) k else -1
theorem iX4_size_X4 : ∀ w ∈ wsX40, w ∈ wsX4_size := by decide +kernel
set_option maxRecDepth 100000 in
set_option maxHeartbeats 4000000 in
theorem c_X4_size (l : Launch) (D : va_G) (T : Nat → ClassId) (ad : Nat → Nat) (hN : ∀ i j, i < 33 → j < 33 → ad i = ad j → i = j) (st : St_) (w : Nat) (hw : w < 3) : CXi l yX4_size wsX4_size (rmX 0 0) [.ref (ad (25 + w))] D (tyX T) (XW T ad) (alX ad) st (fun z st2 => st.1 (10 + w) = z ∧ st = st2) := by
  refine mk_i (cc := cX4_size) (nL := 1) rfl rfl (XW_ok hN) (Nat.le_of_ble_eq_true rfl) [(0, .ref (ad (25 + w)))] rfl (fun p e s m args below meth c A Q E RET => ?_)
  refine x_aload_n (q := 1) E dX4_size_0 0 rfl rfl ?_
  refine x_get (q := 4) E iX4_size_X4 (25 + w) (xg_word hw) rfl 1 (by decide) (by decide +kernel) rfl dX4_size_1 rfl ?_
  exact RET _ _ _ _ dX4_size_4 (⟨rfl, rfl⟩)

theorem iX4_letterAt_X4 : ∀ w ∈ wsX40, w ∈ wsX4_letterAt := by decide +kernel
set_option maxRecDepth 100000 in
set_option maxHeartbeats 4000000 in
theorem c_X4_letterAt (l : Launch) (D : va_G) (T : Nat → ClassId) (ad : Nat → Nat) (hN : ∀ i j, i < 33 → j < 33 → ad i = ad j → i = j) (st : St_) (w : Nat) (hw : w < 3) (k : Int) (bk : -2147483648 ≤ k ∧ k < 2147483648) (hs : 0 ≤ st.1 (10 + w) ∧ st.1 (10 + w) ≤ 60) : CXi l yX4_letterAt wsX4_letterAt (rmX 0 0) [.ref (ad (25 + w)), .int (ii (k))] D (tyX T) (XW T ad) (alX ad) st (fun z st2 => wat st w (k) = z ∧ st = st2) := by
  refine mk_i (cc := cX4_letterAt) (nL := 2) rfl rfl (XW_ok hN) (Nat.le_of_ble_eq_true rfl) [(0, .ref (ad (25 + w))), (1, .int (ii (k)))] rfl (fun p e s m args below meth c A Q E RET => ?_)
  refine x_iload_n (q := 1) E dX4_letterAt_0 1 rfl rfl ?_
  refine x_if_lt (tgt := 30) (q := 4) E dX4_letterAt_1 (by decide) rfl (by omega) (fun c1 => ?_) (fun c1 => ?_)
  · refine x_iconst (q := 31) E dX4_letterAt_30 rfl ?_
    exact RET _ _ _ _ dX4_letterAt_31 (⟨by unfold wat; first | (exfalso; omega) | (rw [if_pos (by omega)]) | (rw [if_neg (by omega)]), rfl⟩)
  · refine x_iload_n (q := 5) E dX4_letterAt_4 1 rfl rfl ?_
    refine x_aload_n (q := 6) E dX4_letterAt_5 0 rfl rfl ?_
    refine x_get (q := 9) E iX4_letterAt_X4 (25 + w) (xg_word hw) rfl 1 (by decide) (by decide +kernel) rfl dX4_letterAt_6 rfl ?_
    refine x_icmp_ge (tgt := 30) (q := 12) E dX4_letterAt_9 (by decide) rfl (by omega) (by omega) (fun c9 => ?_) (fun c9 => ?_)
    · refine x_iconst (q := 31) E dX4_letterAt_30 rfl ?_
      exact RET _ _ _ _ dX4_letterAt_31 (⟨by unfold wat; first | (exfalso; omega) | (rw [if_pos (by omega)]) | (rw [if_neg (by omega)]), rfl⟩)
    · refine x_iload_n (q := 13) E dX4_letterAt_12 1 rfl rfl ?_
      refine x_aload_n (q := 14) E dX4_letterAt_13 0 rfl rfl ?_
      refine x_get (q := 17) E iX4_letterAt_X4 (25 + w) (xg_word hw) rfl 0 (by decide) (by decide +kernel) rfl dX4_letterAt_14 rfl ?_
      refine x_alen (q := 18) E (28 + w) (xg_wl hw) 0 rfl dX4_letterAt_17 rfl ?_
      refine x_ti (show (((60 : Nat) : Int)) = 60 from rfl) ?_
      refine x_icmp_ge (tgt := 30) (q := 21) E dX4_letterAt_18 (by decide) rfl (by omega) (by omega) (fun c18 => ?_) (fun c18 => ?_)
      · refine x_iconst (q := 31) E dX4_letterAt_30 rfl ?_
        exact RET _ _ _ _ dX4_letterAt_31 (⟨by unfold wat; first | (exfalso; omega) | (rw [if_pos (by omega)]) | (rw [if_neg (by omega)]), rfl⟩)
      · refine x_aload_n (q := 22) E dX4_letterAt_21 0 rfl rfl ?_
        refine x_get (q := 25) E iX4_letterAt_X4 (25 + w) (xg_word hw) rfl 0 (by decide) (by decide +kernel) rfl dX4_letterAt_22 rfl ?_
        refine x_iload_n (q := 26) E dX4_letterAt_25 1 rfl rfl ?_
        refine x_iald (q := 27) (f := st.2 (14 + w)) E (28 + w) (xg_wl hw) 0 rfl (by omega) (by omega) (by decide) dX4_letterAt_26 rfl ?_
        refine x_goto (tgt := 31) E dX4_letterAt_27 (by decide) ?_
        exact RET _ _ _ _ dX4_letterAt_31 (⟨by unfold wat; first | (exfalso; omega) | (rw [if_pos (by omega)]) | (rw [if_neg (by omega)]), rfl⟩)

theorem iX4_empty_X4 : ∀ w ∈ wsX40, w ∈ wsX4_empty := by decide +kernel
set_option maxRecDepth 100000 in
set_option maxHeartbeats 4000000 in
theorem c_X4_empty (l : Launch) (D : va_G) (T : Nat → ClassId) (ad : Nat → Nat) (hN : ∀ i j, i < 33 → j < 33 → ad i = ad j → i = j) (st : St_) (w : Nat) (hw : w < 3) : CXv l yX4_empty wsX4_empty (rmX 0 0) [.ref (ad (25 + w))] D (tyX T) (XW T ad) (alX ad) st (fun st2 => st2 = sG st (10 + w) 0) := by
  refine mk_v (cc := cX4_empty) (nL := 1) rfl rfl (XW_ok hN) (Nat.le_of_ble_eq_true rfl) [(0, .ref (ad (25 + w)))] rfl (fun p e s m args below meth c A Q E RET => ?_)
  refine x_aload_n (q := 1) E dX4_empty_0 0 rfl rfl ?_
  refine x_iconst (q := 2) E dX4_empty_1 rfl ?_
  refine x_put (q := 5) (st' := (sG st (10 + w) (0))) (v := .int (ii (0))) (ty := .int) E iX4_empty_X4 tyX4 tyX4_ok nmX4 (25 + w) (xg_word hw) rfl 1 (by decide) (by decide +kernel) rfl (by decide +kernel) rfl rfl (Nat.le_of_ble_eq_true rfl) dX4_empty_2 (xs_word hw _) rfl ?_
  exact RET _ _ _ dX4_empty_5 (rfl)

theorem iX4_put_X4 : ∀ w ∈ wsX40, w ∈ wsX4_put := by decide +kernel
set_option maxRecDepth 100000 in
set_option maxHeartbeats 4000000 in
theorem c_X4_put (l : Launch) (D : va_G) (T : Nat → ClassId) (ad : Nat → Nat) (hN : ∀ i j, i < 33 → j < 33 → ad i = ad j → i = j) (st : St_) (w : Nat) (hw : w < 3) (v : Int) (bv : -2147483648 ≤ v ∧ v < 2147483648) (hs : 0 ≤ st.1 (10 + w) ∧ st.1 (10 + w) < 60) : CXi l yX4_put wsX4_put (rmX 0 0) [.ref (ad (25 + w)), .int (ii (v))] D (tyX T) (XW T ad) (alX ad) st (fun z st2 => z = 1 ∧ st2 = sG (sA st (14 + w) (st.1 (10 + w)) v) (10 + w) (st.1 (10 + w) + 1)) := by
  refine mk_z (cc := cX4_put) (nL := 2) rfl rfl (XW_ok hN) (Nat.le_of_ble_eq_true rfl) [(0, .ref (ad (25 + w))), (1, .int (ii (v)))] rfl (fun p e s m args below meth c A Q E RET => ?_)
  refine x_aload_n (q := 1) E dX4_put_0 0 rfl rfl ?_
  refine x_get (q := 4) E iX4_put_X4 (25 + w) (xg_word hw) rfl 1 (by decide) (by decide +kernel) rfl dX4_put_1 rfl ?_
  refine x_if_lt (tgt := 19) (q := 7) E dX4_put_4 (by decide) rfl (by omega) (fun c4 => ?_) (fun c4 => ?_)
  · refine x_iconst (q := 20) E dX4_put_19 rfl ?_
    exact RET _ _ _ _ dX4_put_20 (by omega) (by first | (exfalso; omega) | exact ⟨rfl, rfl⟩)
  · refine x_aload_n (q := 8) E dX4_put_7 0 rfl rfl ?_
    refine x_get (q := 11) E iX4_put_X4 (25 + w) (xg_word hw) rfl 1 (by decide) (by decide +kernel) rfl dX4_put_8 rfl ?_
    refine x_aload_n (q := 12) E dX4_put_11 0 rfl rfl ?_
    refine x_get (q := 15) E iX4_put_X4 (25 + w) (xg_word hw) rfl 0 (by decide) (by decide +kernel) rfl dX4_put_12 rfl ?_
    refine x_alen (q := 16) E (28 + w) (xg_wl hw) 0 rfl dX4_put_15 rfl ?_
    refine x_ti (show (((60 : Nat) : Int)) = 60 from rfl) ?_
    refine x_icmp_lt (tgt := 21) (q := 19) E dX4_put_16 (by decide) rfl (by omega) (by omega) (fun c16 => ?_) (fun c16 => ?_)
    · refine x_aload_n (q := 22) E dX4_put_21 0 rfl rfl ?_
      refine x_get (q := 25) E iX4_put_X4 (25 + w) (xg_word hw) rfl 0 (by decide) (by decide +kernel) rfl dX4_put_22 rfl ?_
      refine x_aload_n (q := 26) E dX4_put_25 0 rfl rfl ?_
      refine x_get (q := 29) E iX4_put_X4 (25 + w) (xg_word hw) rfl 1 (by decide) (by decide +kernel) rfl dX4_put_26 rfl ?_
      refine x_iload_n (q := 30) E dX4_put_29 1 rfl rfl ?_
      refine x_iast (q := 31) (st' := (sA st (14 + w) (st.1 (10 + w)) (v))) (f := st.2 (14 + w)) E (28 + w) (xg_wl hw) 0 rfl (by omega) (by omega) (by decide) dX4_put_30 (xs_wl hw _ _) rfl ?_
      refine x_aload_n (q := 32) E dX4_put_31 0 rfl rfl ?_
      refine x_dup (q := 33) E dX4_put_32 rfl rfl ?_
      refine x_get (q := 36) E iX4_put_X4 (25 + w) (xg_word hw) rfl 1 (by decide) (by decide +kernel) rfl dX4_put_33 rfl ?_
      refine x_ti (show (sA st (14 + w) (st.1 (10 + w)) (v)).1 (10 + w) = st.1 (10 + w) by rw [sA_1]) ?_
      refine x_iconst (q := 37) E dX4_put_36 rfl ?_
      refine x_iadd (q := 38) E dX4_put_37 rfl ?_
      refine x_put (q := 41) (st' := (sG (sA st (14 + w) (st.1 (10 + w)) (v)) (10 + w) ((st.1 (10 + w)) + (1)))) (v := .int (ii ((st.1 (10 + w)) + (1)))) (ty := .int) E iX4_put_X4 tyX4 tyX4_ok nmX4 (25 + w) (xg_word hw) rfl 1 (by decide) (by decide +kernel) rfl (by decide +kernel) rfl rfl (Nat.le_of_ble_eq_true rfl) dX4_put_38 (xs_word hw _) rfl ?_
      refine x_iconst (q := 42) E dX4_put_41 rfl ?_
      exact RET _ _ _ _ dX4_put_42 (by omega) (by first | (exfalso; omega) | exact ⟨rfl, rfl⟩)
    · refine x_iconst (q := 20) E dX4_put_19 rfl ?_
      exact RET _ _ _ _ dX4_put_20 (by omega) (by first | (exfalso; omega) | exact ⟨rfl, rfl⟩)

theorem iX4_put_f_X4 : ∀ w ∈ wsX40, w ∈ wsX4_put := by decide +kernel
set_option maxRecDepth 100000 in
set_option maxHeartbeats 4000000 in
theorem c_X4_put_f (l : Launch) (D : va_G) (T : Nat → ClassId) (ad : Nat → Nat) (hN : ∀ i j, i < 33 → j < 33 → ad i = ad j → i = j) (st : St_) (w : Nat) (hw : w < 3) (v : Int) (bv : -2147483648 ≤ v ∧ v < 2147483648) (hs : st.1 (10 + w) = 60) : CXi l yX4_put wsX4_put (rmX 0 0) [.ref (ad (25 + w)), .int (ii (v))] D (tyX T) (XW T ad) (alX ad) st (fun z st2 => z = 0 ∧ st2 = st) := by
  refine mk_z (cc := cX4_put) (nL := 2) rfl rfl (XW_ok hN) (Nat.le_of_ble_eq_true rfl) [(0, .ref (ad (25 + w))), (1, .int (ii (v)))] rfl (fun p e s m args below meth c A Q E RET => ?_)
  refine x_aload_n (q := 1) E dX4_put_0 0 rfl rfl ?_
  refine x_get (q := 4) E iX4_put_f_X4 (25 + w) (xg_word hw) rfl 1 (by decide) (by decide +kernel) rfl dX4_put_1 rfl ?_
  refine x_if_lt (tgt := 19) (q := 7) E dX4_put_4 (by decide) rfl (by omega) (fun c4 => ?_) (fun c4 => ?_)
  · refine x_iconst (q := 20) E dX4_put_19 rfl ?_
    exact RET _ _ _ _ dX4_put_20 (by omega) (by first | (exfalso; omega) | exact ⟨rfl, rfl⟩)
  · refine x_aload_n (q := 8) E dX4_put_7 0 rfl rfl ?_
    refine x_get (q := 11) E iX4_put_f_X4 (25 + w) (xg_word hw) rfl 1 (by decide) (by decide +kernel) rfl dX4_put_8 rfl ?_
    refine x_aload_n (q := 12) E dX4_put_11 0 rfl rfl ?_
    refine x_get (q := 15) E iX4_put_f_X4 (25 + w) (xg_word hw) rfl 0 (by decide) (by decide +kernel) rfl dX4_put_12 rfl ?_
    refine x_alen (q := 16) E (28 + w) (xg_wl hw) 0 rfl dX4_put_15 rfl ?_
    refine x_ti (show (((60 : Nat) : Int)) = 60 from rfl) ?_
    refine x_icmp_lt (tgt := 21) (q := 19) E dX4_put_16 (by decide) rfl (by omega) (by omega) (fun c16 => ?_) (fun c16 => ?_)
    · refine x_aload_n (q := 22) E dX4_put_21 0 rfl rfl ?_
      refine x_get (q := 25) E iX4_put_f_X4 (25 + w) (xg_word hw) rfl 0 (by decide) (by decide +kernel) rfl dX4_put_22 rfl ?_
      refine x_aload_n (q := 26) E dX4_put_25 0 rfl rfl ?_
      refine x_get (q := 29) E iX4_put_f_X4 (25 + w) (xg_word hw) rfl 1 (by decide) (by decide +kernel) rfl dX4_put_26 rfl ?_
      refine x_iload_n (q := 30) E dX4_put_29 1 rfl rfl ?_
      refine x_iast (q := 31) (st' := (sA st (14 + w) (st.1 (10 + w)) (v))) (f := st.2 (14 + w)) E (28 + w) (xg_wl hw) 0 rfl (by omega) (by omega) (by decide) dX4_put_30 (xs_wl hw _ _) rfl ?_
      refine x_aload_n (q := 32) E dX4_put_31 0 rfl rfl ?_
      refine x_dup (q := 33) E dX4_put_32 rfl rfl ?_
      refine x_get (q := 36) E iX4_put_f_X4 (25 + w) (xg_word hw) rfl 1 (by decide) (by decide +kernel) rfl dX4_put_33 rfl ?_
      refine x_ti (show (sA st (14 + w) (st.1 (10 + w)) (v)).1 (10 + w) = st.1 (10 + w) by rw [sA_1]) ?_
      refine x_iconst (q := 37) E dX4_put_36 rfl ?_
      refine x_iadd (q := 38) E dX4_put_37 rfl ?_
      refine x_put (q := 41) (st' := (sG (sA st (14 + w) (st.1 (10 + w)) (v)) (10 + w) ((st.1 (10 + w)) + (1)))) (v := .int (ii ((st.1 (10 + w)) + (1)))) (ty := .int) E iX4_put_f_X4 tyX4 tyX4_ok nmX4 (25 + w) (xg_word hw) rfl 1 (by decide) (by decide +kernel) rfl (by decide +kernel) rfl rfl (Nat.le_of_ble_eq_true rfl) dX4_put_38 (xs_word hw _) rfl ?_
      refine x_iconst (q := 42) E dX4_put_41 rfl ?_
      exact RET _ _ _ _ dX4_put_42 (by omega) (by first | (exfalso; omega) | exact ⟨rfl, rfl⟩)
    · refine x_iconst (q := 20) E dX4_put_19 rfl ?_
      exact RET _ _ _ _ dX4_put_20 (by omega) (by first | (exfalso; omega) | exact ⟨rfl, rfl⟩)

theorem iX4_drop_X4 : ∀ w ∈ wsX40, w ∈ wsX4_drop := by decide +kernel
set_option maxRecDepth 100000 in
set_option maxHeartbeats 4000000 in
theorem c_X4_drop (l : Launch) (D : va_G) (T : Nat → ClassId) (ad : Nat → Nat) (hN : ∀ i j, i < 33 → j < 33 → ad i = ad j → i = j) (st : St_) (w : Nat) (hw : w < 3) (hs : 0 ≤ st.1 (10 + w) ∧ st.1 (10 + w) ≤ 60) : CXv l yX4_drop wsX4_drop (rmX 0 0) [.ref (ad (25 + w))] D (tyX T) (XW T ad) (alX ad) st (fun st2 => (0 < st.1 (10 + w) ∧ st2 = sG st (10 + w) (st.1 (10 + w) - 1)) ∨ (¬ 0 < st.1 (10 + w) ∧ st2 = st)) := by
  refine mk_v (cc := cX4_drop) (nL := 1) rfl rfl (XW_ok hN) (Nat.le_of_ble_eq_true rfl) [(0, .ref (ad (25 + w)))] rfl (fun p e s m args below meth c A Q E RET => ?_)
  refine x_aload_n (q := 1) E dX4_drop_0 0 rfl rfl ?_
  refine x_get (q := 4) E iX4_drop_X4 (25 + w) (xg_word hw) rfl 1 (by decide) (by decide +kernel) rfl dX4_drop_1 rfl ?_
  refine x_if_le (tgt := 17) (q := 7) E dX4_drop_4 (by decide) rfl (by omega) (fun c4 => ?_) (fun c4 => ?_)
  · exact RET _ _ _ dX4_drop_17 (by first | exact Or.inl ⟨by omega, rfl⟩ | exact Or.inr ⟨by omega, rfl⟩)
  · refine x_aload_n (q := 8) E dX4_drop_7 0 rfl rfl ?_
    refine x_dup (q := 9) E dX4_drop_8 rfl rfl ?_
    refine x_get (q := 12) E iX4_drop_X4 (25 + w) (xg_word hw) rfl 1 (by decide) (by decide +kernel) rfl dX4_drop_9 rfl ?_
    refine x_iconst (q := 13) E dX4_drop_12 rfl ?_
    refine x_isub (q := 14) E dX4_drop_13 rfl ?_
    refine x_put (q := 17) (st' := (sG st (10 + w) ((st.1 (10 + w)) - (1)))) (v := .int (ii ((st.1 (10 + w)) - (1)))) (ty := .int) E iX4_drop_X4 tyX4 tyX4_ok nmX4 (25 + w) (xg_word hw) rfl 1 (by decide) (by decide +kernel) rfl (by decide +kernel) rfl rfl (Nat.le_of_ble_eq_true rfl) dX4_drop_14 (xs_word hw _) rfl ?_
    exact RET _ _ _ dX4_drop_17 (by first | exact Or.inl ⟨by omega, rfl⟩ | exact Or.inr ⟨by omega, rfl⟩)

set_option maxRecDepth 100000 in
set_option maxHeartbeats 4000000 in
theorem c_X4_isEndOfRun (l : Launch) (D : va_G) (T : Nat → ClassId) (ad : Nat → Nat) (hN : ∀ i j, i < 33 → j < 33 → ad i = ad j → i = j) (st : St_) (w : Nat) (hw : w < 3) (k : Int) (bk : -2147483648 ≤ k ∧ k < 2147483648) (hs : 0 ≤ st.1 (10 + w) ∧ st.1 (10 + w) ≤ 60) (hk : k < 100 ∧ -1 ≤ k) (hb : ∀ j, 0 ≤ j → j < 60 → -1 ≤ st.2 (14 + w) j ∧ st.2 (14 + w) j ≤ 100) : CXi l yX4_isEndOfRun wsX4_isEndOfRun (rmX 1 21) [.ref (ad (25 + w)), .int (ii (k))] D (tyX T) (XW T ad) (alX ad) st (fun z st2 => (if wat st w (k) = wat st w (k + 1) then 0 else 1) = z ∧ st = st2) := by
  refine mk_z (cc := cX4_isEndOfRun) (nL := 2) rfl rfl (XW_ok hN) (Nat.le_of_ble_eq_true rfl) [(0, .ref (ad (25 + w))), (1, .int (ii (k)))] rfl (fun p e s m args below meth c A Q E RET => ?_)
  have hwt : ∀ j, -1 ≤ wat st w j ∧ wat st w j ≤ 100 := by
    intro j; unfold wat; split
    · exact hb j (by omega) (by omega)
    · omega
  have hw0 := hwt k
  have hw1 := hwt (k + 1)
  refine x_aload_n (q := 1) E dX4_isEndOfRun_0 0 rfl rfl ?_
  refine x_iload_n (q := 2) E dX4_isEndOfRun_1 1 rfl rfl ?_
  refine x_callVi (q := 5) (n := 1) (As := [.int (ii (k))]) (r := []) E (c_X4_letterAt l D T ad hN st (w) hw (k) (by omega) (by omega)) gX4_isEndOfRun_X4_letterAt rfl rfl rfl (by decide +kernel) ⟨Nat.le_of_ble_eq_true rfl, Nat.le_of_ble_eq_true rfl⟩ (25 + w) (xg_word hw) rfl rfl rfl (Nat.le_of_ble_eq_true rfl) dX4_isEndOfRun_2 rfl (fun z1 s2 q3 => ?_)
  obtain ⟨rfl, rfl⟩ := q3
  refine x_aload_n (q := 6) E dX4_isEndOfRun_5 0 rfl rfl ?_
  refine x_iload_n (q := 7) E dX4_isEndOfRun_6 1 rfl rfl ?_
  refine x_iconst (q := 8) E dX4_isEndOfRun_7 rfl ?_
  refine x_iadd (q := 9) E dX4_isEndOfRun_8 rfl ?_
  refine x_callVi (q := 12) (n := 1) (As := [.int (ii ((k) + (1)))]) (r := [.int (ii (wat st w (k)))]) E (c_X4_letterAt l D T ad hN st (w) hw ((k) + (1)) (by omega) (by omega)) gX4_isEndOfRun_X4_letterAt rfl rfl rfl (by decide +kernel) ⟨Nat.le_of_ble_eq_true rfl, Nat.le_of_ble_eq_true rfl⟩ (25 + w) (xg_word hw) rfl rfl rfl (Nat.le_of_ble_eq_true rfl) dX4_isEndOfRun_9 rfl (fun z4 s5 q6 => ?_)
  obtain ⟨rfl, rfl⟩ := q6
  refine x_icmp_eq (tgt := 19) (q := 15) E dX4_isEndOfRun_12 (by decide) rfl (by omega) (by omega) (fun c12 => ?_) (fun c12 => ?_)
  · refine x_iconst (q := 20) E dX4_isEndOfRun_19 rfl ?_
    exact RET _ _ _ _ dX4_isEndOfRun_20 (by omega) (⟨by first | (exfalso; omega) | (rw [if_pos (by omega)]) | (rw [if_neg (by omega)]), rfl⟩)
  · refine x_iconst (q := 16) E dX4_isEndOfRun_15 rfl ?_
    refine x_goto (tgt := 20) E dX4_isEndOfRun_16 (by decide) ?_
    exact RET _ _ _ _ dX4_isEndOfRun_20 (by omega) (⟨by first | (exfalso; omega) | (rw [if_pos (by omega)]) | (rw [if_neg (by omega)]), rfl⟩)

theorem iX2_number_X2 : ∀ w ∈ wsX20, w ∈ wsX2_number := by decide +kernel
set_option maxRecDepth 100000 in
set_option maxHeartbeats 4000000 in
theorem c_X2_number (l : Launch) (D : va_G) (T : Nat → ClassId) (ad : Nat → Nat) (hN : ∀ i j, i < 33 → j < 33 → ad i = ad j → i = j) (st : St_) (i : Nat) (hi : i < 3) (k : Int) (bk : -2147483648 ≤ k ∧ k < 2147483648) (hm : 0 ≤ st.1 (7 + i) ∧ st.1 (7 + i) ≤ 100001) : CXi l yX2_number wsX2_number (rmX 0 0) [.ref (ad (13 + i)), .int (ii (k))] D (tyX T) (XW T ad) (alX ad) st (fun z st2 => nat_ st i (k) = z ∧ st = st2) := by
  refine mk_i (cc := cX2_number) (nL := 2) rfl rfl (XW_ok hN) (Nat.le_of_ble_eq_true rfl) [(0, .ref (ad (13 + i))), (1, .int (ii (k)))] rfl (fun p e s m args below meth c A Q E RET => ?_)
  refine x_iload_n (q := 1) E dX2_number_0 1 rfl rfl ?_
  refine x_if_lt (tgt := 30) (q := 4) E dX2_number_1 (by decide) rfl (by omega) (fun c1 => ?_) (fun c1 => ?_)
  · refine x_iconst (q := 31) E dX2_number_30 rfl ?_
    exact RET _ _ _ _ dX2_number_31 (⟨by unfold nat_; first | (exfalso; omega) | (rw [if_pos (by omega)]) | (rw [if_neg (by omega)]), rfl⟩)
  · refine x_iload_n (q := 5) E dX2_number_4 1 rfl rfl ?_
    refine x_aload_n (q := 6) E dX2_number_5 0 rfl rfl ?_
    refine x_get (q := 9) E iX2_number_X2 (13 + i) (xg_row hi) rfl 3 (by decide) (by decide +kernel) rfl dX2_number_6 rfl ?_
    refine x_icmp_ge (tgt := 30) (q := 12) E dX2_number_9 (by decide) rfl (by omega) (by omega) (fun c9 => ?_) (fun c9 => ?_)
    · refine x_iconst (q := 31) E dX2_number_30 rfl ?_
      exact RET _ _ _ _ dX2_number_31 (⟨by unfold nat_; first | (exfalso; omega) | (rw [if_pos (by omega)]) | (rw [if_neg (by omega)]), rfl⟩)
    · refine x_iload_n (q := 13) E dX2_number_12 1 rfl rfl ?_
      refine x_aload_n (q := 14) E dX2_number_13 0 rfl rfl ?_
      refine x_get (q := 17) E iX2_number_X2 (13 + i) (xg_row hi) rfl 0 (by decide) (by decide +kernel) rfl dX2_number_14 rfl ?_
      refine x_alen (q := 18) E (16 + i) (xg_num hi) 1 rfl dX2_number_17 rfl ?_
      refine x_ti (show (((100001 : Nat) : Int)) = 100001 from rfl) ?_
      refine x_icmp_ge (tgt := 30) (q := 21) E dX2_number_18 (by decide) rfl (by omega) (by omega) (fun c18 => ?_) (fun c18 => ?_)
      · refine x_iconst (q := 31) E dX2_number_30 rfl ?_
        exact RET _ _ _ _ dX2_number_31 (⟨by unfold nat_; first | (exfalso; omega) | (rw [if_pos (by omega)]) | (rw [if_neg (by omega)]), rfl⟩)
      · refine x_aload_n (q := 22) E dX2_number_21 0 rfl rfl ?_
        refine x_get (q := 25) E iX2_number_X2 (13 + i) (xg_row hi) rfl 0 (by decide) (by decide +kernel) rfl dX2_number_22 rfl ?_
        refine x_iload_n (q := 26) E dX2_number_25 1 rfl rfl ?_
        refine x_bald (q := 27) (f := st.2 (5 + i)) E (16 + i) (xg_num hi) 1 rfl (by omega) (by omega) (by decide) dX2_number_26 rfl ?_
        refine x_goto (tgt := 31) E dX2_number_27 (by decide) ?_
        exact RET _ _ _ _ dX2_number_31 (⟨by unfold nat_; first | (exfalso; omega) | (rw [if_pos (by omega)]) | (rw [if_neg (by omega)]), rfl⟩)

theorem iX4_total_X4 : ∀ w ∈ wsX40, w ∈ wsX4_total := by decide +kernel
set_option maxRecDepth 100000 in
set_option maxHeartbeats 4000000 in
theorem c_X4_total (l : Launch) (D : va_G) (T : Nat → ClassId) (ad : Nat → Nat) (hN : ∀ i j, i < 33 → j < 33 → ad i = ad j → i = j) (st : St_) (w : Nat) (hw : w < 3) (hs : 0 ≤ st.1 (10 + w) ∧ st.1 (10 + w) ≤ 60) (hb : ∀ j, 0 ≤ j → j < 60 → 0 ≤ st.2 (14 + w) j ∧ st.2 (14 + w) j ≤ 6) : CXi l yX4_total wsX4_total (rmX 1 21) [.ref (ad (25 + w))] D (tyX T) (XW T ad) (alX ad) st (fun z st2 => isum (st.2 (14 + w)) (st.1 (10 + w)) = z ∧ st = st2) := by
  refine mk_i (cc := cX4_total) (nL := 3) rfl rfl (XW_ok hN) (Nat.le_of_ble_eq_true rfl) [(0, .ref (ad (25 + w)))] rfl (fun p e s m args below meth c A Q E RET => ?_)
  refine x_iconst (q := 1) E dX4_total_0 rfl ?_
  refine x_istore_n (q := 2) (lv' := [(1, .int (ii (0))), (0, .ref (ad (25 + w)))]) E dX4_total_1 (by decide) rfl rfl ?_
  refine x_iconst (q := 3) E dX4_total_2 rfl ?_
  refine x_istore_n (q := 4) (lv' := [(2, .int (ii (0))), (1, .int (ii (0))), (0, .ref (ad (25 + w)))]) E dX4_total_3 (by decide) rfl rfl ?_
  have L4 : ∀ (n : Nat) (t : Int) (j : Int), (st.1 (10 + w) - j).toNat < n → (0 ≤ j ∧ j ≤ st.1 (10 + w)) → (t = isum (st.2 (14 + w)) j) → (0 ≤ t ∧ t ≤ 6 * j) → XJ p l e (rmX 1 21) s m args below meth c D (XW T ad) A 3 Q 0 0 st 4 [(0, .ref (ad (25 + w))), (1, .int (ii (t))), (2, .int (ii (j)))] [] := by
    intro n
    induction n with
    | zero => intro t j hn; exact absurd hn (Nat.not_lt_zero _)
    | succ n ih4 =>
      intro t j hn4 h0 h1 h2
      refine x_iload_n (q := 5) E dX4_total_4 2 rfl rfl ?_
      refine x_aload_n (q := 6) E dX4_total_5 0 rfl rfl ?_
      refine x_get (q := 9) E iX4_total_X4 (25 + w) (xg_word hw) rfl 1 (by decide) (by decide +kernel) rfl dX4_total_6 rfl ?_
      refine x_icmp_ge (tgt := 26) (q := 12) E dX4_total_9 (by decide) rfl (by omega) (by omega) (fun c9 => ?_) (fun c9 => ?_)
      · refine x_iload_n (q := 27) E dX4_total_26 1 rfl rfl ?_
        exact RET _ _ _ _ dX4_total_27 (⟨by rw [h1]; exact congrArg _ (by omega), rfl⟩)
      · have hwt : wat st w j = st.2 (14 + w) j := by unfold wat; rw [if_pos (by omega)]
        refine x_iload_n (q := 13) E dX4_total_12 1 rfl rfl ?_
        refine x_aload_n (q := 14) E dX4_total_13 0 rfl rfl ?_
        refine x_iload_n (q := 15) E dX4_total_14 2 rfl rfl ?_
        refine x_callVi (q := 18) (n := 1) (As := [.int (ii (j))]) (r := [.int (ii (t))]) E (c_X4_letterAt l D T ad hN st (w) hw (j) (by omega) (by omega)) gX4_total_X4_letterAt rfl rfl rfl (by decide +kernel) ⟨Nat.le_of_ble_eq_true rfl, Nat.le_of_ble_eq_true rfl⟩ (25 + w) (xg_word hw) rfl rfl rfl (Nat.le_of_ble_eq_true rfl) dX4_total_15 rfl (fun z1 s2 q3 => ?_)
        obtain ⟨rfl, rfl⟩ := q3
        refine x_iadd (q := 19) E dX4_total_18 rfl ?_
        refine x_istore_n (q := 20) (lv' := [(1, .int (ii ((t) + (wat st w (j))))), (0, .ref (ad (25 + w))), (2, .int (ii (j)))]) E dX4_total_19 (by decide) rfl rfl ?_
        refine x_iinc (q := 23) (k := 2) (lv' := [(2, .int (ii (j + 1))), (1, .int (ii ((t) + (wat st w (j))))), (0, .ref (ad (25 + w)))]) E dX4_total_20 rfl (by decide) rfl rfl ?_
        refine x_goto (tgt := 4) E dX4_total_23 (by decide) ?_
        refine x_lv E (lv' := [(0, .ref (ad (25 + w))), (1, .int (ii ((t) + (wat st w (j))))), (2, .int (ii (j + 1)))]) [2, 1, 0] rfl ?_
        exact ih4 ((t) + (wat st w (j))) (j + 1) (by omega) (by omega) (by rw [hwt, h1, isum_s _ (by omega)]) (by rw [hwt]; have := hb j (by omega) (by omega); omega)
  refine x_lv E (lv' := [(0, .ref (ad (25 + w))), (1, .int (ii (0))), (2, .int (ii (0)))]) [2, 1, 0] rfl ?_
  exact L4 _ (0) (0) (Nat.lt_succ_self _) (by omega) ((isum_0 _).symm) (by omega)

theorem wat_in {st : St_} {w : Nat} {k : Int} (h0 : 0 ≤ k) (h1 : k < st.1 (10 + w)) (h2 : st.1 (10 + w) ≤ 60) : wat st w k = st.2 (14 + w) k := by unfold wat; rw [if_pos (by omega)]
theorem wat_out {st : St_} {w : Nat} {k : Int} (h : k < 0 ∨ st.1 (10 + w) ≤ k) : wat st w k = -1 := by unfold wat; rw [if_neg (by omega)]
theorem zup_b {f : Int → Int} {z v lo hi : Int} (h : ∀ j : Int, 0 ≤ j → j < 60 → lo ≤ f j ∧ f j ≤ hi) (h1 : lo ≤ v) (h2 : v ≤ hi) : ∀ j : Int, 0 ≤ j → j < 60 → lo ≤ zup f z v j ∧ zup f z v j ≤ hi := by
  intro j h3 h4
  by_cases hj : j = z
  · rw [hj, zup_eq]; exact ⟨h1, h2⟩
  · rw [zup_ne f v hj]; exact h j h3 h4
set_option maxRecDepth 100000 in
set_option maxHeartbeats 4000000 in
theorem c_X4_putTimes (l : Launch) (D : va_G) (T : Nat → ClassId) (ad : Nat → Nat) (hN : ∀ i j, i < 33 → j < 33 → ad i = ad j → i = j) (st : St_) (w : Nat) (hw : w < 3) (v : Int) (bv : -2147483648 ≤ v ∧ v < 2147483648) (t : Int) (bt : -2147483648 ≤ t ∧ t < 2147483648) (hs : 0 ≤ st.1 (10 + w) ∧ st.1 (10 + w) ≤ 60) (hv : 0 ≤ v ∧ v ≤ 60) (ht : 0 ≤ t ∧ st.1 (10 + w) + t ≤ 60) (hb : ∀ j : Int, 0 ≤ j → j < 60 → 0 ≤ st.2 (14 + w) j ∧ st.2 (14 + w) j ≤ 60) : CXv l yX4_putTimes wsX4_putTimes (rmX 1 21) [.ref (ad (25 + w)), .int (ii (v)), .int (ii (t))] D (tyX T) (XW T ad) (alX ad) st (fun st2 => ∃ f : Int → Int, st2 = sF (sG st (10 + w) (st.1 (10 + w) + t)) (14 + w) f ∧ wl f (st.1 (10 + w) + t) = wl (st.2 (14 + w)) (st.1 (10 + w)) ++ List.replicate t.toNat v ∧ ∀ j : Int, 0 ≤ j → j < 60 → 0 ≤ f j ∧ f j ≤ 60) := by
  refine mk_v (cc := cX4_putTimes) (nL := 4) rfl rfl (XW_ok hN) (Nat.le_of_ble_eq_true rfl) [(0, .ref (ad (25 + w))), (1, .int (ii (v))), (2, .int (ii (t)))] rfl (fun p e s m args below meth c A Q E RET => ?_)
  refine x_iconst (q := 1) E dX4_putTimes_0 rfl ?_
  refine x_istore_n (q := 2) (lv' := [(3, .int (ii (0))), (0, .ref (ad (25 + w))), (1, .int (ii (v))), (2, .int (ii (t)))]) E dX4_putTimes_1 (by decide) rfl rfl ?_
  have L2 : ∀ (n : Nat) (i : Int) (n1 : Int) (f : Int → Int), (t - i).toNat < n → (0 ≤ i ∧ i ≤ t) → (n1 = st.1 (10 + w) + i) → (wl f n1 = wl (st.2 (14 + w)) (st.1 (10 + w)) ++ List.replicate i.toNat v) → (∀ j : Int, 0 ≤ j → j < 60 → 0 ≤ f j ∧ f j ≤ 60) → XJ p l e (rmX 1 21) s m args below meth c D (XW T ad) A 4 Q 0 0 (sF (sG st (10 + w) (n1)) (14 + w) (f)) 2 [(0, .ref (ad (25 + w))), (1, .int (ii (v))), (2, .int (ii (t))), (3, .int (ii (i)))] [] := by
    intro n
    induction n with
    | zero => intro i n1 f hn; exact absurd hn (Nat.not_lt_zero _)
    | succ n ih2 =>
      intro i n1 f hn2 a1 a2 a3 a4
      refine x_iload_n (q := 3) E dX4_putTimes_2 3 rfl rfl ?_
      refine x_iload_n (q := 4) E dX4_putTimes_3 2 rfl rfl ?_
      refine x_icmp_ge (tgt := 19) (q := 7) E dX4_putTimes_4 (by decide) rfl (by omega) (by omega) (fun c4 => ?_) (fun c4 => ?_)
      · exact RET _ _ _ dX4_putTimes_19 (⟨f, by rw [show st.1 (10 + w) + t = n1 from by omega], by rw [show st.1 (10 + w) + t = n1 from by omega, a3, show i = t from by omega], a4⟩)
      · refine x_aload_n (q := 8) E dX4_putTimes_7 0 rfl rfl ?_
        refine x_iload_n (q := 9) E dX4_putTimes_8 1 rfl rfl ?_
        refine x_callVi (q := 12) (n := 1) (As := [.int (ii (v))]) (r := []) E (c_X4_put l D T ad hN (sF (sG st (10 + w) (n1)) (14 + w) (f)) (w) hw (v) (by omega) (by rw [sF_1, sG_s]; omega)) gX4_putTimes_X4_put rfl rfl rfl (by decide +kernel) ⟨Nat.le_of_ble_eq_true rfl, Nat.le_of_ble_eq_true rfl⟩ (25 + w) (xg_word hw) rfl rfl rfl (Nat.le_of_ble_eq_true rfl) dX4_putTimes_9 rfl (fun z1 s2 q3 => ?_)
        obtain ⟨rfl, rfl⟩ := q3
        refine x_pop (q := 13) E dX4_putTimes_12 rfl rfl ?_
        refine x_iinc (q := 16) (k := 3) (lv' := [(3, .int (ii (i + 1))), (0, .ref (ad (25 + w))), (1, .int (ii (v))), (2, .int (ii (t)))]) E dX4_putTimes_13 rfl (by decide) rfl rfl ?_
        refine x_goto (tgt := 2) E dX4_putTimes_16 (by decide) ?_
        refine x_st E (st' := (sF (sG st (10 + w) ((n1) + 1)) (14 + w) (zup (f) (n1) (v)))) (by refine Prod.ext (funext fun k9 => ?_) (funext fun q9 => ?_) <;> simp only [sG_1, sG_2, sA_1, sA_2, sF_1, sF_2, reduceIte] <;> (repeat' split) <;> first | rfl | omega | (subst_vars; first | rfl | omega) | simp_all) ?_
        refine x_lv E (lv' := [(0, .ref (ad (25 + w))), (1, .int (ii (v))), (2, .int (ii (t))), (3, .int (ii (i + 1)))]) [1, 2, 3, 0] rfl ?_
        exact ih2 (i + 1) ((n1) + 1) (zup (f) (n1) (v)) (by omega) (by omega) (by omega) (by rw [wl_put _ _ (by omega), a3, show (i + 1).toNat = i.toNat + 1 from by omega, List.replicate_succ', List.append_assoc]) (zup_b a4 (by omega) (by omega))
  refine x_lv E (lv' := [(0, .ref (ad (25 + w))), (1, .int (ii (v))), (2, .int (ii (t))), (3, .int (ii (0)))]) [1, 2, 3, 0] rfl ?_
  refine x_st E (st' := (sF (sG st (10 + w) (st.1 (10 + w))) (14 + w) (st.2 (14 + w)))) (by refine Prod.ext (funext fun k9 => ?_) (funext fun q9 => ?_) <;> simp only [sG_1, sG_2, sA_1, sA_2, sF_1, sF_2, reduceIte] <;> (repeat' split) <;> first | rfl | omega | (subst_vars; first | rfl | omega) | simp_all) ?_
  exact L2 _ (0) (st.1 (10 + w)) (st.2 (14 + w)) (Nat.lt_succ_self _) (by omega) (by omega) (by simp) (hb)

set_option maxRecDepth 100000 in
set_option maxHeartbeats 4000000 in
theorem c_X4_become (l : Launch) (D : va_G) (T : Nat → ClassId) (ad : Nat → Nat) (hN : ∀ i j, i < 33 → j < 33 → ad i = ad j → i = j) (st : St_) (w : Nat) (hw : w < 3) (o : Nat) (ho : o < 3) (hne : w ≠ o) (hs : 0 ≤ st.1 (10 + w) ∧ st.1 (10 + w) ≤ 60) (hb : ∀ j : Int, 0 ≤ j → j < 60 → 0 ≤ st.2 (14 + w) j ∧ st.2 (14 + w) j ≤ 60) (hso : 0 ≤ st.1 (10 + o) ∧ st.1 (10 + o) ≤ 60) (hbo : ∀ j : Int, 0 ≤ j → j < 60 → 0 ≤ st.2 (14 + o) j ∧ st.2 (14 + o) j ≤ 60) : CXv l yX4_become wsX4_become (rmX 1 21) [.ref (ad (25 + w)), .ref (ad (25 + o))] D (tyX T) (XW T ad) (alX ad) st (fun st2 => ∃ f : Int → Int, st2 = sF (sG st (10 + w) (st.1 (10 + o))) (14 + w) f ∧ (∀ j : Int, 0 ≤ j → j < st.1 (10 + o) → f j = st.2 (14 + o) j) ∧ ∀ j : Int, 0 ≤ j → j < 60 → 0 ≤ f j ∧ f j ≤ 60) := by
  refine mk_v (cc := cX4_become) (nL := 3) rfl rfl (XW_ok hN) (Nat.le_of_ble_eq_true rfl) [(0, .ref (ad (25 + w))), (1, .ref (ad (25 + o)))] rfl (fun p e s m args below meth c A Q E RET => ?_)
  refine x_aload_n (q := 1) E dX4_become_0 0 rfl rfl ?_
  refine x_callVv (q := 4) (n := 0) (As := []) (r := []) E (c_X4_empty l D T ad hN st (w) hw) gX4_become_X4_empty rfl rfl rfl (by decide +kernel) ⟨Nat.le_of_ble_eq_true rfl, Nat.le_of_ble_eq_true rfl⟩ (25 + w) (xg_word hw) rfl rfl rfl (Nat.le_of_ble_eq_true rfl) dX4_become_1 rfl (fun s2 q3 => ?_)
  subst q3
  refine x_iconst (q := 5) E dX4_become_4 rfl ?_
  refine x_istore_n (q := 6) (lv' := [(2, .int (ii (0))), (0, .ref (ad (25 + w))), (1, .ref (ad (25 + o)))]) E dX4_become_5 (by decide) rfl rfl ?_
  have L6 : ∀ (n : Nat) (i : Int) (n1 : Int) (f : Int → Int), (st.1 (10 + o) - i).toNat < n → (0 ≤ i ∧ i ≤ st.1 (10 + o)) → (n1 = i) → (∀ j : Int, 0 ≤ j → j < i → f j = st.2 (14 + o) j) → (∀ j : Int, 0 ≤ j → j < 60 → 0 ≤ f j ∧ f j ≤ 60) → XJ p l e (rmX 1 21) s m args below meth c D (XW T ad) A 3 Q 0 0 (sF (sG st (10 + w) (n1)) (14 + w) (f)) 6 [(0, .ref (ad (25 + w))), (1, .ref (ad (25 + o))), (2, .int (ii (i)))] [] := by
    intro n
    induction n with
    | zero => intro i n1 f hn; exact absurd hn (Nat.not_lt_zero _)
    | succ n ih6 =>
      intro i n1 f hn6 a1 a2 a3 a4
      refine x_iload_n (q := 7) E dX4_become_6 2 rfl rfl ?_
      refine x_aload_n (q := 8) E dX4_become_7 1 rfl rfl ?_
      refine x_callVi (q := 11) (n := 0) (As := []) (r := [.int (ii (i))]) E (c_X4_size l D T ad hN (sF (sG st (10 + w) (n1)) (14 + w) (f)) (o) ho) gX4_become_X4_size rfl rfl rfl (by decide +kernel) ⟨Nat.le_of_ble_eq_true rfl, Nat.le_of_ble_eq_true rfl⟩ (25 + o) (xg_word ho) rfl rfl rfl (Nat.le_of_ble_eq_true rfl) dX4_become_8 rfl (fun z4 s5 q6 => ?_)
      obtain ⟨rfl, rfl⟩ := q6
      refine x_ti (show (sF (sG st (10 + w) (n1)) (14 + w) (f)).1 (10 + o) = st.1 (10 + o) by rw [sF_1, sG_n _ _ (by omega)]) ?_
      refine x_icmp_ge (tgt := 30) (q := 14) E dX4_become_11 (by decide) rfl (by omega) (by omega) (fun c11 => ?_) (fun c11 => ?_)
      · exact RET _ _ _ dX4_become_30 (⟨f, by rw [show st.1 (10 + o) = n1 from by omega], fun j h0 h1 => a3 j h0 (by omega), a4⟩)
      · have e1 : (sF (sG st (10 + w) n1) (14 + w) f).1 (10 + o) = st.1 (10 + o) := by rw [sF_1, sG_n _ _ (by omega)]
        have e2 : (sF (sG st (10 + w) n1) (14 + w) f).2 (14 + o) = st.2 (14 + o) := by rw [sF_n _ _ (by omega), sG_2]
        have e3 : wat (sF (sG st (10 + w) n1) (14 + w) f) o i = st.2 (14 + o) i := by rw [wat_in (by omega) (by omega) (by omega), e2]
        have e4 := hbo i (by omega) (by omega)
        refine x_aload_n (q := 15) E dX4_become_14 0 rfl rfl ?_
        refine x_aload_n (q := 16) E dX4_become_15 1 rfl rfl ?_
        refine x_iload_n (q := 17) E dX4_become_16 2 rfl rfl ?_
        refine x_callVi (q := 20) (n := 1) (As := [.int (ii (i))]) (r := [.ref (ad (25 + w))]) E (c_X4_letterAt l D T ad hN (sF (sG st (10 + w) (n1)) (14 + w) (f)) (o) ho (i) (by omega) (by rw [e1]; omega)) gX4_become_X4_letterAt rfl rfl rfl (by decide +kernel) ⟨Nat.le_of_ble_eq_true rfl, Nat.le_of_ble_eq_true rfl⟩ (25 + o) (xg_word ho) rfl rfl rfl (Nat.le_of_ble_eq_true rfl) dX4_become_17 rfl (fun z7 s8 q9 => ?_)
        obtain ⟨rfl, rfl⟩ := q9
        refine x_ti e3 ?_
        refine x_callVi (q := 23) (n := 1) (As := [.int (ii (st.2 (14 + o) i))]) (r := []) E (c_X4_put l D T ad hN (sF (sG st (10 + w) (n1)) (14 + w) (f)) (w) hw (st.2 (14 + o) i) (by omega) (by rw [sF_1, sG_s]; omega)) gX4_become_X4_put rfl rfl rfl (by decide +kernel) ⟨Nat.le_of_ble_eq_true rfl, Nat.le_of_ble_eq_true rfl⟩ (25 + w) (xg_word hw) rfl rfl rfl (Nat.le_of_ble_eq_true rfl) dX4_become_20 rfl (fun z10 s11 q12 => ?_)
        obtain ⟨rfl, rfl⟩ := q12
        refine x_pop (q := 24) E dX4_become_23 rfl rfl ?_
        refine x_iinc (q := 27) (k := 2) (lv' := [(2, .int (ii (i + 1))), (0, .ref (ad (25 + w))), (1, .ref (ad (25 + o)))]) E dX4_become_24 rfl (by decide) rfl rfl ?_
        refine x_goto (tgt := 6) E dX4_become_27 (by decide) ?_
        refine x_st E (st' := (sF (sG st (10 + w) ((n1) + 1)) (14 + w) (zup (f) (n1) (st.2 (14 + o) i)))) (by refine Prod.ext (funext fun k9 => ?_) (funext fun q9 => ?_) <;> simp only [sG_1, sG_2, sA_1, sA_2, sF_1, sF_2, reduceIte] <;> (repeat' split) <;> first | rfl | omega | (subst_vars; first | rfl | omega) | simp_all) ?_
        refine x_lv E (lv' := [(0, .ref (ad (25 + w))), (1, .ref (ad (25 + o))), (2, .int (ii (i + 1)))]) [1, 2, 0] rfl ?_
        exact ih6 (i + 1) ((n1) + 1) (zup (f) (n1) (st.2 (14 + o) i)) (by omega) (by omega) (by omega) (fun j h0 h1 => if hj : j = i then (by rw [hj, a2, zup_eq]) else (by rw [zup_ne _ _ (by omega)]; exact a3 j h0 (by omega))) (zup_b a4 (by have := hbo i (by omega) (by omega); omega) (by have := hbo i (by omega) (by omega); omega))
  refine x_lv E (lv' := [(0, .ref (ad (25 + w))), (1, .ref (ad (25 + o))), (2, .int (ii (0)))]) [1, 2, 0] rfl ?_
  refine x_st E (st' := (sF (sG st (10 + w) (0)) (14 + w) (st.2 (14 + w)))) (by refine Prod.ext (funext fun k9 => ?_) (funext fun q9 => ?_) <;> simp only [sG_1, sG_2, sA_1, sA_2, sF_1, sF_2, reduceIte] <;> (repeat' split) <;> first | rfl | omega | (subst_vars; first | rfl | omega) | simp_all) ?_
  exact L6 _ (0) (0) (st.2 (14 + w)) (Nat.lt_succ_self _) (by omega) (rfl) (fun j h0 h1 => absurd h1 (by omega)) (hb)

theorem iX4_greatestLetter_X4 : ∀ w ∈ wsX40, w ∈ wsX4_greatestLetter := by decide +kernel
set_option maxRecDepth 100000 in
set_option maxHeartbeats 4000000 in
theorem c_X4_greatestLetter (l : Launch) (D : va_G) (T : Nat → ClassId) (ad : Nat → Nat) (hN : ∀ i j, i < 33 → j < 33 → ad i = ad j → i = j) (st : St_) (w : Nat) (hw : w < 3) (hs : 0 ≤ st.1 (10 + w) ∧ st.1 (10 + w) ≤ 60) (hb : ∀ j : Int, 0 ≤ j → j < 60 → 0 ≤ st.2 (14 + w) j ∧ st.2 (14 + w) j ≤ 60) : CXi l yX4_greatestLetter wsX4_greatestLetter (rmX 1 21) [.ref (ad (25 + w))] D (tyX T) (XW T ad) (alX ad) st (fun z st2 => gm (st.2 (14 + w)) (st.1 (10 + w)) = z ∧ st = st2) := by
  refine mk_i (cc := cX4_greatestLetter) (nL := 3) rfl rfl (XW_ok hN) (Nat.le_of_ble_eq_true rfl) [(0, .ref (ad (25 + w)))] rfl (fun p e s m args below meth c A Q E RET => ?_)
  refine x_iconst (q := 1) E dX4_greatestLetter_0 rfl ?_
  refine x_istore_n (q := 2) (lv' := [(1, .int (ii (0))), (0, .ref (ad (25 + w)))]) E dX4_greatestLetter_1 (by decide) rfl rfl ?_
  refine x_iconst (q := 3) E dX4_greatestLetter_2 rfl ?_
  refine x_istore_n (q := 4) (lv' := [(2, .int (ii (0))), (1, .int (ii (0))), (0, .ref (ad (25 + w)))]) E dX4_greatestLetter_3 (by decide) rfl rfl ?_
  have L4 : ∀ (n : Nat) (t : Int) (i : Int), (st.1 (10 + w) - i).toNat < n → (0 ≤ i ∧ i ≤ st.1 (10 + w)) → (t = gm (st.2 (14 + w)) i) → (0 ≤ t ∧ t ≤ 60) → XJ p l e (rmX 1 21) s m args below meth c D (XW T ad) A 3 Q 0 0 st 4 [(0, .ref (ad (25 + w))), (1, .int (ii (t))), (2, .int (ii (i)))] [] := by
    intro n
    induction n with
    | zero => intro t i hn; exact absurd hn (Nat.not_lt_zero _)
    | succ n ih4 =>
      intro t i hn4 a1 a2 a3
      refine x_iload_n (q := 5) E dX4_greatestLetter_4 2 rfl rfl ?_
      refine x_aload_n (q := 6) E dX4_greatestLetter_5 0 rfl rfl ?_
      refine x_get (q := 9) E iX4_greatestLetter_X4 (25 + w) (xg_word hw) rfl 1 (by decide) (by decide +kernel) rfl dX4_greatestLetter_6 rfl ?_
      refine x_icmp_ge (tgt := 28) (q := 12) E dX4_greatestLetter_9 (by decide) rfl (by omega) (by omega) (fun c9 => ?_) (fun c9 => ?_)
      · refine x_iload_n (q := 29) E dX4_greatestLetter_28 1 rfl rfl ?_
        exact RET _ _ _ _ dX4_greatestLetter_29 (⟨by rw [a2]; exact congrArg _ (by omega), rfl⟩)
      · have e1 : wat st w i = st.2 (14 + w) i := wat_in (by omega) (by omega) (by omega)
        have e2 := hb i (by omega) (by omega)
        refine x_iload_n (q := 13) E dX4_greatestLetter_12 1 rfl rfl ?_
        refine x_aload_n (q := 14) E dX4_greatestLetter_13 0 rfl rfl ?_
        refine x_iload_n (q := 15) E dX4_greatestLetter_14 2 rfl rfl ?_
        refine x_callVi (q := 18) (n := 1) (As := [.int (ii (i))]) (r := [.int (ii (t))]) E (c_X4_letterAt l D T ad hN st (w) hw (i) (by omega) (by omega)) gX4_greatestLetter_X4_letterAt rfl rfl rfl (by decide +kernel) ⟨Nat.le_of_ble_eq_true rfl, Nat.le_of_ble_eq_true rfl⟩ (25 + w) (xg_word hw) rfl rfl rfl (Nat.le_of_ble_eq_true rfl) dX4_greatestLetter_15 rfl (fun z1 s2 q3 => ?_)
        obtain ⟨rfl, rfl⟩ := q3
        refine x_max (q := 21) E (by decide +kernel) (by decide +kernel) (by decide +kernel) (by decide +kernel) (Nat.le_of_ble_eq_true rfl) (Nat.le_of_ble_eq_true rfl) (by omega) (by omega) dX4_greatestLetter_18 rfl ?_
        refine x_istore_n (q := 22) (lv' := [(1, .int (ii (if t < wat st w (i) then wat st w (i) else t))), (0, .ref (ad (25 + w))), (2, .int (ii (i)))]) E dX4_greatestLetter_21 (by decide) rfl rfl ?_
        refine x_iinc (q := 25) (k := 2) (lv' := [(2, .int (ii (i + 1))), (1, .int (ii (if t < wat st w (i) then wat st w (i) else t))), (0, .ref (ad (25 + w)))]) E dX4_greatestLetter_22 rfl (by decide) rfl rfl ?_
        refine x_goto (tgt := 4) E dX4_greatestLetter_25 (by decide) ?_
        refine x_lv E (lv' := [(0, .ref (ad (25 + w))), (1, .int (ii (if t < wat st w (i) then wat st w (i) else t))), (2, .int (ii (i + 1)))]) [2, 1, 0] rfl ?_
        exact ih4 (if t < wat st w (i) then wat st w (i) else t) (i + 1) (by omega) (by omega) (by rw [gm_s _ (by omega), ← a2, ← e1]; rfl) (by rw [e1]; split <;> omega)
  refine x_lv E (lv' := [(0, .ref (ad (25 + w))), (1, .int (ii (0))), (2, .int (ii (0)))]) [2, 1, 0] rfl ?_
  exact L4 _ (0) (0) (Nat.lt_succ_self _) (by omega) ((gm_0 _).symm) (by omega)

theorem wat_b {st : St_} {w : Nat} (hb : ∀ j : Int, 0 ≤ j → j < 60 → 0 ≤ st.2 (14 + w) j ∧ st.2 (14 + w) j ≤ 60) : ∀ j : Int, 0 ≤ j → j < 60 → -1 ≤ st.2 (14 + w) j ∧ st.2 (14 + w) j ≤ 100 := fun j h0 h1 => by have := hb j h0 h1; omega
/-- is letter k the last of its run: as numbers -/
def eor (f : Int → Int) (n k : Int) : Prop := k + 1 = n ∨ f k ≠ f (k + 1)
theorem wat_eor {st : St_} {w : Nat} {k : Int} (h0 : 0 ≤ k) (h1 : k < st.1 (10 + w)) (h2 : st.1 (10 + w) ≤ 60) (hb : ∀ j : Int, 0 ≤ j → j < 60 → 0 ≤ st.2 (14 + w) j ∧ st.2 (14 + w) j ≤ 60) : wat st w k = wat st w (k + 1) ↔ ¬ eor (st.2 (14 + w)) (st.1 (10 + w)) k := by
  rw [wat_in h0 h1 h2]
  unfold eor
  by_cases hk : k + 1 = st.1 (10 + w)
  · rw [wat_out (Or.inr (by omega))]
    have := hb k h0 (by omega)
    constructor
    · intro q; omega
    · intro q; exact absurd (Or.inl hk) q
  · rw [wat_in (by omega) (by omega) h2]
    constructor
    · intro q z
      exact z.elim hk (fun y => y q)
    · intro q
      exact Classical.byContradiction (fun z => q (Or.inr z))
theorem iX4_runsInIt_X4 : ∀ w ∈ wsX40, w ∈ wsX4_runsInIt := by decide +kernel
set_option maxRecDepth 100000 in
set_option maxHeartbeats 4000000 in
theorem c_X4_runsInIt (l : Launch) (D : va_G) (T : Nat → ClassId) (ad : Nat → Nat) (hN : ∀ i j, i < 33 → j < 33 → ad i = ad j → i = j) (st : St_) (w : Nat) (hw : w < 3) (hs : 0 ≤ st.1 (10 + w) ∧ st.1 (10 + w) ≤ 60) (hb : ∀ j : Int, 0 ≤ j → j < 60 → 0 ≤ st.2 (14 + w) j ∧ st.2 (14 + w) j ≤ 60) : CXi l yX4_runsInIt wsX4_runsInIt (rmX 2 42) [.ref (ad (25 + w))] D (tyX T) (XW T ad) (alX ad) st (fun z st2 => chg (st.2 (14 + w)) (st.1 (10 + w)) = z ∧ st = st2) := by
  refine mk_i (cc := cX4_runsInIt) (nL := 3) rfl rfl (XW_ok hN) (Nat.le_of_ble_eq_true rfl) [(0, .ref (ad (25 + w)))] rfl (fun p e s m args below meth c A Q E RET => ?_)
  refine x_iconst (q := 1) E dX4_runsInIt_0 rfl ?_
  refine x_istore_n (q := 2) (lv' := [(1, .int (ii (0))), (0, .ref (ad (25 + w)))]) E dX4_runsInIt_1 (by decide) rfl rfl ?_
  refine x_iconst (q := 3) E dX4_runsInIt_2 rfl ?_
  refine x_istore_n (q := 4) (lv' := [(2, .int (ii (0))), (1, .int (ii (0))), (0, .ref (ad (25 + w)))]) E dX4_runsInIt_3 (by decide) rfl rfl ?_
  have L4 : ∀ (n : Nat) (t : Int) (i : Int), (st.1 (10 + w) - i).toNat < n → (0 ≤ i ∧ i ≤ st.1 (10 + w)) → (i < st.1 (10 + w) → t = chg (st.2 (14 + w)) (i + 1) - 1) → (i = st.1 (10 + w) → t = chg (st.2 (14 + w)) i) → XJ p l e (rmX 2 42) s m args below meth c D (XW T ad) A 3 Q 0 0 st 4 [(0, .ref (ad (25 + w))), (1, .int (ii (t))), (2, .int (ii (i)))] [] := by
    intro n
    induction n with
    | zero => intro t i hn; exact absurd hn (Nat.not_lt_zero _)
    | succ n ih4 =>
      intro t i hn4 a1 a2 a3
      refine x_iload_n (q := 5) E dX4_runsInIt_4 2 rfl rfl ?_
      refine x_aload_n (q := 6) E dX4_runsInIt_5 0 rfl rfl ?_
      refine x_get (q := 9) E iX4_runsInIt_X4 (25 + w) (xg_word hw) rfl 1 (by decide) (by decide +kernel) rfl dX4_runsInIt_6 rfl ?_
      refine x_icmp_ge (tgt := 29) (q := 12) E dX4_runsInIt_9 (by decide) rfl (by omega) (by omega) (fun c9 => ?_) (fun c9 => ?_)
      · refine x_iload_n (q := 30) E dX4_runsInIt_29 1 rfl rfl ?_
        exact RET _ _ _ _ dX4_runsInIt_30 (⟨by rw [a3 (by omega)]; exact congrArg _ (by omega), rfl⟩)
      · have e1 := wat_eor (st := st) (w := w) (k := i) (by omega) (by omega) (by omega) hb
        refine x_aload_n (q := 13) E dX4_runsInIt_12 0 rfl rfl ?_
        refine x_iload_n (q := 14) E dX4_runsInIt_13 2 rfl rfl ?_
        refine x_callVi (q := 17) (n := 1) (As := [.int (ii (i))]) (r := []) E (c_X4_isEndOfRun l D T ad hN st (w) hw (i) (by omega) (by omega) (by omega) (wat_b hb)) gX4_runsInIt_X4_isEndOfRun rfl rfl rfl (by decide +kernel) ⟨Nat.le_of_ble_eq_true rfl, Nat.le_of_ble_eq_true rfl⟩ (25 + w) (xg_word hw) rfl rfl rfl (Nat.le_of_ble_eq_true rfl) dX4_runsInIt_14 rfl (fun z1 s2 q3 => ?_)
        obtain ⟨rfl, rfl⟩ := q3
        refine x_if_eq (tgt := 23) (q := 20) E dX4_runsInIt_17 (by decide) rfl (by omega) (fun c17 => ?_) (fun c17 => ?_)
        · have e9 : wat st w i = wat st w (i + 1) := Classical.byContradiction (fun z => by rw [if_neg z] at c17; omega)
          refine x_iinc (q := 26) (k := 2) (lv' := [(2, .int (ii (i + 1))), (0, .ref (ad (25 + w))), (1, .int (ii (t)))]) E dX4_runsInIt_23 rfl (by decide) rfl rfl ?_
          refine x_goto (tgt := 4) E dX4_runsInIt_26 (by decide) ?_
          refine x_lv E (lv' := [(0, .ref (ad (25 + w))), (1, .int (ii (t))), (2, .int (ii (i + 1)))]) [1, 2, 0] rfl ?_
          exact ih4 (t) (i + 1) (by omega) (by omega) (fun h => by rw [if_pos e9] at c17; have := a2 (by omega); rw [chg_s _ (by omega), if_neg (fun q => q.elim (by omega) (fun q => e1.mp e9 (Or.inr (fun z => q (by rw [show i + 1 - 1 = i from by omega]; exact z.symm))))) ]; omega) (fun h => absurd (Or.inl h) (e1.mp e9))
        · have e9 : ¬ wat st w i = wat st w (i + 1) := fun z => c17 (by rw [if_pos z])
          refine x_iinc (q := 23) (k := 1) (lv' := [(1, .int (ii (t + 1))), (0, .ref (ad (25 + w))), (2, .int (ii (i)))]) E dX4_runsInIt_20 rfl (by decide) rfl rfl ?_
          refine x_iinc (q := 26) (k := 2) (lv' := [(2, .int (ii (i + 1))), (1, .int (ii (t + 1))), (0, .ref (ad (25 + w)))]) E dX4_runsInIt_23 rfl (by decide) rfl rfl ?_
          refine x_goto (tgt := 4) E dX4_runsInIt_26 (by decide) ?_
          refine x_lv E (lv' := [(0, .ref (ad (25 + w))), (1, .int (ii (t + 1))), (2, .int (ii (i + 1)))]) [2, 1, 0] rfl ?_
          exact ih4 (t + 1) (i + 1) (by omega) (by omega) (fun h => by have := a2 (by omega); rw [chg_s _ (by omega), if_pos (Or.inr (by rw [show i + 1 - 1 = i from by omega]; exact fun z => e9 (e1.mpr (fun y => y.elim (by omega) (fun x => x z.symm)))))]; omega) (fun h => by have := a2 (by omega); omega)
  refine x_lv E (lv' := [(0, .ref (ad (25 + w))), (1, .int (ii (0))), (2, .int (ii (0)))]) [2, 1, 0] rfl ?_
  exact L4 _ (0) (0) (Nat.lt_succ_self _) (by omega) (fun _ => by rw [chg_s _ (by omega), if_pos (Or.inl rfl)]; show (0 : Int) = chg _ 0 + 1 - 1; show (0 : Int) = 0 + 1 - 1; omega) (fun _ => rfl)

theorem iX4_longestRun_X4 : ∀ w ∈ wsX40, w ∈ wsX4_longestRun := by decide +kernel
set_option maxRecDepth 100000 in
set_option maxHeartbeats 4000000 in
theorem c_X4_longestRun (l : Launch) (D : va_G) (T : Nat → ClassId) (ad : Nat → Nat) (hN : ∀ i j, i < 33 → j < 33 → ad i = ad j → i = j) (st : St_) (w : Nat) (hw : w < 3) (hs : 0 ≤ st.1 (10 + w) ∧ st.1 (10 + w) ≤ 60) (hb : ∀ j : Int, 0 ≤ j → j < 60 → 0 ≤ st.2 (14 + w) j ∧ st.2 (14 + w) j ≤ 60) : CXi l yX4_longestRun wsX4_longestRun (rmX 2 42) [.ref (ad (25 + w))] D (tyX T) (XW T ad) (alX ad) st (fun z st2 => lg (st.2 (14 + w)) (st.1 (10 + w)) = z ∧ st = st2) := by
  refine mk_i (cc := cX4_longestRun) (nL := 4) rfl rfl (XW_ok hN) (Nat.le_of_ble_eq_true rfl) [(0, .ref (ad (25 + w)))] rfl (fun p e s m args below meth c A Q E RET => ?_)
  refine x_iconst (q := 1) E dX4_longestRun_0 rfl ?_
  refine x_istore_n (q := 2) (lv' := [(1, .int (ii (0))), (0, .ref (ad (25 + w)))]) E dX4_longestRun_1 (by decide) rfl rfl ?_
  refine x_iconst (q := 3) E dX4_longestRun_2 rfl ?_
  refine x_istore_n (q := 4) (lv' := [(2, .int (ii (0))), (1, .int (ii (0))), (0, .ref (ad (25 + w)))]) E dX4_longestRun_3 (by decide) rfl rfl ?_
  refine x_iconst (q := 5) E dX4_longestRun_4 rfl ?_
  refine x_istore_n (q := 6) (lv' := [(3, .int (ii (0))), (2, .int (ii (0))), (1, .int (ii (0))), (0, .ref (ad (25 + w)))]) E dX4_longestRun_5 (by decide) rfl rfl ?_
  have L6 : ∀ (n : Nat) (t : Int) (u : Int) (i : Int), (st.1 (10 + w) - i).toNat < n → (0 ≤ i ∧ i ≤ st.1 (10 + w)) → (t = lg (st.2 (14 + w)) i) → (i < st.1 (10 + w) → u + 1 = cl (st.2 (14 + w)) (i + 1)) → (0 ≤ t ∧ t ≤ 60 ∧ 0 ≤ u ∧ u ≤ i) → XJ p l e (rmX 2 42) s m args below meth c D (XW T ad) A 4 Q 0 0 st 6 [(0, .ref (ad (25 + w))), (1, .int (ii (t))), (2, .int (ii (u))), (3, .int (ii (i)))] [] := by
    intro n
    induction n with
    | zero => intro t u i hn; exact absurd hn (Nat.not_lt_zero _)
    | succ n ih6 =>
      intro t u i hn6 a1 a2 a3 a4
      refine x_iload_n (q := 7) E dX4_longestRun_6 3 rfl rfl ?_
      refine x_aload_n (q := 8) E dX4_longestRun_7 0 rfl rfl ?_
      refine x_get (q := 11) E iX4_longestRun_X4 (25 + w) (xg_word hw) rfl 1 (by decide) (by decide +kernel) rfl dX4_longestRun_8 rfl ?_
      refine x_icmp_ge (tgt := 39) (q := 14) E dX4_longestRun_11 (by decide) rfl (by omega) (by omega) (fun c11 => ?_) (fun c11 => ?_)
      · refine x_iload_n (q := 40) E dX4_longestRun_39 1 rfl rfl ?_
        exact RET _ _ _ _ dX4_longestRun_40 (⟨by rw [a2]; exact congrArg _ (by omega), rfl⟩)
      · have e1 := wat_eor (st := st) (w := w) (k := i) (by omega) (by omega) (by omega) hb
        refine x_iinc (q := 17) (k := 2) (lv' := [(2, .int (ii (u + 1))), (0, .ref (ad (25 + w))), (1, .int (ii (t))), (3, .int (ii (i)))]) E dX4_longestRun_14 rfl (by decide) rfl rfl ?_
        refine x_iload_n (q := 18) E dX4_longestRun_17 2 rfl rfl ?_
        refine x_iload_n (q := 19) E dX4_longestRun_18 0 rfl rfl ?_
        refine x_max (q := 22) E (by decide +kernel) (by decide +kernel) (by decide +kernel) (by decide +kernel) (Nat.le_of_ble_eq_true rfl) (Nat.le_of_ble_eq_true rfl) (by omega) (by omega) dX4_longestRun_19 rfl ?_
        refine x_istore_n (q := 23) (lv' := [(1, .int (ii (if t < u + 1 then u + 1 else t))), (2, .int (ii (u + 1))), (0, .ref (ad (25 + w))), (3, .int (ii (i)))]) E dX4_longestRun_22 (by decide) rfl rfl ?_
        refine x_aload_n (q := 24) E dX4_longestRun_23 2 rfl rfl ?_
        refine x_iload_n (q := 25) E dX4_longestRun_24 3 rfl rfl ?_
        refine x_callVi (q := 28) (n := 1) (As := [.int (ii (i))]) (r := []) E (c_X4_isEndOfRun l D T ad hN st (w) hw (i) (by omega) (by omega) (by omega) (wat_b hb)) gX4_longestRun_X4_isEndOfRun rfl rfl rfl (by decide +kernel) ⟨Nat.le_of_ble_eq_true rfl, Nat.le_of_ble_eq_true rfl⟩ (25 + w) (xg_word hw) rfl rfl rfl (Nat.le_of_ble_eq_true rfl) dX4_longestRun_25 rfl (fun z1 s2 q3 => ?_)
        obtain ⟨rfl, rfl⟩ := q3
        refine x_if_eq (tgt := 33) (q := 31) E dX4_longestRun_28 (by decide) rfl (by omega) (fun c28 => ?_) (fun c28 => ?_)
        · have e9 : wat st w i = wat st w (i + 1) := Classical.byContradiction (fun z => by rw [if_neg z] at c28; omega)
          refine x_iinc (q := 36) (k := 3) (lv' := [(3, .int (ii (i + 1))), (1, .int (ii (if t < u + 1 then u + 1 else t))), (2, .int (ii (u + 1))), (0, .ref (ad (25 + w)))]) E dX4_longestRun_33 rfl (by decide) rfl rfl ?_
          refine x_goto (tgt := 6) E dX4_longestRun_36 (by decide) ?_
          refine x_lv E (lv' := [(0, .ref (ad (25 + w))), (1, .int (ii (if t < u + 1 then u + 1 else t))), (2, .int (ii (u + 1))), (3, .int (ii (i + 1)))]) [3, 1, 2, 0] rfl ?_
          exact ih6 (if t < u + 1 then u + 1 else t) (u + 1) (i + 1) (by omega) (by omega) (by rw [lg_s _ (by omega), ← a2, ← a3 (by omega)]; rfl) (fun h => by rw [cl_s _ (by omega), if_neg (fun q => q.elim (by omega) (fun q => e1.mp e9 (Or.inr (fun z => q (by rw [show i + 1 - 1 = i from by omega]; exact z.symm))))) , a3 (by omega)]) (by split <;> omega)
        · have e9 : ¬ wat st w i = wat st w (i + 1) := fun z => c28 (by rw [if_pos z])
          refine x_iconst (q := 32) E dX4_longestRun_31 rfl ?_
          refine x_istore_n (q := 33) (lv' := [(2, .int (ii (0))), (1, .int (ii (if t < u + 1 then u + 1 else t))), (0, .ref (ad (25 + w))), (3, .int (ii (i)))]) E dX4_longestRun_32 (by decide) rfl rfl ?_
          refine x_iinc (q := 36) (k := 3) (lv' := [(3, .int (ii (i + 1))), (2, .int (ii (0))), (1, .int (ii (if t < u + 1 then u + 1 else t))), (0, .ref (ad (25 + w)))]) E dX4_longestRun_33 rfl (by decide) rfl rfl ?_
          refine x_goto (tgt := 6) E dX4_longestRun_36 (by decide) ?_
          refine x_lv E (lv' := [(0, .ref (ad (25 + w))), (1, .int (ii (if t < u + 1 then u + 1 else t))), (2, .int (ii (0))), (3, .int (ii (i + 1)))]) [3, 2, 1, 0] rfl ?_
          exact ih6 (if t < u + 1 then u + 1 else t) (0) (i + 1) (by omega) (by omega) (by rw [lg_s _ (by omega), ← a2, ← a3 (by omega)]; rfl) (fun h => by rw [cl_s _ (by omega), if_pos (Or.inr (by rw [show i + 1 - 1 = i from by omega]; exact fun z => e9 (e1.mpr (fun y => y.elim (by omega) (fun x => x z.symm)))))]; rfl) (by split <;> omega)
  refine x_lv E (lv' := [(0, .ref (ad (25 + w))), (1, .int (ii (0))), (2, .int (ii (0))), (3, .int (ii (0)))]) [3, 2, 1, 0] rfl ?_
  exact L6 _ (0) (0) (0) (Nat.lt_succ_self _) (by omega) ((lg_0 _).symm) (fun _ => by rw [cl_s _ (by omega), if_pos (Or.inl rfl)]; rfl) (by omega)

theorem iX4_isSameMirrored_X4 : ∀ w ∈ wsX40, w ∈ wsX4_isSameMirrored := by decide +kernel
set_option maxRecDepth 100000 in
set_option maxHeartbeats 4000000 in
theorem c_X4_isSameMirrored (l : Launch) (D : va_G) (T : Nat → ClassId) (ad : Nat → Nat) (hN : ∀ i j, i < 33 → j < 33 → ad i = ad j → i = j) (st : St_) (w : Nat) (hw : w < 3) (hs : 0 ≤ st.1 (10 + w) ∧ st.1 (10 + w) ≤ 60) (hb : ∀ j : Int, 0 ≤ j → j < 60 → 0 ≤ st.2 (14 + w) j ∧ st.2 (14 + w) j ≤ 60) : CXi l yX4_isSameMirrored wsX4_isSameMirrored (rmX 1 21) [.ref (ad (25 + w))] D (tyX T) (XW T ad) (alX ad) st (fun z st2 => st2 = st ∧ (z = 0 ∨ z = 1) ∧ (z = 1 ↔ ∀ k : Int, 0 ≤ k → k < st.1 (10 + w) → st.2 (14 + w) k = st.2 (14 + w) (st.1 (10 + w) - 1 - k))) := by
  refine mk_z (cc := cX4_isSameMirrored) (nL := 3) rfl rfl (XW_ok hN) (Nat.le_of_ble_eq_true rfl) [(0, .ref (ad (25 + w)))] rfl (fun p e s m args below meth c A Q E RET => ?_)
  refine x_iconst (q := 1) E dX4_isSameMirrored_0 rfl ?_
  refine x_istore_n (q := 2) (lv' := [(1, .int (ii (0))), (0, .ref (ad (25 + w)))]) E dX4_isSameMirrored_1 (by decide) rfl rfl ?_
  refine x_aload_n (q := 3) E dX4_isSameMirrored_2 1 rfl rfl ?_
  refine x_get (q := 6) E iX4_isSameMirrored_X4 (25 + w) (xg_word hw) rfl 1 (by decide) (by decide +kernel) rfl dX4_isSameMirrored_3 rfl ?_
  refine x_iconst (q := 7) E dX4_isSameMirrored_6 rfl ?_
  refine x_isub (q := 8) E dX4_isSameMirrored_7 rfl ?_
  refine x_istore_n (q := 9) (lv' := [(2, .int (ii ((st.1 (10 + w)) - (1)))), (1, .int (ii (0))), (0, .ref (ad (25 + w)))]) E dX4_isSameMirrored_8 (by decide) rfl rfl ?_
  have L9 : ∀ (n : Nat) (i : Int) (v : Int), (v - i + 2).toNat < n → (0 ≤ i ∧ i + v = st.1 (10 + w) - 1 ∧ i ≤ v + 2) → (∀ k : Int, 0 ≤ k → k < i → st.2 (14 + w) k = st.2 (14 + w) (st.1 (10 + w) - 1 - k)) → XJ p l e (rmX 1 21) s m args below meth c D (XW T ad) A 3 Q 0 0 st 9 [(0, .ref (ad (25 + w))), (1, .int (ii (i))), (2, .int (ii (v)))] [] := by
    intro n
    induction n with
    | zero => intro i v hn; exact absurd hn (Nat.not_lt_zero _)
    | succ n ih9 =>
      intro i v hn9 a1 a2
      refine x_iload_n (q := 10) E dX4_isSameMirrored_9 1 rfl rfl ?_
      refine x_iload_n (q := 11) E dX4_isSameMirrored_10 2 rfl rfl ?_
      refine x_icmp_ge (tgt := 38) (q := 14) E dX4_isSameMirrored_11 (by decide) rfl (by omega) (by omega) (fun c11 => ?_) (fun c11 => ?_)
      · refine x_iconst (q := 39) E dX4_isSameMirrored_38 rfl ?_
        exact RET _ _ _ _ dX4_isSameMirrored_39 (by omega) (⟨rfl, Or.inr rfl, ⟨fun _ k h0 h1 => if hk : k < i then a2 k h0 hk else if hk2 : st.1 (10 + w) - 1 - k < i then (by rw [a2 (st.1 (10 + w) - 1 - k) (by omega) hk2]; exact congrArg _ (by omega)) else congrArg _ (by omega), fun _ => rfl⟩⟩)
      · have e1 : wat st w i = st.2 (14 + w) i := wat_in (by omega) (by omega) (by omega)
        have e2 : wat st w v = st.2 (14 + w) v := wat_in (by omega) (by omega) (by omega)
        have e3 := hb i (by omega) (by omega)
        have e4 := hb v (by omega) (by omega)
        refine x_aload_n (q := 15) E dX4_isSameMirrored_14 0 rfl rfl ?_
        refine x_iload_n (q := 16) E dX4_isSameMirrored_15 1 rfl rfl ?_
        refine x_callVi (q := 19) (n := 1) (As := [.int (ii (i))]) (r := []) E (c_X4_letterAt l D T ad hN st (w) hw (i) (by omega) (by omega)) gX4_isSameMirrored_X4_letterAt rfl rfl rfl (by decide +kernel) ⟨Nat.le_of_ble_eq_true rfl, Nat.le_of_ble_eq_true rfl⟩ (25 + w) (xg_word hw) rfl rfl rfl (Nat.le_of_ble_eq_true rfl) dX4_isSameMirrored_16 rfl (fun z1 s2 q3 => ?_)
        obtain ⟨rfl, rfl⟩ := q3
        refine x_aload_n (q := 20) E dX4_isSameMirrored_19 0 rfl rfl ?_
        refine x_iload_n (q := 21) E dX4_isSameMirrored_20 2 rfl rfl ?_
        refine x_callVi (q := 24) (n := 1) (As := [.int (ii (v))]) (r := [.int (ii (wat st w (i)))]) E (c_X4_letterAt l D T ad hN st (w) hw (v) (by omega) (by omega)) gX4_isSameMirrored_X4_letterAt rfl rfl rfl (by decide +kernel) ⟨Nat.le_of_ble_eq_true rfl, Nat.le_of_ble_eq_true rfl⟩ (25 + w) (xg_word hw) rfl rfl rfl (Nat.le_of_ble_eq_true rfl) dX4_isSameMirrored_21 rfl (fun z4 s5 q6 => ?_)
        obtain ⟨rfl, rfl⟩ := q6
        refine x_icmp_eq (tgt := 29) (q := 27) E dX4_isSameMirrored_24 (by decide) rfl (by omega) (by omega) (fun c24 => ?_) (fun c24 => ?_)
        · refine x_iinc (q := 32) (k := 1) (lv' := [(1, .int (ii (i + 1))), (0, .ref (ad (25 + w))), (2, .int (ii (v)))]) E dX4_isSameMirrored_29 rfl (by decide) rfl rfl ?_
          refine x_iinc (q := 35) (k := 2) (lv' := [(2, .int (ii (v + (-1)))), (1, .int (ii (i + 1))), (0, .ref (ad (25 + w)))]) E dX4_isSameMirrored_32 rfl (by decide) rfl rfl ?_
          refine x_goto (tgt := 9) E dX4_isSameMirrored_35 (by decide) ?_
          refine x_lv E (lv' := [(0, .ref (ad (25 + w))), (1, .int (ii (i + 1))), (2, .int (ii (v + (-1))))]) [2, 1, 0] rfl ?_
          exact ih9 (i + 1) (v + (-1)) (by omega) (by omega) (fun k h0 h1 => if hk : k = i then (by rw [hk, ← e1, c24, e2]; exact congrArg _ (by omega)) else a2 k h0 (by omega))
        · refine x_iconst (q := 28) E dX4_isSameMirrored_27 rfl ?_
          exact RET _ _ _ _ dX4_isSameMirrored_28 (by omega) (⟨rfl, Or.inl rfl, ⟨fun q => absurd q (by omega), fun q => absurd (by rw [e1, e2, q i (by omega) (by omega)]; exact congrArg _ (by omega)) c24⟩⟩)
  refine x_lv E (lv' := [(0, .ref (ad (25 + w))), (1, .int (ii (0))), (2, .int (ii ((st.1 (10 + w)) - (1))))]) [2, 1, 0] rfl ?_
  exact L9 _ (0) ((st.1 (10 + w)) - (1)) (Nat.lt_succ_self _) (by omega) (fun k h0 h1 => absurd h1 (by omega))
end
section
/-! words: one pass of shortening; the letter behind -/
theorem bs_mid (g L : Int) (q : List Int) : dropF g (q ++ [L]) = if g ≤ L ∨ q ≠ [] then dropF g q ++ [L] else dropF g q := by
  by_cases hq : q = []
  · subst hq
    show (if L < g then [] else [L]) = _
    by_cases h : L < g
    · rw [if_pos h, if_neg (fun z => z.elim (by omega) (fun y => y rfl))]; rfl
    · rw [if_neg h, if_pos (Or.inl (by omega))]; rfl
  · rw [if_pos (Or.inr hq), dropF_app g q L hq]
theorem bs_end (g L : Int) (q : List Int) : sh g (q ++ [L]) = if g ≤ L then dropF g q ++ [L] else dropF g q := by
  unfold sh
  by_cases hq : q = []
  · subst hq
    show dropE g (if L < g then [] else [L]) = _
    by_cases h : L < g
    · rw [if_pos h, if_neg (by omega)]; rfl
    · rw [if_neg h, if_pos (by omega)]
      show (if L < g then [] else [L]) = _
      rw [if_neg h]; rfl
  · rw [dropF_app g q L hq, dropE_app]
    by_cases h : L < g
    · rw [if_pos h, if_neg (by omega)]
    · rw [if_neg h, if_pos (by omega)]
theorem lsum_nil {q : List Int} (h : ∀ x ∈ q, 1 ≤ x) : lsum q = 0 ↔ q = [] := by
  constructor
  · intro e
    have := lsum_len q h
    rw [e] at this
    exact List.length_eq_zero_iff.mp (by omega)
  · intro e; rw [e]; rfl
/-- the letter behind the first like v, -1 where there is none -/
def LB (f : Int → Int) (n v z : Int) : Prop := (∃ i : Int, 0 ≤ i ∧ i < n ∧ f i = v ∧ (∀ j : Int, 0 ≤ j → j < i → f j ≠ v) ∧ z = f ((i + 1) % n)) ∨ ((∀ j : Int, 0 ≤ j → j < n → f j ≠ v) ∧ z = -1)
/-- what v is turned into -/
def TR (f : Int → Int) (n v z : Int) : Prop := (∃ i : Int, 0 ≤ i ∧ i < n ∧ f i = v ∧ (∀ j : Int, 0 ≤ j → j < i → f j ≠ v) ∧ z = f ((i + 1) % n)) ∨ ((∀ j : Int, 0 ≤ j → j < n → f j ≠ v) ∧ z = v)
theorem TR_u {f : Int → Int} {n v z y : Int} (h1 : TR f n v z) (h2 : TR f n v y) : z = y := by
  rcases h1 with ⟨i, a1, a2, a3, a4, a5⟩ | ⟨a1, a2⟩
  · rcases h2 with ⟨j, b1, b2, b3, b4, b5⟩ | ⟨b1, b2⟩
    · have : i = j := by
        rcases Int.lt_trichotomy i j with q | q | q
        · exact absurd a3 (b4 i a1 q)
        · exact q
        · exact absurd b3 (a4 j b1 q)
      rw [a5, b5, this]
    · exact absurd a3 (b1 i a1 a2)
  · rcases h2 with ⟨j, b1, b2, b3, b4, b5⟩ | ⟨b1, b2⟩
    · exact absurd b3 (a1 j b1 b2)
    · rw [a2, b2]
theorem TR_congr {f g : Int → Int} {n v z : Int} (e : ∀ j : Int, 0 ≤ j → j < n → f j = g j) (h : TR f n v z) : TR g n v z := by
  rcases h with ⟨i, a1, a2, a3, a4, a5⟩ | ⟨a1, a2⟩
  · exact Or.inl ⟨i, a1, a2, by rw [← e i a1 a2]; exact a3, fun j h0 h1 => by rw [← e j h0 (by omega)]; exact a4 j h0 h1, by rw [a5]; exact e _ (Int.emod_nonneg _ (by omega)) (Int.emod_lt_of_pos _ (by omega))⟩
  · exact Or.inr ⟨fun j h0 h1 => by rw [← e j h0 h1]; exact a1 j h0 h1, a2⟩
theorem LB_TR {f : Int → Int} {n v z : Int} (hv : v ≠ -1) (hf : ∀ j : Int, 0 ≤ j → j < n → f j ≠ -1) (hn : 0 < n) (h : LB f n v z) : TR f n v (if z = -1 then v else z) := by
  rcases h with ⟨i, a1, a2, a3, a4, a5⟩ | ⟨a1, a2⟩
  · have := hf ((i + 1) % n) (Int.emod_nonneg _ (by omega)) (Int.emod_lt_of_pos _ hn)
    rw [if_neg (by rw [a5]; exact this)]
    exact Or.inl ⟨i, a1, a2, a3, a4, a5⟩
  · rw [if_pos a2]
    exact Or.inr ⟨a1, rfl⟩
theorem TR_b {f : Int → Int} {n v z lo hi : Int} (hn : 0 < n) (hf : ∀ j : Int, 0 ≤ j → j < n → lo ≤ f j ∧ f j ≤ hi) (hv : lo ≤ v ∧ v ≤ hi) (h : TR f n v z) : lo ≤ z ∧ z ≤ hi := by
  rcases h with ⟨i, a1, a2, a3, a4, a5⟩ | ⟨a1, a2⟩
  · rw [a5]; exact hf _ (Int.emod_nonneg _ (by omega)) (Int.emod_lt_of_pos _ hn)
  · rw [a2]; exact hv
/-- a stretch of m letters stands twice from i on -/
def tw (f : Int → Int) (m i : Int) : Prop := ∀ t : Int, 0 ≤ t → t < m → f (i + t) = f (i + t + m)
end
section
set_option maxRecDepth 100000 in
set_option maxHeartbeats 4000000 in
theorem c_X5_isLetter (l : Launch) (D : va_G) (T : Nat → ClassId) (ad : Nat → Nat) (hN : ∀ i j, i < 33 → j < 33 → ad i = ad j → i = j) (st : St_) (v : Int) (bv : -2147483648 ≤ v ∧ v < 2147483648) : CXi l yX5_isLetter wsX5_isLetter (rmX 0 0) [.int (ii (v))] D (tyX T) (XW T ad) (alX ad) st (fun z st2 => (if 1 ≤ v ∧ v ≤ 6 then 1 else 0) = z ∧ st = st2) := by
  refine mk_z (cc := cX5_isLetter) (nL := 1) rfl rfl (XW_ok hN) (Nat.le_of_ble_eq_true rfl) [(0, .int (ii (v)))] rfl (fun p e s m args below meth c A Q E RET => ?_)
  refine x_iload_n (q := 1) E dX5_isLetter_0 0 rfl rfl ?_
  refine x_iconst (q := 2) E dX5_isLetter_1 rfl ?_
  refine x_icmp_lt (tgt := 15) (q := 5) E dX5_isLetter_2 (by decide) rfl (by omega) (by omega) (fun c2 => ?_) (fun c2 => ?_)
  · refine x_iconst (q := 16) E dX5_isLetter_15 rfl ?_
    exact RET _ _ _ _ dX5_isLetter_16 (by omega) (⟨by first | (rw [if_pos (by omega)]) | (rw [if_neg (by omega)]), rfl⟩)
  · refine x_iload_n (q := 6) E dX5_isLetter_5 0 rfl rfl ?_
    refine x_bipush (q := 8) E dX5_isLetter_6 (by decide) rfl ?_
    refine x_icmp_gt (tgt := 15) (q := 11) E dX5_isLetter_8 (by decide) rfl (by omega) (by omega) (fun c8 => ?_) (fun c8 => ?_)
    · refine x_iconst (q := 16) E dX5_isLetter_15 rfl ?_
      exact RET _ _ _ _ dX5_isLetter_16 (by omega) (⟨by first | (rw [if_pos (by omega)]) | (rw [if_neg (by omega)]), rfl⟩)
    · refine x_iconst (q := 12) E dX5_isLetter_11 rfl ?_
      refine x_goto (tgt := 16) E dX5_isLetter_12 (by decide) ?_
      exact RET _ _ _ _ dX5_isLetter_16 (by omega) (⟨by first | (rw [if_pos (by omega)]) | (rw [if_neg (by omega)]), rfl⟩)

set_option maxRecDepth 100000 in
set_option maxHeartbeats 4000000 in
theorem c_X5_isOutside (l : Launch) (D : va_G) (T : Nat → ClassId) (ad : Nat → Nat) (hN : ∀ i j, i < 33 → j < 33 → ad i = ad j → i = j) (st : St_) (v : Int) (bv : -2147483648 ≤ v ∧ v < 2147483648) (u : Int) (bu : -2147483648 ≤ u ∧ u < 2147483648) : CXi l yX5_isOutside wsX5_isOutside (rmX 0 0) [.int (ii (v)), .int (ii (u))] D (tyX T) (XW T ad) (alX ad) st (fun z st2 => (if v < 0 ∨ u < v then 1 else 0) = z ∧ st = st2) := by
  refine mk_z (cc := cX5_isOutside) (nL := 2) rfl rfl (XW_ok hN) (Nat.le_of_ble_eq_true rfl) [(0, .int (ii (v))), (1, .int (ii (u)))] rfl (fun p e s m args below meth c A Q E RET => ?_)
  refine x_iload_n (q := 1) E dX5_isOutside_0 0 rfl rfl ?_
  refine x_if_lt (tgt := 9) (q := 4) E dX5_isOutside_1 (by decide) rfl (by omega) (fun c1 => ?_) (fun c1 => ?_)
  · refine x_iconst (q := 10) E dX5_isOutside_9 rfl ?_
    refine x_goto (tgt := 14) E dX5_isOutside_10 (by decide) ?_
    exact RET _ _ _ _ dX5_isOutside_14 (by omega) (⟨by first | (rw [if_pos (by omega)]) | (rw [if_neg (by omega)]), rfl⟩)
  · refine x_iload_n (q := 5) E dX5_isOutside_4 0 rfl rfl ?_
    refine x_iload_n (q := 6) E dX5_isOutside_5 1 rfl rfl ?_
    refine x_icmp_le (tgt := 13) (q := 9) E dX5_isOutside_6 (by decide) rfl (by omega) (by omega) (fun c6 => ?_) (fun c6 => ?_)
    · refine x_iconst (q := 14) E dX5_isOutside_13 rfl ?_
      exact RET _ _ _ _ dX5_isOutside_14 (by omega) (⟨by first | (rw [if_pos (by omega)]) | (rw [if_neg (by omega)]), rfl⟩)
    · refine x_iconst (q := 10) E dX5_isOutside_9 rfl ?_
      refine x_goto (tgt := 14) E dX5_isOutside_10 (by decide) ?_
      exact RET _ _ _ _ dX5_isOutside_14 (by omega) (⟨by first | (rw [if_pos (by omega)]) | (rw [if_neg (by omega)]), rfl⟩)

set_option maxRecDepth 100000 in
set_option maxHeartbeats 4000000 in
theorem c_X5_manyMost (l : Launch) (D : va_G) (T : Nat → ClassId) (ad : Nat → Nat) (hN : ∀ i j, i < 33 → j < 33 → ad i = ad j → i = j) (st : St_) (v : Int) (bv : -2147483648 ≤ v ∧ v < 2147483648) : CXi l yX5_manyMost wsX5_manyMost (rmX 0 0) [.int (ii (v))] D (tyX T) (XW T ad) (alX ad) st (fun z st2 => (if v = 2 then 14 else if v = 3 then 9 else -1) = z ∧ st = st2) := by
  refine mk_i (cc := cX5_manyMost) (nL := 1) rfl rfl (XW_ok hN) (Nat.le_of_ble_eq_true rfl) [(0, .int (ii (v)))] rfl (fun p e s m args below meth c A Q E RET => ?_)
  refine x_iload_n (q := 1) E dX5_manyMost_0 0 rfl rfl ?_
  refine x_iconst (q := 2) E dX5_manyMost_1 rfl ?_
  refine x_icmp_ne (tgt := 8) (q := 5) E dX5_manyMost_2 (by decide) rfl (by omega) (by omega) (fun c2 => ?_) (fun c2 => ?_)
  · refine x_iload_n (q := 9) E dX5_manyMost_8 0 rfl rfl ?_
    refine x_iconst (q := 10) E dX5_manyMost_9 rfl ?_
    refine x_icmp_ne (tgt := 16) (q := 13) E dX5_manyMost_10 (by decide) rfl (by omega) (by omega) (fun c10 => ?_) (fun c10 => ?_)
    · refine x_iconst (q := 17) E dX5_manyMost_16 rfl ?_
      exact RET _ _ _ _ dX5_manyMost_17 (⟨by first | (rw [if_pos (by omega)]) | (rw [if_neg (by omega), if_pos (by omega)]) | (rw [if_neg (by omega), if_neg (by omega)]), rfl⟩)
    · refine x_bipush (q := 15) E dX5_manyMost_13 (by decide) rfl ?_
      exact RET _ _ _ _ dX5_manyMost_15 (⟨by first | (rw [if_pos (by omega)]) | (rw [if_neg (by omega), if_pos (by omega)]) | (rw [if_neg (by omega), if_neg (by omega)]), rfl⟩)
  · refine x_bipush (q := 7) E dX5_manyMost_5 (by decide) rfl ?_
    exact RET _ _ _ _ dX5_manyMost_7 (⟨by first | (rw [if_pos (by omega)]) | (rw [if_neg (by omega), if_pos (by omega)]) | (rw [if_neg (by omega), if_neg (by omega)]), rfl⟩)

theorem iX0_size_X0 : ∀ w ∈ wsX00, w ∈ wsX0_size := by decide +kernel
set_option maxRecDepth 100000 in
set_option maxHeartbeats 4000000 in
theorem c_X0_size (l : Launch) (D : va_G) (T : Nat → ClassId) (ad : Nat → Nat) (hN : ∀ i j, i < 33 → j < 33 → ad i = ad j → i = j) (st : St_) (a : Nat) (ha : a < 4) : CXi l yX0_size wsX0_size (rmX 0 0) [.ref (ad (5 + a))] D (tyX T) (XW T ad) (alX ad) st (fun z st2 => st.1 (3 + a) = z ∧ st = st2) := by
  refine mk_i (cc := cX0_size) (nL := 1) rfl rfl (XW_ok hN) (Nat.le_of_ble_eq_true rfl) [(0, .ref (ad (5 + a)))] rfl (fun p e s m args below meth c A Q E RET => ?_)
  refine x_aload_n (q := 1) E dX0_size_0 0 rfl rfl ?_
  refine x_get (q := 4) E iX0_size_X0 (5 + a) (xg_alph ha) rfl 1 (by decide) (by decide +kernel) rfl dX0_size_1 rfl ?_
  exact RET _ _ _ _ dX0_size_4 (⟨rfl, rfl⟩)

theorem iX0_letterOfRun_X0 : ∀ w ∈ wsX00, w ∈ wsX0_letterOfRun := by decide +kernel
set_option maxRecDepth 100000 in
set_option maxHeartbeats 4000000 in
theorem c_X0_letterOfRun (l : Launch) (D : va_G) (T : Nat → ClassId) (ad : Nat → Nat) (hN : ∀ i j, i < 33 → j < 33 → ad i = ad j → i = j) (st : St_) (a : Nat) (ha : a < 4) (k : Int) (bk : -2147483648 ≤ k ∧ k < 2147483648) (hsa : 2 ≤ st.1 (3 + a) ∧ st.1 (3 + a) ≤ 4) (hk : 0 ≤ k) : CXi l yX0_letterOfRun wsX0_letterOfRun (rmX 0 0) [.ref (ad (5 + a)), .int (ii (k))] D (tyX T) (XW T ad) (alX ad) st (fun z st2 => st.2 (1 + a) ((k) % (st.1 (3 + a))) = z ∧ st = st2) := by
  refine mk_i (cc := cX0_letterOfRun) (nL := 3) rfl rfl (XW_ok hN) (Nat.le_of_ble_eq_true rfl) [(0, .ref (ad (5 + a))), (1, .int (ii (k)))] rfl (fun p e s m args below meth c A Q E RET => ?_)
  have m1 := Int.emod_nonneg k (show st.1 (3 + a) ≠ 0 by omega)
  have m2 := Int.emod_lt_of_pos k (show 0 < st.1 (3 + a) by omega)
  refine x_aload_n (q := 1) E dX0_letterOfRun_0 0 rfl rfl ?_
  refine x_get (q := 4) E iX0_letterOfRun_X0 (5 + a) (xg_alph ha) rfl 1 (by decide) (by decide +kernel) rfl dX0_letterOfRun_1 rfl ?_
  refine x_iconst (q := 5) E dX0_letterOfRun_4 rfl ?_
  refine x_icmp_lt (tgt := 12) (q := 8) E dX0_letterOfRun_5 (by decide) rfl (by omega) (by omega) (fun c5 => ?_) (fun c5 => ?_)
  · refine x_iconst (q := 13) E dX0_letterOfRun_12 rfl ?_
    exact RET _ _ _ _ dX0_letterOfRun_13 (by first | (exfalso; omega) | exact ⟨rfl, rfl⟩)
  · refine x_iload_n (q := 9) E dX0_letterOfRun_8 1 rfl rfl ?_
    refine x_if_ge (tgt := 14) (q := 12) E dX0_letterOfRun_9 (by decide) rfl (by omega) (fun c9 => ?_) (fun c9 => ?_)
    · refine x_iload_n (q := 15) E dX0_letterOfRun_14 1 rfl rfl ?_
      refine x_aload_n (q := 16) E dX0_letterOfRun_15 0 rfl rfl ?_
      refine x_get (q := 19) E iX0_letterOfRun_X0 (5 + a) (xg_alph ha) rfl 1 (by decide) (by decide +kernel) rfl dX0_letterOfRun_16 rfl ?_
      refine x_irem (q := 20) E dX0_letterOfRun_19 (by omega) (by omega) (by omega) (by omega) rfl ?_
      refine x_istore_n (q := 21) (lv' := [(2, .int (ii ((k) % (st.1 (3 + a))))), (0, .ref (ad (5 + a))), (1, .int (ii (k)))]) E dX0_letterOfRun_20 (by decide) rfl rfl ?_
      refine x_iload_n (q := 22) E dX0_letterOfRun_21 0 rfl rfl ?_
      refine x_aload_n (q := 23) E dX0_letterOfRun_22 1 rfl rfl ?_
      refine x_get (q := 26) E iX0_letterOfRun_X0 (5 + a) (xg_alph ha) rfl 0 (by decide) (by decide +kernel) rfl dX0_letterOfRun_23 rfl ?_
      refine x_alen (q := 27) E (9 + a) (xg_let ha) 0 rfl dX0_letterOfRun_26 rfl ?_
      refine x_ti (show (((4 : Nat) : Int)) = 4 from rfl) ?_
      refine x_icmp_ge (tgt := 39) (q := 30) E dX0_letterOfRun_27 (by decide) rfl (by omega) (by omega) (fun c27 => ?_) (fun c27 => ?_)
      · refine x_iconst (q := 40) E dX0_letterOfRun_39 rfl ?_
        exact RET _ _ _ _ dX0_letterOfRun_40 (by first | (exfalso; omega) | exact ⟨rfl, rfl⟩)
      · refine x_aload_n (q := 31) E dX0_letterOfRun_30 1 rfl rfl ?_
        refine x_get (q := 34) E iX0_letterOfRun_X0 (5 + a) (xg_alph ha) rfl 0 (by decide) (by decide +kernel) rfl dX0_letterOfRun_31 rfl ?_
        refine x_iload_n (q := 35) E dX0_letterOfRun_34 0 rfl rfl ?_
        refine x_iald (q := 36) (f := st.2 (1 + a)) E (9 + a) (xg_let ha) 0 rfl (by omega) (by omega) (by decide) dX0_letterOfRun_35 rfl ?_
        refine x_goto (tgt := 40) E dX0_letterOfRun_36 (by decide) ?_
        exact RET _ _ _ _ dX0_letterOfRun_40 (by first | (exfalso; omega) | exact ⟨rfl, rfl⟩)
    · refine x_iconst (q := 13) E dX0_letterOfRun_12 rfl ?_
      exact RET _ _ _ _ dX0_letterOfRun_13 (by first | (exfalso; omega) | exact ⟨rfl, rfl⟩)

theorem iX0_letterBehind_X0 : ∀ w ∈ wsX00, w ∈ wsX0_letterBehind := by decide +kernel
set_option maxRecDepth 100000 in
set_option maxHeartbeats 4000000 in
theorem c_X0_letterBehind (l : Launch) (D : va_G) (T : Nat → ClassId) (ad : Nat → Nat) (hN : ∀ i j, i < 33 → j < 33 → ad i = ad j → i = j) (st : St_) (a : Nat) (ha : a < 4) (v : Int) (bv : -2147483648 ≤ v ∧ v < 2147483648) (hsa : 2 ≤ st.1 (3 + a) ∧ st.1 (3 + a) ≤ 4) (hla : ∀ j : Int, 0 ≤ j → j < st.1 (3 + a) → 1 ≤ st.2 (1 + a) j ∧ st.2 (1 + a) j ≤ 6) : CXi l yX0_letterBehind wsX0_letterBehind (rmX 1 22) [.ref (ad (5 + a)), .int (ii (v))] D (tyX T) (XW T ad) (alX ad) st (fun z st2 => st = st2 ∧ LB (st.2 (1 + a)) (st.1 (3 + a)) v z) := by
  refine mk_i (cc := cX0_letterBehind) (nL := 3) rfl rfl (XW_ok hN) (Nat.le_of_ble_eq_true rfl) [(0, .ref (ad (5 + a))), (1, .int (ii (v)))] rfl (fun p e s m args below meth c A Q E RET => ?_)
  refine x_iconst (q := 1) E dX0_letterBehind_0 rfl ?_
  refine x_istore_n (q := 2) (lv' := [(2, .int (ii (0))), (0, .ref (ad (5 + a))), (1, .int (ii (v)))]) E dX0_letterBehind_1 (by decide) rfl rfl ?_
  have L2 : ∀ (n : Nat) (i : Int), (st.1 (3 + a) - i).toNat < n → (0 ≤ i ∧ i ≤ st.1 (3 + a)) → (∀ j : Int, 0 ≤ j → j < i → st.2 (1 + a) j ≠ v) → XJ p l e (rmX 1 22) s m args below meth c D (XW T ad) A 3 Q 0 0 st 2 [(0, .ref (ad (5 + a))), (1, .int (ii (v))), (2, .int (ii (i)))] [] := by
    intro n
    induction n with
    | zero => intro i hn; exact absurd hn (Nat.not_lt_zero _)
    | succ n ih2 =>
      intro i hn2 a1 a2
      refine x_iload_n (q := 3) E dX0_letterBehind_2 2 rfl rfl ?_
      refine x_aload_n (q := 4) E dX0_letterBehind_3 0 rfl rfl ?_
      refine x_get (q := 7) E iX0_letterBehind_X0 (5 + a) (xg_alph ha) rfl 1 (by decide) (by decide +kernel) rfl dX0_letterBehind_4 rfl ?_
      refine x_icmp_ge (tgt := 33) (q := 10) E dX0_letterBehind_7 (by decide) rfl (by omega) (by omega) (fun c7 => ?_) (fun c7 => ?_)
      · refine x_iconst (q := 34) E dX0_letterBehind_33 rfl ?_
        exact RET _ _ _ _ dX0_letterBehind_34 (⟨rfl, Or.inr ⟨fun j h0 h1 => a2 j h0 (by omega), rfl⟩⟩)
      · have e1 : i % st.1 (3 + a) = i := Int.emod_eq_of_lt (by omega) (by omega)
        have e2 := hla i (by omega) (by omega)
        rw [← e1] at e2
        refine x_aload_n (q := 11) E dX0_letterBehind_10 0 rfl rfl ?_
        refine x_iload_n (q := 12) E dX0_letterBehind_11 2 rfl rfl ?_
        refine x_callVi (q := 15) (n := 1) (As := [.int (ii (i))]) (r := []) E (c_X0_letterOfRun l D T ad hN st (a) ha (i) (by omega) (by omega) (by omega)) gX0_letterBehind_X0_letterOfRun rfl rfl rfl (by decide +kernel) ⟨Nat.le_of_ble_eq_true rfl, Nat.le_of_ble_eq_true rfl⟩ (5 + a) (xg_alph ha) rfl rfl rfl (Nat.le_of_ble_eq_true rfl) dX0_letterBehind_12 rfl (fun z1 s2 q3 => ?_)
        obtain ⟨rfl, rfl⟩ := q3
        refine x_iload_n (q := 16) E dX0_letterBehind_15 1 rfl rfl ?_
        refine x_icmp_ne (tgt := 27) (q := 19) E dX0_letterBehind_16 (by decide) rfl (by omega) (by omega) (fun c16 => ?_) (fun c16 => ?_)
        · refine x_iinc (q := 30) (k := 2) (lv' := [(2, .int (ii (i + 1))), (0, .ref (ad (5 + a))), (1, .int (ii (v)))]) E dX0_letterBehind_27 rfl (by decide) rfl rfl ?_
          refine x_goto (tgt := 2) E dX0_letterBehind_30 (by decide) ?_
          refine x_lv E (lv' := [(0, .ref (ad (5 + a))), (1, .int (ii (v))), (2, .int (ii (i + 1)))]) [1, 2, 0] rfl ?_
          exact ih2 (i + 1) (by omega) (by omega) (fun j h0 h1 => if hj : j = i then (by rw [hj]; rw [e1] at c16; exact c16) else a2 j h0 (by omega))
        · refine x_aload_n (q := 20) E dX0_letterBehind_19 0 rfl rfl ?_
          refine x_iload_n (q := 21) E dX0_letterBehind_20 2 rfl rfl ?_
          refine x_iconst (q := 22) E dX0_letterBehind_21 rfl ?_
          refine x_iadd (q := 23) E dX0_letterBehind_22 rfl ?_
          refine x_callVi (q := 26) (n := 1) (As := [.int (ii ((i) + (1)))]) (r := []) E (c_X0_letterOfRun l D T ad hN st (a) ha ((i) + (1)) (by omega) (by omega) (by omega)) gX0_letterBehind_X0_letterOfRun rfl rfl rfl (by decide +kernel) ⟨Nat.le_of_ble_eq_true rfl, Nat.le_of_ble_eq_true rfl⟩ (5 + a) (xg_alph ha) rfl rfl rfl (Nat.le_of_ble_eq_true rfl) dX0_letterBehind_23 rfl (fun z4 s5 q6 => ?_)
          obtain ⟨rfl, rfl⟩ := q6
          exact RET _ _ _ _ dX0_letterBehind_26 (⟨rfl, Or.inl ⟨i, by omega, by omega, by rw [e1] at c16; exact Classical.byContradiction c16, a2, rfl⟩⟩)
  refine x_lv E (lv' := [(0, .ref (ad (5 + a))), (1, .int (ii (v))), (2, .int (ii (0)))]) [1, 2, 0] rfl ?_
  exact L2 _ (0) (Nat.lt_succ_self _) (by omega) (fun j h0 h1 => absurd h1 (by omega))

theorem iX0_mixInto_X0 : ∀ w ∈ wsX00, w ∈ wsX0_mixInto := by decide +kernel
set_option maxRecDepth 100000 in
set_option maxHeartbeats 4000000 in
theorem c_X0_mixInto (l : Launch) (D : va_G) (T : Nat → ClassId) (ad : Nat → Nat) (hN : ∀ i j, i < 33 → j < 33 → ad i = ad j → i = j) (st : St_) (a : Nat) (ha : a < 4) (h : Int) (hsa : 2 ≤ st.1 (3 + a) ∧ st.1 (3 + a) ≤ 4) (hla : ∀ j : Int, 0 ≤ j → j < st.1 (3 + a) → 1 ≤ st.2 (1 + a) j ∧ st.2 (1 + a) j ≤ 6) : CXl l yX0_mixInto wsX0_mixInto (rmX 1 22) [.ref (ad (5 + a)), .long (jj (h))] D (tyX T) (XW T ad) (alX ad) st (fun z st2 => mix (st.2 (1 + a)) (h) (st.1 (3 + a)) = z ∧ st = st2) := by
  refine mk_l (cc := cX0_mixInto) (nL := 6) rfl rfl (XW_ok hN) (Nat.le_of_ble_eq_true rfl) [(0, .ref (ad (5 + a))), (1, .long (jj (h)))] rfl (fun p e s m args below meth c A Q E RET => ?_)
  refine x_lload_n (q := 1) E dX0_mixInto_0 1 rfl rfl ?_
  refine x_lstore_n (q := 2) (lv' := [(3, .long (jj (h))), (0, .ref (ad (5 + a))), (1, .long (jj (h)))]) E dX0_mixInto_1 (by decide) rfl rfl ?_
  refine x_iconst (q := 3) E dX0_mixInto_2 rfl ?_
  refine x_istore (q := 5) (lv' := [(5, .int (ii (0))), (3, .long (jj (h))), (0, .ref (ad (5 + a))), (1, .long (jj (h)))]) E dX0_mixInto_3 (by decide) rfl rfl ?_
  have L5 : ∀ (n : Nat) (t : Int) (i : Int), (st.1 (3 + a) - i).toNat < n → (0 ≤ i ∧ i ≤ st.1 (3 + a)) → (t = mix (st.2 (1 + a)) h i) → XJ p l e (rmX 1 22) s m args below meth c D (XW T ad) A 6 Q 0 0 st 5 [(0, .ref (ad (5 + a))), (3, .long (jj (t))), (5, .int (ii (i)))] [] := by
    intro n
    induction n with
    | zero => intro t i hn; exact absurd hn (Nat.not_lt_zero _)
    | succ n ih5 =>
      intro t i hn5 a1 a2
      refine x_iload (q := 7) E dX0_mixInto_5 2 rfl rfl ?_
      refine x_aload_n (q := 8) E dX0_mixInto_7 0 rfl rfl ?_
      refine x_get (q := 11) E iX0_mixInto_X0 (5 + a) (xg_alph ha) rfl 1 (by decide) (by decide +kernel) rfl dX0_mixInto_8 rfl ?_
      refine x_icmp_ge (tgt := 34) (q := 14) E dX0_mixInto_11 (by decide) rfl (by omega) (by omega) (fun c11 => ?_) (fun c11 => ?_)
      · refine x_lload_n (q := 35) E dX0_mixInto_34 1 rfl rfl ?_
        exact RET _ _ _ _ dX0_mixInto_35 (⟨by rw [a2]; exact congrArg _ (by omega), rfl⟩)
      · have e1 : i % st.1 (3 + a) = i := Int.emod_eq_of_lt (by omega) (by omega)
        have e2 := hla i (by omega) (by omega)
        rw [← e1] at e2
        refine x_ldc2 (q := 17) (v := 31) (z := 31) E (by decide +kernel) (by decide) dX0_mixInto_14 rfl ?_
        refine x_lload_n (q := 18) E dX0_mixInto_17 1 rfl rfl ?_
        refine x_lmul (q := 19) E dX0_mixInto_18 rfl ?_
        refine x_aload_n (q := 20) E dX0_mixInto_19 0 rfl rfl ?_
        refine x_iload (q := 22) E dX0_mixInto_20 2 rfl rfl ?_
        refine x_callVi (q := 25) (n := 1) (As := [.int (ii (i))]) (r := [.long (jj ((31) * (t)))]) E (c_X0_letterOfRun l D T ad hN st (a) ha (i) (by omega) (by omega) (by omega)) gX0_mixInto_X0_letterOfRun rfl rfl rfl (by decide +kernel) ⟨Nat.le_of_ble_eq_true rfl, Nat.le_of_ble_eq_true rfl⟩ (5 + a) (xg_alph ha) rfl rfl rfl (Nat.le_of_ble_eq_true rfl) dX0_mixInto_22 rfl (fun z1 s2 q3 => ?_)
        obtain ⟨rfl, rfl⟩ := q3
        refine x_i2l (q := 26) E dX0_mixInto_25 (by omega) rfl ?_
        refine x_ladd (q := 27) E dX0_mixInto_26 rfl ?_
        refine x_lstore_n (q := 28) (lv' := [(3, .long (jj (((31) * (t)) + (st.2 (1 + a) ((i) % (st.1 (3 + a))))))), (0, .ref (ad (5 + a))), (5, .int (ii (i)))]) E dX0_mixInto_27 (by decide) rfl rfl ?_
        refine x_iinc (q := 31) (k := 2) (lv' := [(5, .int (ii (i + 1))), (3, .long (jj (((31) * (t)) + (st.2 (1 + a) ((i) % (st.1 (3 + a))))))), (0, .ref (ad (5 + a)))]) E dX0_mixInto_28 rfl (by decide) rfl rfl ?_
        refine x_goto (tgt := 5) E dX0_mixInto_31 (by decide) ?_
        refine x_lv E (lv' := [(0, .ref (ad (5 + a))), (3, .long (jj (((31) * (t)) + (st.2 (1 + a) ((i) % (st.1 (3 + a))))))), (5, .int (ii (i + 1)))]) [2, 1, 0] rfl ?_
        exact ih5 (((31) * (t)) + (st.2 (1 + a) ((i) % (st.1 (3 + a))))) (i + 1) (by omega) (by omega) (by rw [mix_s _ _ (by omega), a2, e1])
  refine x_lv E (lv' := [(0, .ref (ad (5 + a))), (3, .long (jj (h))), (5, .int (ii (0)))]) [2, 1, 0] rfl ?_
  exact L5 _ (h) (0) (Nat.lt_succ_self _) (by omega) ((mix_0 _ _).symm)

theorem iX0_change_X0 : ∀ w ∈ wsX00, w ∈ wsX0_change := by decide +kernel
set_option maxRecDepth 100000 in
set_option maxHeartbeats 4000000 in
theorem c_X0_change (l : Launch) (D : va_G) (T : Nat → ClassId) (ad : Nat → Nat) (hN : ∀ i j, i < 33 → j < 33 → ad i = ad j → i = j) (st : St_) (a : Nat) (ha : a < 4) (n0 : Int) (bn0 : -2147483648 ≤ n0 ∧ n0 < 2147483648) (w0 : Int) (bw0 : -2147483648 ≤ w0 ∧ w0 < 2147483648) (x0 : Int) (bx0 : -2147483648 ≤ x0 ∧ x0 < 2147483648) (y0 : Int) (by0 : -2147483648 ≤ y0 ∧ y0 < 2147483648) (z0 : Int) (bz0 : -2147483648 ≤ z0 ∧ z0 < 2147483648) : CXi l yX0_change wsX0_change (rmX 1 20) [.ref (ad (5 + a)), .int (ii (n0)), .int (ii (w0)), .int (ii (x0)), .int (ii (y0)), .int (ii (z0))] D (tyX T) (XW T ad) (alX ad) st (fun z st2 => ((2 ≤ n0 ∧ n0 ≤ 4 ∧ 1 ≤ w0 ∧ w0 ≤ 6 ∧ 1 ≤ x0 ∧ x0 ≤ 6 ∧ w0 ≠ x0 ∧ (3 ≤ n0 → 1 ≤ y0 ∧ y0 ≤ 6 ∧ x0 ≠ y0) ∧ (4 ≤ n0 → 1 ≤ z0 ∧ z0 ≤ 6 ∧ y0 ≠ z0) ∧ (n0 = 3 → y0 ≠ w0) ∧ (n0 = 4 → z0 ≠ w0)) ∧ z = 1 ∧ st2 = sG (sA (sA (sA (sA st (1 + a) 0 w0) (1 + a) 1 x0) (1 + a) 2 y0) (1 + a) 3 z0) (3 + a) n0) ∨ (¬ (2 ≤ n0 ∧ n0 ≤ 4 ∧ 1 ≤ w0 ∧ w0 ≤ 6 ∧ 1 ≤ x0 ∧ x0 ≤ 6 ∧ w0 ≠ x0 ∧ (3 ≤ n0 → 1 ≤ y0 ∧ y0 ≤ 6 ∧ x0 ≠ y0) ∧ (4 ≤ n0 → 1 ≤ z0 ∧ z0 ≤ 6 ∧ y0 ≠ z0) ∧ (n0 = 3 → y0 ≠ w0) ∧ (n0 = 4 → z0 ≠ w0)) ∧ z = 0 ∧ st = st2)) := by
  refine mk_z (cc := cX0_change) (nL := 7) rfl rfl (XW_ok hN) (Nat.le_of_ble_eq_true rfl) [(0, .ref (ad (5 + a))), (1, .int (ii (n0))), (2, .int (ii (w0))), (3, .int (ii (x0))), (4, .int (ii (y0))), (5, .int (ii (z0)))] rfl (fun p e s m args below meth c A Q E RET => ?_)
  refine x_iload_n (q := 1) E dX0_change_0 1 rfl rfl ?_
  refine x_iconst (q := 2) E dX0_change_1 rfl ?_
  refine x_icmp_lt (tgt := 10) (q := 5) E dX0_change_2 (by decide) rfl (by omega) (by omega) (fun c2 => ?_) (fun c2 => ?_)
  · refine x_iconst (q := 11) E dX0_change_10 rfl ?_
    exact RET _ _ _ _ dX0_change_11 (by omega) (by first | exact Or.inl ⟨by omega, rfl, rfl⟩ | exact Or.inr ⟨by omega, rfl, rfl⟩ | (exfalso; omega))
  · refine x_iload_n (q := 6) E dX0_change_5 1 rfl rfl ?_
    refine x_iconst (q := 7) E dX0_change_6 rfl ?_
    refine x_icmp_le (tgt := 12) (q := 10) E dX0_change_7 (by decide) rfl (by omega) (by omega) (fun c7 => ?_) (fun c7 => ?_)
    · refine x_iload_n (q := 13) E dX0_change_12 1 rfl rfl ?_
      refine x_iconst (q := 14) E dX0_change_13 rfl ?_
      refine x_icmp_ne (tgt := 21) (q := 17) E dX0_change_14 (by decide) rfl (by omega) (by omega) (fun c14 => ?_) (fun c14 => ?_)
      · refine x_iload_n (q := 22) E dX0_change_21 1 rfl rfl ?_
        refine x_iconst (q := 23) E dX0_change_22 rfl ?_
        refine x_icmp_ne (tgt := 31) (q := 26) E dX0_change_23 (by decide) rfl (by omega) (by omega) (fun c23 => ?_) (fun c23 => ?_)
        · refine x_iload (q := 33) E dX0_change_31 5 rfl rfl ?_
          refine x_istore (q := 35) (lv' := [(6, .int (ii (z0))), (0, .ref (ad (5 + a))), (1, .int (ii (n0))), (2, .int (ii (w0))), (3, .int (ii (x0))), (4, .int (ii (y0))), (5, .int (ii (z0)))]) E dX0_change_33 (by decide) rfl rfl ?_
          refine x_iload_n (q := 36) E dX0_change_35 3 rfl rfl ?_
          refine x_callSNi (q := 39) (n := 1) (As := [.int (ii (w0))]) (r := []) E (c_X5_isLetter l D T ad hN st (w0) (by omega)) gX0_change_X5_isLetter_n23 rfl rfl rfl E.nw.1 (by decide +kernel) (by decide +kernel) (by decide +kernel) ⟨Nat.le_of_ble_eq_true rfl, Nat.le_of_ble_eq_true rfl⟩ rfl rfl (Nat.le_of_ble_eq_true rfl) dX0_change_36 rfl (fun z1 s2 q3 => ?_)
          obtain ⟨rfl, rfl⟩ := q3
          refine x_if_eq (tgt := 60) (q := 42) E dX0_change_39 (by decide) rfl (by omega) (fun c39 => ?_) (fun c39 => ?_)
          · refine x_iconst (q := 61) E dX0_change_60 rfl ?_
            exact RET _ _ _ _ dX0_change_61 (by omega) (by first | exact Or.inl ⟨by omega, rfl, rfl⟩ | exact Or.inr ⟨by omega, rfl, rfl⟩ | (exfalso; omega))
          · refine x_iload_n (q := 43) E dX0_change_42 4 rfl rfl ?_
            refine x_callSNi (q := 46) (n := 1) (As := [.int (ii (x0))]) (r := []) E (c_X5_isLetter l D T ad hN st (x0) (by omega)) gX0_change_X5_isLetter_n23 rfl rfl rfl E.nw.1 (by decide +kernel) (by decide +kernel) (by decide +kernel) ⟨Nat.le_of_ble_eq_true rfl, Nat.le_of_ble_eq_true rfl⟩ rfl rfl (Nat.le_of_ble_eq_true rfl) dX0_change_43 rfl (fun z4 s5 q6 => ?_)
            obtain ⟨rfl, rfl⟩ := q6
            refine x_if_eq (tgt := 60) (q := 49) E dX0_change_46 (by decide) rfl (by omega) (fun c46 => ?_) (fun c46 => ?_)
            · refine x_iconst (q := 61) E dX0_change_60 rfl ?_
              exact RET _ _ _ _ dX0_change_61 (by omega) (by first | exact Or.inl ⟨by omega, rfl, rfl⟩ | exact Or.inr ⟨by omega, rfl, rfl⟩ | (exfalso; omega))
            · refine x_iload_n (q := 50) E dX0_change_49 3 rfl rfl ?_
              refine x_iload_n (q := 51) E dX0_change_50 4 rfl rfl ?_
              refine x_icmp_eq (tgt := 60) (q := 54) E dX0_change_51 (by decide) rfl (by omega) (by omega) (fun c51 => ?_) (fun c51 => ?_)
              · refine x_iconst (q := 61) E dX0_change_60 rfl ?_
                exact RET _ _ _ _ dX0_change_61 (by omega) (by first | exact Or.inl ⟨by omega, rfl, rfl⟩ | exact Or.inr ⟨by omega, rfl, rfl⟩ | (exfalso; omega))
              · refine x_iload (q := 56) E dX0_change_54 0 rfl rfl ?_
                refine x_iload_n (q := 57) E dX0_change_56 3 rfl rfl ?_
                refine x_icmp_ne (tgt := 62) (q := 60) E dX0_change_57 (by decide) rfl (by omega) (by omega) (fun c57 => ?_) (fun c57 => ?_)
                · refine x_iload_n (q := 63) E dX0_change_62 2 rfl rfl ?_
                  refine x_iconst (q := 64) E dX0_change_63 rfl ?_
                  refine x_icmp_lt (tgt := 83) (q := 67) E dX0_change_64 (by decide) rfl (by omega) (by omega) (fun c64 => ?_) (fun c64 => ?_)
                  · refine x_iload_n (q := 84) E dX0_change_83 2 rfl rfl ?_
                    refine x_iconst (q := 85) E dX0_change_84 rfl ?_
                    refine x_icmp_lt (tgt := 105) (q := 88) E dX0_change_85 (by decide) rfl (by omega) (by omega) (fun c85 => ?_) (fun c85 => ?_)
                    · refine x_aload_n (q := 106) E dX0_change_105 1 rfl rfl ?_
                      refine x_get (q := 109) E iX0_change_X0 (5 + a) (xg_alph ha) rfl 0 (by decide) (by decide +kernel) rfl dX0_change_106 rfl ?_
                      refine x_iconst (q := 110) E dX0_change_109 rfl ?_
                      refine x_iload_n (q := 111) E dX0_change_110 3 rfl rfl ?_
                      refine x_iast (q := 112) (st' := (sA st (1 + a) (0) (w0))) (f := st.2 (1 + a)) E (9 + a) (xg_let ha) 0 rfl (by omega) (by omega) (by decide) dX0_change_111 (xs_let ha _ _) rfl ?_
                      refine x_aload_n (q := 113) E dX0_change_112 1 rfl rfl ?_
                      refine x_get (q := 116) E iX0_change_X0 (5 + a) (xg_alph ha) rfl 0 (by decide) (by decide +kernel) rfl dX0_change_113 rfl ?_
                      refine x_iconst (q := 117) E dX0_change_116 rfl ?_
                      refine x_iload_n (q := 118) E dX0_change_117 4 rfl rfl ?_
                      refine x_iast (q := 119) (st' := (sA (sA st (1 + a) (0) (w0)) (1 + a) (1) (x0))) (f := (sA st (1 + a) (0) (w0)).2 (1 + a)) E (9 + a) (xg_let ha) 0 rfl (by omega) (by omega) (by decide) dX0_change_118 (xs_let ha _ _) rfl ?_
                      refine x_aload_n (q := 120) E dX0_change_119 1 rfl rfl ?_
                      refine x_get (q := 123) E iX0_change_X0 (5 + a) (xg_alph ha) rfl 0 (by decide) (by decide +kernel) rfl dX0_change_120 rfl ?_
                      refine x_iconst (q := 124) E dX0_change_123 rfl ?_
                      refine x_iload (q := 126) E dX0_change_124 5 rfl rfl ?_
                      refine x_iast (q := 127) (st' := (sA (sA (sA st (1 + a) (0) (w0)) (1 + a) (1) (x0)) (1 + a) (2) (y0))) (f := (sA (sA st (1 + a) (0) (w0)) (1 + a) (1) (x0)).2 (1 + a)) E (9 + a) (xg_let ha) 0 rfl (by omega) (by omega) (by decide) dX0_change_126 (xs_let ha _ _) rfl ?_
                      refine x_aload_n (q := 128) E dX0_change_127 1 rfl rfl ?_
                      refine x_get (q := 131) E iX0_change_X0 (5 + a) (xg_alph ha) rfl 0 (by decide) (by decide +kernel) rfl dX0_change_128 rfl ?_
                      refine x_iconst (q := 132) E dX0_change_131 rfl ?_
                      refine x_iload (q := 134) E dX0_change_132 6 rfl rfl ?_
                      refine x_iast (q := 135) (st' := (sA (sA (sA (sA st (1 + a) (0) (w0)) (1 + a) (1) (x0)) (1 + a) (2) (y0)) (1 + a) (3) (z0))) (f := (sA (sA (sA st (1 + a) (0) (w0)) (1 + a) (1) (x0)) (1 + a) (2) (y0)).2 (1 + a)) E (9 + a) (xg_let ha) 0 rfl (by omega) (by omega) (by decide) dX0_change_134 (xs_let ha _ _) rfl ?_
                      refine x_aload_n (q := 136) E dX0_change_135 1 rfl rfl ?_
                      refine x_iload_n (q := 137) E dX0_change_136 2 rfl rfl ?_
                      refine x_put (q := 140) (st' := (sG (sA (sA (sA (sA st (1 + a) (0) (w0)) (1 + a) (1) (x0)) (1 + a) (2) (y0)) (1 + a) (3) (z0)) (3 + a) (n0))) (v := .int (ii (n0))) (ty := .int) E iX0_change_X0 tyX0 tyX0_ok nmX0 (5 + a) (xg_alph ha) rfl 1 (by decide) (by decide +kernel) rfl (by decide +kernel) rfl rfl (Nat.le_of_ble_eq_true rfl) dX0_change_137 (xs_alph ha _) rfl ?_
                      refine x_iconst (q := 141) E dX0_change_140 rfl ?_
                      exact RET _ _ _ _ dX0_change_141 (by omega) (by first | exact Or.inl ⟨by omega, rfl, rfl⟩ | exact Or.inr ⟨by omega, rfl, rfl⟩ | (exfalso; omega))
                    · refine x_iload (q := 90) E dX0_change_88 6 rfl rfl ?_
                      refine x_callSNi (q := 93) (n := 1) (As := [.int (ii (z0))]) (r := []) E (c_X5_isLetter l D T ad hN st (z0) (by omega)) gX0_change_X5_isLetter_n23 rfl rfl rfl E.nw.1 (by decide +kernel) (by decide +kernel) (by decide +kernel) ⟨Nat.le_of_ble_eq_true rfl, Nat.le_of_ble_eq_true rfl⟩ rfl rfl (Nat.le_of_ble_eq_true rfl) dX0_change_90 rfl (fun z7 s8 q9 => ?_)
                      obtain ⟨rfl, rfl⟩ := q9
                      refine x_if_eq (tgt := 103) (q := 96) E dX0_change_93 (by decide) rfl (by omega) (fun c93 => ?_) (fun c93 => ?_)
                      · refine x_iconst (q := 104) E dX0_change_103 rfl ?_
                        exact RET _ _ _ _ dX0_change_104 (by omega) (by first | exact Or.inl ⟨by omega, rfl, rfl⟩ | exact Or.inr ⟨by omega, rfl, rfl⟩ | (exfalso; omega))
                      · refine x_iload (q := 98) E dX0_change_96 5 rfl rfl ?_
                        refine x_iload (q := 100) E dX0_change_98 6 rfl rfl ?_
                        refine x_icmp_ne (tgt := 105) (q := 103) E dX0_change_100 (by decide) rfl (by omega) (by omega) (fun c100 => ?_) (fun c100 => ?_)
                        · refine x_aload_n (q := 106) E dX0_change_105 1 rfl rfl ?_
                          refine x_get (q := 109) E iX0_change_X0 (5 + a) (xg_alph ha) rfl 0 (by decide) (by decide +kernel) rfl dX0_change_106 rfl ?_
                          refine x_iconst (q := 110) E dX0_change_109 rfl ?_
                          refine x_iload_n (q := 111) E dX0_change_110 3 rfl rfl ?_
                          refine x_iast (q := 112) (st' := (sA st (1 + a) (0) (w0))) (f := st.2 (1 + a)) E (9 + a) (xg_let ha) 0 rfl (by omega) (by omega) (by decide) dX0_change_111 (xs_let ha _ _) rfl ?_
                          refine x_aload_n (q := 113) E dX0_change_112 1 rfl rfl ?_
                          refine x_get (q := 116) E iX0_change_X0 (5 + a) (xg_alph ha) rfl 0 (by decide) (by decide +kernel) rfl dX0_change_113 rfl ?_
                          refine x_iconst (q := 117) E dX0_change_116 rfl ?_
                          refine x_iload_n (q := 118) E dX0_change_117 4 rfl rfl ?_
                          refine x_iast (q := 119) (st' := (sA (sA st (1 + a) (0) (w0)) (1 + a) (1) (x0))) (f := (sA st (1 + a) (0) (w0)).2 (1 + a)) E (9 + a) (xg_let ha) 0 rfl (by omega) (by omega) (by decide) dX0_change_118 (xs_let ha _ _) rfl ?_
                          refine x_aload_n (q := 120) E dX0_change_119 1 rfl rfl ?_
                          refine x_get (q := 123) E iX0_change_X0 (5 + a) (xg_alph ha) rfl 0 (by decide) (by decide +kernel) rfl dX0_change_120 rfl ?_
                          refine x_iconst (q := 124) E dX0_change_123 rfl ?_
                          refine x_iload (q := 126) E dX0_change_124 5 rfl rfl ?_
                          refine x_iast (q := 127) (st' := (sA (sA (sA st (1 + a) (0) (w0)) (1 + a) (1) (x0)) (1 + a) (2) (y0))) (f := (sA (sA st (1 + a) (0) (w0)) (1 + a) (1) (x0)).2 (1 + a)) E (9 + a) (xg_let ha) 0 rfl (by omega) (by omega) (by decide) dX0_change_126 (xs_let ha _ _) rfl ?_
                          refine x_aload_n (q := 128) E dX0_change_127 1 rfl rfl ?_
                          refine x_get (q := 131) E iX0_change_X0 (5 + a) (xg_alph ha) rfl 0 (by decide) (by decide +kernel) rfl dX0_change_128 rfl ?_
                          refine x_iconst (q := 132) E dX0_change_131 rfl ?_
                          refine x_iload (q := 134) E dX0_change_132 6 rfl rfl ?_
                          refine x_iast (q := 135) (st' := (sA (sA (sA (sA st (1 + a) (0) (w0)) (1 + a) (1) (x0)) (1 + a) (2) (y0)) (1 + a) (3) (z0))) (f := (sA (sA (sA st (1 + a) (0) (w0)) (1 + a) (1) (x0)) (1 + a) (2) (y0)).2 (1 + a)) E (9 + a) (xg_let ha) 0 rfl (by omega) (by omega) (by decide) dX0_change_134 (xs_let ha _ _) rfl ?_
                          refine x_aload_n (q := 136) E dX0_change_135 1 rfl rfl ?_
                          refine x_iload_n (q := 137) E dX0_change_136 2 rfl rfl ?_
                          refine x_put (q := 140) (st' := (sG (sA (sA (sA (sA st (1 + a) (0) (w0)) (1 + a) (1) (x0)) (1 + a) (2) (y0)) (1 + a) (3) (z0)) (3 + a) (n0))) (v := .int (ii (n0))) (ty := .int) E iX0_change_X0 tyX0 tyX0_ok nmX0 (5 + a) (xg_alph ha) rfl 1 (by decide) (by decide +kernel) rfl (by decide +kernel) rfl rfl (Nat.le_of_ble_eq_true rfl) dX0_change_137 (xs_alph ha _) rfl ?_
                          refine x_iconst (q := 141) E dX0_change_140 rfl ?_
                          exact RET _ _ _ _ dX0_change_141 (by omega) (by first | exact Or.inl ⟨by omega, rfl, rfl⟩ | exact Or.inr ⟨by omega, rfl, rfl⟩ | (exfalso; omega))
                        · refine x_iconst (q := 104) E dX0_change_103 rfl ?_
                          exact RET _ _ _ _ dX0_change_104 (by omega) (by first | exact Or.inl ⟨by omega, rfl, rfl⟩ | exact Or.inr ⟨by omega, rfl, rfl⟩ | (exfalso; omega))
                  · refine x_iload (q := 69) E dX0_change_67 5 rfl rfl ?_
                    refine x_callSNi (q := 72) (n := 1) (As := [.int (ii (y0))]) (r := []) E (c_X5_isLetter l D T ad hN st (y0) (by omega)) gX0_change_X5_isLetter_n23 rfl rfl rfl E.nw.1 (by decide +kernel) (by decide +kernel) (by decide +kernel) ⟨Nat.le_of_ble_eq_true rfl, Nat.le_of_ble_eq_true rfl⟩ rfl rfl (Nat.le_of_ble_eq_true rfl) dX0_change_69 rfl (fun z10 s11 q12 => ?_)
                    obtain ⟨rfl, rfl⟩ := q12
                    refine x_if_eq (tgt := 81) (q := 75) E dX0_change_72 (by decide) rfl (by omega) (fun c72 => ?_) (fun c72 => ?_)
                    · refine x_iconst (q := 82) E dX0_change_81 rfl ?_
                      exact RET _ _ _ _ dX0_change_82 (by omega) (by first | exact Or.inl ⟨by omega, rfl, rfl⟩ | exact Or.inr ⟨by omega, rfl, rfl⟩ | (exfalso; omega))
                    · refine x_iload_n (q := 76) E dX0_change_75 4 rfl rfl ?_
                      refine x_iload (q := 78) E dX0_change_76 5 rfl rfl ?_
                      refine x_icmp_ne (tgt := 83) (q := 81) E dX0_change_78 (by decide) rfl (by omega) (by omega) (fun c78 => ?_) (fun c78 => ?_)
                      · refine x_iload_n (q := 84) E dX0_change_83 2 rfl rfl ?_
                        refine x_iconst (q := 85) E dX0_change_84 rfl ?_
                        refine x_icmp_lt (tgt := 105) (q := 88) E dX0_change_85 (by decide) rfl (by omega) (by omega) (fun c85 => ?_) (fun c85 => ?_)
                        · refine x_aload_n (q := 106) E dX0_change_105 1 rfl rfl ?_
                          refine x_get (q := 109) E iX0_change_X0 (5 + a) (xg_alph ha) rfl 0 (by decide) (by decide +kernel) rfl dX0_change_106 rfl ?_
                          refine x_iconst (q := 110) E dX0_change_109 rfl ?_
                          refine x_iload_n (q := 111) E dX0_change_110 3 rfl rfl ?_
                          refine x_iast (q := 112) (st' := (sA st (1 + a) (0) (w0))) (f := st.2 (1 + a)) E (9 + a) (xg_let ha) 0 rfl (by omega) (by omega) (by decide) dX0_change_111 (xs_let ha _ _) rfl ?_
                          refine x_aload_n (q := 113) E dX0_change_112 1 rfl rfl ?_
                          refine x_get (q := 116) E iX0_change_X0 (5 + a) (xg_alph ha) rfl 0 (by decide) (by decide +kernel) rfl dX0_change_113 rfl ?_
                          refine x_iconst (q := 117) E dX0_change_116 rfl ?_
                          refine x_iload_n (q := 118) E dX0_change_117 4 rfl rfl ?_
                          refine x_iast (q := 119) (st' := (sA (sA st (1 + a) (0) (w0)) (1 + a) (1) (x0))) (f := (sA st (1 + a) (0) (w0)).2 (1 + a)) E (9 + a) (xg_let ha) 0 rfl (by omega) (by omega) (by decide) dX0_change_118 (xs_let ha _ _) rfl ?_
                          refine x_aload_n (q := 120) E dX0_change_119 1 rfl rfl ?_
                          refine x_get (q := 123) E iX0_change_X0 (5 + a) (xg_alph ha) rfl 0 (by decide) (by decide +kernel) rfl dX0_change_120 rfl ?_
                          refine x_iconst (q := 124) E dX0_change_123 rfl ?_
                          refine x_iload (q := 126) E dX0_change_124 5 rfl rfl ?_
                          refine x_iast (q := 127) (st' := (sA (sA (sA st (1 + a) (0) (w0)) (1 + a) (1) (x0)) (1 + a) (2) (y0))) (f := (sA (sA st (1 + a) (0) (w0)) (1 + a) (1) (x0)).2 (1 + a)) E (9 + a) (xg_let ha) 0 rfl (by omega) (by omega) (by decide) dX0_change_126 (xs_let ha _ _) rfl ?_
                          refine x_aload_n (q := 128) E dX0_change_127 1 rfl rfl ?_
                          refine x_get (q := 131) E iX0_change_X0 (5 + a) (xg_alph ha) rfl 0 (by decide) (by decide +kernel) rfl dX0_change_128 rfl ?_
                          refine x_iconst (q := 132) E dX0_change_131 rfl ?_
                          refine x_iload (q := 134) E dX0_change_132 6 rfl rfl ?_
                          refine x_iast (q := 135) (st' := (sA (sA (sA (sA st (1 + a) (0) (w0)) (1 + a) (1) (x0)) (1 + a) (2) (y0)) (1 + a) (3) (z0))) (f := (sA (sA (sA st (1 + a) (0) (w0)) (1 + a) (1) (x0)) (1 + a) (2) (y0)).2 (1 + a)) E (9 + a) (xg_let ha) 0 rfl (by omega) (by omega) (by decide) dX0_change_134 (xs_let ha _ _) rfl ?_
                          refine x_aload_n (q := 136) E dX0_change_135 1 rfl rfl ?_
                          refine x_iload_n (q := 137) E dX0_change_136 2 rfl rfl ?_
                          refine x_put (q := 140) (st' := (sG (sA (sA (sA (sA st (1 + a) (0) (w0)) (1 + a) (1) (x0)) (1 + a) (2) (y0)) (1 + a) (3) (z0)) (3 + a) (n0))) (v := .int (ii (n0))) (ty := .int) E iX0_change_X0 tyX0 tyX0_ok nmX0 (5 + a) (xg_alph ha) rfl 1 (by decide) (by decide +kernel) rfl (by decide +kernel) rfl rfl (Nat.le_of_ble_eq_true rfl) dX0_change_137 (xs_alph ha _) rfl ?_
                          refine x_iconst (q := 141) E dX0_change_140 rfl ?_
                          exact RET _ _ _ _ dX0_change_141 (by omega) (by first | exact Or.inl ⟨by omega, rfl, rfl⟩ | exact Or.inr ⟨by omega, rfl, rfl⟩ | (exfalso; omega))
                        · refine x_iload (q := 90) E dX0_change_88 6 rfl rfl ?_
                          refine x_callSNi (q := 93) (n := 1) (As := [.int (ii (z0))]) (r := []) E (c_X5_isLetter l D T ad hN st (z0) (by omega)) gX0_change_X5_isLetter_n23 rfl rfl rfl E.nw.1 (by decide +kernel) (by decide +kernel) (by decide +kernel) ⟨Nat.le_of_ble_eq_true rfl, Nat.le_of_ble_eq_true rfl⟩ rfl rfl (Nat.le_of_ble_eq_true rfl) dX0_change_90 rfl (fun z13 s14 q15 => ?_)
                          obtain ⟨rfl, rfl⟩ := q15
                          refine x_if_eq (tgt := 103) (q := 96) E dX0_change_93 (by decide) rfl (by omega) (fun c93 => ?_) (fun c93 => ?_)
                          · refine x_iconst (q := 104) E dX0_change_103 rfl ?_
                            exact RET _ _ _ _ dX0_change_104 (by omega) (by first | exact Or.inl ⟨by omega, rfl, rfl⟩ | exact Or.inr ⟨by omega, rfl, rfl⟩ | (exfalso; omega))
                          · refine x_iload (q := 98) E dX0_change_96 5 rfl rfl ?_
                            refine x_iload (q := 100) E dX0_change_98 6 rfl rfl ?_
                            refine x_icmp_ne (tgt := 105) (q := 103) E dX0_change_100 (by decide) rfl (by omega) (by omega) (fun c100 => ?_) (fun c100 => ?_)
                            · refine x_aload_n (q := 106) E dX0_change_105 1 rfl rfl ?_
                              refine x_get (q := 109) E iX0_change_X0 (5 + a) (xg_alph ha) rfl 0 (by decide) (by decide +kernel) rfl dX0_change_106 rfl ?_
                              refine x_iconst (q := 110) E dX0_change_109 rfl ?_
                              refine x_iload_n (q := 111) E dX0_change_110 3 rfl rfl ?_
                              refine x_iast (q := 112) (st' := (sA st (1 + a) (0) (w0))) (f := st.2 (1 + a)) E (9 + a) (xg_let ha) 0 rfl (by omega) (by omega) (by decide) dX0_change_111 (xs_let ha _ _) rfl ?_
                              refine x_aload_n (q := 113) E dX0_change_112 1 rfl rfl ?_
                              refine x_get (q := 116) E iX0_change_X0 (5 + a) (xg_alph ha) rfl 0 (by decide) (by decide +kernel) rfl dX0_change_113 rfl ?_
                              refine x_iconst (q := 117) E dX0_change_116 rfl ?_
                              refine x_iload_n (q := 118) E dX0_change_117 4 rfl rfl ?_
                              refine x_iast (q := 119) (st' := (sA (sA st (1 + a) (0) (w0)) (1 + a) (1) (x0))) (f := (sA st (1 + a) (0) (w0)).2 (1 + a)) E (9 + a) (xg_let ha) 0 rfl (by omega) (by omega) (by decide) dX0_change_118 (xs_let ha _ _) rfl ?_
                              refine x_aload_n (q := 120) E dX0_change_119 1 rfl rfl ?_
                              refine x_get (q := 123) E iX0_change_X0 (5 + a) (xg_alph ha) rfl 0 (by decide) (by decide +kernel) rfl dX0_change_120 rfl ?_
                              refine x_iconst (q := 124) E dX0_change_123 rfl ?_
                              refine x_iload (q := 126) E dX0_change_124 5 rfl rfl ?_
                              refine x_iast (q := 127) (st' := (sA (sA (sA st (1 + a) (0) (w0)) (1 + a) (1) (x0)) (1 + a) (2) (y0))) (f := (sA (sA st (1 + a) (0) (w0)) (1 + a) (1) (x0)).2 (1 + a)) E (9 + a) (xg_let ha) 0 rfl (by omega) (by omega) (by decide) dX0_change_126 (xs_let ha _ _) rfl ?_
                              refine x_aload_n (q := 128) E dX0_change_127 1 rfl rfl ?_
                              refine x_get (q := 131) E iX0_change_X0 (5 + a) (xg_alph ha) rfl 0 (by decide) (by decide +kernel) rfl dX0_change_128 rfl ?_
                              refine x_iconst (q := 132) E dX0_change_131 rfl ?_
                              refine x_iload (q := 134) E dX0_change_132 6 rfl rfl ?_
                              refine x_iast (q := 135) (st' := (sA (sA (sA (sA st (1 + a) (0) (w0)) (1 + a) (1) (x0)) (1 + a) (2) (y0)) (1 + a) (3) (z0))) (f := (sA (sA (sA st (1 + a) (0) (w0)) (1 + a) (1) (x0)) (1 + a) (2) (y0)).2 (1 + a)) E (9 + a) (xg_let ha) 0 rfl (by omega) (by omega) (by decide) dX0_change_134 (xs_let ha _ _) rfl ?_
                              refine x_aload_n (q := 136) E dX0_change_135 1 rfl rfl ?_
                              refine x_iload_n (q := 137) E dX0_change_136 2 rfl rfl ?_
                              refine x_put (q := 140) (st' := (sG (sA (sA (sA (sA st (1 + a) (0) (w0)) (1 + a) (1) (x0)) (1 + a) (2) (y0)) (1 + a) (3) (z0)) (3 + a) (n0))) (v := .int (ii (n0))) (ty := .int) E iX0_change_X0 tyX0 tyX0_ok nmX0 (5 + a) (xg_alph ha) rfl 1 (by decide) (by decide +kernel) rfl (by decide +kernel) rfl rfl (Nat.le_of_ble_eq_true rfl) dX0_change_137 (xs_alph ha _) rfl ?_
                              refine x_iconst (q := 141) E dX0_change_140 rfl ?_
                              exact RET _ _ _ _ dX0_change_141 (by omega) (by first | exact Or.inl ⟨by omega, rfl, rfl⟩ | exact Or.inr ⟨by omega, rfl, rfl⟩ | (exfalso; omega))
                            · refine x_iconst (q := 104) E dX0_change_103 rfl ?_
                              exact RET _ _ _ _ dX0_change_104 (by omega) (by first | exact Or.inl ⟨by omega, rfl, rfl⟩ | exact Or.inr ⟨by omega, rfl, rfl⟩ | (exfalso; omega))
                      · refine x_iconst (q := 82) E dX0_change_81 rfl ?_
                        exact RET _ _ _ _ dX0_change_82 (by omega) (by first | exact Or.inl ⟨by omega, rfl, rfl⟩ | exact Or.inr ⟨by omega, rfl, rfl⟩ | (exfalso; omega))
                · refine x_iconst (q := 61) E dX0_change_60 rfl ?_
                  exact RET _ _ _ _ dX0_change_61 (by omega) (by first | exact Or.inl ⟨by omega, rfl, rfl⟩ | exact Or.inr ⟨by omega, rfl, rfl⟩ | (exfalso; omega))
        · refine x_iload (q := 28) E dX0_change_26 4 rfl rfl ?_
          refine x_goto (tgt := 33) E dX0_change_28 (by decide) ?_
          refine x_istore (q := 35) (lv' := [(6, .int (ii (y0))), (0, .ref (ad (5 + a))), (1, .int (ii (n0))), (2, .int (ii (w0))), (3, .int (ii (x0))), (4, .int (ii (y0))), (5, .int (ii (z0)))]) E dX0_change_33 (by decide) rfl rfl ?_
          refine x_iload_n (q := 36) E dX0_change_35 3 rfl rfl ?_
          refine x_callSNi (q := 39) (n := 1) (As := [.int (ii (w0))]) (r := []) E (c_X5_isLetter l D T ad hN st (w0) (by omega)) gX0_change_X5_isLetter_n23 rfl rfl rfl E.nw.1 (by decide +kernel) (by decide +kernel) (by decide +kernel) ⟨Nat.le_of_ble_eq_true rfl, Nat.le_of_ble_eq_true rfl⟩ rfl rfl (Nat.le_of_ble_eq_true rfl) dX0_change_36 rfl (fun z16 s17 q18 => ?_)
          obtain ⟨rfl, rfl⟩ := q18
          refine x_if_eq (tgt := 60) (q := 42) E dX0_change_39 (by decide) rfl (by omega) (fun c39 => ?_) (fun c39 => ?_)
          · refine x_iconst (q := 61) E dX0_change_60 rfl ?_
            exact RET _ _ _ _ dX0_change_61 (by omega) (by first | exact Or.inl ⟨by omega, rfl, rfl⟩ | exact Or.inr ⟨by omega, rfl, rfl⟩ | (exfalso; omega))
          · refine x_iload_n (q := 43) E dX0_change_42 4 rfl rfl ?_
            refine x_callSNi (q := 46) (n := 1) (As := [.int (ii (x0))]) (r := []) E (c_X5_isLetter l D T ad hN st (x0) (by omega)) gX0_change_X5_isLetter_n23 rfl rfl rfl E.nw.1 (by decide +kernel) (by decide +kernel) (by decide +kernel) ⟨Nat.le_of_ble_eq_true rfl, Nat.le_of_ble_eq_true rfl⟩ rfl rfl (Nat.le_of_ble_eq_true rfl) dX0_change_43 rfl (fun z19 s20 q21 => ?_)
            obtain ⟨rfl, rfl⟩ := q21
            refine x_if_eq (tgt := 60) (q := 49) E dX0_change_46 (by decide) rfl (by omega) (fun c46 => ?_) (fun c46 => ?_)
            · refine x_iconst (q := 61) E dX0_change_60 rfl ?_
              exact RET _ _ _ _ dX0_change_61 (by omega) (by first | exact Or.inl ⟨by omega, rfl, rfl⟩ | exact Or.inr ⟨by omega, rfl, rfl⟩ | (exfalso; omega))
            · refine x_iload_n (q := 50) E dX0_change_49 3 rfl rfl ?_
              refine x_iload_n (q := 51) E dX0_change_50 4 rfl rfl ?_
              refine x_icmp_eq (tgt := 60) (q := 54) E dX0_change_51 (by decide) rfl (by omega) (by omega) (fun c51 => ?_) (fun c51 => ?_)
              · refine x_iconst (q := 61) E dX0_change_60 rfl ?_
                exact RET _ _ _ _ dX0_change_61 (by omega) (by first | exact Or.inl ⟨by omega, rfl, rfl⟩ | exact Or.inr ⟨by omega, rfl, rfl⟩ | (exfalso; omega))
              · refine x_iload (q := 56) E dX0_change_54 0 rfl rfl ?_
                refine x_iload_n (q := 57) E dX0_change_56 3 rfl rfl ?_
                refine x_icmp_ne (tgt := 62) (q := 60) E dX0_change_57 (by decide) rfl (by omega) (by omega) (fun c57 => ?_) (fun c57 => ?_)
                · refine x_iload_n (q := 63) E dX0_change_62 2 rfl rfl ?_
                  refine x_iconst (q := 64) E dX0_change_63 rfl ?_
                  refine x_icmp_lt (tgt := 83) (q := 67) E dX0_change_64 (by decide) rfl (by omega) (by omega) (fun c64 => ?_) (fun c64 => ?_)
                  · refine x_iload_n (q := 84) E dX0_change_83 2 rfl rfl ?_
                    refine x_iconst (q := 85) E dX0_change_84 rfl ?_
                    refine x_icmp_lt (tgt := 105) (q := 88) E dX0_change_85 (by decide) rfl (by omega) (by omega) (fun c85 => ?_) (fun c85 => ?_)
                    · refine x_aload_n (q := 106) E dX0_change_105 1 rfl rfl ?_
                      refine x_get (q := 109) E iX0_change_X0 (5 + a) (xg_alph ha) rfl 0 (by decide) (by decide +kernel) rfl dX0_change_106 rfl ?_
                      refine x_iconst (q := 110) E dX0_change_109 rfl ?_
                      refine x_iload_n (q := 111) E dX0_change_110 3 rfl rfl ?_
                      refine x_iast (q := 112) (st' := (sA st (1 + a) (0) (w0))) (f := st.2 (1 + a)) E (9 + a) (xg_let ha) 0 rfl (by omega) (by omega) (by decide) dX0_change_111 (xs_let ha _ _) rfl ?_
                      refine x_aload_n (q := 113) E dX0_change_112 1 rfl rfl ?_
                      refine x_get (q := 116) E iX0_change_X0 (5 + a) (xg_alph ha) rfl 0 (by decide) (by decide +kernel) rfl dX0_change_113 rfl ?_
                      refine x_iconst (q := 117) E dX0_change_116 rfl ?_
                      refine x_iload_n (q := 118) E dX0_change_117 4 rfl rfl ?_
                      refine x_iast (q := 119) (st' := (sA (sA st (1 + a) (0) (w0)) (1 + a) (1) (x0))) (f := (sA st (1 + a) (0) (w0)).2 (1 + a)) E (9 + a) (xg_let ha) 0 rfl (by omega) (by omega) (by decide) dX0_change_118 (xs_let ha _ _) rfl ?_
                      refine x_aload_n (q := 120) E dX0_change_119 1 rfl rfl ?_
                      refine x_get (q := 123) E iX0_change_X0 (5 + a) (xg_alph ha) rfl 0 (by decide) (by decide +kernel) rfl dX0_change_120 rfl ?_
                      refine x_iconst (q := 124) E dX0_change_123 rfl ?_
                      refine x_iload (q := 126) E dX0_change_124 5 rfl rfl ?_
                      refine x_iast (q := 127) (st' := (sA (sA (sA st (1 + a) (0) (w0)) (1 + a) (1) (x0)) (1 + a) (2) (y0))) (f := (sA (sA st (1 + a) (0) (w0)) (1 + a) (1) (x0)).2 (1 + a)) E (9 + a) (xg_let ha) 0 rfl (by omega) (by omega) (by decide) dX0_change_126 (xs_let ha _ _) rfl ?_
                      refine x_aload_n (q := 128) E dX0_change_127 1 rfl rfl ?_
                      refine x_get (q := 131) E iX0_change_X0 (5 + a) (xg_alph ha) rfl 0 (by decide) (by decide +kernel) rfl dX0_change_128 rfl ?_
                      refine x_iconst (q := 132) E dX0_change_131 rfl ?_
                      refine x_iload (q := 134) E dX0_change_132 6 rfl rfl ?_
                      refine x_iast (q := 135) (st' := (sA (sA (sA (sA st (1 + a) (0) (w0)) (1 + a) (1) (x0)) (1 + a) (2) (y0)) (1 + a) (3) (z0))) (f := (sA (sA (sA st (1 + a) (0) (w0)) (1 + a) (1) (x0)) (1 + a) (2) (y0)).2 (1 + a)) E (9 + a) (xg_let ha) 0 rfl (by omega) (by omega) (by decide) dX0_change_134 (xs_let ha _ _) rfl ?_
                      refine x_aload_n (q := 136) E dX0_change_135 1 rfl rfl ?_
                      refine x_iload_n (q := 137) E dX0_change_136 2 rfl rfl ?_
                      refine x_put (q := 140) (st' := (sG (sA (sA (sA (sA st (1 + a) (0) (w0)) (1 + a) (1) (x0)) (1 + a) (2) (y0)) (1 + a) (3) (z0)) (3 + a) (n0))) (v := .int (ii (n0))) (ty := .int) E iX0_change_X0 tyX0 tyX0_ok nmX0 (5 + a) (xg_alph ha) rfl 1 (by decide) (by decide +kernel) rfl (by decide +kernel) rfl rfl (Nat.le_of_ble_eq_true rfl) dX0_change_137 (xs_alph ha _) rfl ?_
                      refine x_iconst (q := 141) E dX0_change_140 rfl ?_
                      exact RET _ _ _ _ dX0_change_141 (by omega) (by first | exact Or.inl ⟨by omega, rfl, rfl⟩ | exact Or.inr ⟨by omega, rfl, rfl⟩ | (exfalso; omega))
                    · refine x_iload (q := 90) E dX0_change_88 6 rfl rfl ?_
                      refine x_callSNi (q := 93) (n := 1) (As := [.int (ii (z0))]) (r := []) E (c_X5_isLetter l D T ad hN st (z0) (by omega)) gX0_change_X5_isLetter_n23 rfl rfl rfl E.nw.1 (by decide +kernel) (by decide +kernel) (by decide +kernel) ⟨Nat.le_of_ble_eq_true rfl, Nat.le_of_ble_eq_true rfl⟩ rfl rfl (Nat.le_of_ble_eq_true rfl) dX0_change_90 rfl (fun z22 s23 q24 => ?_)
                      obtain ⟨rfl, rfl⟩ := q24
                      refine x_if_eq (tgt := 103) (q := 96) E dX0_change_93 (by decide) rfl (by omega) (fun c93 => ?_) (fun c93 => ?_)
                      · refine x_iconst (q := 104) E dX0_change_103 rfl ?_
                        exact RET _ _ _ _ dX0_change_104 (by omega) (by first | exact Or.inl ⟨by omega, rfl, rfl⟩ | exact Or.inr ⟨by omega, rfl, rfl⟩ | (exfalso; omega))
                      · refine x_iload (q := 98) E dX0_change_96 5 rfl rfl ?_
                        refine x_iload (q := 100) E dX0_change_98 6 rfl rfl ?_
                        refine x_icmp_ne (tgt := 105) (q := 103) E dX0_change_100 (by decide) rfl (by omega) (by omega) (fun c100 => ?_) (fun c100 => ?_)
                        · refine x_aload_n (q := 106) E dX0_change_105 1 rfl rfl ?_
                          refine x_get (q := 109) E iX0_change_X0 (5 + a) (xg_alph ha) rfl 0 (by decide) (by decide +kernel) rfl dX0_change_106 rfl ?_
                          refine x_iconst (q := 110) E dX0_change_109 rfl ?_
                          refine x_iload_n (q := 111) E dX0_change_110 3 rfl rfl ?_
                          refine x_iast (q := 112) (st' := (sA st (1 + a) (0) (w0))) (f := st.2 (1 + a)) E (9 + a) (xg_let ha) 0 rfl (by omega) (by omega) (by decide) dX0_change_111 (xs_let ha _ _) rfl ?_
                          refine x_aload_n (q := 113) E dX0_change_112 1 rfl rfl ?_
                          refine x_get (q := 116) E iX0_change_X0 (5 + a) (xg_alph ha) rfl 0 (by decide) (by decide +kernel) rfl dX0_change_113 rfl ?_
                          refine x_iconst (q := 117) E dX0_change_116 rfl ?_
                          refine x_iload_n (q := 118) E dX0_change_117 4 rfl rfl ?_
                          refine x_iast (q := 119) (st' := (sA (sA st (1 + a) (0) (w0)) (1 + a) (1) (x0))) (f := (sA st (1 + a) (0) (w0)).2 (1 + a)) E (9 + a) (xg_let ha) 0 rfl (by omega) (by omega) (by decide) dX0_change_118 (xs_let ha _ _) rfl ?_
                          refine x_aload_n (q := 120) E dX0_change_119 1 rfl rfl ?_
                          refine x_get (q := 123) E iX0_change_X0 (5 + a) (xg_alph ha) rfl 0 (by decide) (by decide +kernel) rfl dX0_change_120 rfl ?_
                          refine x_iconst (q := 124) E dX0_change_123 rfl ?_
                          refine x_iload (q := 126) E dX0_change_124 5 rfl rfl ?_
                          refine x_iast (q := 127) (st' := (sA (sA (sA st (1 + a) (0) (w0)) (1 + a) (1) (x0)) (1 + a) (2) (y0))) (f := (sA (sA st (1 + a) (0) (w0)) (1 + a) (1) (x0)).2 (1 + a)) E (9 + a) (xg_let ha) 0 rfl (by omega) (by omega) (by decide) dX0_change_126 (xs_let ha _ _) rfl ?_
                          refine x_aload_n (q := 128) E dX0_change_127 1 rfl rfl ?_
                          refine x_get (q := 131) E iX0_change_X0 (5 + a) (xg_alph ha) rfl 0 (by decide) (by decide +kernel) rfl dX0_change_128 rfl ?_
                          refine x_iconst (q := 132) E dX0_change_131 rfl ?_
                          refine x_iload (q := 134) E dX0_change_132 6 rfl rfl ?_
                          refine x_iast (q := 135) (st' := (sA (sA (sA (sA st (1 + a) (0) (w0)) (1 + a) (1) (x0)) (1 + a) (2) (y0)) (1 + a) (3) (z0))) (f := (sA (sA (sA st (1 + a) (0) (w0)) (1 + a) (1) (x0)) (1 + a) (2) (y0)).2 (1 + a)) E (9 + a) (xg_let ha) 0 rfl (by omega) (by omega) (by decide) dX0_change_134 (xs_let ha _ _) rfl ?_
                          refine x_aload_n (q := 136) E dX0_change_135 1 rfl rfl ?_
                          refine x_iload_n (q := 137) E dX0_change_136 2 rfl rfl ?_
                          refine x_put (q := 140) (st' := (sG (sA (sA (sA (sA st (1 + a) (0) (w0)) (1 + a) (1) (x0)) (1 + a) (2) (y0)) (1 + a) (3) (z0)) (3 + a) (n0))) (v := .int (ii (n0))) (ty := .int) E iX0_change_X0 tyX0 tyX0_ok nmX0 (5 + a) (xg_alph ha) rfl 1 (by decide) (by decide +kernel) rfl (by decide +kernel) rfl rfl (Nat.le_of_ble_eq_true rfl) dX0_change_137 (xs_alph ha _) rfl ?_
                          refine x_iconst (q := 141) E dX0_change_140 rfl ?_
                          exact RET _ _ _ _ dX0_change_141 (by omega) (by first | exact Or.inl ⟨by omega, rfl, rfl⟩ | exact Or.inr ⟨by omega, rfl, rfl⟩ | (exfalso; omega))
                        · refine x_iconst (q := 104) E dX0_change_103 rfl ?_
                          exact RET _ _ _ _ dX0_change_104 (by omega) (by first | exact Or.inl ⟨by omega, rfl, rfl⟩ | exact Or.inr ⟨by omega, rfl, rfl⟩ | (exfalso; omega))
                  · refine x_iload (q := 69) E dX0_change_67 5 rfl rfl ?_
                    refine x_callSNi (q := 72) (n := 1) (As := [.int (ii (y0))]) (r := []) E (c_X5_isLetter l D T ad hN st (y0) (by omega)) gX0_change_X5_isLetter_n23 rfl rfl rfl E.nw.1 (by decide +kernel) (by decide +kernel) (by decide +kernel) ⟨Nat.le_of_ble_eq_true rfl, Nat.le_of_ble_eq_true rfl⟩ rfl rfl (Nat.le_of_ble_eq_true rfl) dX0_change_69 rfl (fun z25 s26 q27 => ?_)
                    obtain ⟨rfl, rfl⟩ := q27
                    refine x_if_eq (tgt := 81) (q := 75) E dX0_change_72 (by decide) rfl (by omega) (fun c72 => ?_) (fun c72 => ?_)
                    · refine x_iconst (q := 82) E dX0_change_81 rfl ?_
                      exact RET _ _ _ _ dX0_change_82 (by omega) (by first | exact Or.inl ⟨by omega, rfl, rfl⟩ | exact Or.inr ⟨by omega, rfl, rfl⟩ | (exfalso; omega))
                    · refine x_iload_n (q := 76) E dX0_change_75 4 rfl rfl ?_
                      refine x_iload (q := 78) E dX0_change_76 5 rfl rfl ?_
                      refine x_icmp_ne (tgt := 83) (q := 81) E dX0_change_78 (by decide) rfl (by omega) (by omega) (fun c78 => ?_) (fun c78 => ?_)
                      · refine x_iload_n (q := 84) E dX0_change_83 2 rfl rfl ?_
                        refine x_iconst (q := 85) E dX0_change_84 rfl ?_
                        refine x_icmp_lt (tgt := 105) (q := 88) E dX0_change_85 (by decide) rfl (by omega) (by omega) (fun c85 => ?_) (fun c85 => ?_)
                        · refine x_aload_n (q := 106) E dX0_change_105 1 rfl rfl ?_
                          refine x_get (q := 109) E iX0_change_X0 (5 + a) (xg_alph ha) rfl 0 (by decide) (by decide +kernel) rfl dX0_change_106 rfl ?_
                          refine x_iconst (q := 110) E dX0_change_109 rfl ?_
                          refine x_iload_n (q := 111) E dX0_change_110 3 rfl rfl ?_
                          refine x_iast (q := 112) (st' := (sA st (1 + a) (0) (w0))) (f := st.2 (1 + a)) E (9 + a) (xg_let ha) 0 rfl (by omega) (by omega) (by decide) dX0_change_111 (xs_let ha _ _) rfl ?_
                          refine x_aload_n (q := 113) E dX0_change_112 1 rfl rfl ?_
                          refine x_get (q := 116) E iX0_change_X0 (5 + a) (xg_alph ha) rfl 0 (by decide) (by decide +kernel) rfl dX0_change_113 rfl ?_
                          refine x_iconst (q := 117) E dX0_change_116 rfl ?_
                          refine x_iload_n (q := 118) E dX0_change_117 4 rfl rfl ?_
                          refine x_iast (q := 119) (st' := (sA (sA st (1 + a) (0) (w0)) (1 + a) (1) (x0))) (f := (sA st (1 + a) (0) (w0)).2 (1 + a)) E (9 + a) (xg_let ha) 0 rfl (by omega) (by omega) (by decide) dX0_change_118 (xs_let ha _ _) rfl ?_
                          refine x_aload_n (q := 120) E dX0_change_119 1 rfl rfl ?_
                          refine x_get (q := 123) E iX0_change_X0 (5 + a) (xg_alph ha) rfl 0 (by decide) (by decide +kernel) rfl dX0_change_120 rfl ?_
                          refine x_iconst (q := 124) E dX0_change_123 rfl ?_
                          refine x_iload (q := 126) E dX0_change_124 5 rfl rfl ?_
                          refine x_iast (q := 127) (st' := (sA (sA (sA st (1 + a) (0) (w0)) (1 + a) (1) (x0)) (1 + a) (2) (y0))) (f := (sA (sA st (1 + a) (0) (w0)) (1 + a) (1) (x0)).2 (1 + a)) E (9 + a) (xg_let ha) 0 rfl (by omega) (by omega) (by decide) dX0_change_126 (xs_let ha _ _) rfl ?_
                          refine x_aload_n (q := 128) E dX0_change_127 1 rfl rfl ?_
                          refine x_get (q := 131) E iX0_change_X0 (5 + a) (xg_alph ha) rfl 0 (by decide) (by decide +kernel) rfl dX0_change_128 rfl ?_
                          refine x_iconst (q := 132) E dX0_change_131 rfl ?_
                          refine x_iload (q := 134) E dX0_change_132 6 rfl rfl ?_
                          refine x_iast (q := 135) (st' := (sA (sA (sA (sA st (1 + a) (0) (w0)) (1 + a) (1) (x0)) (1 + a) (2) (y0)) (1 + a) (3) (z0))) (f := (sA (sA (sA st (1 + a) (0) (w0)) (1 + a) (1) (x0)) (1 + a) (2) (y0)).2 (1 + a)) E (9 + a) (xg_let ha) 0 rfl (by omega) (by omega) (by decide) dX0_change_134 (xs_let ha _ _) rfl ?_
                          refine x_aload_n (q := 136) E dX0_change_135 1 rfl rfl ?_
                          refine x_iload_n (q := 137) E dX0_change_136 2 rfl rfl ?_
                          refine x_put (q := 140) (st' := (sG (sA (sA (sA (sA st (1 + a) (0) (w0)) (1 + a) (1) (x0)) (1 + a) (2) (y0)) (1 + a) (3) (z0)) (3 + a) (n0))) (v := .int (ii (n0))) (ty := .int) E iX0_change_X0 tyX0 tyX0_ok nmX0 (5 + a) (xg_alph ha) rfl 1 (by decide) (by decide +kernel) rfl (by decide +kernel) rfl rfl (Nat.le_of_ble_eq_true rfl) dX0_change_137 (xs_alph ha _) rfl ?_
                          refine x_iconst (q := 141) E dX0_change_140 rfl ?_
                          exact RET _ _ _ _ dX0_change_141 (by omega) (by first | exact Or.inl ⟨by omega, rfl, rfl⟩ | exact Or.inr ⟨by omega, rfl, rfl⟩ | (exfalso; omega))
                        · refine x_iload (q := 90) E dX0_change_88 6 rfl rfl ?_
                          refine x_callSNi (q := 93) (n := 1) (As := [.int (ii (z0))]) (r := []) E (c_X5_isLetter l D T ad hN st (z0) (by omega)) gX0_change_X5_isLetter_n23 rfl rfl rfl E.nw.1 (by decide +kernel) (by decide +kernel) (by decide +kernel) ⟨Nat.le_of_ble_eq_true rfl, Nat.le_of_ble_eq_true rfl⟩ rfl rfl (Nat.le_of_ble_eq_true rfl) dX0_change_90 rfl (fun z28 s29 q30 => ?_)
                          obtain ⟨rfl, rfl⟩ := q30
                          refine x_if_eq (tgt := 103) (q := 96) E dX0_change_93 (by decide) rfl (by omega) (fun c93 => ?_) (fun c93 => ?_)
                          · refine x_iconst (q := 104) E dX0_change_103 rfl ?_
                            exact RET _ _ _ _ dX0_change_104 (by omega) (by first | exact Or.inl ⟨by omega, rfl, rfl⟩ | exact Or.inr ⟨by omega, rfl, rfl⟩ | (exfalso; omega))
                          · refine x_iload (q := 98) E dX0_change_96 5 rfl rfl ?_
                            refine x_iload (q := 100) E dX0_change_98 6 rfl rfl ?_
                            refine x_icmp_ne (tgt := 105) (q := 103) E dX0_change_100 (by decide) rfl (by omega) (by omega) (fun c100 => ?_) (fun c100 => ?_)
                            · refine x_aload_n (q := 106) E dX0_change_105 1 rfl rfl ?_
                              refine x_get (q := 109) E iX0_change_X0 (5 + a) (xg_alph ha) rfl 0 (by decide) (by decide +kernel) rfl dX0_change_106 rfl ?_
                              refine x_iconst (q := 110) E dX0_change_109 rfl ?_
                              refine x_iload_n (q := 111) E dX0_change_110 3 rfl rfl ?_
                              refine x_iast (q := 112) (st' := (sA st (1 + a) (0) (w0))) (f := st.2 (1 + a)) E (9 + a) (xg_let ha) 0 rfl (by omega) (by omega) (by decide) dX0_change_111 (xs_let ha _ _) rfl ?_
                              refine x_aload_n (q := 113) E dX0_change_112 1 rfl rfl ?_
                              refine x_get (q := 116) E iX0_change_X0 (5 + a) (xg_alph ha) rfl 0 (by decide) (by decide +kernel) rfl dX0_change_113 rfl ?_
                              refine x_iconst (q := 117) E dX0_change_116 rfl ?_
                              refine x_iload_n (q := 118) E dX0_change_117 4 rfl rfl ?_
                              refine x_iast (q := 119) (st' := (sA (sA st (1 + a) (0) (w0)) (1 + a) (1) (x0))) (f := (sA st (1 + a) (0) (w0)).2 (1 + a)) E (9 + a) (xg_let ha) 0 rfl (by omega) (by omega) (by decide) dX0_change_118 (xs_let ha _ _) rfl ?_
                              refine x_aload_n (q := 120) E dX0_change_119 1 rfl rfl ?_
                              refine x_get (q := 123) E iX0_change_X0 (5 + a) (xg_alph ha) rfl 0 (by decide) (by decide +kernel) rfl dX0_change_120 rfl ?_
                              refine x_iconst (q := 124) E dX0_change_123 rfl ?_
                              refine x_iload (q := 126) E dX0_change_124 5 rfl rfl ?_
                              refine x_iast (q := 127) (st' := (sA (sA (sA st (1 + a) (0) (w0)) (1 + a) (1) (x0)) (1 + a) (2) (y0))) (f := (sA (sA st (1 + a) (0) (w0)) (1 + a) (1) (x0)).2 (1 + a)) E (9 + a) (xg_let ha) 0 rfl (by omega) (by omega) (by decide) dX0_change_126 (xs_let ha _ _) rfl ?_
                              refine x_aload_n (q := 128) E dX0_change_127 1 rfl rfl ?_
                              refine x_get (q := 131) E iX0_change_X0 (5 + a) (xg_alph ha) rfl 0 (by decide) (by decide +kernel) rfl dX0_change_128 rfl ?_
                              refine x_iconst (q := 132) E dX0_change_131 rfl ?_
                              refine x_iload (q := 134) E dX0_change_132 6 rfl rfl ?_
                              refine x_iast (q := 135) (st' := (sA (sA (sA (sA st (1 + a) (0) (w0)) (1 + a) (1) (x0)) (1 + a) (2) (y0)) (1 + a) (3) (z0))) (f := (sA (sA (sA st (1 + a) (0) (w0)) (1 + a) (1) (x0)) (1 + a) (2) (y0)).2 (1 + a)) E (9 + a) (xg_let ha) 0 rfl (by omega) (by omega) (by decide) dX0_change_134 (xs_let ha _ _) rfl ?_
                              refine x_aload_n (q := 136) E dX0_change_135 1 rfl rfl ?_
                              refine x_iload_n (q := 137) E dX0_change_136 2 rfl rfl ?_
                              refine x_put (q := 140) (st' := (sG (sA (sA (sA (sA st (1 + a) (0) (w0)) (1 + a) (1) (x0)) (1 + a) (2) (y0)) (1 + a) (3) (z0)) (3 + a) (n0))) (v := .int (ii (n0))) (ty := .int) E iX0_change_X0 tyX0 tyX0_ok nmX0 (5 + a) (xg_alph ha) rfl 1 (by decide) (by decide +kernel) rfl (by decide +kernel) rfl rfl (Nat.le_of_ble_eq_true rfl) dX0_change_137 (xs_alph ha _) rfl ?_
                              refine x_iconst (q := 141) E dX0_change_140 rfl ?_
                              exact RET _ _ _ _ dX0_change_141 (by omega) (by first | exact Or.inl ⟨by omega, rfl, rfl⟩ | exact Or.inr ⟨by omega, rfl, rfl⟩ | (exfalso; omega))
                            · refine x_iconst (q := 104) E dX0_change_103 rfl ?_
                              exact RET _ _ _ _ dX0_change_104 (by omega) (by first | exact Or.inl ⟨by omega, rfl, rfl⟩ | exact Or.inr ⟨by omega, rfl, rfl⟩ | (exfalso; omega))
                      · refine x_iconst (q := 82) E dX0_change_81 rfl ?_
                        exact RET _ _ _ _ dX0_change_82 (by omega) (by first | exact Or.inl ⟨by omega, rfl, rfl⟩ | exact Or.inr ⟨by omega, rfl, rfl⟩ | (exfalso; omega))
                · refine x_iconst (q := 61) E dX0_change_60 rfl ?_
                  exact RET _ _ _ _ dX0_change_61 (by omega) (by first | exact Or.inl ⟨by omega, rfl, rfl⟩ | exact Or.inr ⟨by omega, rfl, rfl⟩ | (exfalso; omega))
      · refine x_iload_n (q := 18) E dX0_change_17 3 rfl rfl ?_
        refine x_goto (tgt := 33) E dX0_change_18 (by decide) ?_
        refine x_istore (q := 35) (lv' := [(6, .int (ii (x0))), (0, .ref (ad (5 + a))), (1, .int (ii (n0))), (2, .int (ii (w0))), (3, .int (ii (x0))), (4, .int (ii (y0))), (5, .int (ii (z0)))]) E dX0_change_33 (by decide) rfl rfl ?_
        refine x_iload_n (q := 36) E dX0_change_35 3 rfl rfl ?_
        refine x_callSNi (q := 39) (n := 1) (As := [.int (ii (w0))]) (r := []) E (c_X5_isLetter l D T ad hN st (w0) (by omega)) gX0_change_X5_isLetter_n23 rfl rfl rfl E.nw.1 (by decide +kernel) (by decide +kernel) (by decide +kernel) ⟨Nat.le_of_ble_eq_true rfl, Nat.le_of_ble_eq_true rfl⟩ rfl rfl (Nat.le_of_ble_eq_true rfl) dX0_change_36 rfl (fun z31 s32 q33 => ?_)
        obtain ⟨rfl, rfl⟩ := q33
        refine x_if_eq (tgt := 60) (q := 42) E dX0_change_39 (by decide) rfl (by omega) (fun c39 => ?_) (fun c39 => ?_)
        · refine x_iconst (q := 61) E dX0_change_60 rfl ?_
          exact RET _ _ _ _ dX0_change_61 (by omega) (by first | exact Or.inl ⟨by omega, rfl, rfl⟩ | exact Or.inr ⟨by omega, rfl, rfl⟩ | (exfalso; omega))
        · refine x_iload_n (q := 43) E dX0_change_42 4 rfl rfl ?_
          refine x_callSNi (q := 46) (n := 1) (As := [.int (ii (x0))]) (r := []) E (c_X5_isLetter l D T ad hN st (x0) (by omega)) gX0_change_X5_isLetter_n23 rfl rfl rfl E.nw.1 (by decide +kernel) (by decide +kernel) (by decide +kernel) ⟨Nat.le_of_ble_eq_true rfl, Nat.le_of_ble_eq_true rfl⟩ rfl rfl (Nat.le_of_ble_eq_true rfl) dX0_change_43 rfl (fun z34 s35 q36 => ?_)
          obtain ⟨rfl, rfl⟩ := q36
          refine x_if_eq (tgt := 60) (q := 49) E dX0_change_46 (by decide) rfl (by omega) (fun c46 => ?_) (fun c46 => ?_)
          · refine x_iconst (q := 61) E dX0_change_60 rfl ?_
            exact RET _ _ _ _ dX0_change_61 (by omega) (by first | exact Or.inl ⟨by omega, rfl, rfl⟩ | exact Or.inr ⟨by omega, rfl, rfl⟩ | (exfalso; omega))
          · refine x_iload_n (q := 50) E dX0_change_49 3 rfl rfl ?_
            refine x_iload_n (q := 51) E dX0_change_50 4 rfl rfl ?_
            refine x_icmp_eq (tgt := 60) (q := 54) E dX0_change_51 (by decide) rfl (by omega) (by omega) (fun c51 => ?_) (fun c51 => ?_)
            · refine x_iconst (q := 61) E dX0_change_60 rfl ?_
              exact RET _ _ _ _ dX0_change_61 (by omega) (by first | exact Or.inl ⟨by omega, rfl, rfl⟩ | exact Or.inr ⟨by omega, rfl, rfl⟩ | (exfalso; omega))
            · refine x_iload (q := 56) E dX0_change_54 0 rfl rfl ?_
              refine x_iload_n (q := 57) E dX0_change_56 3 rfl rfl ?_
              refine x_icmp_ne (tgt := 62) (q := 60) E dX0_change_57 (by decide) rfl (by omega) (by omega) (fun c57 => ?_) (fun c57 => ?_)
              · refine x_iload_n (q := 63) E dX0_change_62 2 rfl rfl ?_
                refine x_iconst (q := 64) E dX0_change_63 rfl ?_
                refine x_icmp_lt (tgt := 83) (q := 67) E dX0_change_64 (by decide) rfl (by omega) (by omega) (fun c64 => ?_) (fun c64 => ?_)
                · refine x_iload_n (q := 84) E dX0_change_83 2 rfl rfl ?_
                  refine x_iconst (q := 85) E dX0_change_84 rfl ?_
                  refine x_icmp_lt (tgt := 105) (q := 88) E dX0_change_85 (by decide) rfl (by omega) (by omega) (fun c85 => ?_) (fun c85 => ?_)
                  · refine x_aload_n (q := 106) E dX0_change_105 1 rfl rfl ?_
                    refine x_get (q := 109) E iX0_change_X0 (5 + a) (xg_alph ha) rfl 0 (by decide) (by decide +kernel) rfl dX0_change_106 rfl ?_
                    refine x_iconst (q := 110) E dX0_change_109 rfl ?_
                    refine x_iload_n (q := 111) E dX0_change_110 3 rfl rfl ?_
                    refine x_iast (q := 112) (st' := (sA st (1 + a) (0) (w0))) (f := st.2 (1 + a)) E (9 + a) (xg_let ha) 0 rfl (by omega) (by omega) (by decide) dX0_change_111 (xs_let ha _ _) rfl ?_
                    refine x_aload_n (q := 113) E dX0_change_112 1 rfl rfl ?_
                    refine x_get (q := 116) E iX0_change_X0 (5 + a) (xg_alph ha) rfl 0 (by decide) (by decide +kernel) rfl dX0_change_113 rfl ?_
                    refine x_iconst (q := 117) E dX0_change_116 rfl ?_
                    refine x_iload_n (q := 118) E dX0_change_117 4 rfl rfl ?_
                    refine x_iast (q := 119) (st' := (sA (sA st (1 + a) (0) (w0)) (1 + a) (1) (x0))) (f := (sA st (1 + a) (0) (w0)).2 (1 + a)) E (9 + a) (xg_let ha) 0 rfl (by omega) (by omega) (by decide) dX0_change_118 (xs_let ha _ _) rfl ?_
                    refine x_aload_n (q := 120) E dX0_change_119 1 rfl rfl ?_
                    refine x_get (q := 123) E iX0_change_X0 (5 + a) (xg_alph ha) rfl 0 (by decide) (by decide +kernel) rfl dX0_change_120 rfl ?_
                    refine x_iconst (q := 124) E dX0_change_123 rfl ?_
                    refine x_iload (q := 126) E dX0_change_124 5 rfl rfl ?_
                    refine x_iast (q := 127) (st' := (sA (sA (sA st (1 + a) (0) (w0)) (1 + a) (1) (x0)) (1 + a) (2) (y0))) (f := (sA (sA st (1 + a) (0) (w0)) (1 + a) (1) (x0)).2 (1 + a)) E (9 + a) (xg_let ha) 0 rfl (by omega) (by omega) (by decide) dX0_change_126 (xs_let ha _ _) rfl ?_
                    refine x_aload_n (q := 128) E dX0_change_127 1 rfl rfl ?_
                    refine x_get (q := 131) E iX0_change_X0 (5 + a) (xg_alph ha) rfl 0 (by decide) (by decide +kernel) rfl dX0_change_128 rfl ?_
                    refine x_iconst (q := 132) E dX0_change_131 rfl ?_
                    refine x_iload (q := 134) E dX0_change_132 6 rfl rfl ?_
                    refine x_iast (q := 135) (st' := (sA (sA (sA (sA st (1 + a) (0) (w0)) (1 + a) (1) (x0)) (1 + a) (2) (y0)) (1 + a) (3) (z0))) (f := (sA (sA (sA st (1 + a) (0) (w0)) (1 + a) (1) (x0)) (1 + a) (2) (y0)).2 (1 + a)) E (9 + a) (xg_let ha) 0 rfl (by omega) (by omega) (by decide) dX0_change_134 (xs_let ha _ _) rfl ?_
                    refine x_aload_n (q := 136) E dX0_change_135 1 rfl rfl ?_
                    refine x_iload_n (q := 137) E dX0_change_136 2 rfl rfl ?_
                    refine x_put (q := 140) (st' := (sG (sA (sA (sA (sA st (1 + a) (0) (w0)) (1 + a) (1) (x0)) (1 + a) (2) (y0)) (1 + a) (3) (z0)) (3 + a) (n0))) (v := .int (ii (n0))) (ty := .int) E iX0_change_X0 tyX0 tyX0_ok nmX0 (5 + a) (xg_alph ha) rfl 1 (by decide) (by decide +kernel) rfl (by decide +kernel) rfl rfl (Nat.le_of_ble_eq_true rfl) dX0_change_137 (xs_alph ha _) rfl ?_
                    refine x_iconst (q := 141) E dX0_change_140 rfl ?_
                    exact RET _ _ _ _ dX0_change_141 (by omega) (by first | exact Or.inl ⟨by omega, rfl, rfl⟩ | exact Or.inr ⟨by omega, rfl, rfl⟩ | (exfalso; omega))
                  · refine x_iload (q := 90) E dX0_change_88 6 rfl rfl ?_
                    refine x_callSNi (q := 93) (n := 1) (As := [.int (ii (z0))]) (r := []) E (c_X5_isLetter l D T ad hN st (z0) (by omega)) gX0_change_X5_isLetter_n23 rfl rfl rfl E.nw.1 (by decide +kernel) (by decide +kernel) (by decide +kernel) ⟨Nat.le_of_ble_eq_true rfl, Nat.le_of_ble_eq_true rfl⟩ rfl rfl (Nat.le_of_ble_eq_true rfl) dX0_change_90 rfl (fun z37 s38 q39 => ?_)
                    obtain ⟨rfl, rfl⟩ := q39
                    refine x_if_eq (tgt := 103) (q := 96) E dX0_change_93 (by decide) rfl (by omega) (fun c93 => ?_) (fun c93 => ?_)
                    · refine x_iconst (q := 104) E dX0_change_103 rfl ?_
                      exact RET _ _ _ _ dX0_change_104 (by omega) (by first | exact Or.inl ⟨by omega, rfl, rfl⟩ | exact Or.inr ⟨by omega, rfl, rfl⟩ | (exfalso; omega))
                    · refine x_iload (q := 98) E dX0_change_96 5 rfl rfl ?_
                      refine x_iload (q := 100) E dX0_change_98 6 rfl rfl ?_
                      refine x_icmp_ne (tgt := 105) (q := 103) E dX0_change_100 (by decide) rfl (by omega) (by omega) (fun c100 => ?_) (fun c100 => ?_)
                      · refine x_aload_n (q := 106) E dX0_change_105 1 rfl rfl ?_
                        refine x_get (q := 109) E iX0_change_X0 (5 + a) (xg_alph ha) rfl 0 (by decide) (by decide +kernel) rfl dX0_change_106 rfl ?_
                        refine x_iconst (q := 110) E dX0_change_109 rfl ?_
                        refine x_iload_n (q := 111) E dX0_change_110 3 rfl rfl ?_
                        refine x_iast (q := 112) (st' := (sA st (1 + a) (0) (w0))) (f := st.2 (1 + a)) E (9 + a) (xg_let ha) 0 rfl (by omega) (by omega) (by decide) dX0_change_111 (xs_let ha _ _) rfl ?_
                        refine x_aload_n (q := 113) E dX0_change_112 1 rfl rfl ?_
                        refine x_get (q := 116) E iX0_change_X0 (5 + a) (xg_alph ha) rfl 0 (by decide) (by decide +kernel) rfl dX0_change_113 rfl ?_
                        refine x_iconst (q := 117) E dX0_change_116 rfl ?_
                        refine x_iload_n (q := 118) E dX0_change_117 4 rfl rfl ?_
                        refine x_iast (q := 119) (st' := (sA (sA st (1 + a) (0) (w0)) (1 + a) (1) (x0))) (f := (sA st (1 + a) (0) (w0)).2 (1 + a)) E (9 + a) (xg_let ha) 0 rfl (by omega) (by omega) (by decide) dX0_change_118 (xs_let ha _ _) rfl ?_
                        refine x_aload_n (q := 120) E dX0_change_119 1 rfl rfl ?_
                        refine x_get (q := 123) E iX0_change_X0 (5 + a) (xg_alph ha) rfl 0 (by decide) (by decide +kernel) rfl dX0_change_120 rfl ?_
                        refine x_iconst (q := 124) E dX0_change_123 rfl ?_
                        refine x_iload (q := 126) E dX0_change_124 5 rfl rfl ?_
                        refine x_iast (q := 127) (st' := (sA (sA (sA st (1 + a) (0) (w0)) (1 + a) (1) (x0)) (1 + a) (2) (y0))) (f := (sA (sA st (1 + a) (0) (w0)) (1 + a) (1) (x0)).2 (1 + a)) E (9 + a) (xg_let ha) 0 rfl (by omega) (by omega) (by decide) dX0_change_126 (xs_let ha _ _) rfl ?_
                        refine x_aload_n (q := 128) E dX0_change_127 1 rfl rfl ?_
                        refine x_get (q := 131) E iX0_change_X0 (5 + a) (xg_alph ha) rfl 0 (by decide) (by decide +kernel) rfl dX0_change_128 rfl ?_
                        refine x_iconst (q := 132) E dX0_change_131 rfl ?_
                        refine x_iload (q := 134) E dX0_change_132 6 rfl rfl ?_
                        refine x_iast (q := 135) (st' := (sA (sA (sA (sA st (1 + a) (0) (w0)) (1 + a) (1) (x0)) (1 + a) (2) (y0)) (1 + a) (3) (z0))) (f := (sA (sA (sA st (1 + a) (0) (w0)) (1 + a) (1) (x0)) (1 + a) (2) (y0)).2 (1 + a)) E (9 + a) (xg_let ha) 0 rfl (by omega) (by omega) (by decide) dX0_change_134 (xs_let ha _ _) rfl ?_
                        refine x_aload_n (q := 136) E dX0_change_135 1 rfl rfl ?_
                        refine x_iload_n (q := 137) E dX0_change_136 2 rfl rfl ?_
                        refine x_put (q := 140) (st' := (sG (sA (sA (sA (sA st (1 + a) (0) (w0)) (1 + a) (1) (x0)) (1 + a) (2) (y0)) (1 + a) (3) (z0)) (3 + a) (n0))) (v := .int (ii (n0))) (ty := .int) E iX0_change_X0 tyX0 tyX0_ok nmX0 (5 + a) (xg_alph ha) rfl 1 (by decide) (by decide +kernel) rfl (by decide +kernel) rfl rfl (Nat.le_of_ble_eq_true rfl) dX0_change_137 (xs_alph ha _) rfl ?_
                        refine x_iconst (q := 141) E dX0_change_140 rfl ?_
                        exact RET _ _ _ _ dX0_change_141 (by omega) (by first | exact Or.inl ⟨by omega, rfl, rfl⟩ | exact Or.inr ⟨by omega, rfl, rfl⟩ | (exfalso; omega))
                      · refine x_iconst (q := 104) E dX0_change_103 rfl ?_
                        exact RET _ _ _ _ dX0_change_104 (by omega) (by first | exact Or.inl ⟨by omega, rfl, rfl⟩ | exact Or.inr ⟨by omega, rfl, rfl⟩ | (exfalso; omega))
                · refine x_iload (q := 69) E dX0_change_67 5 rfl rfl ?_
                  refine x_callSNi (q := 72) (n := 1) (As := [.int (ii (y0))]) (r := []) E (c_X5_isLetter l D T ad hN st (y0) (by omega)) gX0_change_X5_isLetter_n23 rfl rfl rfl E.nw.1 (by decide +kernel) (by decide +kernel) (by decide +kernel) ⟨Nat.le_of_ble_eq_true rfl, Nat.le_of_ble_eq_true rfl⟩ rfl rfl (Nat.le_of_ble_eq_true rfl) dX0_change_69 rfl (fun z40 s41 q42 => ?_)
                  obtain ⟨rfl, rfl⟩ := q42
                  refine x_if_eq (tgt := 81) (q := 75) E dX0_change_72 (by decide) rfl (by omega) (fun c72 => ?_) (fun c72 => ?_)
                  · refine x_iconst (q := 82) E dX0_change_81 rfl ?_
                    exact RET _ _ _ _ dX0_change_82 (by omega) (by first | exact Or.inl ⟨by omega, rfl, rfl⟩ | exact Or.inr ⟨by omega, rfl, rfl⟩ | (exfalso; omega))
                  · refine x_iload_n (q := 76) E dX0_change_75 4 rfl rfl ?_
                    refine x_iload (q := 78) E dX0_change_76 5 rfl rfl ?_
                    refine x_icmp_ne (tgt := 83) (q := 81) E dX0_change_78 (by decide) rfl (by omega) (by omega) (fun c78 => ?_) (fun c78 => ?_)
                    · refine x_iload_n (q := 84) E dX0_change_83 2 rfl rfl ?_
                      refine x_iconst (q := 85) E dX0_change_84 rfl ?_
                      refine x_icmp_lt (tgt := 105) (q := 88) E dX0_change_85 (by decide) rfl (by omega) (by omega) (fun c85 => ?_) (fun c85 => ?_)
                      · refine x_aload_n (q := 106) E dX0_change_105 1 rfl rfl ?_
                        refine x_get (q := 109) E iX0_change_X0 (5 + a) (xg_alph ha) rfl 0 (by decide) (by decide +kernel) rfl dX0_change_106 rfl ?_
                        refine x_iconst (q := 110) E dX0_change_109 rfl ?_
                        refine x_iload_n (q := 111) E dX0_change_110 3 rfl rfl ?_
                        refine x_iast (q := 112) (st' := (sA st (1 + a) (0) (w0))) (f := st.2 (1 + a)) E (9 + a) (xg_let ha) 0 rfl (by omega) (by omega) (by decide) dX0_change_111 (xs_let ha _ _) rfl ?_
                        refine x_aload_n (q := 113) E dX0_change_112 1 rfl rfl ?_
                        refine x_get (q := 116) E iX0_change_X0 (5 + a) (xg_alph ha) rfl 0 (by decide) (by decide +kernel) rfl dX0_change_113 rfl ?_
                        refine x_iconst (q := 117) E dX0_change_116 rfl ?_
                        refine x_iload_n (q := 118) E dX0_change_117 4 rfl rfl ?_
                        refine x_iast (q := 119) (st' := (sA (sA st (1 + a) (0) (w0)) (1 + a) (1) (x0))) (f := (sA st (1 + a) (0) (w0)).2 (1 + a)) E (9 + a) (xg_let ha) 0 rfl (by omega) (by omega) (by decide) dX0_change_118 (xs_let ha _ _) rfl ?_
                        refine x_aload_n (q := 120) E dX0_change_119 1 rfl rfl ?_
                        refine x_get (q := 123) E iX0_change_X0 (5 + a) (xg_alph ha) rfl 0 (by decide) (by decide +kernel) rfl dX0_change_120 rfl ?_
                        refine x_iconst (q := 124) E dX0_change_123 rfl ?_
                        refine x_iload (q := 126) E dX0_change_124 5 rfl rfl ?_
                        refine x_iast (q := 127) (st' := (sA (sA (sA st (1 + a) (0) (w0)) (1 + a) (1) (x0)) (1 + a) (2) (y0))) (f := (sA (sA st (1 + a) (0) (w0)) (1 + a) (1) (x0)).2 (1 + a)) E (9 + a) (xg_let ha) 0 rfl (by omega) (by omega) (by decide) dX0_change_126 (xs_let ha _ _) rfl ?_
                        refine x_aload_n (q := 128) E dX0_change_127 1 rfl rfl ?_
                        refine x_get (q := 131) E iX0_change_X0 (5 + a) (xg_alph ha) rfl 0 (by decide) (by decide +kernel) rfl dX0_change_128 rfl ?_
                        refine x_iconst (q := 132) E dX0_change_131 rfl ?_
                        refine x_iload (q := 134) E dX0_change_132 6 rfl rfl ?_
                        refine x_iast (q := 135) (st' := (sA (sA (sA (sA st (1 + a) (0) (w0)) (1 + a) (1) (x0)) (1 + a) (2) (y0)) (1 + a) (3) (z0))) (f := (sA (sA (sA st (1 + a) (0) (w0)) (1 + a) (1) (x0)) (1 + a) (2) (y0)).2 (1 + a)) E (9 + a) (xg_let ha) 0 rfl (by omega) (by omega) (by decide) dX0_change_134 (xs_let ha _ _) rfl ?_
                        refine x_aload_n (q := 136) E dX0_change_135 1 rfl rfl ?_
                        refine x_iload_n (q := 137) E dX0_change_136 2 rfl rfl ?_
                        refine x_put (q := 140) (st' := (sG (sA (sA (sA (sA st (1 + a) (0) (w0)) (1 + a) (1) (x0)) (1 + a) (2) (y0)) (1 + a) (3) (z0)) (3 + a) (n0))) (v := .int (ii (n0))) (ty := .int) E iX0_change_X0 tyX0 tyX0_ok nmX0 (5 + a) (xg_alph ha) rfl 1 (by decide) (by decide +kernel) rfl (by decide +kernel) rfl rfl (Nat.le_of_ble_eq_true rfl) dX0_change_137 (xs_alph ha _) rfl ?_
                        refine x_iconst (q := 141) E dX0_change_140 rfl ?_
                        exact RET _ _ _ _ dX0_change_141 (by omega) (by first | exact Or.inl ⟨by omega, rfl, rfl⟩ | exact Or.inr ⟨by omega, rfl, rfl⟩ | (exfalso; omega))
                      · refine x_iload (q := 90) E dX0_change_88 6 rfl rfl ?_
                        refine x_callSNi (q := 93) (n := 1) (As := [.int (ii (z0))]) (r := []) E (c_X5_isLetter l D T ad hN st (z0) (by omega)) gX0_change_X5_isLetter_n23 rfl rfl rfl E.nw.1 (by decide +kernel) (by decide +kernel) (by decide +kernel) ⟨Nat.le_of_ble_eq_true rfl, Nat.le_of_ble_eq_true rfl⟩ rfl rfl (Nat.le_of_ble_eq_true rfl) dX0_change_90 rfl (fun z43 s44 q45 => ?_)
                        obtain ⟨rfl, rfl⟩ := q45
                        refine x_if_eq (tgt := 103) (q := 96) E dX0_change_93 (by decide) rfl (by omega) (fun c93 => ?_) (fun c93 => ?_)
                        · refine x_iconst (q := 104) E dX0_change_103 rfl ?_
                          exact RET _ _ _ _ dX0_change_104 (by omega) (by first | exact Or.inl ⟨by omega, rfl, rfl⟩ | exact Or.inr ⟨by omega, rfl, rfl⟩ | (exfalso; omega))
                        · refine x_iload (q := 98) E dX0_change_96 5 rfl rfl ?_
                          refine x_iload (q := 100) E dX0_change_98 6 rfl rfl ?_
                          refine x_icmp_ne (tgt := 105) (q := 103) E dX0_change_100 (by decide) rfl (by omega) (by omega) (fun c100 => ?_) (fun c100 => ?_)
                          · refine x_aload_n (q := 106) E dX0_change_105 1 rfl rfl ?_
                            refine x_get (q := 109) E iX0_change_X0 (5 + a) (xg_alph ha) rfl 0 (by decide) (by decide +kernel) rfl dX0_change_106 rfl ?_
                            refine x_iconst (q := 110) E dX0_change_109 rfl ?_
                            refine x_iload_n (q := 111) E dX0_change_110 3 rfl rfl ?_
                            refine x_iast (q := 112) (st' := (sA st (1 + a) (0) (w0))) (f := st.2 (1 + a)) E (9 + a) (xg_let ha) 0 rfl (by omega) (by omega) (by decide) dX0_change_111 (xs_let ha _ _) rfl ?_
                            refine x_aload_n (q := 113) E dX0_change_112 1 rfl rfl ?_
                            refine x_get (q := 116) E iX0_change_X0 (5 + a) (xg_alph ha) rfl 0 (by decide) (by decide +kernel) rfl dX0_change_113 rfl ?_
                            refine x_iconst (q := 117) E dX0_change_116 rfl ?_
                            refine x_iload_n (q := 118) E dX0_change_117 4 rfl rfl ?_
                            refine x_iast (q := 119) (st' := (sA (sA st (1 + a) (0) (w0)) (1 + a) (1) (x0))) (f := (sA st (1 + a) (0) (w0)).2 (1 + a)) E (9 + a) (xg_let ha) 0 rfl (by omega) (by omega) (by decide) dX0_change_118 (xs_let ha _ _) rfl ?_
                            refine x_aload_n (q := 120) E dX0_change_119 1 rfl rfl ?_
                            refine x_get (q := 123) E iX0_change_X0 (5 + a) (xg_alph ha) rfl 0 (by decide) (by decide +kernel) rfl dX0_change_120 rfl ?_
                            refine x_iconst (q := 124) E dX0_change_123 rfl ?_
                            refine x_iload (q := 126) E dX0_change_124 5 rfl rfl ?_
                            refine x_iast (q := 127) (st' := (sA (sA (sA st (1 + a) (0) (w0)) (1 + a) (1) (x0)) (1 + a) (2) (y0))) (f := (sA (sA st (1 + a) (0) (w0)) (1 + a) (1) (x0)).2 (1 + a)) E (9 + a) (xg_let ha) 0 rfl (by omega) (by omega) (by decide) dX0_change_126 (xs_let ha _ _) rfl ?_
                            refine x_aload_n (q := 128) E dX0_change_127 1 rfl rfl ?_
                            refine x_get (q := 131) E iX0_change_X0 (5 + a) (xg_alph ha) rfl 0 (by decide) (by decide +kernel) rfl dX0_change_128 rfl ?_
                            refine x_iconst (q := 132) E dX0_change_131 rfl ?_
                            refine x_iload (q := 134) E dX0_change_132 6 rfl rfl ?_
                            refine x_iast (q := 135) (st' := (sA (sA (sA (sA st (1 + a) (0) (w0)) (1 + a) (1) (x0)) (1 + a) (2) (y0)) (1 + a) (3) (z0))) (f := (sA (sA (sA st (1 + a) (0) (w0)) (1 + a) (1) (x0)) (1 + a) (2) (y0)).2 (1 + a)) E (9 + a) (xg_let ha) 0 rfl (by omega) (by omega) (by decide) dX0_change_134 (xs_let ha _ _) rfl ?_
                            refine x_aload_n (q := 136) E dX0_change_135 1 rfl rfl ?_
                            refine x_iload_n (q := 137) E dX0_change_136 2 rfl rfl ?_
                            refine x_put (q := 140) (st' := (sG (sA (sA (sA (sA st (1 + a) (0) (w0)) (1 + a) (1) (x0)) (1 + a) (2) (y0)) (1 + a) (3) (z0)) (3 + a) (n0))) (v := .int (ii (n0))) (ty := .int) E iX0_change_X0 tyX0 tyX0_ok nmX0 (5 + a) (xg_alph ha) rfl 1 (by decide) (by decide +kernel) rfl (by decide +kernel) rfl rfl (Nat.le_of_ble_eq_true rfl) dX0_change_137 (xs_alph ha _) rfl ?_
                            refine x_iconst (q := 141) E dX0_change_140 rfl ?_
                            exact RET _ _ _ _ dX0_change_141 (by omega) (by first | exact Or.inl ⟨by omega, rfl, rfl⟩ | exact Or.inr ⟨by omega, rfl, rfl⟩ | (exfalso; omega))
                          · refine x_iconst (q := 104) E dX0_change_103 rfl ?_
                            exact RET _ _ _ _ dX0_change_104 (by omega) (by first | exact Or.inl ⟨by omega, rfl, rfl⟩ | exact Or.inr ⟨by omega, rfl, rfl⟩ | (exfalso; omega))
                    · refine x_iconst (q := 82) E dX0_change_81 rfl ?_
                      exact RET _ _ _ _ dX0_change_82 (by omega) (by first | exact Or.inl ⟨by omega, rfl, rfl⟩ | exact Or.inr ⟨by omega, rfl, rfl⟩ | (exfalso; omega))
              · refine x_iconst (q := 61) E dX0_change_60 rfl ?_
                exact RET _ _ _ _ dX0_change_61 (by omega) (by first | exact Or.inl ⟨by omega, rfl, rfl⟩ | exact Or.inr ⟨by omega, rfl, rfl⟩ | (exfalso; omega))
    · refine x_iconst (q := 11) E dX0_change_10 rfl ?_
      exact RET _ _ _ _ dX0_change_11 (by omega) (by first | exact Or.inl ⟨by omega, rfl, rfl⟩ | exact Or.inr ⟨by omega, rfl, rfl⟩ | (exfalso; omega))

theorem iX4_change_X4 : ∀ w ∈ wsX40, w ∈ wsX4_change := by decide +kernel
set_option maxRecDepth 100000 in
set_option maxHeartbeats 4000000 in
theorem c_X4_change (l : Launch) (D : va_G) (T : Nat → ClassId) (ad : Nat → Nat) (hN : ∀ i j, i < 33 → j < 33 → ad i = ad j → i = j) (st : St_) (w : Nat) (hw : w < 3) (k : Int) (bk : -2147483648 ≤ k ∧ k < 2147483648) (v : Int) (bv : -2147483648 ≤ v ∧ v < 2147483648) (hk : 0 ≤ k ∧ k < 60) : CXv l yX4_change wsX4_change (rmX 0 0) [.ref (ad (25 + w)), .int (ii (k)), .int (ii (v))] D (tyX T) (XW T ad) (alX ad) st (fun st2 => st2 = sA st (14 + w) k v) := by
  refine mk_v (cc := cX4_change) (nL := 3) rfl rfl (XW_ok hN) (Nat.le_of_ble_eq_true rfl) [(0, .ref (ad (25 + w))), (1, .int (ii (k))), (2, .int (ii (v)))] rfl (fun p e s m args below meth c A Q E RET => ?_)
  refine x_iload_n (q := 1) E dX4_change_0 1 rfl rfl ?_
  refine x_if_lt (tgt := 20) (q := 4) E dX4_change_1 (by decide) rfl (by omega) (fun c1 => ?_) (fun c1 => ?_)
  · exact RET _ _ _ dX4_change_20 (by first | (exfalso; omega) | rfl)
  · refine x_iload_n (q := 5) E dX4_change_4 1 rfl rfl ?_
    refine x_aload_n (q := 6) E dX4_change_5 0 rfl rfl ?_
    refine x_get (q := 9) E iX4_change_X4 (25 + w) (xg_word hw) rfl 0 (by decide) (by decide +kernel) rfl dX4_change_6 rfl ?_
    refine x_alen (q := 10) E (28 + w) (xg_wl hw) 0 rfl dX4_change_9 rfl ?_
    refine x_ti (show (((60 : Nat) : Int)) = 60 from rfl) ?_
    refine x_icmp_ge (tgt := 20) (q := 13) E dX4_change_10 (by decide) rfl (by omega) (by omega) (fun c10 => ?_) (fun c10 => ?_)
    · exact RET _ _ _ dX4_change_20 (by first | (exfalso; omega) | rfl)
    · refine x_aload_n (q := 14) E dX4_change_13 0 rfl rfl ?_
      refine x_get (q := 17) E iX4_change_X4 (25 + w) (xg_word hw) rfl 0 (by decide) (by decide +kernel) rfl dX4_change_14 rfl ?_
      refine x_iload_n (q := 18) E dX4_change_17 1 rfl rfl ?_
      refine x_iload_n (q := 19) E dX4_change_18 2 rfl rfl ?_
      refine x_iast (q := 20) (st' := (sA st (14 + w) (k) (v))) (f := st.2 (14 + w)) E (28 + w) (xg_wl hw) 0 rfl (by omega) (by omega) (by decide) dX4_change_19 (xs_wl hw _ _) rfl ?_
      exact RET _ _ _ dX4_change_20 (by first | (exfalso; omega) | rfl)

theorem iX4_mixInto_X4 : ∀ w ∈ wsX40, w ∈ wsX4_mixInto := by decide +kernel
set_option maxRecDepth 100000 in
set_option maxHeartbeats 4000000 in
theorem c_X4_mixInto (l : Launch) (D : va_G) (T : Nat → ClassId) (ad : Nat → Nat) (hN : ∀ i j, i < 33 → j < 33 → ad i = ad j → i = j) (st : St_) (w : Nat) (hw : w < 3) (h : Int) (hs : 0 ≤ st.1 (10 + w) ∧ st.1 (10 + w) ≤ 60) (hb : ∀ j : Int, 0 ≤ j → j < 60 → 0 ≤ st.2 (14 + w) j ∧ st.2 (14 + w) j ≤ 60) : CXl l yX4_mixInto wsX4_mixInto (rmX 1 21) [.ref (ad (25 + w)), .long (jj (h))] D (tyX T) (XW T ad) (alX ad) st (fun z st2 => mix (st.2 (14 + w)) (h) (st.1 (10 + w)) = z ∧ st = st2) := by
  refine mk_l (cc := cX4_mixInto) (nL := 6) rfl rfl (XW_ok hN) (Nat.le_of_ble_eq_true rfl) [(0, .ref (ad (25 + w))), (1, .long (jj (h)))] rfl (fun p e s m args below meth c A Q E RET => ?_)
  refine x_lload_n (q := 1) E dX4_mixInto_0 1 rfl rfl ?_
  refine x_lstore_n (q := 2) (lv' := [(3, .long (jj (h))), (0, .ref (ad (25 + w))), (1, .long (jj (h)))]) E dX4_mixInto_1 (by decide) rfl rfl ?_
  refine x_iconst (q := 3) E dX4_mixInto_2 rfl ?_
  refine x_istore (q := 5) (lv' := [(5, .int (ii (0))), (3, .long (jj (h))), (0, .ref (ad (25 + w))), (1, .long (jj (h)))]) E dX4_mixInto_3 (by decide) rfl rfl ?_
  have L5 : ∀ (n : Nat) (t : Int) (i : Int), (st.1 (10 + w) - i).toNat < n → (0 ≤ i ∧ i ≤ st.1 (10 + w)) → (t = mix (st.2 (14 + w)) h i) → XJ p l e (rmX 1 21) s m args below meth c D (XW T ad) A 6 Q 0 0 st 5 [(0, .ref (ad (25 + w))), (3, .long (jj (t))), (5, .int (ii (i)))] [] := by
    intro n
    induction n with
    | zero => intro t i hn; exact absurd hn (Nat.not_lt_zero _)
    | succ n ih5 =>
      intro t i hn5 a1 a2
      refine x_iload (q := 7) E dX4_mixInto_5 2 rfl rfl ?_
      refine x_aload_n (q := 8) E dX4_mixInto_7 0 rfl rfl ?_
      refine x_get (q := 11) E iX4_mixInto_X4 (25 + w) (xg_word hw) rfl 1 (by decide) (by decide +kernel) rfl dX4_mixInto_8 rfl ?_
      refine x_icmp_ge (tgt := 34) (q := 14) E dX4_mixInto_11 (by decide) rfl (by omega) (by omega) (fun c11 => ?_) (fun c11 => ?_)
      · refine x_lload_n (q := 35) E dX4_mixInto_34 1 rfl rfl ?_
        exact RET _ _ _ _ dX4_mixInto_35 (⟨by rw [a2]; exact congrArg _ (by omega), rfl⟩)
      · have e1 : wat st w i = st.2 (14 + w) i := wat_in (by omega) (by omega) (by omega)
        have e2 := hb i (by omega) (by omega)
        refine x_ldc2 (q := 17) (v := 31) (z := 31) E (by decide +kernel) (by decide) dX4_mixInto_14 rfl ?_
        refine x_lload_n (q := 18) E dX4_mixInto_17 1 rfl rfl ?_
        refine x_lmul (q := 19) E dX4_mixInto_18 rfl ?_
        refine x_aload_n (q := 20) E dX4_mixInto_19 0 rfl rfl ?_
        refine x_iload (q := 22) E dX4_mixInto_20 2 rfl rfl ?_
        refine x_callVi (q := 25) (n := 1) (As := [.int (ii (i))]) (r := [.long (jj ((31) * (t)))]) E (c_X4_letterAt l D T ad hN st (w) hw (i) (by omega) (by omega)) gX4_mixInto_X4_letterAt rfl rfl rfl (by decide +kernel) ⟨Nat.le_of_ble_eq_true rfl, Nat.le_of_ble_eq_true rfl⟩ (25 + w) (xg_word hw) rfl rfl rfl (Nat.le_of_ble_eq_true rfl) dX4_mixInto_22 rfl (fun z1 s2 q3 => ?_)
        obtain ⟨rfl, rfl⟩ := q3
        refine x_i2l (q := 26) E dX4_mixInto_25 (by omega) rfl ?_
        refine x_ladd (q := 27) E dX4_mixInto_26 rfl ?_
        refine x_lstore_n (q := 28) (lv' := [(3, .long (jj (((31) * (t)) + (wat st w (i))))), (0, .ref (ad (25 + w))), (5, .int (ii (i)))]) E dX4_mixInto_27 (by decide) rfl rfl ?_
        refine x_iinc (q := 31) (k := 2) (lv' := [(5, .int (ii (i + 1))), (3, .long (jj (((31) * (t)) + (wat st w (i))))), (0, .ref (ad (25 + w)))]) E dX4_mixInto_28 rfl (by decide) rfl rfl ?_
        refine x_goto (tgt := 5) E dX4_mixInto_31 (by decide) ?_
        refine x_lv E (lv' := [(0, .ref (ad (25 + w))), (3, .long (jj (((31) * (t)) + (wat st w (i))))), (5, .int (ii (i + 1)))]) [2, 1, 0] rfl ?_
        exact ih5 (((31) * (t)) + (wat st w (i))) (i + 1) (by omega) (by omega) (by rw [mix_s _ _ (by omega), a2, e1])
  refine x_lv E (lv' := [(0, .ref (ad (25 + w))), (3, .long (jj (h))), (5, .int (ii (0)))]) [2, 1, 0] rfl ?_
  exact L5 _ (h) (0) (Nat.lt_succ_self _) (by omega) ((mix_0 _ _).symm)

theorem iX4_turnRound_X4 : ∀ w ∈ wsX40, w ∈ wsX4_turnRound := by decide +kernel
set_option maxRecDepth 100000 in
set_option maxHeartbeats 4000000 in
theorem c_X4_turnRound (l : Launch) (D : va_G) (T : Nat → ClassId) (ad : Nat → Nat) (hN : ∀ i j, i < 33 → j < 33 → ad i = ad j → i = j) (st : St_) (w : Nat) (hw : w < 3) (hs : 0 ≤ st.1 (10 + w) ∧ st.1 (10 + w) ≤ 60) (hb : ∀ j : Int, 0 ≤ j → j < 60 → 0 ≤ st.2 (14 + w) j ∧ st.2 (14 + w) j ≤ 60) : CXv l yX4_turnRound wsX4_turnRound (rmX 1 22) [.ref (ad (25 + w))] D (tyX T) (XW T ad) (alX ad) st (fun st2 => ∃ f : Int → Int, st2 = sF st (14 + w) f ∧ (∀ k : Int, 0 ≤ k → k < st.1 (10 + w) → f k = st.2 (14 + w) (st.1 (10 + w) - 1 - k)) ∧ ∀ j : Int, 0 ≤ j → j < 60 → 0 ≤ f j ∧ f j ≤ 60) := by
  refine mk_v (cc := cX4_turnRound) (nL := 4) rfl rfl (XW_ok hN) (Nat.le_of_ble_eq_true rfl) [(0, .ref (ad (25 + w)))] rfl (fun p e s m args below meth c A Q E RET => ?_)
  refine x_iconst (q := 1) E dX4_turnRound_0 rfl ?_
  refine x_istore_n (q := 2) (lv' := [(1, .int (ii (0))), (0, .ref (ad (25 + w)))]) E dX4_turnRound_1 (by decide) rfl rfl ?_
  refine x_aload_n (q := 3) E dX4_turnRound_2 1 rfl rfl ?_
  refine x_get (q := 6) E iX4_turnRound_X4 (25 + w) (xg_word hw) rfl 1 (by decide) (by decide +kernel) rfl dX4_turnRound_3 rfl ?_
  refine x_iconst (q := 7) E dX4_turnRound_6 rfl ?_
  refine x_isub (q := 8) E dX4_turnRound_7 rfl ?_
  refine x_istore_n (q := 9) (lv' := [(2, .int (ii ((st.1 (10 + w)) - (1)))), (1, .int (ii (0))), (0, .ref (ad (25 + w)))]) E dX4_turnRound_8 (by decide) rfl rfl ?_
  have L9 : ∀ (n : Nat) (i : Int) (v : Int) (f : Int → Int), (v - i + 2).toNat < n → (0 ≤ i ∧ i + v = st.1 (10 + w) - 1 ∧ i ≤ v + 2) → (∀ j : Int, i ≤ j → j ≤ v → f j = st.2 (14 + w) j) → (∀ j : Int, 0 ≤ j → j < i → f j = st.2 (14 + w) (st.1 (10 + w) - 1 - j) ∧ f (st.1 (10 + w) - 1 - j) = st.2 (14 + w) j) → (∀ j : Int, 0 ≤ j → j < 60 → 0 ≤ f j ∧ f j ≤ 60) → XJ p l e (rmX 1 22) s m args below meth c D (XW T ad) A 4 Q 0 0 (sF st (14 + w) (f)) 9 [(0, .ref (ad (25 + w))), (1, .int (ii (i))), (2, .int (ii (v)))] [] := by
    intro n
    induction n with
    | zero => intro i v f hn; exact absurd hn (Nat.not_lt_zero _)
    | succ n ih9 =>
      intro i v f hn9 a1 a2 a3 a4
      refine x_iload_n (q := 10) E dX4_turnRound_9 1 rfl rfl ?_
      refine x_iload_n (q := 11) E dX4_turnRound_10 2 rfl rfl ?_
      refine x_icmp_ge (tgt := 45) (q := 14) E dX4_turnRound_11 (by decide) rfl (by omega) (by omega) (fun c11 => ?_) (fun c11 => ?_)
      · exact RET _ _ _ dX4_turnRound_45 (⟨f, rfl, fun k h0 h1 => if hk : k < i then (a3 k h0 hk).1 else if hk2 : k ≤ v then (by rw [a2 k (by omega) hk2]; exact congrArg _ (by omega)) else (by have := (a3 (st.1 (10 + w) - 1 - k) (by omega) (by omega)).2; rw [show st.1 (10 + w) - 1 - (st.1 (10 + w) - 1 - k) = k from by omega] at this; exact this), a4⟩)
      · have e1 : wat (sF st (14 + w) f) w i = f i := by rw [wat_in (by omega) (by rw [sF_1]; omega) (by rw [sF_1]; omega), sF_s]
        have e2 : wat (sF st (14 + w) f) w v = f v := by rw [wat_in (by omega) (by rw [sF_1]; omega) (by rw [sF_1]; omega), sF_s]
        have e3 := a4 i (by omega) (by omega)
        have e4 := a4 v (by omega) (by omega)
        rw [← e1] at e3
        rw [← e2] at e4
        refine x_aload_n (q := 15) E dX4_turnRound_14 0 rfl rfl ?_
        refine x_iload_n (q := 16) E dX4_turnRound_15 1 rfl rfl ?_
        refine x_callVi (q := 19) (n := 1) (As := [.int (ii (i))]) (r := []) E (c_X4_letterAt l D T ad hN (sF st (14 + w) (f)) (w) hw (i) (by omega) (by rw [sF_1]; omega)) gX4_turnRound_X4_letterAt rfl rfl rfl (by decide +kernel) ⟨Nat.le_of_ble_eq_true rfl, Nat.le_of_ble_eq_true rfl⟩ (25 + w) (xg_word hw) rfl rfl rfl (Nat.le_of_ble_eq_true rfl) dX4_turnRound_16 rfl (fun z1 s2 q3 => ?_)
        obtain ⟨rfl, rfl⟩ := q3
        refine x_istore_n (q := 20) (lv' := [(3, .int (ii (wat (sF st (14 + w) (f)) w (i)))), (0, .ref (ad (25 + w))), (1, .int (ii (i))), (2, .int (ii (v)))]) E dX4_turnRound_19 (by decide) rfl rfl ?_
        refine x_aload_n (q := 21) E dX4_turnRound_20 1 rfl rfl ?_
        refine x_iload_n (q := 22) E dX4_turnRound_21 2 rfl rfl ?_
        refine x_aload_n (q := 23) E dX4_turnRound_22 1 rfl rfl ?_
        refine x_iload_n (q := 24) E dX4_turnRound_23 3 rfl rfl ?_
        refine x_callVi (q := 27) (n := 1) (As := [.int (ii (v))]) (r := [.int (ii (i)), .ref (ad (25 + w))]) E (c_X4_letterAt l D T ad hN (sF st (14 + w) (f)) (w) hw (v) (by omega) (by rw [sF_1]; omega)) gX4_turnRound_X4_letterAt rfl rfl rfl (by decide +kernel) ⟨Nat.le_of_ble_eq_true rfl, Nat.le_of_ble_eq_true rfl⟩ (25 + w) (xg_word hw) rfl rfl rfl (Nat.le_of_ble_eq_true rfl) dX4_turnRound_24 rfl (fun z4 s5 q6 => ?_)
        obtain ⟨rfl, rfl⟩ := q6
        refine x_callVv (q := 30) (n := 2) (As := [.int (ii (i)), .int (ii (wat (sF st (14 + w) (f)) w (v)))]) (r := []) E (c_X4_change l D T ad hN (sF st (14 + w) (f)) (w) hw (i) (by omega) (wat (sF st (14 + w) (f)) w (v)) (by omega) (by omega)) gX4_turnRound_X4_change rfl rfl rfl (by decide +kernel) ⟨Nat.le_of_ble_eq_true rfl, Nat.le_of_ble_eq_true rfl⟩ (25 + w) (xg_word hw) rfl rfl rfl (Nat.le_of_ble_eq_true rfl) dX4_turnRound_27 rfl (fun s8 q9 => ?_)
        obtain rfl := q9
        refine x_aload_n (q := 31) E dX4_turnRound_30 1 rfl rfl ?_
        refine x_iload_n (q := 32) E dX4_turnRound_31 3 rfl rfl ?_
        refine x_iload_n (q := 33) E dX4_turnRound_32 0 rfl rfl ?_
        refine x_callVv (q := 36) (n := 2) (As := [.int (ii (v)), .int (ii (wat (sF st (14 + w) (f)) w (i)))]) (r := []) E (c_X4_change l D T ad hN (sA (sF st (14 + w) (f)) (14 + w) (i) (wat (sF st (14 + w) (f)) w (v))) (w) hw (v) (by omega) (wat (sF st (14 + w) (f)) w (i)) (by omega) (by omega)) gX4_turnRound_X4_change rfl rfl rfl (by decide +kernel) ⟨Nat.le_of_ble_eq_true rfl, Nat.le_of_ble_eq_true rfl⟩ (25 + w) (xg_word hw) rfl rfl rfl (Nat.le_of_ble_eq_true rfl) dX4_turnRound_33 rfl (fun s11 q12 => ?_)
        obtain rfl := q12
        refine x_iinc (q := 39) (k := 2) (lv' := [(1, .int (ii (i + 1))), (3, .int (ii (wat (sF st (14 + w) (f)) w (i)))), (0, .ref (ad (25 + w))), (2, .int (ii (v)))]) E dX4_turnRound_36 rfl (by decide) rfl rfl ?_
        refine x_iinc (q := 42) (k := 3) (lv' := [(2, .int (ii (v + (-1)))), (1, .int (ii (i + 1))), (3, .int (ii (wat (sF st (14 + w) (f)) w (i)))), (0, .ref (ad (25 + w)))]) E dX4_turnRound_39 rfl (by decide) rfl rfl ?_
        refine x_goto (tgt := 9) E dX4_turnRound_42 (by decide) ?_
        refine x_st E (st' := (sF st (14 + w) (zup (zup (f) (i) (wat (sF st (14 + w) (f)) w (v))) (v) (wat (sF st (14 + w) (f)) w (i))))) (by refine Prod.ext (funext fun k9 => ?_) (funext fun q9 => ?_) <;> simp only [sG_1, sG_2, sA_1, sA_2, sF_1, sF_2, reduceIte] <;> (repeat' split) <;> first | rfl | omega | (subst_vars; first | rfl | omega) | simp_all) ?_
        refine x_lv E (lv' := [(0, .ref (ad (25 + w))), (1, .int (ii (i + 1))), (2, .int (ii (v + (-1))))]) [3, 1, 0] rfl ?_
        exact ih9 (i + 1) (v + (-1)) (zup (zup (f) (i) (wat (sF st (14 + w) (f)) w (v))) (v) (wat (sF st (14 + w) (f)) w (i))) (by omega) (by omega) (fun j h0 h1 => by rw [zup_ne _ _ (by omega), zup_ne _ _ (by omega)]; exact a2 j (by omega) (by omega)) (fun j h0 h1 => if hj : j = i then (by rw [hj, show st.1 (10 + w) - 1 - i = v from by omega, zup_eq, zup_ne _ _ (by omega), zup_eq, e1, e2]; exact ⟨a2 v (by omega) (by omega), a2 i (by omega) (by omega)⟩) else (by rw [zup_ne _ _ (by omega), zup_ne _ _ (by omega), zup_ne _ _ (by omega), zup_ne _ _ (by omega)]; exact a3 j h0 (by omega))) (zup_b (zup_b a4 (by omega) (by omega)) (by omega) (by omega))
  refine x_lv E (lv' := [(0, .ref (ad (25 + w))), (1, .int (ii (0))), (2, .int (ii ((st.1 (10 + w)) - (1))))]) [2, 1, 0] rfl ?_
  refine x_st E (st' := (sF st (14 + w) (st.2 (14 + w)))) (by refine Prod.ext (funext fun k9 => ?_) (funext fun q9 => ?_) <;> simp only [sG_1, sG_2, sA_1, sA_2, sF_1, sF_2, reduceIte] <;> (repeat' split) <;> first | rfl | omega | (subst_vars; first | rfl | omega) | simp_all) ?_
  exact L9 _ (0) ((st.1 (10 + w)) - (1)) (st.2 (14 + w)) (Nat.lt_succ_self _) (by omega) (fun _ _ _ => rfl) (fun j h0 h1 => absurd h1 (by omega)) (hb)

theorem iX4_replaceBy_X4 : ∀ w ∈ wsX40, w ∈ wsX4_replaceBy := by decide +kernel
set_option maxRecDepth 100000 in
set_option maxHeartbeats 4000000 in
theorem c_X4_replaceBy (l : Launch) (D : va_G) (T : Nat → ClassId) (ad : Nat → Nat) (hN : ∀ i j, i < 33 → j < 33 → ad i = ad j → i = j) (st : St_) (w : Nat) (hw : w < 3) (a : Nat) (ha : a < 4) (hs : 0 ≤ st.1 (10 + w) ∧ st.1 (10 + w) ≤ 60) (hb : ∀ j : Int, 0 ≤ j → j < 60 → 0 ≤ st.2 (14 + w) j ∧ st.2 (14 + w) j ≤ 60) (hsa : 2 ≤ st.1 (3 + a) ∧ st.1 (3 + a) ≤ 4) (hla : ∀ j : Int, 0 ≤ j → j < st.1 (3 + a) → 1 ≤ st.2 (1 + a) j ∧ st.2 (1 + a) j ≤ 6) : CXi l yX4_replaceBy wsX4_replaceBy (rmX 2 44) [.ref (ad (25 + w)), .ref (ad (5 + a))] D (tyX T) (XW T ad) (alX ad) st (fun z st2 => ∃ f : Int → Int, st2 = sF st (14 + w) f ∧ (∀ j : Int, 0 ≤ j → j < st.1 (10 + w) → TR (st.2 (1 + a)) (st.1 (3 + a)) (st.2 (14 + w) j) (f j)) ∧ (∀ j : Int, 0 ≤ j → j < 60 → 0 ≤ f j ∧ f j ≤ 60) ∧ z = isum (fun j => if f j = st.2 (14 + w) j then 0 else 1) (st.1 (10 + w))) := by
  refine mk_i (cc := cX4_replaceBy) (nL := 5) rfl rfl (XW_ok hN) (Nat.le_of_ble_eq_true rfl) [(0, .ref (ad (25 + w))), (1, .ref (ad (5 + a)))] rfl (fun p e s m args below meth c A Q E RET => ?_)
  refine x_iconst (q := 1) E dX4_replaceBy_0 rfl ?_
  refine x_istore_n (q := 2) (lv' := [(2, .int (ii (0))), (0, .ref (ad (25 + w))), (1, .ref (ad (5 + a)))]) E dX4_replaceBy_1 (by decide) rfl rfl ?_
  refine x_iconst (q := 3) E dX4_replaceBy_2 rfl ?_
  refine x_istore_n (q := 4) (lv' := [(3, .int (ii (0))), (2, .int (ii (0))), (0, .ref (ad (25 + w))), (1, .ref (ad (5 + a)))]) E dX4_replaceBy_3 (by decide) rfl rfl ?_
  have L4 : ∀ (n : Nat) (t : Int) (i : Int) (f : Int → Int), (st.1 (10 + w) - i).toNat < n → (0 ≤ i ∧ i ≤ st.1 (10 + w)) → (∀ j : Int, i ≤ j → f j = st.2 (14 + w) j) → (∀ j : Int, 0 ≤ j → j < i → TR (st.2 (1 + a)) (st.1 (3 + a)) (st.2 (14 + w) j) (f j)) → (∀ j : Int, 0 ≤ j → j < 60 → 0 ≤ f j ∧ f j ≤ 60) → (t = isum (fun j => if f j = st.2 (14 + w) j then 0 else 1) i) → XJ p l e (rmX 2 44) s m args below meth c D (XW T ad) A 5 Q 0 0 (sF st (14 + w) (f)) 4 [(0, .ref (ad (25 + w))), (1, .ref (ad (5 + a))), (2, .int (ii (t))), (3, .int (ii (i)))] [] := by
    intro n
    induction n with
    | zero => intro t i f hn; exact absurd hn (Nat.not_lt_zero _)
    | succ n ih4 =>
      intro t i f hn4 a1 a2 a3 a4 a5
      refine x_iload_n (q := 5) E dX4_replaceBy_4 3 rfl rfl ?_
      refine x_aload_n (q := 6) E dX4_replaceBy_5 0 rfl rfl ?_
      refine x_get (q := 9) E iX4_replaceBy_X4 (25 + w) (xg_word hw) rfl 1 (by decide) (by decide +kernel) rfl dX4_replaceBy_6 rfl ?_
      refine x_ti (show (sF st (14 + w) (f)).1 (10 + w) = st.1 (10 + w) by rw [sF_1]) ?_
      refine x_icmp_ge (tgt := 58) (q := 12) E dX4_replaceBy_9 (by decide) rfl (by omega) (by omega) (fun c9 => ?_) (fun c9 => ?_)
      · refine x_iload_n (q := 59) E dX4_replaceBy_58 2 rfl rfl ?_
        exact RET _ _ _ _ dX4_replaceBy_59 (⟨f, rfl, fun j h0 h1 => a3 j h0 (by omega), a4, by rw [a5]; exact congrArg _ (by omega)⟩)
      · have e1 : wat (sF st (14 + w) f) w i = st.2 (14 + w) i := by rw [wat_in (by omega) (by rw [sF_1]; omega) (by rw [sF_1]; omega), sF_s]; exact a2 i (by omega)
        have e2 := hb i (by omega) (by omega)
        have e3 : wat (sF st (14 + w) f) w i ≠ -1 := by omega
        have e4 : 0 ≤ wat (sF st (14 + w) f) w i ∧ wat (sF st (14 + w) f) w i ≤ 60 := by omega
        refine x_aload_n (q := 13) E dX4_replaceBy_12 1 rfl rfl ?_
        refine x_aload_n (q := 14) E dX4_replaceBy_13 0 rfl rfl ?_
        refine x_iload_n (q := 15) E dX4_replaceBy_14 3 rfl rfl ?_
        refine x_callVi (q := 18) (n := 1) (As := [.int (ii (i))]) (r := [.ref (ad (5 + a))]) E (c_X4_letterAt l D T ad hN (sF st (14 + w) (f)) (w) hw (i) (by omega) (by rw [sF_1]; omega)) gX4_replaceBy_X4_letterAt rfl rfl rfl (by decide +kernel) ⟨Nat.le_of_ble_eq_true rfl, Nat.le_of_ble_eq_true rfl⟩ (25 + w) (xg_word hw) rfl rfl rfl (Nat.le_of_ble_eq_true rfl) dX4_replaceBy_15 rfl (fun z1 s2 q3 => ?_)
        obtain ⟨rfl, rfl⟩ := q3
        refine x_callVi (q := 21) (n := 1) (As := [.int (ii (wat (sF st (14 + w) (f)) w (i)))]) (r := []) E (c_X0_letterBehind l D T ad hN (sF st (14 + w) (f)) (a) ha (wat (sF st (14 + w) (f)) w (i)) (by omega) (by rw [sF_1]; omega) (by rw [sF_1, sF_n _ _ (by omega)]; exact hla)) gX4_replaceBy_X0_letterBehind rfl rfl rfl (by decide +kernel) ⟨Nat.le_of_ble_eq_true rfl, Nat.le_of_ble_eq_true rfl⟩ (5 + a) (xg_alph ha) rfl rfl rfl (Nat.le_of_ble_eq_true rfl) dX4_replaceBy_18 rfl (fun z4 s5 q6 => ?_)
        obtain ⟨rfl, h7⟩ := q6
        have e5 := h7
        rw [sF_1, sF_n _ _ (by omega), e1] at e5
        have e6 := LB_TR (by omega) (fun j h0 h1 => by have := hla j h0 h1; omega) (by omega) e5
        have e7 := TR_b (lo := 0) (hi := 60) (by omega) (fun j h0 h1 => by have := hla j h0 h1; omega) (by omega) e6
        have e8 : -1 ≤ z4 ∧ z4 ≤ 60 := by split at e7 <;> omega
        refine x_istore (q := 23) (lv' := [(4, .int (ii (z4))), (0, .ref (ad (25 + w))), (1, .ref (ad (5 + a))), (2, .int (ii (t))), (3, .int (ii (i)))]) E dX4_replaceBy_21 (by decide) rfl rfl ?_
        refine x_iload (q := 25) E dX4_replaceBy_23 0 rfl rfl ?_
        refine x_iconst (q := 26) E dX4_replaceBy_25 rfl ?_
        refine x_icmp_eq (tgt := 52) (q := 29) E dX4_replaceBy_26 (by decide) rfl (by omega) (by omega) (fun c26 => ?_) (fun c26 => ?_)
        · refine x_iinc (q := 55) (k := 4) (lv' := [(3, .int (ii (i + 1))), (4, .int (ii (z4))), (0, .ref (ad (25 + w))), (1, .ref (ad (5 + a))), (2, .int (ii (t)))]) E dX4_replaceBy_52 rfl (by decide) rfl rfl ?_
          refine x_goto (tgt := 4) E dX4_replaceBy_55 (by decide) ?_
          refine x_lv E (lv' := [(0, .ref (ad (25 + w))), (1, .ref (ad (5 + a))), (2, .int (ii (t))), (3, .int (ii (i + 1)))]) [2, 3, 4, 0] rfl ?_
          exact ih4 (t) (i + 1) (f) (by omega) (by omega) (fun j h0 => a2 j (by omega)) (fun j h0 h1 => if hj : j = i then (by rw [hj, a2 i (by omega)]; rw [if_pos c26] at e6; exact e6) else a3 j h0 (by omega)) (a4) (by rw [isum_s _ (by omega), ← a5, if_pos (a2 i (by omega))]; omega)
        · refine x_iload (q := 31) E dX4_replaceBy_29 0 rfl rfl ?_
          refine x_aload_n (q := 32) E dX4_replaceBy_31 1 rfl rfl ?_
          refine x_iload_n (q := 33) E dX4_replaceBy_32 4 rfl rfl ?_
          refine x_callVi (q := 36) (n := 1) (As := [.int (ii (i))]) (r := [.int (ii (z4))]) E (c_X4_letterAt l D T ad hN (sF st (14 + w) (f)) (w) hw (i) (by omega) (by rw [sF_1]; omega)) gX4_replaceBy_X4_letterAt rfl rfl rfl (by decide +kernel) ⟨Nat.le_of_ble_eq_true rfl, Nat.le_of_ble_eq_true rfl⟩ (25 + w) (xg_word hw) rfl rfl rfl (Nat.le_of_ble_eq_true rfl) dX4_replaceBy_33 rfl (fun z8 s9 q10 => ?_)
          obtain ⟨rfl, rfl⟩ := q10
          refine x_icmp_ne (tgt := 42) (q := 39) E dX4_replaceBy_36 (by decide) rfl (by omega) (by omega) (fun c36 => ?_) (fun c36 => ?_)
          · refine x_aload_n (q := 43) E dX4_replaceBy_42 1 rfl rfl ?_
            refine x_iload_n (q := 44) E dX4_replaceBy_43 4 rfl rfl ?_
            refine x_iload (q := 46) E dX4_replaceBy_44 0 rfl rfl ?_
            refine x_callVv (q := 49) (n := 2) (As := [.int (ii (i)), .int (ii (z4))]) (r := []) E (c_X4_change l D T ad hN (sF st (14 + w) (f)) (w) hw (i) (by omega) (z4) (by omega) (by omega)) gX4_replaceBy_X4_change rfl rfl rfl (by decide +kernel) ⟨Nat.le_of_ble_eq_true rfl, Nat.le_of_ble_eq_true rfl⟩ (25 + w) (xg_word hw) rfl rfl rfl (Nat.le_of_ble_eq_true rfl) dX4_replaceBy_46 rfl (fun s12 q13 => ?_)
            obtain rfl := q13
            refine x_iinc (q := 52) (k := 3) (lv' := [(2, .int (ii (t + 1))), (4, .int (ii (z4))), (0, .ref (ad (25 + w))), (1, .ref (ad (5 + a))), (3, .int (ii (i)))]) E dX4_replaceBy_49 rfl (by decide) rfl rfl ?_
            refine x_iinc (q := 55) (k := 4) (lv' := [(3, .int (ii (i + 1))), (2, .int (ii (t + 1))), (4, .int (ii (z4))), (0, .ref (ad (25 + w))), (1, .ref (ad (5 + a)))]) E dX4_replaceBy_52 rfl (by decide) rfl rfl ?_
            refine x_goto (tgt := 4) E dX4_replaceBy_55 (by decide) ?_
            refine x_st E (st' := (sF st (14 + w) (zup (f) (i) (z4)))) (by refine Prod.ext (funext fun k9 => ?_) (funext fun q9 => ?_) <;> simp only [sG_1, sG_2, sA_1, sA_2, sF_1, sF_2, reduceIte] <;> (repeat' split) <;> first | rfl | omega | (subst_vars; first | rfl | omega) | simp_all) ?_
            refine x_lv E (lv' := [(0, .ref (ad (25 + w))), (1, .ref (ad (5 + a))), (2, .int (ii (t + 1))), (3, .int (ii (i + 1)))]) [3, 4, 1, 0] rfl ?_
            exact ih4 (t + 1) (i + 1) (zup (f) (i) (z4)) (by omega) (by omega) (fun j h0 => by rw [zup_ne _ _ (by omega)]; exact a2 j (by omega)) (fun j h0 h1 => if hj : j = i then (by rw [hj, zup_eq]; rw [if_neg c26] at e6; exact e6) else (by rw [zup_ne _ _ hj]; exact a3 j h0 (by omega))) (zup_b a4 (by rw [if_neg c26] at e7; omega) (by rw [if_neg c26] at e7; omega)) (by rw [isum_s _ (by omega), zup_eq, if_neg (by rw [e1] at c36; exact c36), isum_congr (g := fun j => if f j = st.2 (14 + w) j then 0 else 1) (fun j h0 h1 => by rw [zup_ne _ _ (by omega)]), ← a5])
          · refine x_goto (tgt := 52) E dX4_replaceBy_39 (by decide) ?_
            refine x_iinc (q := 55) (k := 4) (lv' := [(3, .int (ii (i + 1))), (4, .int (ii (z4))), (0, .ref (ad (25 + w))), (1, .ref (ad (5 + a))), (2, .int (ii (t)))]) E dX4_replaceBy_52 rfl (by decide) rfl rfl ?_
            refine x_goto (tgt := 4) E dX4_replaceBy_55 (by decide) ?_
            refine x_lv E (lv' := [(0, .ref (ad (25 + w))), (1, .ref (ad (5 + a))), (2, .int (ii (t))), (3, .int (ii (i + 1)))]) [2, 3, 4, 0] rfl ?_
            exact ih4 (t) (i + 1) (f) (by omega) (by omega) (fun j h0 => a2 j (by omega)) (fun j h0 h1 => if hj : j = i then (by rw [hj, a2 i (by omega)]; rw [if_neg c26] at e6; rw [e1] at c36; rw [Classical.byContradiction c36] at e6; exact e6) else a3 j h0 (by omega)) (a4) (by rw [isum_s _ (by omega), ← a5, if_pos (a2 i (by omega))]; omega)
  refine x_lv E (lv' := [(0, .ref (ad (25 + w))), (1, .ref (ad (5 + a))), (2, .int (ii (0))), (3, .int (ii (0)))]) [2, 3, 1, 0] rfl ?_
  refine x_st E (st' := (sF st (14 + w) (st.2 (14 + w)))) (by refine Prod.ext (funext fun k9 => ?_) (funext fun q9 => ?_) <;> simp only [sG_1, sG_2, sA_1, sA_2, sF_1, sF_2, reduceIte] <;> (repeat' split) <;> first | rfl | omega | (subst_vars; first | rfl | omega) | simp_all) ?_
  exact L4 _ (0) (0) (st.2 (14 + w)) (Nat.lt_succ_self _) (by omega) (fun _ _ => rfl) (fun j h0 h1 => absurd h1 (by omega)) (hb) ((isum_0 _).symm)

theorem iX4_hasTwice_X4 : ∀ w ∈ wsX40, w ∈ wsX4_hasTwice := by decide +kernel
set_option maxRecDepth 100000 in
set_option maxHeartbeats 4000000 in
theorem c_X4_hasTwice (l : Launch) (D : va_G) (T : Nat → ClassId) (ad : Nat → Nat) (hN : ∀ i j, i < 33 → j < 33 → ad i = ad j → i = j) (st : St_) (w : Nat) (hw : w < 3) (m0 : Int) (bm0 : -2147483648 ≤ m0 ∧ m0 < 2147483648) (hs : 0 ≤ st.1 (10 + w) ∧ st.1 (10 + w) ≤ 60) (hb : ∀ j : Int, 0 ≤ j → j < 60 → 0 ≤ st.2 (14 + w) j ∧ st.2 (14 + w) j ≤ 60) (hm : 1 ≤ m0 ∧ m0 ≤ 60) : CXi l yX4_hasTwice wsX4_hasTwice (rmX 1 21) [.ref (ad (25 + w)), .int (ii (m0))] D (tyX T) (XW T ad) (alX ad) st (fun z st2 => st = st2 ∧ ((z = 1 ∧ ∃ i : Int, 0 ≤ i ∧ i + 2 * m0 ≤ st.1 (10 + w) ∧ tw (st.2 (14 + w)) m0 i) ∨ (z = 0 ∧ ∀ i : Int, 0 ≤ i → i + 2 * m0 ≤ st.1 (10 + w) → ¬ tw (st.2 (14 + w)) m0 i))) := by
  refine mk_z (cc := cX4_hasTwice) (nL := 4) rfl rfl (XW_ok hN) (Nat.le_of_ble_eq_true rfl) [(0, .ref (ad (25 + w))), (1, .int (ii (m0)))] rfl (fun p e s m args below meth c A Q E RET => ?_)
  refine x_iconst (q := 1) E dX4_hasTwice_0 rfl ?_
  refine x_istore_n (q := 2) (lv' := [(2, .int (ii (0))), (0, .ref (ad (25 + w))), (1, .int (ii (m0)))]) E dX4_hasTwice_1 (by decide) rfl rfl ?_
  refine x_iconst (q := 3) E dX4_hasTwice_2 rfl ?_
  refine x_istore_n (q := 4) (lv' := [(3, .int (ii (0))), (2, .int (ii (0))), (0, .ref (ad (25 + w))), (1, .int (ii (m0)))]) E dX4_hasTwice_3 (by decide) rfl rfl ?_
  have L4 : ∀ (n : Nat) (u : Int) (i : Int), (st.1 (10 + w) - i).toNat < n → (0 ≤ i ∧ (i = 0 ∨ i + m0 ≤ st.1 (10 + w))) → (0 ≤ u ∧ u < m0 ∧ u ≤ i) → (∀ t : Int, i - u ≤ t → t < i → st.2 (14 + w) t = st.2 (14 + w) (t + m0)) → (u = i ∨ st.2 (14 + w) (i - u - 1) ≠ st.2 (14 + w) (i - u - 1 + m0)) → (∀ v : Int, 0 ≤ v → v + m0 ≤ i → ¬ tw (st.2 (14 + w)) m0 v) → XJ p l e (rmX 1 21) s m args below meth c D (XW T ad) A 4 Q 0 0 st 4 [(0, .ref (ad (25 + w))), (1, .int (ii (m0))), (2, .int (ii (u))), (3, .int (ii (i)))] [] := by
    intro n
    induction n with
    | zero => intro u i hn; exact absurd hn (Nat.not_lt_zero _)
    | succ n ih4 =>
      intro u i hn4 a1 a2 a3 a4 a5
      refine x_iload_n (q := 5) E dX4_hasTwice_4 3 rfl rfl ?_
      refine x_iload_n (q := 6) E dX4_hasTwice_5 1 rfl rfl ?_
      refine x_iadd (q := 7) E dX4_hasTwice_6 rfl ?_
      refine x_aload_n (q := 8) E dX4_hasTwice_7 0 rfl rfl ?_
      refine x_get (q := 11) E iX4_hasTwice_X4 (25 + w) (xg_word hw) rfl 1 (by decide) (by decide +kernel) rfl dX4_hasTwice_8 rfl ?_
      refine x_icmp_ge (tgt := 50) (q := 14) E dX4_hasTwice_11 (by decide) rfl (by omega) (by omega) (fun c11 => ?_) (fun c11 => ?_)
      · refine x_iconst (q := 51) E dX4_hasTwice_50 rfl ?_
        exact RET _ _ _ _ dX4_hasTwice_51 (by omega) (⟨rfl, Or.inr ⟨rfl, fun v h0 h1 => a5 v h0 (by omega)⟩⟩)
      · have e1 : wat st w i = st.2 (14 + w) i := wat_in (by omega) (by omega) (by omega)
        have e2 : wat st w (i + m0) = st.2 (14 + w) (i + m0) := wat_in (by omega) (by omega) (by omega)
        have e3 := hb i (by omega) (by omega)
        have e4 := hb (i + m0) (by omega) (by omega)
        refine x_aload_n (q := 15) E dX4_hasTwice_14 0 rfl rfl ?_
        refine x_iload_n (q := 16) E dX4_hasTwice_15 3 rfl rfl ?_
        refine x_callVi (q := 19) (n := 1) (As := [.int (ii (i))]) (r := []) E (c_X4_letterAt l D T ad hN st (w) hw (i) (by omega) (by omega)) gX4_hasTwice_X4_letterAt rfl rfl rfl (by decide +kernel) ⟨Nat.le_of_ble_eq_true rfl, Nat.le_of_ble_eq_true rfl⟩ (25 + w) (xg_word hw) rfl rfl rfl (Nat.le_of_ble_eq_true rfl) dX4_hasTwice_16 rfl (fun z1 s2 q3 => ?_)
        obtain ⟨rfl, rfl⟩ := q3
        refine x_aload_n (q := 20) E dX4_hasTwice_19 0 rfl rfl ?_
        refine x_iload_n (q := 21) E dX4_hasTwice_20 3 rfl rfl ?_
        refine x_iload_n (q := 22) E dX4_hasTwice_21 1 rfl rfl ?_
        refine x_iadd (q := 23) E dX4_hasTwice_22 rfl ?_
        refine x_callVi (q := 26) (n := 1) (As := [.int (ii ((i) + (m0)))]) (r := [.int (ii (wat st w (i)))]) E (c_X4_letterAt l D T ad hN st (w) hw ((i) + (m0)) (by omega) (by omega)) gX4_hasTwice_X4_letterAt rfl rfl rfl (by decide +kernel) ⟨Nat.le_of_ble_eq_true rfl, Nat.le_of_ble_eq_true rfl⟩ (25 + w) (xg_word hw) rfl rfl rfl (Nat.le_of_ble_eq_true rfl) dX4_hasTwice_23 rfl (fun z4 s5 q6 => ?_)
        obtain ⟨rfl, rfl⟩ := q6
        refine x_icmp_ne (tgt := 35) (q := 29) E dX4_hasTwice_26 (by decide) rfl (by omega) (by omega) (fun c26 => ?_) (fun c26 => ?_)
        · refine x_iconst (q := 36) E dX4_hasTwice_35 rfl ?_
          refine x_istore_n (q := 37) (lv' := [(2, .int (ii (0))), (0, .ref (ad (25 + w))), (1, .int (ii (m0))), (3, .int (ii (i)))]) E dX4_hasTwice_36 (by decide) rfl rfl ?_
          refine x_iload_n (q := 38) E dX4_hasTwice_37 0 rfl rfl ?_
          refine x_iload_n (q := 39) E dX4_hasTwice_38 2 rfl rfl ?_
          refine x_icmp_ne (tgt := 44) (q := 42) E dX4_hasTwice_39 (by decide) rfl (by omega) (by omega) (fun c39 => ?_) (fun c39 => ?_)
          · refine x_iinc (q := 47) (k := 3) (lv' := [(3, .int (ii (i + 1))), (2, .int (ii (0))), (0, .ref (ad (25 + w))), (1, .int (ii (m0)))]) E dX4_hasTwice_44 rfl (by decide) rfl rfl ?_
            refine x_goto (tgt := 4) E dX4_hasTwice_47 (by decide) ?_
            refine x_lv E (lv' := [(0, .ref (ad (25 + w))), (1, .int (ii (m0))), (2, .int (ii (0))), (3, .int (ii (i + 1)))]) [2, 3, 1, 0] rfl ?_
            exact ih4 (0) (i + 1) (by omega) (by omega) (by omega) (fun t h0 h1 => absurd h1 (by omega)) (Or.inr (by rw [show i + 1 - 0 - 1 = i from by omega]; rw [e1, e2] at c26; exact c26)) (fun v h0 h1 => if hv : v + m0 ≤ i then a5 v h0 hv else (fun z => by have := z (i - v) (by omega) (by omega); rw [show v + (i - v) = i from by omega] at this; rw [e1, e2] at c26; exact c26 this))
          · refine x_iconst (q := 43) E dX4_hasTwice_42 rfl ?_
            exact RET _ _ _ _ dX4_hasTwice_43 (by omega) (by exfalso; omega)
        · refine x_iload_n (q := 30) E dX4_hasTwice_29 2 rfl rfl ?_
          refine x_iconst (q := 31) E dX4_hasTwice_30 rfl ?_
          refine x_iadd (q := 32) E dX4_hasTwice_31 rfl ?_
          refine x_goto (tgt := 36) E dX4_hasTwice_32 (by decide) ?_
          refine x_istore_n (q := 37) (lv' := [(2, .int (ii ((u) + (1)))), (0, .ref (ad (25 + w))), (1, .int (ii (m0))), (3, .int (ii (i)))]) E dX4_hasTwice_36 (by decide) rfl rfl ?_
          refine x_iload_n (q := 38) E dX4_hasTwice_37 0 rfl rfl ?_
          refine x_iload_n (q := 39) E dX4_hasTwice_38 2 rfl rfl ?_
          refine x_icmp_ne (tgt := 44) (q := 42) E dX4_hasTwice_39 (by decide) rfl (by omega) (by omega) (fun c39 => ?_) (fun c39 => ?_)
          · refine x_iinc (q := 47) (k := 3) (lv' := [(3, .int (ii (i + 1))), (2, .int (ii ((u) + (1)))), (0, .ref (ad (25 + w))), (1, .int (ii (m0)))]) E dX4_hasTwice_44 rfl (by decide) rfl rfl ?_
            refine x_goto (tgt := 4) E dX4_hasTwice_47 (by decide) ?_
            refine x_lv E (lv' := [(0, .ref (ad (25 + w))), (1, .int (ii (m0))), (2, .int (ii ((u) + (1)))), (3, .int (ii (i + 1)))]) [2, 3, 1, 0] rfl ?_
            exact ih4 ((u) + (1)) (i + 1) (by omega) (by omega) (by omega) (fun t h0 h1 => if ht : t = i then (by rw [ht]; rw [e1, e2] at c26; exact Classical.byContradiction c26) else a3 t (by omega) (by omega)) (a4.elim (fun z => Or.inl (by omega)) (fun z => Or.inr (by rw [show i + 1 - (u + 1) - 1 = i - u - 1 from by omega]; exact z))) (fun v h0 h1 => if hv : v + m0 ≤ i then a5 v h0 hv else (fun z => a4.elim (fun y => absurd rfl (by omega)) (fun y => y (by have := z (i - u - 1 - v) (by omega) (by omega); rw [show v + (i - u - 1 - v) = i - u - 1 from by omega] at this; exact this))))
          · refine x_iconst (q := 43) E dX4_hasTwice_42 rfl ?_
            exact RET _ _ _ _ dX4_hasTwice_43 (by omega) (⟨rfl, Or.inl ⟨rfl, i + 1 - m0, by omega, by omega, fun t h0 h1 => if ht : i + 1 - m0 + t = i then (by rw [ht]; rw [e1, e2] at c26; exact Classical.byContradiction c26) else a3 _ (by omega) (by omega)⟩⟩)
  refine x_lv E (lv' := [(0, .ref (ad (25 + w))), (1, .int (ii (m0))), (2, .int (ii (0))), (3, .int (ii (0)))]) [2, 3, 1, 0] rfl ?_
  exact L4 _ (0) (0) (Nat.lt_succ_self _) (by omega) (by omega) (fun t h0 h1 => absurd h1 (by omega)) (Or.inl rfl) (fun v h0 h1 => absurd h1 (by omega))

theorem iX4_leastTwice_X4 : ∀ w ∈ wsX40, w ∈ wsX4_leastTwice := by decide +kernel
set_option maxRecDepth 100000 in
set_option maxHeartbeats 4000000 in
theorem c_X4_leastTwice (l : Launch) (D : va_G) (T : Nat → ClassId) (ad : Nat → Nat) (hN : ∀ i j, i < 33 → j < 33 → ad i = ad j → i = j) (st : St_) (w : Nat) (hw : w < 3) (hs : 0 ≤ st.1 (10 + w) ∧ st.1 (10 + w) ≤ 60) (hb : ∀ j : Int, 0 ≤ j → j < 60 → 0 ≤ st.2 (14 + w) j ∧ st.2 (14 + w) j ≤ 60) : CXi l yX4_leastTwice wsX4_leastTwice (rmX 2 44) [.ref (ad (25 + w))] D (tyX T) (XW T ad) (alX ad) st (fun z st2 => st = st2 ∧ 0 ≤ z ∧ z ≤ 30 ∧ (z = 0 ∨ (2 * z ≤ st.1 (10 + w) ∧ ∃ i : Int, 0 ≤ i ∧ i + 2 * z ≤ st.1 (10 + w) ∧ tw (st.2 (14 + w)) z i)) ∧ (∀ v : Int, 1 ≤ v → (z = 0 ∨ v < z) → ∀ i : Int, 0 ≤ i → i + 2 * v ≤ st.1 (10 + w) → ¬ tw (st.2 (14 + w)) v i)) := by
  refine mk_i (cc := cX4_leastTwice) (nL := 2) rfl rfl (XW_ok hN) (Nat.le_of_ble_eq_true rfl) [(0, .ref (ad (25 + w)))] rfl (fun p e s m args below meth c A Q E RET => ?_)
  refine x_iconst (q := 1) E dX4_leastTwice_0 rfl ?_
  refine x_istore_n (q := 2) (lv' := [(1, .int (ii (1))), (0, .ref (ad (25 + w)))]) E dX4_leastTwice_1 (by decide) rfl rfl ?_
  have L2 : ∀ (n : Nat) (v : Int), (st.1 (10 + w) - v).toNat < n → (1 ≤ v ∧ v ≤ 31) → (∀ x : Int, 1 ≤ x → x < v → ∀ i : Int, 0 ≤ i → i + 2 * x ≤ st.1 (10 + w) → ¬ tw (st.2 (14 + w)) x i) → XJ p l e (rmX 2 44) s m args below meth c D (XW T ad) A 2 Q 0 0 st 2 [(0, .ref (ad (25 + w))), (1, .int (ii (v)))] [] := by
    intro n
    induction n with
    | zero => intro v hn; exact absurd hn (Nat.not_lt_zero _)
    | succ n ih2 =>
      intro v hn2 a1 a2
      refine x_iload_n (q := 3) E dX4_leastTwice_2 1 rfl rfl ?_
      refine x_aload_n (q := 4) E dX4_leastTwice_3 0 rfl rfl ?_
      refine x_get (q := 7) E iX4_leastTwice_X4 (25 + w) (xg_word hw) rfl 1 (by decide) (by decide +kernel) rfl dX4_leastTwice_4 rfl ?_
      refine x_iconst (q := 8) E dX4_leastTwice_7 rfl ?_
      refine x_idiv (q := 9) E dX4_leastTwice_8 (by omega) (by omega) (by omega) (by omega) rfl ?_
      refine x_icmp_gt (tgt := 28) (q := 12) E dX4_leastTwice_9 (by decide) rfl (by omega) (by omega) (fun c9 => ?_) (fun c9 => ?_)
      · refine x_iconst (q := 29) E dX4_leastTwice_28 rfl ?_
        exact RET _ _ _ _ dX4_leastTwice_29 (⟨rfl, by omega, by omega, Or.inl rfl, fun x h0 h1 i h2 h3 => a2 x h0 (by omega) i h2 h3⟩)
      · refine x_aload_n (q := 13) E dX4_leastTwice_12 0 rfl rfl ?_
        refine x_iload_n (q := 14) E dX4_leastTwice_13 1 rfl rfl ?_
        refine x_callVi (q := 17) (n := 1) (As := [.int (ii (v))]) (r := []) E (c_X4_hasTwice l D T ad hN st (w) hw (v) (by omega) (by omega) (by omega) (by omega)) gX4_leastTwice_X4_hasTwice rfl rfl rfl (by decide +kernel) ⟨Nat.le_of_ble_eq_true rfl, Nat.le_of_ble_eq_true rfl⟩ (25 + w) (xg_word hw) rfl rfl rfl (Nat.le_of_ble_eq_true rfl) dX4_leastTwice_14 rfl (fun z1 s2 q3 => ?_)
        obtain ⟨rfl, h4⟩ := q3
        have e9 := h4
        have e8 : 0 ≤ z1 ∧ z1 ≤ 1 := by rcases e9 with q | q <;> omega
        refine x_if_eq (tgt := 22) (q := 20) E dX4_leastTwice_17 (by decide) rfl (by omega) (fun c17 => ?_) (fun c17 => ?_)
        · refine x_iinc (q := 25) (k := 1) (lv' := [(1, .int (ii (v + 1))), (0, .ref (ad (25 + w)))]) E dX4_leastTwice_22 rfl (by decide) rfl rfl ?_
          refine x_goto (tgt := 2) E dX4_leastTwice_25 (by decide) ?_
          refine x_lv E (lv' := [(0, .ref (ad (25 + w))), (1, .int (ii (v + 1)))]) [1, 0] rfl ?_
          exact ih2 (v + 1) (by omega) (by omega) (fun x h0 h1 => if hx : x = v then (by rw [hx]; exact (e9.resolve_left (fun z => by omega)).2) else a2 x h0 (by omega))
        · refine x_iload_n (q := 21) E dX4_leastTwice_20 1 rfl rfl ?_
          exact RET _ _ _ _ dX4_leastTwice_21 (⟨rfl, by omega, by omega, Or.inr ⟨by omega, (e9.resolve_right (fun z => by omega)).2⟩, fun x h0 h1 => a2 x h0 (by omega)⟩)
  refine x_lv E (lv' := [(0, .ref (ad (25 + w))), (1, .int (ii (1)))]) [1, 0] rfl ?_
  exact L2 _ (1) (Nat.lt_succ_self _) (by omega) (fun x h0 h1 => absurd h1 (by omega))
end
