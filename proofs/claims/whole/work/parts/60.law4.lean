set_option maxRecDepth 100000 in
set_option maxHeartbeats 4000000 in
theorem law_depth {p : Program} {l : Launch} {e : Env} {s : State} {m : MethodId} {below : List Frame} {meth : Method} {c : Code} {D : va_G} {T : Nat → ClassId} {ad ad2 : Nat → Nat} {A : Nat → Prop} {b L : Nat} {xs : Nat → Int32} (E : EN room_1 46 614819 p s m #[Value.ref b] meth c code 4 ret wsL_law RL D (tyX T) (WL T ad ad2) (alX ad ++ alM ad2) A) (hX : va_X b L xs s s.heap) (hbl : b < s.heap.size) (hbA : ¬ A b) (hL : L ≤ 3584) (hN : ∀ i j, i < 33 → j < 33 → ad i = ad j → i = j) (hM : ∀ i j, i < 13 → j < 13 → ad2 i = ad2 j → i = j) (hdj : ∀ i j, i < 33 → j < 13 → ad i ≠ ad2 j) {a : AB_} {s1 s2 : St_} {i : Int} (hi : 0 ≤ i ∧ i + 7 ≤ (L : Int)) (hC : CI s1 a) (hI : MI s2 a) (kk : ∀ (a1 : AB_) (t1 t2 : St_), CI t1 a1 → MI t2 a1 → XJ p l e room_1 s m #[Value.ref b] below meth c D (WL T ad ad2) A 4 (lw_Z below #[Value.ref b] s) 46 614819 (t1, t2) 916 [(0, .ref b), (1, .ref (ad 0)), (2, .ref (ad2 0)), (3, .int (ii i))] []) : XJ p l e room_1 s m #[Value.ref b] below meth c D (WL T ad ad2) A 4 (lw_Z below #[Value.ref b] s) 46 614819 (s1, s2) 711 [(0, .ref b), (1, .ref (ad 0)), (2, .ref (ad2 0)), (3, .int (ii i))] [] := by
  have k1 := hC.1
  have k2 := hI.1
  refine x_aload_n (q := 712) E dL_law_711 1 rfl rfl ?_
  refine x_aload_n (q := 713) E dL_law_712 0 rfl rfl ?_
  refine x_iload_n (q := 714) E dL_law_713 3 rfl rfl ?_
  refine x_iconst (q := 715) E dL_law_714 rfl ?_
  refine x_iadd (q := 716) E dL_law_715 rfl ?_
  refine x_sld (q := 717) E hX hbl hbA (by omega) (by omega) (by omega) dL_law_716 rfl ?_
  refine x_pLi (q := 720) (n := 1) (As := [.int (ii (sc xs (i + 1)))]) (r := []) E (c_X5_depth l D T ad hN s1 (sc xs (i + 1)) (sc_b xs (i + 1)) a hC) gL_law_X5_depth rfl rfl rfl (by decide +kernel) ⟨Nat.le_of_ble_eq_true rfl, Nat.le_of_ble_eq_true rfl⟩ 0 rfl rfl rfl rfl (Nat.le_of_ble_eq_true rfl) (fun q hq => E.2.2.2.2.2.2.2.2.2.1 q (List.mem_append_left _ hq)) hdj dL_law_717 rfl (fun z1 t1 q1 => ?_)
  refine x_aload_n (q := 721) E dL_law_720 2 rfl rfl ?_
  refine x_aload_n (q := 722) E dL_law_721 0 rfl rfl ?_
  refine x_iload_n (q := 723) E dL_law_722 3 rfl rfl ?_
  refine x_iconst (q := 724) E dL_law_723 rfl ?_
  refine x_iadd (q := 725) E dL_law_724 rfl ?_
  refine x_sld (q := 726) E hX hbl hbA (by omega) (by omega) (by omega) dL_law_725 rfl ?_
  refine x_pRi (q := 729) (n := 1) (As := [.int (ii (sc xs (i + 1)))]) (r := [.int (ii z1)]) E (c_X6_depth l D T ad2 hM s2 (sc xs (i + 1)) (sc_b xs (i + 1)) a hI) gL_law_X6_depth rfl rfl rfl (by decide +kernel) ⟨Nat.le_of_ble_eq_true rfl, Nat.le_of_ble_eq_true rfl⟩ 0 rfl rfl rfl rfl (Nat.le_of_ble_eq_true rfl) (fun q hq => E.2.2.2.2.2.2.2.2.2.1 q (List.mem_append_right _ hq)) hdj dL_law_726 rfl (fun z2 t2 q2 => ?_)
  obtain ⟨e1, hC1⟩ := q1
  obtain ⟨e2, hI1⟩ := q2
  subst e1
  subst e2
  refine x_same (tgt := 916) E dL_law_729 (by decide) ?_
  exact kk _ _ _ hC1 hI1

set_option maxRecDepth 100000 in
set_option maxHeartbeats 4000000 in
theorem law_many {p : Program} {l : Launch} {e : Env} {s : State} {m : MethodId} {below : List Frame} {meth : Method} {c : Code} {D : va_G} {T : Nat → ClassId} {ad ad2 : Nat → Nat} {A : Nat → Prop} {b L : Nat} {xs : Nat → Int32} (E : EN room_1 46 614819 p s m #[Value.ref b] meth c code 4 ret wsL_law RL D (tyX T) (WL T ad ad2) (alX ad ++ alM ad2) A) (hX : va_X b L xs s s.heap) (hbl : b < s.heap.size) (hbA : ¬ A b) (hL : L ≤ 3584) (hN : ∀ i j, i < 33 → j < 33 → ad i = ad j → i = j) (hM : ∀ i j, i < 13 → j < 13 → ad2 i = ad2 j → i = j) (hdj : ∀ i j, i < 33 → j < 13 → ad i ≠ ad2 j) {a : AB_} {s1 s2 : St_} {i : Int} (hi : 0 ≤ i ∧ i + 7 ≤ (L : Int)) (hC : CI s1 a) (hI : MI s2 a) (kk : ∀ (a1 : AB_) (t1 t2 : St_), CI t1 a1 → MI t2 a1 → XJ p l e room_1 s m #[Value.ref b] below meth c D (WL T ad ad2) A 4 (lw_Z below #[Value.ref b] s) 46 614819 (t1, t2) 916 [(0, .ref b), (1, .ref (ad 0)), (2, .ref (ad2 0)), (3, .int (ii i))] []) : XJ p l e room_1 s m #[Value.ref b] below meth c D (WL T ad ad2) A 4 (lw_Z below #[Value.ref b] s) 46 614819 (s1, s2) 734 [(0, .ref b), (1, .ref (ad 0)), (2, .ref (ad2 0)), (3, .int (ii i))] [] := by
  have k1 := hC.1
  have k2 := hI.1
  refine x_aload_n (q := 735) E dL_law_734 1 rfl rfl ?_
  refine x_aload_n (q := 736) E dL_law_735 0 rfl rfl ?_
  refine x_iload_n (q := 737) E dL_law_736 3 rfl rfl ?_
  refine x_iconst (q := 738) E dL_law_737 rfl ?_
  refine x_iadd (q := 739) E dL_law_738 rfl ?_
  refine x_sld (q := 740) E hX hbl hbA (by omega) (by omega) (by omega) dL_law_739 rfl ?_
  refine x_aload_n (q := 741) E dL_law_740 0 rfl rfl ?_
  refine x_iload_n (q := 742) E dL_law_741 3 rfl rfl ?_
  refine x_iconst (q := 743) E dL_law_742 rfl ?_
  refine x_iadd (q := 744) E dL_law_743 rfl ?_
  refine x_sld (q := 745) E hX hbl hbA (by omega) (by omega) (by omega) dL_law_744 rfl ?_
  refine x_pLi (q := 748) (n := 2) (As := [.int (ii (sc xs (i + 1))), .int (ii (sc xs (i + 2)))]) (r := []) E (c_X5_many l D T ad hN s1 (sc xs (i + 1)) (sc_b xs (i + 1)) (sc xs (i + 2)) (sc_b xs (i + 2)) a hC) gL_law_X5_many rfl rfl rfl (by decide +kernel) ⟨Nat.le_of_ble_eq_true rfl, Nat.le_of_ble_eq_true rfl⟩ 0 rfl rfl rfl rfl (Nat.le_of_ble_eq_true rfl) (fun q hq => E.2.2.2.2.2.2.2.2.2.1 q (List.mem_append_left _ hq)) hdj dL_law_745 rfl (fun z1 t1 q1 => ?_)
  refine x_aload_n (q := 749) E dL_law_748 2 rfl rfl ?_
  refine x_aload_n (q := 750) E dL_law_749 0 rfl rfl ?_
  refine x_iload_n (q := 751) E dL_law_750 3 rfl rfl ?_
  refine x_iconst (q := 752) E dL_law_751 rfl ?_
  refine x_iadd (q := 753) E dL_law_752 rfl ?_
  refine x_sld (q := 754) E hX hbl hbA (by omega) (by omega) (by omega) dL_law_753 rfl ?_
  refine x_aload_n (q := 755) E dL_law_754 0 rfl rfl ?_
  refine x_iload_n (q := 756) E dL_law_755 3 rfl rfl ?_
  refine x_iconst (q := 757) E dL_law_756 rfl ?_
  refine x_iadd (q := 758) E dL_law_757 rfl ?_
  refine x_sld (q := 759) E hX hbl hbA (by omega) (by omega) (by omega) dL_law_758 rfl ?_
  refine x_pRi (q := 762) (n := 2) (As := [.int (ii (sc xs (i + 1))), .int (ii (sc xs (i + 2)))]) (r := [.int (ii z1)]) E (c_X6_many l D T ad2 hM s2 (sc xs (i + 1)) (sc_b xs (i + 1)) (sc xs (i + 2)) (sc_b xs (i + 2)) a hI) gL_law_X6_many rfl rfl rfl (by decide +kernel) ⟨Nat.le_of_ble_eq_true rfl, Nat.le_of_ble_eq_true rfl⟩ 0 rfl rfl rfl rfl (Nat.le_of_ble_eq_true rfl) (fun q hq => E.2.2.2.2.2.2.2.2.2.1 q (List.mem_append_right _ hq)) hdj dL_law_759 rfl (fun z2 t2 q2 => ?_)
  obtain ⟨e1, hC1⟩ := q1
  obtain ⟨e2, hI1⟩ := q2
  subst e1
  subst e2
  refine x_same (tgt := 916) E dL_law_762 (by decide) ?_
  exact kk _ _ _ hC1 hI1

set_option maxRecDepth 100000 in
set_option maxHeartbeats 4000000 in
theorem law_isMirror {p : Program} {l : Launch} {e : Env} {s : State} {m : MethodId} {below : List Frame} {meth : Method} {c : Code} {D : va_G} {T : Nat → ClassId} {ad ad2 : Nat → Nat} {A : Nat → Prop} {b L : Nat} {xs : Nat → Int32} (E : EN room_1 46 614819 p s m #[Value.ref b] meth c code 4 ret wsL_law RL D (tyX T) (WL T ad ad2) (alX ad ++ alM ad2) A) (hX : va_X b L xs s s.heap) (hbl : b < s.heap.size) (hbA : ¬ A b) (hL : L ≤ 3584) (hN : ∀ i j, i < 33 → j < 33 → ad i = ad j → i = j) (hM : ∀ i j, i < 13 → j < 13 → ad2 i = ad2 j → i = j) (hdj : ∀ i j, i < 33 → j < 13 → ad i ≠ ad2 j) {a : AB_} {s1 s2 : St_} {i : Int} (hi : 0 ≤ i ∧ i + 7 ≤ (L : Int)) (hC : CI s1 a) (hI : MI s2 a) (kk : ∀ (a1 : AB_) (t1 t2 : St_), CI t1 a1 → MI t2 a1 → XJ p l e room_1 s m #[Value.ref b] below meth c D (WL T ad ad2) A 4 (lw_Z below #[Value.ref b] s) 46 614819 (t1, t2) 916 [(0, .ref b), (1, .ref (ad 0)), (2, .ref (ad2 0)), (3, .int (ii i))] []) : XJ p l e room_1 s m #[Value.ref b] below meth c D (WL T ad ad2) A 4 (lw_Z below #[Value.ref b] s) 46 614819 (s1, s2) 767 [(0, .ref b), (1, .ref (ad 0)), (2, .ref (ad2 0)), (3, .int (ii i))] [] := by
  have k1 := hC.1
  have k2 := hI.1
  refine x_aload_n (q := 768) E dL_law_767 1 rfl rfl ?_
  refine x_pLi (q := 771) (n := 0) (As := []) (r := []) E (c_X5_isMirror l D T ad hN s1 a hC) gL_law_X5_isMirror rfl rfl rfl (by decide +kernel) ⟨Nat.le_of_ble_eq_true rfl, Nat.le_of_ble_eq_true rfl⟩ 0 rfl rfl rfl rfl (Nat.le_of_ble_eq_true rfl) (fun q hq => E.2.2.2.2.2.2.2.2.2.1 q (List.mem_append_left _ hq)) hdj dL_law_768 rfl (fun z1 t1 q1 => ?_)
  refine x_aload_n (q := 772) E dL_law_771 2 rfl rfl ?_
  refine x_pRi (q := 775) (n := 0) (As := []) (r := [.int (ii z1)]) E (c_X6_isMirror l D T ad2 hM s2 a hI) gL_law_X6_isMirror rfl rfl rfl (by decide +kernel) ⟨Nat.le_of_ble_eq_true rfl, Nat.le_of_ble_eq_true rfl⟩ 0 rfl rfl rfl rfl (Nat.le_of_ble_eq_true rfl) (fun q hq => E.2.2.2.2.2.2.2.2.2.1 q (List.mem_append_right _ hq)) hdj dL_law_772 rfl (fun z2 t2 q2 => ?_)
  obtain ⟨e1, hC1⟩ := q1
  obtain ⟨e2, hI1⟩ := q2
  subst e1
  subst e2
  refine x_same (tgt := 916) E dL_law_775 (by decide) ?_
  exact kk _ _ _ hC1 hI1

set_option maxRecDepth 100000 in
set_option maxHeartbeats 4000000 in
theorem law_twice {p : Program} {l : Launch} {e : Env} {s : State} {m : MethodId} {below : List Frame} {meth : Method} {c : Code} {D : va_G} {T : Nat → ClassId} {ad ad2 : Nat → Nat} {A : Nat → Prop} {b L : Nat} {xs : Nat → Int32} (E : EN room_1 46 614819 p s m #[Value.ref b] meth c code 4 ret wsL_law RL D (tyX T) (WL T ad ad2) (alX ad ++ alM ad2) A) (hX : va_X b L xs s s.heap) (hbl : b < s.heap.size) (hbA : ¬ A b) (hL : L ≤ 3584) (hN : ∀ i j, i < 33 → j < 33 → ad i = ad j → i = j) (hM : ∀ i j, i < 13 → j < 13 → ad2 i = ad2 j → i = j) (hdj : ∀ i j, i < 33 → j < 13 → ad i ≠ ad2 j) {a : AB_} {s1 s2 : St_} {i : Int} (hi : 0 ≤ i ∧ i + 7 ≤ (L : Int)) (hC : CI s1 a) (hI : MI s2 a) (kk : ∀ (a1 : AB_) (t1 t2 : St_), CI t1 a1 → MI t2 a1 → XJ p l e room_1 s m #[Value.ref b] below meth c D (WL T ad ad2) A 4 (lw_Z below #[Value.ref b] s) 46 614819 (t1, t2) 916 [(0, .ref b), (1, .ref (ad 0)), (2, .ref (ad2 0)), (3, .int (ii i))] []) : XJ p l e room_1 s m #[Value.ref b] below meth c D (WL T ad ad2) A 4 (lw_Z below #[Value.ref b] s) 46 614819 (s1, s2) 780 [(0, .ref b), (1, .ref (ad 0)), (2, .ref (ad2 0)), (3, .int (ii i))] [] := by
  have k1 := hC.1
  have k2 := hI.1
  refine x_aload_n (q := 781) E dL_law_780 1 rfl rfl ?_
  refine x_pLi (q := 784) (n := 0) (As := []) (r := []) E (c_X5_twice l D T ad hN s1 a hC) gL_law_X5_twice rfl rfl rfl (by decide +kernel) ⟨Nat.le_of_ble_eq_true rfl, Nat.le_of_ble_eq_true rfl⟩ 0 rfl rfl rfl rfl (Nat.le_of_ble_eq_true rfl) (fun q hq => E.2.2.2.2.2.2.2.2.2.1 q (List.mem_append_left _ hq)) hdj dL_law_781 rfl (fun z1 t1 q1 => ?_)
  refine x_aload_n (q := 785) E dL_law_784 2 rfl rfl ?_
  refine x_pRi (q := 788) (n := 0) (As := []) (r := [.int (ii z1)]) E (c_X6_twice l D T ad2 hM s2 a hI) gL_law_X6_twice rfl rfl rfl (by decide +kernel) ⟨Nat.le_of_ble_eq_true rfl, Nat.le_of_ble_eq_true rfl⟩ 0 rfl rfl rfl rfl (Nat.le_of_ble_eq_true rfl) (fun q hq => E.2.2.2.2.2.2.2.2.2.1 q (List.mem_append_right _ hq)) hdj dL_law_785 rfl (fun z2 t2 q2 => ?_)
  obtain ⟨e1, hC1⟩ := q1
  obtain ⟨e2, hI1⟩ := q2
  subst e1
  subst e2
  refine x_same (tgt := 916) E dL_law_788 (by decide) ?_
  exact kk _ _ _ hC1 hI1
