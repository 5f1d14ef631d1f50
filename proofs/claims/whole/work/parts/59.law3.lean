set_option maxRecDepth 100000 in
set_option maxHeartbeats 4000000 in
theorem law_letter {p : Program} {l : Launch} {e : Env} {s : State} {m : MethodId} {below : List Frame} {meth : Method} {c : Code} {D : va_G} {T : Nat → ClassId} {ad ad2 : Nat → Nat} {A : Nat → Prop} {b L : Nat} {xs : Nat → Int32} (E : EN room_1 46 614819 p s m #[Value.ref b] meth c code 4 ret wsL_law RL D (tyX T) (WL T ad ad2) (alX ad ++ alM ad2) A) (hX : va_X b L xs s s.heap) (hbl : b < s.heap.size) (hbA : ¬ A b) (hL : L ≤ 3584) (hN : ∀ i j, i < 33 → j < 33 → ad i = ad j → i = j) (hM : ∀ i j, i < 13 → j < 13 → ad2 i = ad2 j → i = j) (hdj : ∀ i j, i < 33 → j < 13 → ad i ≠ ad2 j) {a : AB_} {s1 s2 : St_} {i : Int} (hi : 0 ≤ i ∧ i + 7 ≤ (L : Int)) (hC : CI s1 a) (hI : MI s2 a) (kk : ∀ (a1 : AB_) (t1 t2 : St_), CI t1 a1 → MI t2 a1 → XJ p l e room_1 s m #[Value.ref b] below meth c D (WL T ad ad2) A 4 (lw_Z below #[Value.ref b] s) 46 614819 (t1, t2) 916 [(0, .ref b), (1, .ref (ad 0)), (2, .ref (ad2 0)), (3, .int (ii i))] []) : XJ p l e room_1 s m #[Value.ref b] below meth c D (WL T ad ad2) A 4 (lw_Z below #[Value.ref b] s) 46 614819 (s1, s2) 583 [(0, .ref b), (1, .ref (ad 0)), (2, .ref (ad2 0)), (3, .int (ii i))] [] := by
  have k1 := hC.1
  have k2 := hI.1
  refine x_aload_n (q := 584) E dL_law_583 1 rfl rfl ?_
  refine x_aload_n (q := 585) E dL_law_584 0 rfl rfl ?_
  refine x_iload_n (q := 586) E dL_law_585 3 rfl rfl ?_
  refine x_iconst (q := 587) E dL_law_586 rfl ?_
  refine x_iadd (q := 588) E dL_law_587 rfl ?_
  refine x_sld (q := 589) E hX hbl hbA (by omega) (by omega) (by omega) dL_law_588 rfl ?_
  refine x_pLi (q := 592) (n := 1) (As := [.int (ii (sc xs (i + 1)))]) (r := []) E (c_X5_letter l D T ad hN s1 (sc xs (i + 1)) (sc_b xs (i + 1)) a hC) gL_law_X5_letter rfl rfl rfl (by decide +kernel) ⟨Nat.le_of_ble_eq_true rfl, Nat.le_of_ble_eq_true rfl⟩ 0 rfl rfl rfl rfl (Nat.le_of_ble_eq_true rfl) (fun q hq => E.2.2.2.2.2.2.2.2.2.1 q (List.mem_append_left _ hq)) hdj dL_law_589 rfl (fun z1 t1 q1 => ?_)
  refine x_aload_n (q := 593) E dL_law_592 2 rfl rfl ?_
  refine x_aload_n (q := 594) E dL_law_593 0 rfl rfl ?_
  refine x_iload_n (q := 595) E dL_law_594 3 rfl rfl ?_
  refine x_iconst (q := 596) E dL_law_595 rfl ?_
  refine x_iadd (q := 597) E dL_law_596 rfl ?_
  refine x_sld (q := 598) E hX hbl hbA (by omega) (by omega) (by omega) dL_law_597 rfl ?_
  refine x_pRi (q := 601) (n := 1) (As := [.int (ii (sc xs (i + 1)))]) (r := [.int (ii z1)]) E (c_X6_letter l D T ad2 hM s2 (sc xs (i + 1)) (sc_b xs (i + 1)) a hI) gL_law_X6_letter rfl rfl rfl (by decide +kernel) ⟨Nat.le_of_ble_eq_true rfl, Nat.le_of_ble_eq_true rfl⟩ 0 rfl rfl rfl rfl (Nat.le_of_ble_eq_true rfl) (fun q hq => E.2.2.2.2.2.2.2.2.2.1 q (List.mem_append_right _ hq)) hdj dL_law_598 rfl (fun z2 t2 q2 => ?_)
  obtain ⟨e1, hC1⟩ := q1
  obtain ⟨e2, hI1⟩ := q2
  subst e1
  subst e2
  refine x_same (tgt := 916) E dL_law_601 (by decide) ?_
  exact kk _ _ _ hC1 hI1

set_option maxRecDepth 100000 in
set_option maxHeartbeats 4000000 in
theorem law_runs {p : Program} {l : Launch} {e : Env} {s : State} {m : MethodId} {below : List Frame} {meth : Method} {c : Code} {D : va_G} {T : Nat → ClassId} {ad ad2 : Nat → Nat} {A : Nat → Prop} {b L : Nat} {xs : Nat → Int32} (E : EN room_1 46 614819 p s m #[Value.ref b] meth c code 4 ret wsL_law RL D (tyX T) (WL T ad ad2) (alX ad ++ alM ad2) A) (hX : va_X b L xs s s.heap) (hbl : b < s.heap.size) (hbA : ¬ A b) (hL : L ≤ 3584) (hN : ∀ i j, i < 33 → j < 33 → ad i = ad j → i = j) (hM : ∀ i j, i < 13 → j < 13 → ad2 i = ad2 j → i = j) (hdj : ∀ i j, i < 33 → j < 13 → ad i ≠ ad2 j) {a : AB_} {s1 s2 : St_} {i : Int} (hi : 0 ≤ i ∧ i + 7 ≤ (L : Int)) (hC : CI s1 a) (hI : MI s2 a) (kk : ∀ (a1 : AB_) (t1 t2 : St_), CI t1 a1 → MI t2 a1 → XJ p l e room_1 s m #[Value.ref b] below meth c D (WL T ad ad2) A 4 (lw_Z below #[Value.ref b] s) 46 614819 (t1, t2) 916 [(0, .ref b), (1, .ref (ad 0)), (2, .ref (ad2 0)), (3, .int (ii i))] []) : XJ p l e room_1 s m #[Value.ref b] below meth c D (WL T ad ad2) A 4 (lw_Z below #[Value.ref b] s) 46 614819 (s1, s2) 606 [(0, .ref b), (1, .ref (ad 0)), (2, .ref (ad2 0)), (3, .int (ii i))] [] := by
  have k1 := hC.1
  have k2 := hI.1
  refine x_aload_n (q := 607) E dL_law_606 1 rfl rfl ?_
  refine x_pLi (q := 610) (n := 0) (As := []) (r := []) E (c_X5_runs l D T ad hN s1 a hC) gL_law_X5_runs rfl rfl rfl (by decide +kernel) ⟨Nat.le_of_ble_eq_true rfl, Nat.le_of_ble_eq_true rfl⟩ 0 rfl rfl rfl rfl (Nat.le_of_ble_eq_true rfl) (fun q hq => E.2.2.2.2.2.2.2.2.2.1 q (List.mem_append_left _ hq)) hdj dL_law_607 rfl (fun z1 t1 q1 => ?_)
  refine x_aload_n (q := 611) E dL_law_610 2 rfl rfl ?_
  refine x_pRi (q := 614) (n := 0) (As := []) (r := [.int (ii z1)]) E (c_X6_runs l D T ad2 hM s2 a hI) gL_law_X6_runs rfl rfl rfl (by decide +kernel) ⟨Nat.le_of_ble_eq_true rfl, Nat.le_of_ble_eq_true rfl⟩ 0 rfl rfl rfl rfl (Nat.le_of_ble_eq_true rfl) (fun q hq => E.2.2.2.2.2.2.2.2.2.1 q (List.mem_append_right _ hq)) hdj dL_law_611 rfl (fun z2 t2 q2 => ?_)
  obtain ⟨e1, hC1⟩ := q1
  obtain ⟨e2, hI1⟩ := q2
  subst e1
  subst e2
  refine x_same (tgt := 916) E dL_law_614 (by decide) ?_
  exact kk _ _ _ hC1 hI1

set_option maxRecDepth 100000 in
set_option maxHeartbeats 4000000 in
theorem law_shorten {p : Program} {l : Launch} {e : Env} {s : State} {m : MethodId} {below : List Frame} {meth : Method} {c : Code} {D : va_G} {T : Nat → ClassId} {ad ad2 : Nat → Nat} {A : Nat → Prop} {b L : Nat} {xs : Nat → Int32} (E : EN room_1 46 614819 p s m #[Value.ref b] meth c code 4 ret wsL_law RL D (tyX T) (WL T ad ad2) (alX ad ++ alM ad2) A) (hX : va_X b L xs s s.heap) (hbl : b < s.heap.size) (hbA : ¬ A b) (hL : L ≤ 3584) (hN : ∀ i j, i < 33 → j < 33 → ad i = ad j → i = j) (hM : ∀ i j, i < 13 → j < 13 → ad2 i = ad2 j → i = j) (hdj : ∀ i j, i < 33 → j < 13 → ad i ≠ ad2 j) {a : AB_} {s1 s2 : St_} {i : Int} (hi : 0 ≤ i ∧ i + 7 ≤ (L : Int)) (hC : CI s1 a) (hI : MI s2 a) (kk : ∀ (a1 : AB_) (t1 t2 : St_), CI t1 a1 → MI t2 a1 → XJ p l e room_1 s m #[Value.ref b] below meth c D (WL T ad ad2) A 4 (lw_Z below #[Value.ref b] s) 46 614819 (t1, t2) 916 [(0, .ref b), (1, .ref (ad 0)), (2, .ref (ad2 0)), (3, .int (ii i))] []) : XJ p l e room_1 s m #[Value.ref b] below meth c D (WL T ad ad2) A 4 (lw_Z below #[Value.ref b] s) 46 614819 (s1, s2) 619 [(0, .ref b), (1, .ref (ad 0)), (2, .ref (ad2 0)), (3, .int (ii i))] [] := by
  have k1 := hC.1
  have k2 := hI.1
  refine x_aload_n (q := 620) E dL_law_619 1 rfl rfl ?_
  refine x_aload_n (q := 621) E dL_law_620 0 rfl rfl ?_
  refine x_iload_n (q := 622) E dL_law_621 3 rfl rfl ?_
  refine x_iconst (q := 623) E dL_law_622 rfl ?_
  refine x_iadd (q := 624) E dL_law_623 rfl ?_
  refine x_sld (q := 625) E hX hbl hbA (by omega) (by omega) (by omega) dL_law_624 rfl ?_
  refine x_pLi (q := 628) (n := 1) (As := [.int (ii (sc xs (i + 1)))]) (r := []) E (c_X5_shorten l D T ad hN s1 (sc xs (i + 1)) (sc_b xs (i + 1)) a hC) gL_law_X5_shorten rfl rfl rfl (by decide +kernel) ⟨Nat.le_of_ble_eq_true rfl, Nat.le_of_ble_eq_true rfl⟩ 0 rfl rfl rfl rfl (Nat.le_of_ble_eq_true rfl) (fun q hq => E.2.2.2.2.2.2.2.2.2.1 q (List.mem_append_left _ hq)) hdj dL_law_625 rfl (fun z1 t1 q1 => ?_)
  refine x_aload_n (q := 629) E dL_law_628 2 rfl rfl ?_
  refine x_aload_n (q := 630) E dL_law_629 0 rfl rfl ?_
  refine x_iload_n (q := 631) E dL_law_630 3 rfl rfl ?_
  refine x_iconst (q := 632) E dL_law_631 rfl ?_
  refine x_iadd (q := 633) E dL_law_632 rfl ?_
  refine x_sld (q := 634) E hX hbl hbA (by omega) (by omega) (by omega) dL_law_633 rfl ?_
  refine x_pRi (q := 637) (n := 1) (As := [.int (ii (sc xs (i + 1)))]) (r := [.int (ii z1)]) E (c_X6_shorten l D T ad2 hM s2 (sc xs (i + 1)) (sc_b xs (i + 1)) a hI) gL_law_X6_shorten rfl rfl rfl (by decide +kernel) ⟨Nat.le_of_ble_eq_true rfl, Nat.le_of_ble_eq_true rfl⟩ 0 rfl rfl rfl rfl (Nat.le_of_ble_eq_true rfl) (fun q hq => E.2.2.2.2.2.2.2.2.2.1 q (List.mem_append_right _ hq)) hdj dL_law_634 rfl (fun z2 t2 q2 => ?_)
  obtain ⟨e1, hC1⟩ := q1
  obtain ⟨e2, hI1⟩ := q2
  subst e1
  subst e2
  refine x_same (tgt := 916) E dL_law_637 (by decide) ?_
  exact kk _ _ _ hC1 hI1

set_option maxRecDepth 100000 in
set_option maxHeartbeats 4000000 in
theorem law_lengthen {p : Program} {l : Launch} {e : Env} {s : State} {m : MethodId} {below : List Frame} {meth : Method} {c : Code} {D : va_G} {T : Nat → ClassId} {ad ad2 : Nat → Nat} {A : Nat → Prop} {b L : Nat} {xs : Nat → Int32} (E : EN room_1 46 614819 p s m #[Value.ref b] meth c code 4 ret wsL_law RL D (tyX T) (WL T ad ad2) (alX ad ++ alM ad2) A) (hX : va_X b L xs s s.heap) (hbl : b < s.heap.size) (hbA : ¬ A b) (hL : L ≤ 3584) (hN : ∀ i j, i < 33 → j < 33 → ad i = ad j → i = j) (hM : ∀ i j, i < 13 → j < 13 → ad2 i = ad2 j → i = j) (hdj : ∀ i j, i < 33 → j < 13 → ad i ≠ ad2 j) {a : AB_} {s1 s2 : St_} {i : Int} (hi : 0 ≤ i ∧ i + 7 ≤ (L : Int)) (hC : CI s1 a) (hI : MI s2 a) (kk : ∀ (a1 : AB_) (t1 t2 : St_), CI t1 a1 → MI t2 a1 → XJ p l e room_1 s m #[Value.ref b] below meth c D (WL T ad ad2) A 4 (lw_Z below #[Value.ref b] s) 46 614819 (t1, t2) 916 [(0, .ref b), (1, .ref (ad 0)), (2, .ref (ad2 0)), (3, .int (ii i))] []) : XJ p l e room_1 s m #[Value.ref b] below meth c D (WL T ad ad2) A 4 (lw_Z below #[Value.ref b] s) 46 614819 (s1, s2) 642 [(0, .ref b), (1, .ref (ad 0)), (2, .ref (ad2 0)), (3, .int (ii i))] [] := by
  have k1 := hC.1
  have k2 := hI.1
  rcases (show (0 ≤ sc xs (i + 1) ∧ sc xs (i + 1) < 4) ∨ (sc xs (i + 1) < 0 ∨ 4 ≤ sc xs (i + 1)) by omega) with c9 | c9
  · obtain ⟨r, hr⟩ : ∃ r : Nat, sc xs (i + 1) = (r : Int) := ⟨(sc xs (i + 1)).toNat, by omega⟩
    have hr9 : r < 4 := by omega
    refine x_aload_n (q := 643) E dL_law_642 1 rfl rfl ?_
    refine x_aload_n (q := 644) E dL_law_643 0 rfl rfl ?_
    refine x_iload_n (q := 645) E dL_law_644 3 rfl rfl ?_
    refine x_iconst (q := 646) E dL_law_645 rfl ?_
    refine x_iadd (q := 647) E dL_law_646 rfl ?_
    refine x_sld (q := 648) E hX hbl hbA (by omega) (by omega) (by omega) dL_law_647 rfl ?_
    refine x_ti hr ?_
    refine x_aload_n (q := 649) E dL_law_648 0 rfl rfl ?_
    refine x_iload_n (q := 650) E dL_law_649 3 rfl rfl ?_
    refine x_iconst (q := 651) E dL_law_650 rfl ?_
    refine x_iadd (q := 652) E dL_law_651 rfl ?_
    refine x_sld (q := 653) E hX hbl hbA (by omega) (by omega) (by omega) dL_law_652 rfl ?_
    refine x_pLi (q := 656) (n := 2) (As := [.int (ii ((r : Int))), .int (ii (sc xs (i + 2)))]) (r := []) E (c_X5_lengthen l D T ad hN s1 r hr9 (sc xs (i + 2)) (sc_b xs (i + 2)) a hC) gL_law_X5_lengthen rfl rfl rfl (by decide +kernel) ⟨Nat.le_of_ble_eq_true rfl, Nat.le_of_ble_eq_true rfl⟩ 0 rfl rfl rfl rfl (Nat.le_of_ble_eq_true rfl) (fun q hq => E.2.2.2.2.2.2.2.2.2.1 q (List.mem_append_left _ hq)) hdj dL_law_653 rfl (fun z1 t1 q1 => ?_)
    refine x_aload_n (q := 657) E dL_law_656 2 rfl rfl ?_
    refine x_aload_n (q := 658) E dL_law_657 0 rfl rfl ?_
    refine x_iload_n (q := 659) E dL_law_658 3 rfl rfl ?_
    refine x_iconst (q := 660) E dL_law_659 rfl ?_
    refine x_iadd (q := 661) E dL_law_660 rfl ?_
    refine x_sld (q := 662) E hX hbl hbA (by omega) (by omega) (by omega) dL_law_661 rfl ?_
    refine x_ti hr ?_
    refine x_aload_n (q := 663) E dL_law_662 0 rfl rfl ?_
    refine x_iload_n (q := 664) E dL_law_663 3 rfl rfl ?_
    refine x_iconst (q := 665) E dL_law_664 rfl ?_
    refine x_iadd (q := 666) E dL_law_665 rfl ?_
    refine x_sld (q := 667) E hX hbl hbA (by omega) (by omega) (by omega) dL_law_666 rfl ?_
    refine x_pRi (q := 670) (n := 2) (As := [.int (ii ((r : Int))), .int (ii (sc xs (i + 2)))]) (r := [.int (ii z1)]) E (c_X6_lengthen l D T ad2 hM s2 r hr9 (sc xs (i + 2)) (sc_b xs (i + 2)) a hI) gL_law_X6_lengthen rfl rfl rfl (by decide +kernel) ⟨Nat.le_of_ble_eq_true rfl, Nat.le_of_ble_eq_true rfl⟩ 0 rfl rfl rfl rfl (Nat.le_of_ble_eq_true rfl) (fun q hq => E.2.2.2.2.2.2.2.2.2.1 q (List.mem_append_right _ hq)) hdj dL_law_667 rfl (fun z2 t2 q2 => ?_)
    obtain ⟨e1, hC1⟩ := q1
    obtain ⟨e2, hI1⟩ := q2
    subst e1
    subst e2
    refine x_same (tgt := 916) E dL_law_670 (by decide) ?_
    exact kk _ _ _ hC1 hI1
  · refine x_aload_n (q := 643) E dL_law_642 1 rfl rfl ?_
    refine x_aload_n (q := 644) E dL_law_643 0 rfl rfl ?_
    refine x_iload_n (q := 645) E dL_law_644 3 rfl rfl ?_
    refine x_iconst (q := 646) E dL_law_645 rfl ?_
    refine x_iadd (q := 647) E dL_law_646 rfl ?_
    refine x_sld (q := 648) E hX hbl hbA (by omega) (by omega) (by omega) dL_law_647 rfl ?_
    refine x_aload_n (q := 649) E dL_law_648 0 rfl rfl ?_
    refine x_iload_n (q := 650) E dL_law_649 3 rfl rfl ?_
    refine x_iconst (q := 651) E dL_law_650 rfl ?_
    refine x_iadd (q := 652) E dL_law_651 rfl ?_
    refine x_sld (q := 653) E hX hbl hbA (by omega) (by omega) (by omega) dL_law_652 rfl ?_
    refine x_pLi (q := 656) (n := 2) (As := [.int (ii (sc xs (i + 1))), .int (ii (sc xs (i + 2)))]) (r := []) E (c_X5_lengthen_n l D T ad hN s1 (sc xs (i + 1)) (sc_b xs (i + 1)) (sc xs (i + 2)) (sc_b xs (i + 2)) (by omega) a hC) gL_law_X5_lengthen rfl rfl rfl (by decide +kernel) ⟨Nat.le_of_ble_eq_true rfl, Nat.le_of_ble_eq_true rfl⟩ 0 rfl rfl rfl rfl (Nat.le_of_ble_eq_true rfl) (fun q hq => E.2.2.2.2.2.2.2.2.2.1 q (List.mem_append_left _ hq)) hdj dL_law_653 rfl (fun z1 t1 q1 => ?_)
    refine x_aload_n (q := 657) E dL_law_656 2 rfl rfl ?_
    refine x_aload_n (q := 658) E dL_law_657 0 rfl rfl ?_
    refine x_iload_n (q := 659) E dL_law_658 3 rfl rfl ?_
    refine x_iconst (q := 660) E dL_law_659 rfl ?_
    refine x_iadd (q := 661) E dL_law_660 rfl ?_
    refine x_sld (q := 662) E hX hbl hbA (by omega) (by omega) (by omega) dL_law_661 rfl ?_
    refine x_aload_n (q := 663) E dL_law_662 0 rfl rfl ?_
    refine x_iload_n (q := 664) E dL_law_663 3 rfl rfl ?_
    refine x_iconst (q := 665) E dL_law_664 rfl ?_
    refine x_iadd (q := 666) E dL_law_665 rfl ?_
    refine x_sld (q := 667) E hX hbl hbA (by omega) (by omega) (by omega) dL_law_666 rfl ?_
    refine x_pRi (q := 670) (n := 2) (As := [.int (ii (sc xs (i + 1))), .int (ii (sc xs (i + 2)))]) (r := [.int (ii z1)]) E (c_X6_lengthen_n l D T ad2 hM s2 (sc xs (i + 1)) (sc_b xs (i + 1)) (sc xs (i + 2)) (sc_b xs (i + 2)) (by omega) a hI) gL_law_X6_lengthen rfl rfl rfl (by decide +kernel) ⟨Nat.le_of_ble_eq_true rfl, Nat.le_of_ble_eq_true rfl⟩ 0 rfl rfl rfl rfl (Nat.le_of_ble_eq_true rfl) (fun q hq => E.2.2.2.2.2.2.2.2.2.1 q (List.mem_append_right _ hq)) hdj dL_law_667 rfl (fun z2 t2 q2 => ?_)
    obtain ⟨e1, hC1⟩ := q1
    obtain ⟨e2, hI1⟩ := q2
    subst e1
    subst e2
    refine x_same (tgt := 916) E dL_law_670 (by decide) ?_
    exact kk _ _ _ hC1 hI1

set_option maxRecDepth 100000 in
set_option maxHeartbeats 4000000 in
theorem law_mirror {p : Program} {l : Launch} {e : Env} {s : State} {m : MethodId} {below : List Frame} {meth : Method} {c : Code} {D : va_G} {T : Nat → ClassId} {ad ad2 : Nat → Nat} {A : Nat → Prop} {b L : Nat} {xs : Nat → Int32} (E : EN room_1 46 614819 p s m #[Value.ref b] meth c code 4 ret wsL_law RL D (tyX T) (WL T ad ad2) (alX ad ++ alM ad2) A) (hX : va_X b L xs s s.heap) (hbl : b < s.heap.size) (hbA : ¬ A b) (hL : L ≤ 3584) (hN : ∀ i j, i < 33 → j < 33 → ad i = ad j → i = j) (hM : ∀ i j, i < 13 → j < 13 → ad2 i = ad2 j → i = j) (hdj : ∀ i j, i < 33 → j < 13 → ad i ≠ ad2 j) {a : AB_} {s1 s2 : St_} {i : Int} (hi : 0 ≤ i ∧ i + 7 ≤ (L : Int)) (hC : CI s1 a) (hI : MI s2 a) (kk : ∀ (a1 : AB_) (t1 t2 : St_), CI t1 a1 → MI t2 a1 → XJ p l e room_1 s m #[Value.ref b] below meth c D (WL T ad ad2) A 4 (lw_Z below #[Value.ref b] s) 46 614819 (t1, t2) 916 [(0, .ref b), (1, .ref (ad 0)), (2, .ref (ad2 0)), (3, .int (ii i))] []) : XJ p l e room_1 s m #[Value.ref b] below meth c D (WL T ad ad2) A 4 (lw_Z below #[Value.ref b] s) 46 614819 (s1, s2) 675 [(0, .ref b), (1, .ref (ad 0)), (2, .ref (ad2 0)), (3, .int (ii i))] [] := by
  have k1 := hC.1
  have k2 := hI.1
  refine x_aload_n (q := 676) E dL_law_675 1 rfl rfl ?_
  refine x_pLi (q := 679) (n := 0) (As := []) (r := []) E (c_X5_mirror l D T ad hN s1 a hC) gL_law_X5_mirror rfl rfl rfl (by decide +kernel) ⟨Nat.le_of_ble_eq_true rfl, Nat.le_of_ble_eq_true rfl⟩ 0 rfl rfl rfl rfl (Nat.le_of_ble_eq_true rfl) (fun q hq => E.2.2.2.2.2.2.2.2.2.1 q (List.mem_append_left _ hq)) hdj dL_law_676 rfl (fun z1 t1 q1 => ?_)
  refine x_aload_n (q := 680) E dL_law_679 2 rfl rfl ?_
  refine x_pRi (q := 683) (n := 0) (As := []) (r := [.int (ii z1)]) E (c_X6_mirror l D T ad2 hM s2 a hI) gL_law_X6_mirror rfl rfl rfl (by decide +kernel) ⟨Nat.le_of_ble_eq_true rfl, Nat.le_of_ble_eq_true rfl⟩ 0 rfl rfl rfl rfl (Nat.le_of_ble_eq_true rfl) (fun q hq => E.2.2.2.2.2.2.2.2.2.1 q (List.mem_append_right _ hq)) hdj dL_law_680 rfl (fun z2 t2 q2 => ?_)
  obtain ⟨e1, hC1⟩ := q1
  obtain ⟨e2, hI1⟩ := q2
  subst e1
  subst e2
  refine x_same (tgt := 916) E dL_law_683 (by decide) ?_
  exact kk _ _ _ hC1 hI1

set_option maxRecDepth 100000 in
set_option maxHeartbeats 4000000 in
theorem law_turn {p : Program} {l : Launch} {e : Env} {s : State} {m : MethodId} {below : List Frame} {meth : Method} {c : Code} {D : va_G} {T : Nat → ClassId} {ad ad2 : Nat → Nat} {A : Nat → Prop} {b L : Nat} {xs : Nat → Int32} (E : EN room_1 46 614819 p s m #[Value.ref b] meth c code 4 ret wsL_law RL D (tyX T) (WL T ad ad2) (alX ad ++ alM ad2) A) (hX : va_X b L xs s s.heap) (hbl : b < s.heap.size) (hbA : ¬ A b) (hL : L ≤ 3584) (hN : ∀ i j, i < 33 → j < 33 → ad i = ad j → i = j) (hM : ∀ i j, i < 13 → j < 13 → ad2 i = ad2 j → i = j) (hdj : ∀ i j, i < 33 → j < 13 → ad i ≠ ad2 j) {a : AB_} {s1 s2 : St_} {i : Int} (hi : 0 ≤ i ∧ i + 7 ≤ (L : Int)) (hC : CI s1 a) (hI : MI s2 a) (kk : ∀ (a1 : AB_) (t1 t2 : St_), CI t1 a1 → MI t2 a1 → XJ p l e room_1 s m #[Value.ref b] below meth c D (WL T ad ad2) A 4 (lw_Z below #[Value.ref b] s) 46 614819 (t1, t2) 916 [(0, .ref b), (1, .ref (ad 0)), (2, .ref (ad2 0)), (3, .int (ii i))] []) : XJ p l e room_1 s m #[Value.ref b] below meth c D (WL T ad ad2) A 4 (lw_Z below #[Value.ref b] s) 46 614819 (s1, s2) 688 [(0, .ref b), (1, .ref (ad 0)), (2, .ref (ad2 0)), (3, .int (ii i))] [] := by
  have k1 := hC.1
  have k2 := hI.1
  rcases (show (0 ≤ sc xs (i + 1) ∧ sc xs (i + 1) < 4) ∨ (sc xs (i + 1) < 0 ∨ 4 ≤ sc xs (i + 1)) by omega) with c9 | c9
  · obtain ⟨r, hr⟩ : ∃ r : Nat, sc xs (i + 1) = (r : Int) := ⟨(sc xs (i + 1)).toNat, by omega⟩
    have hr9 : r < 4 := by omega
    refine x_aload_n (q := 689) E dL_law_688 1 rfl rfl ?_
    refine x_aload_n (q := 690) E dL_law_689 0 rfl rfl ?_
    refine x_iload_n (q := 691) E dL_law_690 3 rfl rfl ?_
    refine x_iconst (q := 692) E dL_law_691 rfl ?_
    refine x_iadd (q := 693) E dL_law_692 rfl ?_
    refine x_sld (q := 694) E hX hbl hbA (by omega) (by omega) (by omega) dL_law_693 rfl ?_
    refine x_ti hr ?_
    refine x_pLi (q := 697) (n := 1) (As := [.int (ii ((r : Int)))]) (r := []) E (c_X5_turn l D T ad hN s1 r hr9 a hC) gL_law_X5_turn rfl rfl rfl (by decide +kernel) ⟨Nat.le_of_ble_eq_true rfl, Nat.le_of_ble_eq_true rfl⟩ 0 rfl rfl rfl rfl (Nat.le_of_ble_eq_true rfl) (fun q hq => E.2.2.2.2.2.2.2.2.2.1 q (List.mem_append_left _ hq)) hdj dL_law_694 rfl (fun z1 t1 q1 => ?_)
    refine x_aload_n (q := 698) E dL_law_697 2 rfl rfl ?_
    refine x_aload_n (q := 699) E dL_law_698 0 rfl rfl ?_
    refine x_iload_n (q := 700) E dL_law_699 3 rfl rfl ?_
    refine x_iconst (q := 701) E dL_law_700 rfl ?_
    refine x_iadd (q := 702) E dL_law_701 rfl ?_
    refine x_sld (q := 703) E hX hbl hbA (by omega) (by omega) (by omega) dL_law_702 rfl ?_
    refine x_ti hr ?_
    refine x_pRi (q := 706) (n := 1) (As := [.int (ii ((r : Int)))]) (r := [.int (ii z1)]) E (c_X6_turn l D T ad2 hM s2 r hr9 a hI) gL_law_X6_turn rfl rfl rfl (by decide +kernel) ⟨Nat.le_of_ble_eq_true rfl, Nat.le_of_ble_eq_true rfl⟩ 0 rfl rfl rfl rfl (Nat.le_of_ble_eq_true rfl) (fun q hq => E.2.2.2.2.2.2.2.2.2.1 q (List.mem_append_right _ hq)) hdj dL_law_703 rfl (fun z2 t2 q2 => ?_)
    obtain ⟨e1, hC1⟩ := q1
    obtain ⟨e2, hI1⟩ := q2
    subst e1
    subst e2
    refine x_same (tgt := 916) E dL_law_706 (by decide) ?_
    exact kk _ _ _ hC1 hI1
  · refine x_aload_n (q := 689) E dL_law_688 1 rfl rfl ?_
    refine x_aload_n (q := 690) E dL_law_689 0 rfl rfl ?_
    refine x_iload_n (q := 691) E dL_law_690 3 rfl rfl ?_
    refine x_iconst (q := 692) E dL_law_691 rfl ?_
    refine x_iadd (q := 693) E dL_law_692 rfl ?_
    refine x_sld (q := 694) E hX hbl hbA (by omega) (by omega) (by omega) dL_law_693 rfl ?_
    refine x_pLi (q := 697) (n := 1) (As := [.int (ii (sc xs (i + 1)))]) (r := []) E (c_X5_turn_n l D T ad hN s1 (sc xs (i + 1)) (sc_b xs (i + 1)) (by omega) a hC) gL_law_X5_turn rfl rfl rfl (by decide +kernel) ⟨Nat.le_of_ble_eq_true rfl, Nat.le_of_ble_eq_true rfl⟩ 0 rfl rfl rfl rfl (Nat.le_of_ble_eq_true rfl) (fun q hq => E.2.2.2.2.2.2.2.2.2.1 q (List.mem_append_left _ hq)) hdj dL_law_694 rfl (fun z1 t1 q1 => ?_)
    refine x_aload_n (q := 698) E dL_law_697 2 rfl rfl ?_
    refine x_aload_n (q := 699) E dL_law_698 0 rfl rfl ?_
    refine x_iload_n (q := 700) E dL_law_699 3 rfl rfl ?_
    refine x_iconst (q := 701) E dL_law_700 rfl ?_
    refine x_iadd (q := 702) E dL_law_701 rfl ?_
    refine x_sld (q := 703) E hX hbl hbA (by omega) (by omega) (by omega) dL_law_702 rfl ?_
    refine x_pRi (q := 706) (n := 1) (As := [.int (ii (sc xs (i + 1)))]) (r := [.int (ii z1)]) E (c_X6_turn_n l D T ad2 hM s2 (sc xs (i + 1)) (sc_b xs (i + 1)) (by omega) a hI) gL_law_X6_turn rfl rfl rfl (by decide +kernel) ⟨Nat.le_of_ble_eq_true rfl, Nat.le_of_ble_eq_true rfl⟩ 0 rfl rfl rfl rfl (Nat.le_of_ble_eq_true rfl) (fun q hq => E.2.2.2.2.2.2.2.2.2.1 q (List.mem_append_right _ hq)) hdj dL_law_703 rfl (fun z2 t2 q2 => ?_)
    obtain ⟨e1, hC1⟩ := q1
    obtain ⟨e2, hI1⟩ := q2
    subst e1
    subst e2
    refine x_same (tgt := 916) E dL_law_706 (by decide) ?_
    exact kk _ _ _ hC1 hI1
