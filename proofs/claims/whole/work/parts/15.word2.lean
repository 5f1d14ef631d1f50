set_option maxRecDepth 100000 in
set_option maxHeartbeats 4000000 in
theorem c_X5_isLetter (l : Launch) (D : va_G) (T : Nat → ClassId) (ad : Nat → Nat) (hN : ∀ i j, i < 33 → j < 33 → ad i = ad j → i = j) (st : St_) (v : Int) (bv : -2147483648 ≤ v ∧ v < 2147483648) : CXi l yX5_isLetter wsX5_isLetter (rmX 0 0) [.int (ii (v))] D (tyX T) (XW T ad) (alX ad) st (fun z st2 => (if 1 ≤ v ∧ v ≤ 6 then 1 else 0) = z ∧ st = st2) := by
  refine mk_z (cc := cX5_isLetter) (nL := 1) rfl rfl (XW_ok hN) (Nat.le_of_ble_eq_true rfl) [(0, .int (ii (v)))] rfl (fun p e s m args below meth c A Q E RET => ?_)
  refine x_iload_n (q := 1) E dX5_isLetter_0 0 rfl rfl ?_
  refine x_iconst (q := 2) E dX5_isLetter_1 rfl ?_
  refine x_icmp_lt (tgt := 15) (q := 5) E dX5_isLetter_2 (by decide) rfl (by omega) (by omega) (fun c2 => ?_) (fun c2 => ?_)
  · refine x_iconst (q := 16) E dX5_isLetter_15 rfl ?_
    exact RET _ _ _ _ dX5_isLetter_16 (by omega) (⟨by first | (rw [if_pos (by omega)]) | (rw [if_neg (by omega)]), rfl⟩)
  · refine x_iload_n (q := 6) E dX5_isLetter_5 0 rfl rfl ?_
    refine x_bipush (q := 8) E dX5_isLetter_6 (by decide) rfl ?_
    refine x_icmp_gt (tgt := 15) (q := 11) E dX5_isLetter_8 (by decide) rfl (by omega) (by omega) (fun c8 => ?_) (fun c8 => ?_)
    · refine x_iconst (q := 16) E dX5_isLetter_15 rfl ?_
      exact RET _ _ _ _ dX5_isLetter_16 (by omega) (⟨by first | (rw [if_pos (by omega)]) | (rw [if_neg (by omega)]), rfl⟩)
    · refine x_iconst (q := 12) E dX5_isLetter_11 rfl ?_
      refine x_goto (tgt := 16) E dX5_isLetter_12 (by decide) ?_
      exact RET _ _ _ _ dX5_isLetter_16 (by omega) (⟨by first | (rw [if_pos (by omega)]) | (rw [if_neg (by omega)]), rfl⟩)

set_option maxRecDepth 100000 in
set_option maxHeartbeats 4000000 in
theorem c_X5_isOutside (l : Launch) (D : va_G) (T : Nat → ClassId) (ad : Nat → Nat) (hN : ∀ i j, i < 33 → j < 33 → ad i = ad j → i = j) (st : St_) (v : Int) (bv : -2147483648 ≤ v ∧ v < 2147483648) (u : Int) (bu : -2147483648 ≤ u ∧ u < 2147483648) : CXi l yX5_isOutside wsX5_isOutside (rmX 0 0) [.int (ii (v)), .int (ii (u))] D (tyX T) (XW T ad) (alX ad) st (fun z st2 => (if v < 0 ∨ u < v then 1 else 0) = z ∧ st = st2) := by
  refine mk_z (cc := cX5_isOutside) (nL := 2) rfl rfl (XW_ok hN) (Nat.le_of_ble_eq_true rfl) [(0, .int (ii (v))), (1, .int (ii (u)))] rfl (fun p e s m args below meth c A Q E RET => ?_)
  refine x_iload_n (q := 1) E dX5_isOutside_0 0 rfl rfl ?_
  refine x_if_lt (tgt := 9) (q := 4) E dX5_isOutside_1 (by decide) rfl (by omega) (fun c1 => ?_) (fun c1 => ?_)
  · refine x_iconst (q := 10) E dX5_isOutside_9 rfl ?_
    refine x_goto (tgt := 14) E dX5_isOutside_10 (by decide) ?_
    exact RET _ _ _ _ dX5_isOutside_14 (by omega) (⟨by first | (rw [if_pos (by omega)]) | (rw [if_neg (by omega)]), rfl⟩)
  · refine x_iload_n (q := 5) E dX5_isOutside_4 0 rfl rfl ?_
    refine x_iload_n (q := 6) E dX5_isOutside_5 1 rfl rfl ?_
    refine x_icmp_le (tgt := 13) (q := 9) E dX5_isOutside_6 (by decide) rfl (by omega) (by omega) (fun c6 => ?_) (fun c6 => ?_)
    · refine x_iconst (q := 14) E dX5_isOutside_13 rfl ?_
      exact RET _ _ _ _ dX5_isOutside_14 (by omega) (⟨by first | (rw [if_pos (by omega)]) | (rw [if_neg (by omega)]), rfl⟩)
    · refine x_iconst (q := 10) E dX5_isOutside_9 rfl ?_
      refine x_goto (tgt := 14) E dX5_isOutside_10 (by decide) ?_
      exact RET _ _ _ _ dX5_isOutside_14 (by omega) (⟨by first | (rw [if_pos (by omega)]) | (rw [if_neg (by omega)]), rfl⟩)

set_option maxRecDepth 100000 in
set_option maxHeartbeats 4000000 in
theorem c_X5_manyMost (l : Launch) (D : va_G) (T : Nat → ClassId) (ad : Nat → Nat) (hN : ∀ i j, i < 33 → j < 33 → ad i = ad j → i = j) (st : St_) (v : Int) (bv : -2147483648 ≤ v ∧ v < 2147483648) : CXi l yX5_manyMost wsX5_manyMost (rmX 0 0) [.int (ii (v))] D (tyX T) (XW T ad) (alX ad) st (fun z st2 => (if v = 2 then 14 else if v = 3 then 9 else -1) = z ∧ st = st2) := by
  refine mk_i (cc := cX5_manyMost) (nL := 1) rfl rfl (XW_ok hN) (Nat.le_of_ble_eq_true rfl) [(0, .int (ii (v)))] rfl (fun p e s m args below meth c A Q E RET => ?_)
  refine x_iload_n (q := 1) E dX5_manyMost_0 0 rfl rfl ?_
  refine x_iconst (q := 2) E dX5_manyMost_1 rfl ?_
  refine x_icmp_ne (tgt := 8) (q := 5) E dX5_manyMost_2 (by decide) rfl (by omega) (by omega) (fun c2 => ?_) (fun c2 => ?_)
  · refine x_iload_n (q := 9) E dX5_manyMost_8 0 rfl rfl ?_
    refine x_iconst (q := 10) E dX5_manyMost_9 rfl ?_
    refine x_icmp_ne (tgt := 16) (q := 13) E dX5_manyMost_10 (by decide) rfl (by omega) (by omega) (fun c10 => ?_) (fun c10 => ?_)
    · refine x_iconst (q := 17) E dX5_manyMost_16 rfl ?_
      exact RET _ _ _ _ dX5_manyMost_17 (⟨by first | (rw [if_pos (by omega)]) | (rw [if_neg (by omega), if_pos (by omega)]) | (rw [if_neg (by omega), if_neg (by omega)]), rfl⟩)
    · refine x_bipush (q := 15) E dX5_manyMost_13 (by decide) rfl ?_
      exact RET _ _ _ _ dX5_manyMost_15 (⟨by first | (rw [if_pos (by omega)]) | (rw [if_neg (by omega), if_pos (by omega)]) | (rw [if_neg (by omega), if_neg (by omega)]), rfl⟩)
  · refine x_bipush (q := 7) E dX5_manyMost_5 (by decide) rfl ?_
    exact RET _ _ _ _ dX5_manyMost_7 (⟨by first | (rw [if_pos (by omega)]) | (rw [if_neg (by omega), if_pos (by omega)]) | (rw [if_neg (by omega), if_neg (by omega)]), rfl⟩)

theorem iX0_size_X0 : ∀ w ∈ wsX00, w ∈ wsX0_size := by decide +kernel
set_option maxRecDepth 100000 in
set_option maxHeartbeats 4000000 in
theorem c_X0_size (l : Launch) (D : va_G) (T : Nat → ClassId) (ad : Nat → Nat) (hN : ∀ i j, i < 33 → j < 33 → ad i = ad j → i = j) (st : St_) (a : Nat) (ha : a < 4) : CXi l yX0_size wsX0_size (rmX 0 0) [.ref (ad (5 + a))] D (tyX T) (XW T ad) (alX ad) st (fun z st2 => st.1 (3 + a) = z ∧ st = st2) := by
  refine mk_i (cc := cX0_size) (nL := 1) rfl rfl (XW_ok hN) (Nat.le_of_ble_eq_true rfl) [(0, .ref (ad (5 + a)))] rfl (fun p e s m args below meth c A Q E RET => ?_)
  refine x_aload_n (q := 1) E dX0_size_0 0 rfl rfl ?_
  refine x_get (q := 4) E iX0_size_X0 (5 + a) (xg_alph ha) rfl 1 (by decide) (by decide +kernel) rfl dX0_size_1 rfl ?_
  exact RET _ _ _ _ dX0_size_4 (⟨rfl, rfl⟩)

theorem iX0_letterOfRun_X0 : ∀ w ∈ wsX00, w ∈ wsX0_letterOfRun := by decide +kernel
set_option maxRecDepth 100000 in
set_option maxHeartbeats 4000000 in
theorem c_X0_letterOfRun (l : Launch) (D : va_G) (T : Nat → ClassId) (ad : Nat → Nat) (hN : ∀ i j, i < 33 → j < 33 → ad i = ad j → i = j) (st : St_) (a : Nat) (ha : a < 4) (k : Int) (bk : -2147483648 ≤ k ∧ k < 2147483648) (hsa : 2 ≤ st.1 (3 + a) ∧ st.1 (3 + a) ≤ 4) (hk : 0 ≤ k) : CXi l yX0_letterOfRun wsX0_letterOfRun (rmX 0 0) [.ref (ad (5 + a)), .int (ii (k))] D (tyX T) (XW T ad) (alX ad) st (fun z st2 => st.2 (1 + a) ((k) % (st.1 (3 + a))) = z ∧ st = st2) := by
  refine mk_i (cc := cX0_letterOfRun) (nL := 3) rfl rfl (XW_ok hN) (Nat.le_of_ble_eq_true rfl) [(0, .ref (ad (5 + a))), (1, .int (ii (k)))] rfl (fun p e s m args below meth c A Q E RET => ?_)
  have m1 := Int.emod_nonneg k (show st.1 (3 + a) ≠ 0 by omega)
  have m2 := Int.emod_lt_of_pos k (show 0 < st.1 (3 + a) by omega)
  refine x_aload_n (q := 1) E dX0_letterOfRun_0 0 rfl rfl ?_
  refine x_get (q := 4) E iX0_letterOfRun_X0 (5 + a) (xg_alph ha) rfl 1 (by decide) (by decide +kernel) rfl dX0_letterOfRun_1 rfl ?_
  refine x_iconst (q := 5) E dX0_letterOfRun_4 rfl ?_
  refine x_icmp_lt (tgt := 12) (q := 8) E dX0_letterOfRun_5 (by decide) rfl (by omega) (by omega) (fun c5 => ?_) (fun c5 => ?_)
  · refine x_iconst (q := 13) E dX0_letterOfRun_12 rfl ?_
    exact RET _ _ _ _ dX0_letterOfRun_13 (by first | (exfalso; omega) | exact ⟨rfl, rfl⟩)
  · refine x_iload_n (q := 9) E dX0_letterOfRun_8 1 rfl rfl ?_
    refine x_if_ge (tgt := 14) (q := 12) E dX0_letterOfRun_9 (by decide) rfl (by omega) (fun c9 => ?_) (fun c9 => ?_)
    · refine x_iload_n (q := 15) E dX0_letterOfRun_14 1 rfl rfl ?_
      refine x_aload_n (q := 16) E dX0_letterOfRun_15 0 rfl rfl ?_
      refine x_get (q := 19) E iX0_letterOfRun_X0 (5 + a) (xg_alph ha) rfl 1 (by decide) (by decide +kernel) rfl dX0_letterOfRun_16 rfl ?_
      refine x_irem (q := 20) E dX0_letterOfRun_19 (by omega) (by omega) (by omega) (by omega) rfl ?_
      refine x_istore_n (q := 21) (lv' := [(2, .int (ii ((k) % (st.1 (3 + a))))), (0, .ref (ad (5 + a))), (1, .int (ii (k)))]) E dX0_letterOfRun_20 (by decide) rfl rfl ?_
      refine x_iload_n (q := 22) E dX0_letterOfRun_21 0 rfl rfl ?_
      refine x_aload_n (q := 23) E dX0_letterOfRun_22 1 rfl rfl ?_
      refine x_get (q := 26) E iX0_letterOfRun_X0 (5 + a) (xg_alph ha) rfl 0 (by decide) (by decide +kernel) rfl dX0_letterOfRun_23 rfl ?_
      refine x_alen (q := 27) E (9 + a) (xg_let ha) 0 rfl dX0_letterOfRun_26 rfl ?_
      refine x_ti (show (((4 : Nat) : Int)) = 4 from rfl) ?_
      refine x_icmp_ge (tgt := 39) (q := 30) E dX0_letterOfRun_27 (by decide) rfl (by omega) (by omega) (fun c27 => ?_) (fun c27 => ?_)
      · refine x_iconst (q := 40) E dX0_letterOfRun_39 rfl ?_
        exact RET _ _ _ _ dX0_letterOfRun_40 (by first | (exfalso; omega) | exact ⟨rfl, rfl⟩)
      · refine x_aload_n (q := 31) E dX0_letterOfRun_30 1 rfl rfl ?_
        refine x_get (q := 34) E iX0_letterOfRun_X0 (5 + a) (xg_alph ha) rfl 0 (by decide) (by decide +kernel) rfl dX0_letterOfRun_31 rfl ?_
        refine x_iload_n (q := 35) E dX0_letterOfRun_34 0 rfl rfl ?_
        refine x_iald (q := 36) (f := st.2 (1 + a)) E (9 + a) (xg_let ha) 0 rfl (by omega) (by omega) (by decide) dX0_letterOfRun_35 rfl ?_
        refine x_goto (tgt := 40) E dX0_letterOfRun_36 (by decide) ?_
        exact RET _ _ _ _ dX0_letterOfRun_40 (by first | (exfalso; omega) | exact ⟨rfl, rfl⟩)
    · refine x_iconst (q := 13) E dX0_letterOfRun_12 rfl ?_
      exact RET _ _ _ _ dX0_letterOfRun_13 (by first | (exfalso; omega) | exact ⟨rfl, rfl⟩)

theorem iX0_letterBehind_X0 : ∀ w ∈ wsX00, w ∈ wsX0_letterBehind := by decide +kernel
set_option maxRecDepth 100000 in
set_option maxHeartbeats 4000000 in
theorem c_X0_letterBehind (l : Launch) (D : va_G) (T : Nat → ClassId) (ad : Nat → Nat) (hN : ∀ i j, i < 33 → j < 33 → ad i = ad j → i = j) (st : St_) (a : Nat) (ha : a < 4) (v : Int) (bv : -2147483648 ≤ v ∧ v < 2147483648) (hsa : 2 ≤ st.1 (3 + a) ∧ st.1 (3 + a) ≤ 4) (hla : ∀ j : Int, 0 ≤ j → j < st.1 (3 + a) → 1 ≤ st.2 (1 + a) j ∧ st.2 (1 + a) j ≤ 6) : CXi l yX0_letterBehind wsX0_letterBehind (rmX 1 22) [.ref (ad (5 + a)), .int (ii (v))] D (tyX T) (XW T ad) (alX ad) st (fun z st2 => st = st2 ∧ LB (st.2 (1 + a)) (st.1 (3 + a)) v z) := by
  refine mk_i (cc := cX0_letterBehind) (nL := 3) rfl rfl (XW_ok hN) (Nat.le_of_ble_eq_true rfl) [(0, .ref (ad (5 + a))), (1, .int (ii (v)))] rfl (fun p e s m args below meth c A Q E RET => ?_)
  refine x_iconst (q := 1) E dX0_letterBehind_0 rfl ?_
  refine x_istore_n (q := 2) (lv' := [(2, .int (ii (0))), (0, .ref (ad (5 + a))), (1, .int (ii (v)))]) E dX0_letterBehind_1 (by decide) rfl rfl ?_
  have L2 : ∀ (n : Nat) (i : Int), (st.1 (3 + a) - i).toNat < n → (0 ≤ i ∧ i ≤ st.1 (3 + a)) → (∀ j : Int, 0 ≤ j → j < i → st.2 (1 + a) j ≠ v) → XJ p l e (rmX 1 22) s m args below meth c D (XW T ad) A 3 Q 0 0 st 2 [(0, .ref (ad (5 + a))), (1, .int (ii (v))), (2, .int (ii (i)))] [] := by
    intro n
    induction n with
    | zero => intro i hn; exact absurd hn (Nat.not_lt_zero _)
    | succ n ih2 =>
      intro i hn2 a1 a2
      refine x_iload_n (q := 3) E dX0_letterBehind_2 2 rfl rfl ?_
      refine x_aload_n (q := 4) E dX0_letterBehind_3 0 rfl rfl ?_
      refine x_get (q := 7) E iX0_letterBehind_X0 (5 + a) (xg_alph ha) rfl 1 (by decide) (by decide +kernel) rfl dX0_letterBehind_4 rfl ?_
      refine x_icmp_ge (tgt := 33) (q := 10) E dX0_letterBehind_7 (by decide) rfl (by omega) (by omega) (fun c7 => ?_) (fun c7 => ?_)
      · refine x_iconst (q := 34) E dX0_letterBehind_33 rfl ?_
        exact RET _ _ _ _ dX0_letterBehind_34 (⟨rfl, Or.inr ⟨fun j h0 h1 => a2 j h0 (by omega), rfl⟩⟩)
      · have e1 : i % st.1 (3 + a) = i := Int.emod_eq_of_lt (by omega) (by omega)
        have e2 := hla i (by omega) (by omega)
        rw [← e1] at e2
        refine x_aload_n (q := 11) E dX0_letterBehind_10 0 rfl rfl ?_
        refine x_iload_n (q := 12) E dX0_letterBehind_11 2 rfl rfl ?_
        refine x_callVi (q := 15) (n := 1) (As := [.int (ii (i))]) (r := []) E (c_X0_letterOfRun l D T ad hN st (a) ha (i) (by omega) (by omega) (by omega)) gX0_letterBehind_X0_letterOfRun rfl rfl rfl (by decide +kernel) ⟨Nat.le_of_ble_eq_true rfl, Nat.le_of_ble_eq_true rfl⟩ (5 + a) (xg_alph ha) rfl rfl rfl (Nat.le_of_ble_eq_true rfl) dX0_letterBehind_12 rfl (fun z1 s2 q3 => ?_)
        obtain ⟨rfl, rfl⟩ := q3
        refine x_iload_n (q := 16) E dX0_letterBehind_15 1 rfl rfl ?_
        refine x_icmp_ne (tgt := 27) (q := 19) E dX0_letterBehind_16 (by decide) rfl (by omega) (by omega) (fun c16 => ?_) (fun c16 => ?_)
        · refine x_iinc (q := 30) (k := 2) (lv' := [(2, .int (ii (i + 1))), (0, .ref (ad (5 + a))), (1, .int (ii (v)))]) E dX0_letterBehind_27 rfl (by decide) rfl rfl ?_
          refine x_goto (tgt := 2) E dX0_letterBehind_30 (by decide) ?_
          refine x_lv E (lv' := [(0, .ref (ad (5 + a))), (1, .int (ii (v))), (2, .int (ii (i + 1)))]) [1, 2, 0] rfl ?_
          exact ih2 (i + 1) (by omega) (by omega) (fun j h0 h1 => if hj : j = i then (by rw [hj]; rw [e1] at c16; exact c16) else a2 j h0 (by omega))
        · refine x_aload_n (q := 20) E dX0_letterBehind_19 0 rfl rfl ?_
          refine x_iload_n (q := 21) E dX0_letterBehind_20 2 rfl rfl ?_
          refine x_iconst (q := 22) E dX0_letterBehind_21 rfl ?_
          refine x_iadd (q := 23) E dX0_letterBehind_22 rfl ?_
          refine x_callVi (q := 26) (n := 1) (As := [.int (ii ((i) + (1)))]) (r := []) E (c_X0_letterOfRun l D T ad hN st (a) ha ((i) + (1)) (by omega) (by omega) (by omega)) gX0_letterBehind_X0_letterOfRun rfl rfl rfl (by decide +kernel) ⟨Nat.le_of_ble_eq_true rfl, Nat.le_of_ble_eq_true rfl⟩ (5 + a) (xg_alph ha) rfl rfl rfl (Nat.le_of_ble_eq_true rfl) dX0_letterBehind_23 rfl (fun z4 s5 q6 => ?_)
          obtain ⟨rfl, rfl⟩ := q6
          exact RET _ _ _ _ dX0_letterBehind_26 (⟨rfl, Or.inl ⟨i, by omega, by omega, by rw [e1] at c16; exact Classical.byContradiction c16, a2, rfl⟩⟩)
  refine x_lv E (lv' := [(0, .ref (ad (5 + a))), (1, .int (ii (v))), (2, .int (ii (0)))]) [1, 2, 0] rfl ?_
  exact L2 _ (0) (Nat.lt_succ_self _) (by omega) (fun j h0 h1 => absurd h1 (by omega))

theorem iX0_mixInto_X0 : ∀ w ∈ wsX00, w ∈ wsX0_mixInto := by decide +kernel
set_option maxRecDepth 100000 in
set_option maxHeartbeats 4000000 in
theorem c_X0_mixInto (l : Launch) (D : va_G) (T : Nat → ClassId) (ad : Nat → Nat) (hN : ∀ i j, i < 33 → j < 33 → ad i = ad j → i = j) (st : St_) (a : Nat) (ha : a < 4) (h : Int) (hsa : 2 ≤ st.1 (3 + a) ∧ st.1 (3 + a) ≤ 4) (hla : ∀ j : Int, 0 ≤ j → j < st.1 (3 + a) → 1 ≤ st.2 (1 + a) j ∧ st.2 (1 + a) j ≤ 6) : CXl l yX0_mixInto wsX0_mixInto (rmX 1 22) [.ref (ad (5 + a)), .long (jj (h))] D (tyX T) (XW T ad) (alX ad) st (fun z st2 => mix (st.2 (1 + a)) (h) (st.1 (3 + a)) = z ∧ st = st2) := by
  refine mk_l (cc := cX0_mixInto) (nL := 6) rfl rfl (XW_ok hN) (Nat.le_of_ble_eq_true rfl) [(0, .ref (ad (5 + a))), (1, .long (jj (h)))] rfl (fun p e s m args below meth c A Q E RET => ?_)
  refine x_lload_n (q := 1) E dX0_mixInto_0 1 rfl rfl ?_
  refine x_lstore_n (q := 2) (lv' := [(3, .long (jj (h))), (0, .ref (ad (5 + a))), (1, .long (jj (h)))]) E dX0_mixInto_1 (by decide) rfl rfl ?_
  refine x_iconst (q := 3) E dX0_mixInto_2 rfl ?_
  refine x_istore (q := 5) (lv' := [(5, .int (ii (0))), (3, .long (jj (h))), (0, .ref (ad (5 + a))), (1, .long (jj (h)))]) E dX0_mixInto_3 (by decide) rfl rfl ?_
  have L5 : ∀ (n : Nat) (t : Int) (i : Int), (st.1 (3 + a) - i).toNat < n → (0 ≤ i ∧ i ≤ st.1 (3 + a)) → (t = mix (st.2 (1 + a)) h i) → XJ p l e (rmX 1 22) s m args below meth c D (XW T ad) A 6 Q 0 0 st 5 [(0, .ref (ad (5 + a))), (3, .long (jj (t))), (5, .int (ii (i)))] [] := by
    intro n
    induction n with
    | zero => intro t i hn; exact absurd hn (Nat.not_lt_zero _)
    | succ n ih5 =>
      intro t i hn5 a1 a2
      refine x_iload (q := 7) E dX0_mixInto_5 2 rfl rfl ?_
      refine x_aload_n (q := 8) E dX0_mixInto_7 0 rfl rfl ?_
      refine x_get (q := 11) E iX0_mixInto_X0 (5 + a) (xg_alph ha) rfl 1 (by decide) (by decide +kernel) rfl dX0_mixInto_8 rfl ?_
      refine x_icmp_ge (tgt := 34) (q := 14) E dX0_mixInto_11 (by decide) rfl (by omega) (by omega) (fun c11 => ?_) (fun c11 => ?_)
      · refine x_lload_n (q := 35) E dX0_mixInto_34 1 rfl rfl ?_
        exact RET _ _ _ _ dX0_mixInto_35 (⟨by rw [a2]; exact congrArg _ (by omega), rfl⟩)
      · have e1 : i % st.1 (3 + a) = i := Int.emod_eq_of_lt (by omega) (by omega)
        have e2 := hla i (by omega) (by omega)
        rw [← e1] at e2
        refine x_ldc2 (q := 17) (v := 31) (z := 31) E (by decide +kernel) (by decide) dX0_mixInto_14 rfl ?_
        refine x_lload_n (q := 18) E dX0_mixInto_17 1 rfl rfl ?_
        refine x_lmul (q := 19) E dX0_mixInto_18 rfl ?_
        refine x_aload_n (q := 20) E dX0_mixInto_19 0 rfl rfl ?_
        refine x_iload (q := 22) E dX0_mixInto_20 2 rfl rfl ?_
        refine x_callVi (q := 25) (n := 1) (As := [.int (ii (i))]) (r := [.long (jj ((31) * (t)))]) E (c_X0_letterOfRun l D T ad hN st (a) ha (i) (by omega) (by omega) (by omega)) gX0_mixInto_X0_letterOfRun rfl rfl rfl (by decide +kernel) ⟨Nat.le_of_ble_eq_true rfl, Nat.le_of_ble_eq_true rfl⟩ (5 + a) (xg_alph ha) rfl rfl rfl (Nat.le_of_ble_eq_true rfl) dX0_mixInto_22 rfl (fun z1 s2 q3 => ?_)
        obtain ⟨rfl, rfl⟩ := q3
        refine x_i2l (q := 26) E dX0_mixInto_25 (by omega) rfl ?_
        refine x_ladd (q := 27) E dX0_mixInto_26 rfl ?_
        refine x_lstore_n (q := 28) (lv' := [(3, .long (jj (((31) * (t)) + (st.2 (1 + a) ((i) % (st.1 (3 + a))))))), (0, .ref (ad (5 + a))), (5, .int (ii (i)))]) E dX0_mixInto_27 (by decide) rfl rfl ?_
        refine x_iinc (q := 31) (k := 2) (lv' := [(5, .int (ii (i + 1))), (3, .long (jj (((31) * (t)) + (st.2 (1 + a) ((i) % (st.1 (3 + a))))))), (0, .ref (ad (5 + a)))]) E dX0_mixInto_28 rfl (by decide) rfl rfl ?_
        refine x_goto (tgt := 5) E dX0_mixInto_31 (by decide) ?_
        refine x_lv E (lv' := [(0, .ref (ad (5 + a))), (3, .long (jj (((31) * (t)) + (st.2 (1 + a) ((i) % (st.1 (3 + a))))))), (5, .int (ii (i + 1)))]) [2, 1, 0] rfl ?_
        exact ih5 (((31) * (t)) + (st.2 (1 + a) ((i) % (st.1 (3 + a))))) (i + 1) (by omega) (by omega) (by rw [mix_s _ _ (by omega), a2, e1])
  refine x_lv E (lv' := [(0, .ref (ad (5 + a))), (3, .long (jj (h))), (5, .int (ii (0)))]) [2, 1, 0] rfl ?_
  exact L5 _ (h) (0) (Nat.lt_succ_self _) (by omega) ((mix_0 _ _).symm)

theorem iX0_change_X0 : ∀ w ∈ wsX00, w ∈ wsX0_change := by decide +kernel
set_option maxRecDepth 100000 in
set_option maxHeartbeats 4000000 in
theorem c_X0_change (l : Launch) (D : va_G) (T : Nat → ClassId) (ad : Nat → Nat) (hN : ∀ i j, i < 33 → j < 33 → ad i = ad j → i = j) (st : St_) (a : Nat) (ha : a < 4) (n0 : Int) (bn0 : -2147483648 ≤ n0 ∧ n0 < 2147483648) (w0 : Int) (bw0 : -2147483648 ≤ w0 ∧ w0 < 2147483648) (x0 : Int) (bx0 : -2147483648 ≤ x0 ∧ x0 < 2147483648) (y0 : Int) (by0 : -2147483648 ≤ y0 ∧ y0 < 2147483648) (z0 : Int) (bz0 : -2147483648 ≤ z0 ∧ z0 < 2147483648) : CXi l yX0_change wsX0_change (rmX 1 20) [.ref (ad (5 + a)), .int (ii (n0)), .int (ii (w0)), .int (ii (x0)), .int (ii (y0)), .int (ii (z0))] D (tyX T) (XW T ad) (alX ad) st (fun z st2 => ((2 ≤ n0 ∧ n0 ≤ 4 ∧ 1 ≤ w0 ∧ w0 ≤ 6 ∧ 1 ≤ x0 ∧ x0 ≤ 6 ∧ w0 ≠ x0 ∧ (3 ≤ n0 → 1 ≤ y0 ∧ y0 ≤ 6 ∧ x0 ≠ y0) ∧ (4 ≤ n0 → 1 ≤ z0 ∧ z0 ≤ 6 ∧ y0 ≠ z0) ∧ (n0 = 3 → y0 ≠ w0) ∧ (n0 = 4 → z0 ≠ w0)) ∧ z = 1 ∧ st2 = sG (sA (sA (sA (sA st (1 + a) 0 w0) (1 + a) 1 x0) (1 + a) 2 y0) (1 + a) 3 z0) (3 + a) n0) ∨ (¬ (2 ≤ n0 ∧ n0 ≤ 4 ∧ 1 ≤ w0 ∧ w0 ≤ 6 ∧ 1 ≤ x0 ∧ x0 ≤ 6 ∧ w0 ≠ x0 ∧ (3 ≤ n0 → 1 ≤ y0 ∧ y0 ≤ 6 ∧ x0 ≠ y0) ∧ (4 ≤ n0 → 1 ≤ z0 ∧ z0 ≤ 6 ∧ y0 ≠ z0) ∧ (n0 = 3 → y0 ≠ w0) ∧ (n0 = 4 → z0 ≠ w0)) ∧ z = 0 ∧ st = st2)) := by
  refine mk_z (cc := cX0_change) (nL := 7) rfl rfl (XW_ok hN) (Nat.le_of_ble_eq_true rfl) [(0, .ref (ad (5 + a))), (1, .int (ii (n0))), (2, .int (ii (w0))), (3, .int (ii (x0))), (4, .int (ii (y0))), (5, .int (ii (z0)))] rfl (fun p e s m args below meth c A Q E RET => ?_)
  refine x_iload_n (q := 1) E dX0_change_0 1 rfl rfl ?_
  refine x_iconst (q := 2) E dX0_change_1 rfl ?_
  refine x_icmp_lt (tgt := 10) (q := 5) E dX0_change_2 (by decide) rfl (by omega) (by omega) (fun c2 => ?_) (fun c2 => ?_)
  · refine x_iconst (q := 11) E dX0_change_10 rfl ?_
    exact RET _ _ _ _ dX0_change_11 (by omega) (by first | exact Or.inl ⟨by omega, rfl, rfl⟩ | exact Or.inr ⟨by omega, rfl, rfl⟩ | (exfalso; omega))
  · refine x_iload_n (q := 6) E dX0_change_5 1 rfl rfl ?_
    refine x_iconst (q := 7) E dX0_change_6 rfl ?_
    refine x_icmp_le (tgt := 12) (q := 10) E dX0_change_7 (by decide) rfl (by omega) (by omega) (fun c7 => ?_) (fun c7 => ?_)
    · refine x_iload_n (q := 13) E dX0_change_12 1 rfl rfl ?_
      refine x_iconst (q := 14) E dX0_change_13 rfl ?_
      refine x_icmp_ne (tgt := 21) (q := 17) E dX0_change_14 (by decide) rfl (by omega) (by omega) (fun c14 => ?_) (fun c14 => ?_)
      · refine x_iload_n (q := 22) E dX0_change_21 1 rfl rfl ?_
        refine x_iconst (q := 23) E dX0_change_22 rfl ?_
        refine x_icmp_ne (tgt := 31) (q := 26) E dX0_change_23 (by decide) rfl (by omega) (by omega) (fun c23 => ?_) (fun c23 => ?_)
        · refine x_iload (q := 33) E dX0_change_31 5 rfl rfl ?_
          refine x_istore (q := 35) (lv' := [(6, .int (ii (z0))), (0, .ref (ad (5 + a))), (1, .int (ii (n0))), (2, .int (ii (w0))), (3, .int (ii (x0))), (4, .int (ii (y0))), (5, .int (ii (z0)))]) E dX0_change_33 (by decide) rfl rfl ?_
          refine x_iload_n (q := 36) E dX0_change_35 3 rfl rfl ?_
          refine x_callSNi (q := 39) (n := 1) (As := [.int (ii (w0))]) (r := []) E (c_X5_isLetter l D T ad hN st (w0) (by omega)) gX0_change_X5_isLetter_n23 rfl rfl rfl E.nw.1 (by decide +kernel) (by decide +kernel) (by decide +kernel) ⟨Nat.le_of_ble_eq_true rfl, Nat.le_of_ble_eq_true rfl⟩ rfl rfl (Nat.le_of_ble_eq_true rfl) dX0_change_36 rfl (fun z1 s2 q3 => ?_)
          obtain ⟨rfl, rfl⟩ := q3
          refine x_if_eq (tgt := 60) (q := 42) E dX0_change_39 (by decide) rfl (by omega) (fun c39 => ?_) (fun c39 => ?_)
          · refine x_iconst (q := 61) E dX0_change_60 rfl ?_
            exact RET _ _ _ _ dX0_change_61 (by omega) (by first | exact Or.inl ⟨by omega, rfl, rfl⟩ | exact Or.inr ⟨by omega, rfl, rfl⟩ | (exfalso; omega))
          · refine x_iload_n (q := 43) E dX0_change_42 4 rfl rfl ?_
            refine x_callSNi (q := 46) (n := 1) (As := [.int (ii (x0))]) (r := []) E (c_X5_isLetter l D T ad hN st (x0) (by omega)) gX0_change_X5_isLetter_n23 rfl rfl rfl E.nw.1 (by decide +kernel) (by decide +kernel) (by decide +kernel) ⟨Nat.le_of_ble_eq_true rfl, Nat.le_of_ble_eq_true rfl⟩ rfl rfl (Nat.le_of_ble_eq_true rfl) dX0_change_43 rfl (fun z4 s5 q6 => ?_)
            obtain ⟨rfl, rfl⟩ := q6
            refine x_if_eq (tgt := 60) (q := 49) E dX0_change_46 (by decide) rfl (by omega) (fun c46 => ?_) (fun c46 => ?_)
            · refine x_iconst (q := 61) E dX0_change_60 rfl ?_
              exact RET _ _ _ _ dX0_change_61 (by omega) (by first | exact Or.inl ⟨by omega, rfl, rfl⟩ | exact Or.inr ⟨by omega, rfl, rfl⟩ | (exfalso; omega))
            · refine x_iload_n (q := 50) E dX0_change_49 3 rfl rfl ?_
              refine x_iload_n (q := 51) E dX0_change_50 4 rfl rfl ?_
              refine x_icmp_eq (tgt := 60) (q := 54) E dX0_change_51 (by decide) rfl (by omega) (by omega) (fun c51 => ?_) (fun c51 => ?_)
              · refine x_iconst (q := 61) E dX0_change_60 rfl ?_
                exact RET _ _ _ _ dX0_change_61 (by omega) (by first | exact Or.inl ⟨by omega, rfl, rfl⟩ | exact Or.inr ⟨by omega, rfl, rfl⟩ | (exfalso; omega))
              · refine x_iload (q := 56) E dX0_change_54 0 rfl rfl ?_
                refine x_iload_n (q := 57) E dX0_change_56 3 rfl rfl ?_
                refine x_icmp_ne (tgt := 62) (q := 60) E dX0_change_57 (by decide) rfl (by omega) (by omega) (fun c57 => ?_) (fun c57 => ?_)
                · refine x_iload_n (q := 63) E dX0_change_62 2 rfl rfl ?_
                  refine x_iconst (q := 64) E dX0_change_63 rfl ?_
                  refine x_icmp_lt (tgt := 83) (q := 67) E dX0_change_64 (by decide) rfl (by omega) (by omega) (fun c64 => ?_) (fun c64 => ?_)
                  · refine x_iload_n (q := 84) E dX0_change_83 2 rfl rfl ?_
                    refine x_iconst (q := 85) E dX0_change_84 rfl ?_
                    refine x_icmp_lt (tgt := 105) (q := 88) E dX0_change_85 (by decide) rfl (by omega) (by omega) (fun c85 => ?_) (fun c85 => ?_)
                    · refine x_aload_n (q := 106) E dX0_change_105 1 rfl rfl ?_
                      refine x_get (q := 109) E iX0_change_X0 (5 + a) (xg_alph ha) rfl 0 (by decide) (by decide +kernel) rfl dX0_change_106 rfl ?_
                      refine x_iconst (q := 110) E dX0_change_109 rfl ?_
                      refine x_iload_n (q := 111) E dX0_change_110 3 rfl rfl ?_
                      refine x_iast (q := 112) (st' := (sA st (1 + a) (0) (w0))) (f := st.2 (1 + a)) E (9 + a) (xg_let ha) 0 rfl (by omega) (by omega) (by decide) dX0_change_111 (xs_let ha _ _) rfl ?_
                      refine x_aload_n (q := 113) E dX0_change_112 1 rfl rfl ?_
                      refine x_get (q := 116) E iX0_change_X0 (5 + a) (xg_alph ha) rfl 0 (by decide) (by decide +kernel) rfl dX0_change_113 rfl ?_
                      refine x_iconst (q := 117) E dX0_change_116 rfl ?_
                      refine x_iload_n (q := 118) E dX0_change_117 4 rfl rfl ?_
                      refine x_iast (q := 119) (st' := (sA (sA st (1 + a) (0) (w0)) (1 + a) (1) (x0))) (f := (sA st (1 + a) (0) (w0)).2 (1 + a)) E (9 + a) (xg_let ha) 0 rfl (by omega) (by omega) (by decide) dX0_change_118 (xs_let ha _ _) rfl ?_
                      refine x_aload_n (q := 120) E dX0_change_119 1 rfl rfl ?_
                      refine x_get (q := 123) E iX0_change_X0 (5 + a) (xg_alph ha) rfl 0 (by decide) (by decide +kernel) rfl dX0_change_120 rfl ?_
                      refine x_iconst (q := 124) E dX0_change_123 rfl ?_
                      refine x_iload (q := 126) E dX0_change_124 5 rfl rfl ?_
                      refine x_iast (q := 127) (st' := (sA (sA (sA st (1 + a) (0) (w0)) (1 + a) (1) (x0)) (1 + a) (2) (y0))) (f := (sA (sA st (1 + a) (0) (w0)) (1 + a) (1) (x0)).2 (1 + a)) E (9 + a) (xg_let ha) 0 rfl (by omega) (by omega) (by decide) dX0_change_126 (xs_let ha _ _) rfl ?_
                      refine x_aload_n (q := 128) E dX0_change_127 1 rfl rfl ?_
                      refine x_get (q := 131) E iX0_change_X0 (5 + a) (xg_alph ha) rfl 0 (by decide) (by decide +kernel) rfl dX0_change_128 rfl ?_
                      refine x_iconst (q := 132) E dX0_change_131 rfl ?_
                      refine x_iload (q := 134) E dX0_change_132 6 rfl rfl ?_
                      refine x_iast (q := 135) (st' := (sA (sA (sA (sA st (1 + a) (0) (w0)) (1 + a) (1) (x0)) (1 + a) (2) (y0)) (1 + a) (3) (z0))) (f := (sA (sA (sA st (1 + a) (0) (w0)) (1 + a) (1) (x0)) (1 + a) (2) (y0)).2 (1 + a)) E (9 + a) (xg_let ha) 0 rfl (by omega) (by omega) (by decide) dX0_change_134 (xs_let ha _ _) rfl ?_
                      refine x_aload_n (q := 136) E dX0_change_135 1 rfl rfl ?_
                      refine x_iload_n (q := 137) E dX0_change_136 2 rfl rfl ?_
                      refine x_put (q := 140) (st' := (sG (sA (sA (sA (sA st (1 + a) (0) (w0)) (1 + a) (1) (x0)) (1 + a) (2) (y0)) (1 + a) (3) (z0)) (3 + a) (n0))) (v := .int (ii (n0))) (ty := .int) E iX0_change_X0 tyX0 tyX0_ok nmX0 (5 + a) (xg_alph ha) rfl 1 (by decide) (by decide +kernel) rfl (by decide +kernel) rfl rfl (Nat.le_of_ble_eq_true rfl) dX0_change_137 (xs_alph ha _) rfl ?_
                      refine x_iconst (q := 141) E dX0_change_140 rfl ?_
                      exact RET _ _ _ _ dX0_change_141 (by omega) (by first | exact Or.inl ⟨by omega, rfl, rfl⟩ | exact Or.inr ⟨by omega, rfl, rfl⟩ | (exfalso; omega))
                    · refine x_iload (q := 90) E dX0_change_88 6 rfl rfl ?_
                      refine x_callSNi (q := 93) (n := 1) (As := [.int (ii (z0))]) (r := []) E (c_X5_isLetter l D T ad hN st (z0) (by omega)) gX0_change_X5_isLetter_n23 rfl rfl rfl E.nw.1 (by decide +kernel) (by decide +kernel) (by decide +kernel) ⟨Nat.le_of_ble_eq_true rfl, Nat.le_of_ble_eq_true rfl⟩ rfl rfl (Nat.le_of_ble_eq_true rfl) dX0_change_90 rfl (fun z7 s8 q9 => ?_)
                      obtain ⟨rfl, rfl⟩ := q9
                      refine x_if_eq (tgt := 103) (q := 96) E dX0_change_93 (by decide) rfl (by omega) (fun c93 => ?_) (fun c93 => ?_)
                      · refine x_iconst (q := 104) E dX0_change_103 rfl ?_
                        exact RET _ _ _ _ dX0_change_104 (by omega) (by first | exact Or.inl ⟨by omega, rfl, rfl⟩ | exact Or.inr ⟨by omega, rfl, rfl⟩ | (exfalso; omega))
                      · refine x_iload (q := 98) E dX0_change_96 5 rfl rfl ?_
                        refine x_iload (q := 100) E dX0_change_98 6 rfl rfl ?_
                        refine x_icmp_ne (tgt := 105) (q := 103) E dX0_change_100 (by decide) rfl (by omega) (by omega) (fun c100 => ?_) (fun c100 => ?_)
                        · refine x_aload_n (q := 106) E dX0_change_105 1 rfl rfl ?_
                          refine x_get (q := 109) E iX0_change_X0 (5 + a) (xg_alph ha) rfl 0 (by decide) (by decide +kernel) rfl dX0_change_106 rfl ?_
                          refine x_iconst (q := 110) E dX0_change_109 rfl ?_
                          refine x_iload_n (q := 111) E dX0_change_110 3 rfl rfl ?_
                          refine x_iast (q := 112) (st' := (sA st (1 + a) (0) (w0))) (f := st.2 (1 + a)) E (9 + a) (xg_let ha) 0 rfl (by omega) (by omega) (by decide) dX0_change_111 (xs_let ha _ _) rfl ?_
                          refine x_aload_n (q := 113) E dX0_change_112 1 rfl rfl ?_
                          refine x_get (q := 116) E iX0_change_X0 (5 + a) (xg_alph ha) rfl 0 (by decide) (by decide +kernel) rfl dX0_change_113 rfl ?_
                          refine x_iconst (q := 117) E dX0_change_116 rfl ?_
                          refine x_iload_n (q := 118) E dX0_change_117 4 rfl rfl ?_
                          refine x_iast (q := 119) (st' := (sA (sA st (1 + a) (0) (w0)) (1 + a) (1) (x0))) (f := (sA st (1 + a) (0) (w0)).2 (1 + a)) E (9 + a) (xg_let ha) 0 rfl (by omega) (by omega) (by decide) dX0_change_118 (xs_let ha _ _) rfl ?_
                          refine x_aload_n (q := 120) E dX0_change_119 1 rfl rfl ?_
                          refine x_get (q := 123) E iX0_change_X0 (5 + a) (xg_alph ha) rfl 0 (by decide) (by decide +kernel) rfl dX0_change_120 rfl ?_
                          refine x_iconst (q := 124) E dX0_change_123 rfl ?_
                          refine x_iload (q := 126) E dX0_change_124 5 rfl rfl ?_
                          refine x_iast (q := 127) (st' := (sA (sA (sA st (1 + a) (0) (w0)) (1 + a) (1) (x0)) (1 + a) (2) (y0))) (f := (sA (sA st (1 + a) (0) (w0)) (1 + a) (1) (x0)).2 (1 + a)) E (9 + a) (xg_let ha) 0 rfl (by omega) (by omega) (by decide) dX0_change_126 (xs_let ha _ _) rfl ?_
                          refine x_aload_n (q := 128) E dX0_change_127 1 rfl rfl ?_
                          refine x_get (q := 131) E iX0_change_X0 (5 + a) (xg_alph ha) rfl 0 (by decide) (by decide +kernel) rfl dX0_change_128 rfl ?_
                          refine x_iconst (q := 132) E dX0_change_131 rfl ?_
                          refine x_iload (q := 134) E dX0_change_132 6 rfl rfl ?_
                          refine x_iast (q := 135) (st' := (sA (sA (sA (sA st (1 + a) (0) (w0)) (1 + a) (1) (x0)) (1 + a) (2) (y0)) (1 + a) (3) (z0))) (f := (sA (sA (sA st (1 + a) (0) (w0)) (1 + a) (1) (x0)) (1 + a) (2) (y0)).2 (1 + a)) E (9 + a) (xg_let ha) 0 rfl (by omega) (by omega) (by decide) dX0_change_134 (xs_let ha _ _) rfl ?_
                          refine x_aload_n (q := 136) E dX0_change_135 1 rfl rfl ?_
                          refine x_iload_n (q := 137) E dX0_change_136 2 rfl rfl ?_
                          refine x_put (q := 140) (st' := (sG (sA (sA (sA (sA st (1 + a) (0) (w0)) (1 + a) (1) (x0)) (1 + a) (2) (y0)) (1 + a) (3) (z0)) (3 + a) (n0))) (v := .int (ii (n0))) (ty := .int) E iX0_change_X0 tyX0 tyX0_ok nmX0 (5 + a) (xg_alph ha) rfl 1 (by decide) (by decide +kernel) rfl (by decide +kernel) rfl rfl (Nat.le_of_ble_eq_true rfl) dX0_change_137 (xs_alph ha _) rfl ?_
                          refine x_iconst (q := 141) E dX0_change_140 rfl ?_
                          exact RET _ _ _ _ dX0_change_141 (by omega) (by first | exact Or.inl ⟨by omega, rfl, rfl⟩ | exact Or.inr ⟨by omega, rfl, rfl⟩ | (exfalso; omega))
                        · refine x_iconst (q := 104) E dX0_change_103 rfl ?_
                          exact RET _ _ _ _ dX0_change_104 (by omega) (by first | exact Or.inl ⟨by omega, rfl, rfl⟩ | exact Or.inr ⟨by omega, rfl, rfl⟩ | (exfalso; omega))
                  · refine x_iload (q := 69) E dX0_change_67 5 rfl rfl ?_
                    refine x_callSNi (q := 72) (n := 1) (As := [.int (ii (y0))]) (r := []) E (c_X5_isLetter l D T ad hN st (y0) (by omega)) gX0_change_X5_isLetter_n23 rfl rfl rfl E.nw.1 (by decide +kernel) (by decide +kernel) (by decide +kernel) ⟨Nat.le_of_ble_eq_true rfl, Nat.le_of_ble_eq_true rfl⟩ rfl rfl (Nat.le_of_ble_eq_true rfl) dX0_change_69 rfl (fun z10 s11 q12 => ?_)
                    obtain ⟨rfl, rfl⟩ := q12
                    refine x_if_eq (tgt := 81) (q := 75) E dX0_change_72 (by decide) rfl (by omega) (fun c72 => ?_) (fun c72 => ?_)
                    · refine x_iconst (q := 82) E dX0_change_81 rfl ?_
                      exact RET _ _ _ _ dX0_change_82 (by omega) (by first | exact Or.inl ⟨by omega, rfl, rfl⟩ | exact Or.inr ⟨by omega, rfl, rfl⟩ | (exfalso; omega))
                    · refine x_iload_n (q := 76) E dX0_change_75 4 rfl rfl ?_
                      refine x_iload (q := 78) E dX0_change_76 5 rfl rfl ?_
                      refine x_icmp_ne (tgt := 83) (q := 81) E dX0_change_78 (by decide) rfl (by omega) (by omega) (fun c78 => ?_) (fun c78 => ?_)
                      · refine x_iload_n (q := 84) E dX0_change_83 2 rfl rfl ?_
                        refine x_iconst (q := 85) E dX0_change_84 rfl ?_
                        refine x_icmp_lt (tgt := 105) (q := 88) E dX0_change_85 (by decide) rfl (by omega) (by omega) (fun c85 => ?_) (fun c85 => ?_)
                        · refine x_aload_n (q := 106) E dX0_change_105 1 rfl rfl ?_
                          refine x_get (q := 109) E iX0_change_X0 (5 + a) (xg_alph ha) rfl 0 (by decide) (by decide +kernel) rfl dX0_change_106 rfl ?_
                          refine x_iconst (q := 110) E dX0_change_109 rfl ?_
                          refine x_iload_n (q := 111) E dX0_change_110 3 rfl rfl ?_
                          refine x_iast (q := 112) (st' := (sA st (1 + a) (0) (w0))) (f := st.2 (1 + a)) E (9 + a) (xg_let ha) 0 rfl (by omega) (by omega) (by decide) dX0_change_111 (xs_let ha _ _) rfl ?_
                          refine x_aload_n (q := 113) E dX0_change_112 1 rfl rfl ?_
                          refine x_get (q := 116) E iX0_change_X0 (5 + a) (xg_alph ha) rfl 0 (by decide) (by decide +kernel) rfl dX0_change_113 rfl ?_
                          refine x_iconst (q := 117) E dX0_change_116 rfl ?_
                          refine x_iload_n (q := 118) E dX0_change_117 4 rfl rfl ?_
                          refine x_iast (q := 119) (st' := (sA (sA st (1 + a) (0) (w0)) (1 + a) (1) (x0))) (f := (sA st (1 + a) (0) (w0)).2 (1 + a)) E (9 + a) (xg_let ha) 0 rfl (by omega) (by omega) (by decide) dX0_change_118 (xs_let ha _ _) rfl ?_
                          refine x_aload_n (q := 120) E dX0_change_119 1 rfl rfl ?_
                          refine x_get (q := 123) E iX0_change_X0 (5 + a) (xg_alph ha) rfl 0 (by decide) (by decide +kernel) rfl dX0_change_120 rfl ?_
                          refine x_iconst (q := 124) E dX0_change_123 rfl ?_
                          refine x_iload (q := 126) E dX0_change_124 5 rfl rfl ?_
                          refine x_iast (q := 127) (st' := (sA (sA (sA st (1 + a) (0) (w0)) (1 + a) (1) (x0)) (1 + a) (2) (y0))) (f := (sA (sA st (1 + a) (0) (w0)) (1 + a) (1) (x0)).2 (1 + a)) E (9 + a) (xg_let ha) 0 rfl (by omega) (by omega) (by decide) dX0_change_126 (xs_let ha _ _) rfl ?_
                          refine x_aload_n (q := 128) E dX0_change_127 1 rfl rfl ?_
                          refine x_get (q := 131) E iX0_change_X0 (5 + a) (xg_alph ha) rfl 0 (by decide) (by decide +kernel) rfl dX0_change_128 rfl ?_
                          refine x_iconst (q := 132) E dX0_change_131 rfl ?_
                          refine x_iload (q := 134) E dX0_change_132 6 rfl rfl ?_
                          refine x_iast (q := 135) (st' := (sA (sA (sA (sA st (1 + a) (0) (w0)) (1 + a) (1) (x0)) (1 + a) (2) (y0)) (1 + a) (3) (z0))) (f := (sA (sA (sA st (1 + a) (0) (w0)) (1 + a) (1) (x0)) (1 + a) (2) (y0)).2 (1 + a)) E (9 + a) (xg_let ha) 0 rfl (by omega) (by omega) (by decide) dX0_change_134 (xs_let ha _ _) rfl ?_
                          refine x_aload_n (q := 136) E dX0_change_135 1 rfl rfl ?_
                          refine x_iload_n (q := 137) E dX0_change_136 2 rfl rfl ?_
                          refine x_put (q := 140) (st' := (sG (sA (sA (sA (sA st (1 + a) (0) (w0)) (1 + a) (1) (x0)) (1 + a) (2) (y0)) (1 + a) (3) (z0)) (3 + a) (n0))) (v := .int (ii (n0))) (ty := .int) E iX0_change_X0 tyX0 tyX0_ok nmX0 (5 + a) (xg_alph ha) rfl 1 (by decide) (by decide +kernel) rfl (by decide +kernel) rfl rfl (Nat.le_of_ble_eq_true rfl) dX0_change_137 (xs_alph ha _) rfl ?_
                          refine x_iconst (q := 141) E dX0_change_140 rfl ?_
                          exact RET _ _ _ _ dX0_change_141 (by omega) (by first | exact Or.inl ⟨by omega, rfl, rfl⟩ | exact Or.inr ⟨by omega, rfl, rfl⟩ | (exfalso; omega))
                        · refine x_iload (q := 90) E dX0_change_88 6 rfl rfl ?_
                          refine x_callSNi (q := 93) (n := 1) (As := [.int (ii (z0))]) (r := []) E (c_X5_isLetter l D T ad hN st (z0) (by omega)) gX0_change_X5_isLetter_n23 rfl rfl rfl E.nw.1 (by decide +kernel) (by decide +kernel) (by decide +kernel) ⟨Nat.le_of_ble_eq_true rfl, Nat.le_of_ble_eq_true rfl⟩ rfl rfl (Nat.le_of_ble_eq_true rfl) dX0_change_90 rfl (fun z13 s14 q15 => ?_)
                          obtain ⟨rfl, rfl⟩ := q15
                          refine x_if_eq (tgt := 103) (q := 96) E dX0_change_93 (by decide) rfl (by omega) (fun c93 => ?_) (fun c93 => ?_)
                          · refine x_iconst (q := 104) E dX0_change_103 rfl ?_
                            exact RET _ _ _ _ dX0_change_104 (by omega) (by first | exact Or.inl ⟨by omega, rfl, rfl⟩ | exact Or.inr ⟨by omega, rfl, rfl⟩ | (exfalso; omega))
                          · refine x_iload (q := 98) E dX0_change_96 5 rfl rfl ?_
                            refine x_iload (q := 100) E dX0_change_98 6 rfl rfl ?_
                            refine x_icmp_ne (tgt := 105) (q := 103) E dX0_change_100 (by decide) rfl (by omega) (by omega) (fun c100 => ?_) (fun c100 => ?_)
                            · refine x_aload_n (q := 106) E dX0_change_105 1 rfl rfl ?_
                              refine x_get (q := 109) E iX0_change_X0 (5 + a) (xg_alph ha) rfl 0 (by decide) (by decide +kernel) rfl dX0_change_106 rfl ?_
                              refine x_iconst (q := 110) E dX0_change_109 rfl ?_
                              refine x_iload_n (q := 111) E dX0_change_110 3 rfl rfl ?_
                              refine x_iast (q := 112) (st' := (sA st (1 + a) (0) (w0))) (f := st.2 (1 + a)) E (9 + a) (xg_let ha) 0 rfl (by omega) (by omega) (by decide) dX0_change_111 (xs_let ha _ _) rfl ?_
                              refine x_aload_n (q := 113) E dX0_change_112 1 rfl rfl ?_
                              refine x_get (q := 116) E iX0_change_X0 (5 + a) (xg_alph ha) rfl 0 (by decide) (by decide +kernel) rfl dX0_change_113 rfl ?_
                              refine x_iconst (q := 117) E dX0_change_116 rfl ?_
                              refine x_iload_n (q := 118) E dX0_change_117 4 rfl rfl ?_
                              refine x_iast (q := 119) (st' := (sA (sA st (1 + a) (0) (w0)) (1 + a) (1) (x0))) (f := (sA st (1 + a) (0) (w0)).2 (1 + a)) E (9 + a) (xg_let ha) 0 rfl (by omega) (by omega) (by decide) dX0_change_118 (xs_let ha _ _) rfl ?_
                              refine x_aload_n (q := 120) E dX0_change_119 1 rfl rfl ?_
                              refine x_get (q := 123) E iX0_change_X0 (5 + a) (xg_alph ha) rfl 0 (by decide) (by decide +kernel) rfl dX0_change_120 rfl ?_
                              refine x_iconst (q := 124) E dX0_change_123 rfl ?_
                              refine x_iload (q := 126) E dX0_change_124 5 rfl rfl ?_
                              refine x_iast (q := 127) (st' := (sA (sA (sA st (1 + a) (0) (w0)) (1 + a) (1) (x0)) (1 + a) (2) (y0))) (f := (sA (sA st (1 + a) (0) (w0)) (1 + a) (1) (x0)).2 (1 + a)) E (9 + a) (xg_let ha) 0 rfl (by omega) (by omega) (by decide) dX0_change_126 (xs_let ha _ _) rfl ?_
                              refine x_aload_n (q := 128) E dX0_change_127 1 rfl rfl ?_
                              refine x_get (q := 131) E iX0_change_X0 (5 + a) (xg_alph ha) rfl 0 (by decide) (by decide +kernel) rfl dX0_change_128 rfl ?_
                              refine x_iconst (q := 132) E dX0_change_131 rfl ?_
                              refine x_iload (q := 134) E dX0_change_132 6 rfl rfl ?_
                              refine x_iast (q := 135) (st' := (sA (sA (sA (sA st (1 + a) (0) (w0)) (1 + a) (1) (x0)) (1 + a) (2) (y0)) (1 + a) (3) (z0))) (f := (sA (sA (sA st (1 + a) (0) (w0)) (1 + a) (1) (x0)) (1 + a) (2) (y0)).2 (1 + a)) E (9 + a) (xg_let ha) 0 rfl (by omega) (by omega) (by decide) dX0_change_134 (xs_let ha _ _) rfl ?_
                              refine x_aload_n (q := 136) E dX0_change_135 1 rfl rfl ?_
                              refine x_iload_n (q := 137) E dX0_change_136 2 rfl rfl ?_
                              refine x_put (q := 140) (st' := (sG (sA (sA (sA (sA st (1 + a) (0) (w0)) (1 + a) (1) (x0)) (1 + a) (2) (y0)) (1 + a) (3) (z0)) (3 + a) (n0))) (v := .int (ii (n0))) (ty := .int) E iX0_change_X0 tyX0 tyX0_ok nmX0 (5 + a) (xg_alph ha) rfl 1 (by decide) (by decide +kernel) rfl (by decide +kernel) rfl rfl (Nat.le_of_ble_eq_true rfl) dX0_change_137 (xs_alph ha _) rfl ?_
                              refine x_iconst (q := 141) E dX0_change_140 rfl ?_
                              exact RET _ _ _ _ dX0_change_141 (by omega) (by first | exact Or.inl ⟨by omega, rfl, rfl⟩ | exact Or.inr ⟨by omega, rfl, rfl⟩ | (exfalso; omega))
                            · refine x_iconst (q := 104) E dX0_change_103 rfl ?_
                              exact RET _ _ _ _ dX0_change_104 (by omega) (by first | exact Or.inl ⟨by omega, rfl, rfl⟩ | exact Or.inr ⟨by omega, rfl, rfl⟩ | (exfalso; omega))
                      · refine x_iconst (q := 82) E dX0_change_81 rfl ?_
                        exact RET _ _ _ _ dX0_change_82 (by omega) (by first | exact Or.inl ⟨by omega, rfl, rfl⟩ | exact Or.inr ⟨by omega, rfl, rfl⟩ | (exfalso; omega))
                · refine x_iconst (q := 61) E dX0_change_60 rfl ?_
                  exact RET _ _ _ _ dX0_change_61 (by omega) (by first | exact Or.inl ⟨by omega, rfl, rfl⟩ | exact Or.inr ⟨by omega, rfl, rfl⟩ | (exfalso; omega))
        · refine x_iload (q := 28) E dX0_change_26 4 rfl rfl ?_
          refine x_goto (tgt := 33) E dX0_change_28 (by decide) ?_
          refine x_istore (q := 35) (lv' := [(6, .int (ii (y0))), (0, .ref (ad (5 + a))), (1, .int (ii (n0))), (2, .int (ii (w0))), (3, .int (ii (x0))), (4, .int (ii (y0))), (5, .int (ii (z0)))]) E dX0_change_33 (by decide) rfl rfl ?_
          refine x_iload_n (q := 36) E dX0_change_35 3 rfl rfl ?_
          refine x_callSNi (q := 39) (n := 1) (As := [.int (ii (w0))]) (r := []) E (c_X5_isLetter l D T ad hN st (w0) (by omega)) gX0_change_X5_isLetter_n23 rfl rfl rfl E.nw.1 (by decide +kernel) (by decide +kernel) (by decide +kernel) ⟨Nat.le_of_ble_eq_true rfl, Nat.le_of_ble_eq_true rfl⟩ rfl rfl (Nat.le_of_ble_eq_true rfl) dX0_change_36 rfl (fun z16 s17 q18 => ?_)
          obtain ⟨rfl, rfl⟩ := q18
          refine x_if_eq (tgt := 60) (q := 42) E dX0_change_39 (by decide) rfl (by omega) (fun c39 => ?_) (fun c39 => ?_)
          · refine x_iconst (q := 61) E dX0_change_60 rfl ?_
            exact RET _ _ _ _ dX0_change_61 (by omega) (by first | exact Or.inl ⟨by omega, rfl, rfl⟩ | exact Or.inr ⟨by omega, rfl, rfl⟩ | (exfalso; omega))
          · refine x_iload_n (q := 43) E dX0_change_42 4 rfl rfl ?_
            refine x_callSNi (q := 46) (n := 1) (As := [.int (ii (x0))]) (r := []) E (c_X5_isLetter l D T ad hN st (x0) (by omega)) gX0_change_X5_isLetter_n23 rfl rfl rfl E.nw.1 (by decide +kernel) (by decide +kernel) (by decide +kernel) ⟨Nat.le_of_ble_eq_true rfl, Nat.le_of_ble_eq_true rfl⟩ rfl rfl (Nat.le_of_ble_eq_true rfl) dX0_change_43 rfl (fun z19 s20 q21 => ?_)
            obtain ⟨rfl, rfl⟩ := q21
            refine x_if_eq (tgt := 60) (q := 49) E dX0_change_46 (by decide) rfl (by omega) (fun c46 => ?_) (fun c46 => ?_)
            · refine x_iconst (q := 61) E dX0_change_60 rfl ?_
              exact RET _ _ _ _ dX0_change_61 (by omega) (by first | exact Or.inl ⟨by omega, rfl, rfl⟩ | exact Or.inr ⟨by omega, rfl, rfl⟩ | (exfalso; omega))
            · refine x_iload_n (q := 50) E dX0_change_49 3 rfl rfl ?_
              refine x_iload_n (q := 51) E dX0_change_50 4 rfl rfl ?_
              refine x_icmp_eq (tgt := 60) (q := 54) E dX0_change_51 (by decide) rfl (by omega) (by omega) (fun c51 => ?_) (fun c51 => ?_)
              · refine x_iconst (q := 61) E dX0_change_60 rfl ?_
                exact RET _ _ _ _ dX0_change_61 (by omega) (by first | exact Or.inl ⟨by omega, rfl, rfl⟩ | exact Or.inr ⟨by omega, rfl, rfl⟩ | (exfalso; omega))
              · refine x_iload (q := 56) E dX0_change_54 0 rfl rfl ?_
                refine x_iload_n (q := 57) E dX0_change_56 3 rfl rfl ?_
                refine x_icmp_ne (tgt := 62) (q := 60) E dX0_change_57 (by decide) rfl (by omega) (by omega) (fun c57 => ?_) (fun c57 => ?_)
                · refine x_iload_n (q := 63) E dX0_change_62 2 rfl rfl ?_
                  refine x_iconst (q := 64) E dX0_change_63 rfl ?_
                  refine x_icmp_lt (tgt := 83) (q := 67) E dX0_change_64 (by decide) rfl (by omega) (by omega) (fun c64 => ?_) (fun c64 => ?_)
                  · refine x_iload_n (q := 84) E dX0_change_83 2 rfl rfl ?_
                    refine x_iconst (q := 85) E dX0_change_84 rfl ?_
                    refine x_icmp_lt (tgt := 105) (q := 88) E dX0_change_85 (by decide) rfl (by omega) (by omega) (fun c85 => ?_) (fun c85 => ?_)
                    · refine x_aload_n (q := 106) E dX0_change_105 1 rfl rfl ?_
                      refine x_get (q := 109) E iX0_change_X0 (5 + a) (xg_alph ha) rfl 0 (by decide) (by decide +kernel) rfl dX0_change_106 rfl ?_
                      refine x_iconst (q := 110) E dX0_change_109 rfl ?_
                      refine x_iload_n (q := 111) E dX0_change_110 3 rfl rfl ?_
                      refine x_iast (q := 112) (st' := (sA st (1 + a) (0) (w0))) (f := st.2 (1 + a)) E (9 + a) (xg_let ha) 0 rfl (by omega) (by omega) (by decide) dX0_change_111 (xs_let ha _ _) rfl ?_
                      refine x_aload_n (q := 113) E dX0_change_112 1 rfl rfl ?_
                      refine x_get (q := 116) E iX0_change_X0 (5 + a) (xg_alph ha) rfl 0 (by decide) (by decide +kernel) rfl dX0_change_113 rfl ?_
                      refine x_iconst (q := 117) E dX0_change_116 rfl ?_
                      refine x_iload_n (q := 118) E dX0_change_117 4 rfl rfl ?_
                      refine x_iast (q := 119) (st' := (sA (sA st (1 + a) (0) (w0)) (1 + a) (1) (x0))) (f := (sA st (1 + a) (0) (w0)).2 (1 + a)) E (9 + a) (xg_let ha) 0 rfl (by omega) (by omega) (by decide) dX0_change_118 (xs_let ha _ _) rfl ?_
                      refine x_aload_n (q := 120) E dX0_change_119 1 rfl rfl ?_
                      refine x_get (q := 123) E iX0_change_X0 (5 + a) (xg_alph ha) rfl 0 (by decide) (by decide +kernel) rfl dX0_change_120 rfl ?_
                      refine x_iconst (q := 124) E dX0_change_123 rfl ?_
                      refine x_iload (q := 126) E dX0_change_124 5 rfl rfl ?_
                      refine x_iast (q := 127) (st' := (sA (sA (sA st (1 + a) (0) (w0)) (1 + a) (1) (x0)) (1 + a) (2) (y0))) (f := (sA (sA st (1 + a) (0) (w0)) (1 + a) (1) (x0)).2 (1 + a)) E (9 + a) (xg_let ha) 0 rfl (by omega) (by omega) (by decide) dX0_change_126 (xs_let ha _ _) rfl ?_
                      refine x_aload_n (q := 128) E dX0_change_127 1 rfl rfl ?_
                      refine x_get (q := 131) E iX0_change_X0 (5 + a) (xg_alph ha) rfl 0 (by decide) (by decide +kernel) rfl dX0_change_128 rfl ?_
                      refine x_iconst (q := 132) E dX0_change_131 rfl ?_
                      refine x_iload (q := 134) E dX0_change_132 6 rfl rfl ?_
                      refine x_iast (q := 135) (st' := (sA (sA (sA (sA st (1 + a) (0) (w0)) (1 + a) (1) (x0)) (1 + a) (2) (y0)) (1 + a) (3) (z0))) (f := (sA (sA (sA st (1 + a) (0) (w0)) (1 + a) (1) (x0)) (1 + a) (2) (y0)).2 (1 + a)) E (9 + a) (xg_let ha) 0 rfl (by omega) (by omega) (by decide) dX0_change_134 (xs_let ha _ _) rfl ?_
                      refine x_aload_n (q := 136) E dX0_change_135 1 rfl rfl ?_
                      refine x_iload_n (q := 137) E dX0_change_136 2 rfl rfl ?_
                      refine x_put (q := 140) (st' := (sG (sA (sA (sA (sA st (1 + a) (0) (w0)) (1 + a) (1) (x0)) (1 + a) (2) (y0)) (1 + a) (3) (z0)) (3 + a) (n0))) (v := .int (ii (n0))) (ty := .int) E iX0_change_X0 tyX0 tyX0_ok nmX0 (5 + a) (xg_alph ha) rfl 1 (by decide) (by decide +kernel) rfl (by decide +kernel) rfl rfl (Nat.le_of_ble_eq_true rfl) dX0_change_137 (xs_alph ha _) rfl ?_
                      refine x_iconst (q := 141) E dX0_change_140 rfl ?_
                      exact RET _ _ _ _ dX0_change_141 (by omega) (by first | exact Or.inl ⟨by omega, rfl, rfl⟩ | exact Or.inr ⟨by omega, rfl, rfl⟩ | (exfalso; omega))
                    · refine x_iload (q := 90) E dX0_change_88 6 rfl rfl ?_
                      refine x_callSNi (q := 93) (n := 1) (As := [.int (ii (z0))]) (r := []) E (c_X5_isLetter l D T ad hN st (z0) (by omega)) gX0_change_X5_isLetter_n23 rfl rfl rfl E.nw.1 (by decide +kernel) (by decide +kernel) (by decide +kernel) ⟨Nat.le_of_ble_eq_true rfl, Nat.le_of_ble_eq_true rfl⟩ rfl rfl (Nat.le_of_ble_eq_true rfl) dX0_change_90 rfl (fun z22 s23 q24 => ?_)
                      obtain ⟨rfl, rfl⟩ := q24
                      refine x_if_eq (tgt := 103) (q := 96) E dX0_change_93 (by decide) rfl (by omega) (fun c93 => ?_) (fun c93 => ?_)
                      · refine x_iconst (q := 104) E dX0_change_103 rfl ?_
                        exact RET _ _ _ _ dX0_change_104 (by omega) (by first | exact Or.inl ⟨by omega, rfl, rfl⟩ | exact Or.inr ⟨by omega, rfl, rfl⟩ | (exfalso; omega))
                      · refine x_iload (q := 98) E dX0_change_96 5 rfl rfl ?_
                        refine x_iload (q := 100) E dX0_change_98 6 rfl rfl ?_
                        refine x_icmp_ne (tgt := 105) (q := 103) E dX0_change_100 (by decide) rfl (by omega) (by omega) (fun c100 => ?_) (fun c100 => ?_)
                        · refine x_aload_n (q := 106) E dX0_change_105 1 rfl rfl ?_
                          refine x_get (q := 109) E iX0_change_X0 (5 + a) (xg_alph ha) rfl 0 (by decide) (by decide +kernel) rfl dX0_change_106 rfl ?_
                          refine x_iconst (q := 110) E dX0_change_109 rfl ?_
                          refine x_iload_n (q := 111) E dX0_change_110 3 rfl rfl ?_
                          refine x_iast (q := 112) (st' := (sA st (1 + a) (0) (w0))) (f := st.2 (1 + a)) E (9 + a) (xg_let ha) 0 rfl (by omega) (by omega) (by decide) dX0_change_111 (xs_let ha _ _) rfl ?_
                          refine x_aload_n (q := 113) E dX0_change_112 1 rfl rfl ?_
                          refine x_get (q := 116) E iX0_change_X0 (5 + a) (xg_alph ha) rfl 0 (by decide) (by decide +kernel) rfl dX0_change_113 rfl ?_
                          refine x_iconst (q := 117) E dX0_change_116 rfl ?_
                          refine x_iload_n (q := 118) E dX0_change_117 4 rfl rfl ?_
                          refine x_iast (q := 119) (st' := (sA (sA st (1 + a) (0) (w0)) (1 + a) (1) (x0))) (f := (sA st (1 + a) (0) (w0)).2 (1 + a)) E (9 + a) (xg_let ha) 0 rfl (by omega) (by omega) (by decide) dX0_change_118 (xs_let ha _ _) rfl ?_
                          refine x_aload_n (q := 120) E dX0_change_119 1 rfl rfl ?_
                          refine x_get (q := 123) E iX0_change_X0 (5 + a) (xg_alph ha) rfl 0 (by decide) (by decide +kernel) rfl dX0_change_120 rfl ?_
                          refine x_iconst (q := 124) E dX0_change_123 rfl ?_
                          refine x_iload (q := 126) E dX0_change_124 5 rfl rfl ?_
                          refine x_iast (q := 127) (st' := (sA (sA (sA st (1 + a) (0) (w0)) (1 + a) (1) (x0)) (1 + a) (2) (y0))) (f := (sA (sA st (1 + a) (0) (w0)) (1 + a) (1) (x0)).2 (1 + a)) E (9 + a) (xg_let ha) 0 rfl (by omega) (by omega) (by decide) dX0_change_126 (xs_let ha _ _) rfl ?_
                          refine x_aload_n (q := 128) E dX0_change_127 1 rfl rfl ?_
                          refine x_get (q := 131) E iX0_change_X0 (5 + a) (xg_alph ha) rfl 0 (by decide) (by decide +kernel) rfl dX0_change_128 rfl ?_
                          refine x_iconst (q := 132) E dX0_change_131 rfl ?_
                          refine x_iload (q := 134) E dX0_change_132 6 rfl rfl ?_
                          refine x_iast (q := 135) (st' := (sA (sA (sA (sA st (1 + a) (0) (w0)) (1 + a) (1) (x0)) (1 + a) (2) (y0)) (1 + a) (3) (z0))) (f := (sA (sA (sA st (1 + a) (0) (w0)) (1 + a) (1) (x0)) (1 + a) (2) (y0)).2 (1 + a)) E (9 + a) (xg_let ha) 0 rfl (by omega) (by omega) (by decide) dX0_change_134 (xs_let ha _ _) rfl ?_
                          refine x_aload_n (q := 136) E dX0_change_135 1 rfl rfl ?_
                          refine x_iload_n (q := 137) E dX0_change_136 2 rfl rfl ?_
                          refine x_put (q := 140) (st' := (sG (sA (sA (sA (sA st (1 + a) (0) (w0)) (1 + a) (1) (x0)) (1 + a) (2) (y0)) (1 + a) (3) (z0)) (3 + a) (n0))) (v := .int (ii (n0))) (ty := .int) E iX0_change_X0 tyX0 tyX0_ok nmX0 (5 + a) (xg_alph ha) rfl 1 (by decide) (by decide +kernel) rfl (by decide +kernel) rfl rfl (Nat.le_of_ble_eq_true rfl) dX0_change_137 (xs_alph ha _) rfl ?_
                          refine x_iconst (q := 141) E dX0_change_140 rfl ?_
                          exact RET _ _ _ _ dX0_change_141 (by omega) (by first | exact Or.inl ⟨by omega, rfl, rfl⟩ | exact Or.inr ⟨by omega, rfl, rfl⟩ | (exfalso; omega))
                        · refine x_iconst (q := 104) E dX0_change_103 rfl ?_
                          exact RET _ _ _ _ dX0_change_104 (by omega) (by first | exact Or.inl ⟨by omega, rfl, rfl⟩ | exact Or.inr ⟨by omega, rfl, rfl⟩ | (exfalso; omega))
                  · refine x_iload (q := 69) E dX0_change_67 5 rfl rfl ?_
                    refine x_callSNi (q := 72) (n := 1) (As := [.int (ii (y0))]) (r := []) E (c_X5_isLetter l D T ad hN st (y0) (by omega)) gX0_change_X5_isLetter_n23 rfl rfl rfl E.nw.1 (by decide +kernel) (by decide +kernel) (by decide +kernel) ⟨Nat.le_of_ble_eq_true rfl, Nat.le_of_ble_eq_true rfl⟩ rfl rfl (Nat.le_of_ble_eq_true rfl) dX0_change_69 rfl (fun z25 s26 q27 => ?_)
                    obtain ⟨rfl, rfl⟩ := q27
                    refine x_if_eq (tgt := 81) (q := 75) E dX0_change_72 (by decide) rfl (by omega) (fun c72 => ?_) (fun c72 => ?_)
                    · refine x_iconst (q := 82) E dX0_change_81 rfl ?_
                      exact RET _ _ _ _ dX0_change_82 (by omega) (by first | exact Or.inl ⟨by omega, rfl, rfl⟩ | exact Or.inr ⟨by omega, rfl, rfl⟩ | (exfalso; omega))
                    · refine x_iload_n (q := 76) E dX0_change_75 4 rfl rfl ?_
                      refine x_iload (q := 78) E dX0_change_76 5 rfl rfl ?_
                      refine x_icmp_ne (tgt := 83) (q := 81) E dX0_change_78 (by decide) rfl (by omega) (by omega) (fun c78 => ?_) (fun c78 => ?_)
                      · refine x_iload_n (q := 84) E dX0_change_83 2 rfl rfl ?_
                        refine x_iconst (q := 85) E dX0_change_84 rfl ?_
                        refine x_icmp_lt (tgt := 105) (q := 88) E dX0_change_85 (by decide) rfl (by omega) (by omega) (fun c85 => ?_) (fun c85 => ?_)
                        · refine x_aload_n (q := 106) E dX0_change_105 1 rfl rfl ?_
                          refine x_get (q := 109) E iX0_change_X0 (5 + a) (xg_alph ha) rfl 0 (by decide) (by decide +kernel) rfl dX0_change_106 rfl ?_
                          refine x_iconst (q := 110) E dX0_change_109 rfl ?_
                          refine x_iload_n (q := 111) E dX0_change_110 3 rfl rfl ?_
                          refine x_iast (q := 112) (st' := (sA st (1 + a) (0) (w0))) (f := st.2 (1 + a)) E (9 + a) (xg_let ha) 0 rfl (by omega) (by omega) (by decide) dX0_change_111 (xs_let ha _ _) rfl ?_
                          refine x_aload_n (q := 113) E dX0_change_112 1 rfl rfl ?_
                          refine x_get (q := 116) E iX0_change_X0 (5 + a) (xg_alph ha) rfl 0 (by decide) (by decide +kernel) rfl dX0_change_113 rfl ?_
                          refine x_iconst (q := 117) E dX0_change_116 rfl ?_
                          refine x_iload_n (q := 118) E dX0_change_117 4 rfl rfl ?_
                          refine x_iast (q := 119) (st' := (sA (sA st (1 + a) (0) (w0)) (1 + a) (1) (x0))) (f := (sA st (1 + a) (0) (w0)).2 (1 + a)) E (9 + a) (xg_let ha) 0 rfl (by omega) (by omega) (by decide) dX0_change_118 (xs_let ha _ _) rfl ?_
                          refine x_aload_n (q := 120) E dX0_change_119 1 rfl rfl ?_
                          refine x_get (q := 123) E iX0_change_X0 (5 + a) (xg_alph ha) rfl 0 (by decide) (by decide +kernel) rfl dX0_change_120 rfl ?_
                          refine x_iconst (q := 124) E dX0_change_123 rfl ?_
                          refine x_iload (q := 126) E dX0_change_124 5 rfl rfl ?_
                          refine x_iast (q := 127) (st' := (sA (sA (sA st (1 + a) (0) (w0)) (1 + a) (1) (x0)) (1 + a) (2) (y0))) (f := (sA (sA st (1 + a) (0) (w0)) (1 + a) (1) (x0)).2 (1 + a)) E (9 + a) (xg_let ha) 0 rfl (by omega) (by omega) (by decide) dX0_change_126 (xs_let ha _ _) rfl ?_
                          refine x_aload_n (q := 128) E dX0_change_127 1 rfl rfl ?_
                          refine x_get (q := 131) E iX0_change_X0 (5 + a) (xg_alph ha) rfl 0 (by decide) (by decide +kernel) rfl dX0_change_128 rfl ?_
                          refine x_iconst (q := 132) E dX0_change_131 rfl ?_
                          refine x_iload (q := 134) E dX0_change_132 6 rfl rfl ?_
                          refine x_iast (q := 135) (st' := (sA (sA (sA (sA st (1 + a) (0) (w0)) (1 + a) (1) (x0)) (1 + a) (2) (y0)) (1 + a) (3) (z0))) (f := (sA (sA (sA st (1 + a) (0) (w0)) (1 + a) (1) (x0)) (1 + a) (2) (y0)).2 (1 + a)) E (9 + a) (xg_let ha) 0 rfl (by omega) (by omega) (by decide) dX0_change_134 (xs_let ha _ _) rfl ?_
                          refine x_aload_n (q := 136) E dX0_change_135 1 rfl rfl ?_
                          refine x_iload_n (q := 137) E dX0_change_136 2 rfl rfl ?_
                          refine x_put (q := 140) (st' := (sG (sA (sA (sA (sA st (1 + a) (0) (w0)) (1 + a) (1) (x0)) (1 + a) (2) (y0)) (1 + a) (3) (z0)) (3 + a) (n0))) (v := .int (ii (n0))) (ty := .int) E iX0_change_X0 tyX0 tyX0_ok nmX0 (5 + a) (xg_alph ha) rfl 1 (by decide) (by decide +kernel) rfl (by decide +kernel) rfl rfl (Nat.le_of_ble_eq_true rfl) dX0_change_137 (xs_alph ha _) rfl ?_
                          refine x_iconst (q := 141) E dX0_change_140 rfl ?_
                          exact RET _ _ _ _ dX0_change_141 (by omega) (by first | exact Or.inl ⟨by omega, rfl, rfl⟩ | exact Or.inr ⟨by omega, rfl, rfl⟩ | (exfalso; omega))
                        · refine x_iload (q := 90) E dX0_change_88 6 rfl rfl ?_
                          refine x_callSNi (q := 93) (n := 1) (As := [.int (ii (z0))]) (r := []) E (c_X5_isLetter l D T ad hN st (z0) (by omega)) gX0_change_X5_isLetter_n23 rfl rfl rfl E.nw.1 (by decide +kernel) (by decide +kernel) (by decide +kernel) ⟨Nat.le_of_ble_eq_true rfl, Nat.le_of_ble_eq_true rfl⟩ rfl rfl (Nat.le_of_ble_eq_true rfl) dX0_change_90 rfl (fun z28 s29 q30 => ?_)
                          obtain ⟨rfl, rfl⟩ := q30
                          refine x_if_eq (tgt := 103) (q := 96) E dX0_change_93 (by decide) rfl (by omega) (fun c93 => ?_) (fun c93 => ?_)
                          · refine x_iconst (q := 104) E dX0_change_103 rfl ?_
                            exact RET _ _ _ _ dX0_change_104 (by omega) (by first | exact Or.inl ⟨by omega, rfl, rfl⟩ | exact Or.inr ⟨by omega, rfl, rfl⟩ | (exfalso; omega))
                          · refine x_iload (q := 98) E dX0_change_96 5 rfl rfl ?_
                            refine x_iload (q := 100) E dX0_change_98 6 rfl rfl ?_
                            refine x_icmp_ne (tgt := 105) (q := 103) E dX0_change_100 (by decide) rfl (by omega) (by omega) (fun c100 => ?_) (fun c100 => ?_)
                            · refine x_aload_n (q := 106) E dX0_change_105 1 rfl rfl ?_
                              refine x_get (q := 109) E iX0_change_X0 (5 + a) (xg_alph ha) rfl 0 (by decide) (by decide +kernel) rfl dX0_change_106 rfl ?_
                              refine x_iconst (q := 110) E dX0_change_109 rfl ?_
                              refine x_iload_n (q := 111) E dX0_change_110 3 rfl rfl ?_
                              refine x_iast (q := 112) (st' := (sA st (1 + a) (0) (w0))) (f := st.2 (1 + a)) E (9 + a) (xg_let ha) 0 rfl (by omega) (by omega) (by decide) dX0_change_111 (xs_let ha _ _) rfl ?_
                              refine x_aload_n (q := 113) E dX0_change_112 1 rfl rfl ?_
                              refine x_get (q := 116) E iX0_change_X0 (5 + a) (xg_alph ha) rfl 0 (by decide) (by decide +kernel) rfl dX0_change_113 rfl ?_
                              refine x_iconst (q := 117) E dX0_change_116 rfl ?_
                              refine x_iload_n (q := 118) E dX0_change_117 4 rfl rfl ?_
                              refine x_iast (q := 119) (st' := (sA (sA st (1 + a) (0) (w0)) (1 + a) (1) (x0))) (f := (sA st (1 + a) (0) (w0)).2 (1 + a)) E (9 + a) (xg_let ha) 0 rfl (by omega) (by omega) (by decide) dX0_change_118 (xs_let ha _ _) rfl ?_
                              refine x_aload_n (q := 120) E dX0_change_119 1 rfl rfl ?_
                              refine x_get (q := 123) E iX0_change_X0 (5 + a) (xg_alph ha) rfl 0 (by decide) (by decide +kernel) rfl dX0_change_120 rfl ?_
                              refine x_iconst (q := 124) E dX0_change_123 rfl ?_
                              refine x_iload (q := 126) E dX0_change_124 5 rfl rfl ?_
                              refine x_iast (q := 127) (st' := (sA (sA (sA st (1 + a) (0) (w0)) (1 + a) (1) (x0)) (1 + a) (2) (y0))) (f := (sA (sA st (1 + a) (0) (w0)) (1 + a) (1) (x0)).2 (1 + a)) E (9 + a) (xg_let ha) 0 rfl (by omega) (by omega) (by decide) dX0_change_126 (xs_let ha _ _) rfl ?_
                              refine x_aload_n (q := 128) E dX0_change_127 1 rfl rfl ?_
                              refine x_get (q := 131) E iX0_change_X0 (5 + a) (xg_alph ha) rfl 0 (by decide) (by decide +kernel) rfl dX0_change_128 rfl ?_
                              refine x_iconst (q := 132) E dX0_change_131 rfl ?_
                              refine x_iload (q := 134) E dX0_change_132 6 rfl rfl ?_
                              refine x_iast (q := 135) (st' := (sA (sA (sA (sA st (1 + a) (0) (w0)) (1 + a) (1) (x0)) (1 + a) (2) (y0)) (1 + a) (3) (z0))) (f := (sA (sA (sA st (1 + a) (0) (w0)) (1 + a) (1) (x0)) (1 + a) (2) (y0)).2 (1 + a)) E (9 + a) (xg_let ha) 0 rfl (by omega) (by omega) (by decide) dX0_change_134 (xs_let ha _ _) rfl ?_
                              refine x_aload_n (q := 136) E dX0_change_135 1 rfl rfl ?_
                              refine x_iload_n (q := 137) E dX0_change_136 2 rfl rfl ?_
                              refine x_put (q := 140) (st' := (sG (sA (sA (sA (sA st (1 + a) (0) (w0)) (1 + a) (1) (x0)) (1 + a) (2) (y0)) (1 + a) (3) (z0)) (3 + a) (n0))) (v := .int (ii (n0))) (ty := .int) E iX0_change_X0 tyX0 tyX0_ok nmX0 (5 + a) (xg_alph ha) rfl 1 (by decide) (by decide +kernel) rfl (by decide +kernel) rfl rfl (Nat.le_of_ble_eq_true rfl) dX0_change_137 (xs_alph ha _) rfl ?_
                              refine x_iconst (q := 141) E dX0_change_140 rfl ?_
                              exact RET _ _ _ _ dX0_change_141 (by omega) (by first | exact Or.inl ⟨by omega, rfl, rfl⟩ | exact Or.inr ⟨by omega, rfl, rfl⟩ | (exfalso; omega))
                            · refine x_iconst (q := 104) E dX0_change_103 rfl ?_
                              exact RET _ _ _ _ dX0_change_104 (by omega) (by first | exact Or.inl ⟨by omega, rfl, rfl⟩ | exact Or.inr ⟨by omega, rfl, rfl⟩ | (exfalso; omega))
                      · refine x_iconst (q := 82) E dX0_change_81 rfl ?_
                        exact RET _ _ _ _ dX0_change_82 (by omega) (by first | exact Or.inl ⟨by omega, rfl, rfl⟩ | exact Or.inr ⟨by omega, rfl, rfl⟩ | (exfalso; omega))
                · refine x_iconst (q := 61) E dX0_change_60 rfl ?_
                  exact RET _ _ _ _ dX0_change_61 (by omega) (by first | exact Or.inl ⟨by omega, rfl, rfl⟩ | exact Or.inr ⟨by omega, rfl, rfl⟩ | (exfalso; omega))
      · refine x_iload_n (q := 18) E dX0_change_17 3 rfl rfl ?_
        refine x_goto (tgt := 33) E dX0_change_18 (by decide) ?_
        refine x_istore (q := 35) (lv' := [(6, .int (ii (x0))), (0, .ref (ad (5 + a))), (1, .int (ii (n0))), (2, .int (ii (w0))), (3, .int (ii (x0))), (4, .int (ii (y0))), (5, .int (ii (z0)))]) E dX0_change_33 (by decide) rfl rfl ?_
        refine x_iload_n (q := 36) E dX0_change_35 3 rfl rfl ?_
        refine x_callSNi (q := 39) (n := 1) (As := [.int (ii (w0))]) (r := []) E (c_X5_isLetter l D T ad hN st (w0) (by omega)) gX0_change_X5_isLetter_n23 rfl rfl rfl E.nw.1 (by decide +kernel) (by decide +kernel) (by decide +kernel) ⟨Nat.le_of_ble_eq_true rfl, Nat.le_of_ble_eq_true rfl⟩ rfl rfl (Nat.le_of_ble_eq_true rfl) dX0_change_36 rfl (fun z31 s32 q33 => ?_)
        obtain ⟨rfl, rfl⟩ := q33
        refine x_if_eq (tgt := 60) (q := 42) E dX0_change_39 (by decide) rfl (by omega) (fun c39 => ?_) (fun c39 => ?_)
        · refine x_iconst (q := 61) E dX0_change_60 rfl ?_
          exact RET _ _ _ _ dX0_change_61 (by omega) (by first | exact Or.inl ⟨by omega, rfl, rfl⟩ | exact Or.inr ⟨by omega, rfl, rfl⟩ | (exfalso; omega))
        · refine x_iload_n (q := 43) E dX0_change_42 4 rfl rfl ?_
          refine x_callSNi (q := 46) (n := 1) (As := [.int (ii (x0))]) (r := []) E (c_X5_isLetter l D T ad hN st (x0) (by omega)) gX0_change_X5_isLetter_n23 rfl rfl rfl E.nw.1 (by decide +kernel) (by decide +kernel) (by decide +kernel) ⟨Nat.le_of_ble_eq_true rfl, Nat.le_of_ble_eq_true rfl⟩ rfl rfl (Nat.le_of_ble_eq_true rfl) dX0_change_43 rfl (fun z34 s35 q36 => ?_)
          obtain ⟨rfl, rfl⟩ := q36
          refine x_if_eq (tgt := 60) (q := 49) E dX0_change_46 (by decide) rfl (by omega) (fun c46 => ?_) (fun c46 => ?_)
          · refine x_iconst (q := 61) E dX0_change_60 rfl ?_
            exact RET _ _ _ _ dX0_change_61 (by omega) (by first | exact Or.inl ⟨by omega, rfl, rfl⟩ | exact Or.inr ⟨by omega, rfl, rfl⟩ | (exfalso; omega))
          · refine x_iload_n (q := 50) E dX0_change_49 3 rfl rfl ?_
            refine x_iload_n (q := 51) E dX0_change_50 4 rfl rfl ?_
            refine x_icmp_eq (tgt := 60) (q := 54) E dX0_change_51 (by decide) rfl (by omega) (by omega) (fun c51 => ?_) (fun c51 => ?_)
            · refine x_iconst (q := 61) E dX0_change_60 rfl ?_
              exact RET _ _ _ _ dX0_change_61 (by omega) (by first | exact Or.inl ⟨by omega, rfl, rfl⟩ | exact Or.inr ⟨by omega, rfl, rfl⟩ | (exfalso; omega))
            · refine x_iload (q := 56) E dX0_change_54 0 rfl rfl ?_
              refine x_iload_n (q := 57) E dX0_change_56 3 rfl rfl ?_
              refine x_icmp_ne (tgt := 62) (q := 60) E dX0_change_57 (by decide) rfl (by omega) (by omega) (fun c57 => ?_) (fun c57 => ?_)
              · refine x_iload_n (q := 63) E dX0_change_62 2 rfl rfl ?_
                refine x_iconst (q := 64) E dX0_change_63 rfl ?_
                refine x_icmp_lt (tgt := 83) (q := 67) E dX0_change_64 (by decide) rfl (by omega) (by omega) (fun c64 => ?_) (fun c64 => ?_)
                · refine x_iload_n (q := 84) E dX0_change_83 2 rfl rfl ?_
                  refine x_iconst (q := 85) E dX0_change_84 rfl ?_
                  refine x_icmp_lt (tgt := 105) (q := 88) E dX0_change_85 (by decide) rfl (by omega) (by omega) (fun c85 => ?_) (fun c85 => ?_)
                  · refine x_aload_n (q := 106) E dX0_change_105 1 rfl rfl ?_
                    refine x_get (q := 109) E iX0_change_X0 (5 + a) (xg_alph ha) rfl 0 (by decide) (by decide +kernel) rfl dX0_change_106 rfl ?_
                    refine x_iconst (q := 110) E dX0_change_109 rfl ?_
                    refine x_iload_n (q := 111) E dX0_change_110 3 rfl rfl ?_
                    refine x_iast (q := 112) (st' := (sA st (1 + a) (0) (w0))) (f := st.2 (1 + a)) E (9 + a) (xg_let ha) 0 rfl (by omega) (by omega) (by decide) dX0_change_111 (xs_let ha _ _) rfl ?_
                    refine x_aload_n (q := 113) E dX0_change_112 1 rfl rfl ?_
                    refine x_get (q := 116) E iX0_change_X0 (5 + a) (xg_alph ha) rfl 0 (by decide) (by decide +kernel) rfl dX0_change_113 rfl ?_
                    refine x_iconst (q := 117) E dX0_change_116 rfl ?_
                    refine x_iload_n (q := 118) E dX0_change_117 4 rfl rfl ?_
                    refine x_iast (q := 119) (st' := (sA (sA st (1 + a) (0) (w0)) (1 + a) (1) (x0))) (f := (sA st (1 + a) (0) (w0)).2 (1 + a)) E (9 + a) (xg_let ha) 0 rfl (by omega) (by omega) (by decide) dX0_change_118 (xs_let ha _ _) rfl ?_
                    refine x_aload_n (q := 120) E dX0_change_119 1 rfl rfl ?_
                    refine x_get (q := 123) E iX0_change_X0 (5 + a) (xg_alph ha) rfl 0 (by decide) (by decide +kernel) rfl dX0_change_120 rfl ?_
                    refine x_iconst (q := 124) E dX0_change_123 rfl ?_
                    refine x_iload (q := 126) E dX0_change_124 5 rfl rfl ?_
                    refine x_iast (q := 127) (st' := (sA (sA (sA st (1 + a) (0) (w0)) (1 + a) (1) (x0)) (1 + a) (2) (y0))) (f := (sA (sA st (1 + a) (0) (w0)) (1 + a) (1) (x0)).2 (1 + a)) E (9 + a) (xg_let ha) 0 rfl (by omega) (by omega) (by decide) dX0_change_126 (xs_let ha _ _) rfl ?_
                    refine x_aload_n (q := 128) E dX0_change_127 1 rfl rfl ?_
                    refine x_get (q := 131) E iX0_change_X0 (5 + a) (xg_alph ha) rfl 0 (by decide) (by decide +kernel) rfl dX0_change_128 rfl ?_
                    refine x_iconst (q := 132) E dX0_change_131 rfl ?_
                    refine x_iload (q := 134) E dX0_change_132 6 rfl rfl ?_
                    refine x_iast (q := 135) (st' := (sA (sA (sA (sA st (1 + a) (0) (w0)) (1 + a) (1) (x0)) (1 + a) (2) (y0)) (1 + a) (3) (z0))) (f := (sA (sA (sA st (1 + a) (0) (w0)) (1 + a) (1) (x0)) (1 + a) (2) (y0)).2 (1 + a)) E (9 + a) (xg_let ha) 0 rfl (by omega) (by omega) (by decide) dX0_change_134 (xs_let ha _ _) rfl ?_
                    refine x_aload_n (q := 136) E dX0_change_135 1 rfl rfl ?_
                    refine x_iload_n (q := 137) E dX0_change_136 2 rfl rfl ?_
                    refine x_put (q := 140) (st' := (sG (sA (sA (sA (sA st (1 + a) (0) (w0)) (1 + a) (1) (x0)) (1 + a) (2) (y0)) (1 + a) (3) (z0)) (3 + a) (n0))) (v := .int (ii (n0))) (ty := .int) E iX0_change_X0 tyX0 tyX0_ok nmX0 (5 + a) (xg_alph ha) rfl 1 (by decide) (by decide +kernel) rfl (by decide +kernel) rfl rfl (Nat.le_of_ble_eq_true rfl) dX0_change_137 (xs_alph ha _) rfl ?_
                    refine x_iconst (q := 141) E dX0_change_140 rfl ?_
                    exact RET _ _ _ _ dX0_change_141 (by omega) (by first | exact Or.inl ⟨by omega, rfl, rfl⟩ | exact Or.inr ⟨by omega, rfl, rfl⟩ | (exfalso; omega))
                  · refine x_iload (q := 90) E dX0_change_88 6 rfl rfl ?_
                    refine x_callSNi (q := 93) (n := 1) (As := [.int (ii (z0))]) (r := []) E (c_X5_isLetter l D T ad hN st (z0) (by omega)) gX0_change_X5_isLetter_n23 rfl rfl rfl E.nw.1 (by decide +kernel) (by decide +kernel) (by decide +kernel) ⟨Nat.le_of_ble_eq_true rfl, Nat.le_of_ble_eq_true rfl⟩ rfl rfl (Nat.le_of_ble_eq_true rfl) dX0_change_90 rfl (fun z37 s38 q39 => ?_)
                    obtain ⟨rfl, rfl⟩ := q39
                    refine x_if_eq (tgt := 103) (q := 96) E dX0_change_93 (by decide) rfl (by omega) (fun c93 => ?_) (fun c93 => ?_)
                    · refine x_iconst (q := 104) E dX0_change_103 rfl ?_
                      exact RET _ _ _ _ dX0_change_104 (by omega) (by first | exact Or.inl ⟨by omega, rfl, rfl⟩ | exact Or.inr ⟨by omega, rfl, rfl⟩ | (exfalso; omega))
                    · refine x_iload (q := 98) E dX0_change_96 5 rfl rfl ?_
                      refine x_iload (q := 100) E dX0_change_98 6 rfl rfl ?_
                      refine x_icmp_ne (tgt := 105) (q := 103) E dX0_change_100 (by decide) rfl (by omega) (by omega) (fun c100 => ?_) (fun c100 => ?_)
                      · refine x_aload_n (q := 106) E dX0_change_105 1 rfl rfl ?_
                        refine x_get (q := 109) E iX0_change_X0 (5 + a) (xg_alph ha) rfl 0 (by decide) (by decide +kernel) rfl dX0_change_106 rfl ?_
                        refine x_iconst (q := 110) E dX0_change_109 rfl ?_
                        refine x_iload_n (q := 111) E dX0_change_110 3 rfl rfl ?_
                        refine x_iast (q := 112) (st' := (sA st (1 + a) (0) (w0))) (f := st.2 (1 + a)) E (9 + a) (xg_let ha) 0 rfl (by omega) (by omega) (by decide) dX0_change_111 (xs_let ha _ _) rfl ?_
                        refine x_aload_n (q := 113) E dX0_change_112 1 rfl rfl ?_
                        refine x_get (q := 116) E iX0_change_X0 (5 + a) (xg_alph ha) rfl 0 (by decide) (by decide +kernel) rfl dX0_change_113 rfl ?_
                        refine x_iconst (q := 117) E dX0_change_116 rfl ?_
                        refine x_iload_n (q := 118) E dX0_change_117 4 rfl rfl ?_
                        refine x_iast (q := 119) (st' := (sA (sA st (1 + a) (0) (w0)) (1 + a) (1) (x0))) (f := (sA st (1 + a) (0) (w0)).2 (1 + a)) E (9 + a) (xg_let ha) 0 rfl (by omega) (by omega) (by decide) dX0_change_118 (xs_let ha _ _) rfl ?_
                        refine x_aload_n (q := 120) E dX0_change_119 1 rfl rfl ?_
                        refine x_get (q := 123) E iX0_change_X0 (5 + a) (xg_alph ha) rfl 0 (by decide) (by decide +kernel) rfl dX0_change_120 rfl ?_
                        refine x_iconst (q := 124) E dX0_change_123 rfl ?_
                        refine x_iload (q := 126) E dX0_change_124 5 rfl rfl ?_
                        refine x_iast (q := 127) (st' := (sA (sA (sA st (1 + a) (0) (w0)) (1 + a) (1) (x0)) (1 + a) (2) (y0))) (f := (sA (sA st (1 + a) (0) (w0)) (1 + a) (1) (x0)).2 (1 + a)) E (9 + a) (xg_let ha) 0 rfl (by omega) (by omega) (by decide) dX0_change_126 (xs_let ha _ _) rfl ?_
                        refine x_aload_n (q := 128) E dX0_change_127 1 rfl rfl ?_
                        refine x_get (q := 131) E iX0_change_X0 (5 + a) (xg_alph ha) rfl 0 (by decide) (by decide +kernel) rfl dX0_change_128 rfl ?_
                        refine x_iconst (q := 132) E dX0_change_131 rfl ?_
                        refine x_iload (q := 134) E dX0_change_132 6 rfl rfl ?_
                        refine x_iast (q := 135) (st' := (sA (sA (sA (sA st (1 + a) (0) (w0)) (1 + a) (1) (x0)) (1 + a) (2) (y0)) (1 + a) (3) (z0))) (f := (sA (sA (sA st (1 + a) (0) (w0)) (1 + a) (1) (x0)) (1 + a) (2) (y0)).2 (1 + a)) E (9 + a) (xg_let ha) 0 rfl (by omega) (by omega) (by decide) dX0_change_134 (xs_let ha _ _) rfl ?_
                        refine x_aload_n (q := 136) E dX0_change_135 1 rfl rfl ?_
                        refine x_iload_n (q := 137) E dX0_change_136 2 rfl rfl ?_
                        refine x_put (q := 140) (st' := (sG (sA (sA (sA (sA st (1 + a) (0) (w0)) (1 + a) (1) (x0)) (1 + a) (2) (y0)) (1 + a) (3) (z0)) (3 + a) (n0))) (v := .int (ii (n0))) (ty := .int) E iX0_change_X0 tyX0 tyX0_ok nmX0 (5 + a) (xg_alph ha) rfl 1 (by decide) (by decide +kernel) rfl (by decide +kernel) rfl rfl (Nat.le_of_ble_eq_true rfl) dX0_change_137 (xs_alph ha _) rfl ?_
                        refine x_iconst (q := 141) E dX0_change_140 rfl ?_
                        exact RET _ _ _ _ dX0_change_141 (by omega) (by first | exact Or.inl ⟨by omega, rfl, rfl⟩ | exact Or.inr ⟨by omega, rfl, rfl⟩ | (exfalso; omega))
                      · refine x_iconst (q := 104) E dX0_change_103 rfl ?_
                        exact RET _ _ _ _ dX0_change_104 (by omega) (by first | exact Or.inl ⟨by omega, rfl, rfl⟩ | exact Or.inr ⟨by omega, rfl, rfl⟩ | (exfalso; omega))
                · refine x_iload (q := 69) E dX0_change_67 5 rfl rfl ?_
                  refine x_callSNi (q := 72) (n := 1) (As := [.int (ii (y0))]) (r := []) E (c_X5_isLetter l D T ad hN st (y0) (by omega)) gX0_change_X5_isLetter_n23 rfl rfl rfl E.nw.1 (by decide +kernel) (by decide +kernel) (by decide +kernel) ⟨Nat.le_of_ble_eq_true rfl, Nat.le_of_ble_eq_true rfl⟩ rfl rfl (Nat.le_of_ble_eq_true rfl) dX0_change_69 rfl (fun z40 s41 q42 => ?_)
                  obtain ⟨rfl, rfl⟩ := q42
                  refine x_if_eq (tgt := 81) (q := 75) E dX0_change_72 (by decide) rfl (by omega) (fun c72 => ?_) (fun c72 => ?_)
                  · refine x_iconst (q := 82) E dX0_change_81 rfl ?_
                    exact RET _ _ _ _ dX0_change_82 (by omega) (by first | exact Or.inl ⟨by omega, rfl, rfl⟩ | exact Or.inr ⟨by omega, rfl, rfl⟩ | (exfalso; omega))
                  · refine x_iload_n (q := 76) E dX0_change_75 4 rfl rfl ?_
                    refine x_iload (q := 78) E dX0_change_76 5 rfl rfl ?_
                    refine x_icmp_ne (tgt := 83) (q := 81) E dX0_change_78 (by decide) rfl (by omega) (by omega) (fun c78 => ?_) (fun c78 => ?_)
                    · refine x_iload_n (q := 84) E dX0_change_83 2 rfl rfl ?_
                      refine x_iconst (q := 85) E dX0_change_84 rfl ?_
                      refine x_icmp_lt (tgt := 105) (q := 88) E dX0_change_85 (by decide) rfl (by omega) (by omega) (fun c85 => ?_) (fun c85 => ?_)
                      · refine x_aload_n (q := 106) E dX0_change_105 1 rfl rfl ?_
                        refine x_get (q := 109) E iX0_change_X0 (5 + a) (xg_alph ha) rfl 0 (by decide) (by decide +kernel) rfl dX0_change_106 rfl ?_
                        refine x_iconst (q := 110) E dX0_change_109 rfl ?_
                        refine x_iload_n (q := 111) E dX0_change_110 3 rfl rfl ?_
                        refine x_iast (q := 112) (st' := (sA st (1 + a) (0) (w0))) (f := st.2 (1 + a)) E (9 + a) (xg_let ha) 0 rfl (by omega) (by omega) (by decide) dX0_change_111 (xs_let ha _ _) rfl ?_
                        refine x_aload_n (q := 113) E dX0_change_112 1 rfl rfl ?_
                        refine x_get (q := 116) E iX0_change_X0 (5 + a) (xg_alph ha) rfl 0 (by decide) (by decide +kernel) rfl dX0_change_113 rfl ?_
                        refine x_iconst (q := 117) E dX0_change_116 rfl ?_
                        refine x_iload_n (q := 118) E dX0_change_117 4 rfl rfl ?_
                        refine x_iast (q := 119) (st' := (sA (sA st (1 + a) (0) (w0)) (1 + a) (1) (x0))) (f := (sA st (1 + a) (0) (w0)).2 (1 + a)) E (9 + a) (xg_let ha) 0 rfl (by omega) (by omega) (by decide) dX0_change_118 (xs_let ha _ _) rfl ?_
                        refine x_aload_n (q := 120) E dX0_change_119 1 rfl rfl ?_
                        refine x_get (q := 123) E iX0_change_X0 (5 + a) (xg_alph ha) rfl 0 (by decide) (by decide +kernel) rfl dX0_change_120 rfl ?_
                        refine x_iconst (q := 124) E dX0_change_123 rfl ?_
                        refine x_iload (q := 126) E dX0_change_124 5 rfl rfl ?_
                        refine x_iast (q := 127) (st' := (sA (sA (sA st (1 + a) (0) (w0)) (1 + a) (1) (x0)) (1 + a) (2) (y0))) (f := (sA (sA st (1 + a) (0) (w0)) (1 + a) (1) (x0)).2 (1 + a)) E (9 + a) (xg_let ha) 0 rfl (by omega) (by omega) (by decide) dX0_change_126 (xs_let ha _ _) rfl ?_
                        refine x_aload_n (q := 128) E dX0_change_127 1 rfl rfl ?_
                        refine x_get (q := 131) E iX0_change_X0 (5 + a) (xg_alph ha) rfl 0 (by decide) (by decide +kernel) rfl dX0_change_128 rfl ?_
                        refine x_iconst (q := 132) E dX0_change_131 rfl ?_
                        refine x_iload (q := 134) E dX0_change_132 6 rfl rfl ?_
                        refine x_iast (q := 135) (st' := (sA (sA (sA (sA st (1 + a) (0) (w0)) (1 + a) (1) (x0)) (1 + a) (2) (y0)) (1 + a) (3) (z0))) (f := (sA (sA (sA st (1 + a) (0) (w0)) (1 + a) (1) (x0)) (1 + a) (2) (y0)).2 (1 + a)) E (9 + a) (xg_let ha) 0 rfl (by omega) (by omega) (by decide) dX0_change_134 (xs_let ha _ _) rfl ?_
                        refine x_aload_n (q := 136) E dX0_change_135 1 rfl rfl ?_
                        refine x_iload_n (q := 137) E dX0_change_136 2 rfl rfl ?_
                        refine x_put (q := 140) (st' := (sG (sA (sA (sA (sA st (1 + a) (0) (w0)) (1 + a) (1) (x0)) (1 + a) (2) (y0)) (1 + a) (3) (z0)) (3 + a) (n0))) (v := .int (ii (n0))) (ty := .int) E iX0_change_X0 tyX0 tyX0_ok nmX0 (5 + a) (xg_alph ha) rfl 1 (by decide) (by decide +kernel) rfl (by decide +kernel) rfl rfl (Nat.le_of_ble_eq_true rfl) dX0_change_137 (xs_alph ha _) rfl ?_
                        refine x_iconst (q := 141) E dX0_change_140 rfl ?_
                        exact RET _ _ _ _ dX0_change_141 (by omega) (by first | exact Or.inl ⟨by omega, rfl, rfl⟩ | exact Or.inr ⟨by omega, rfl, rfl⟩ | (exfalso; omega))
                      · refine x_iload (q := 90) E dX0_change_88 6 rfl rfl ?_
                        refine x_callSNi (q := 93) (n := 1) (As := [.int (ii (z0))]) (r := []) E (c_X5_isLetter l D T ad hN st (z0) (by omega)) gX0_change_X5_isLetter_n23 rfl rfl rfl E.nw.1 (by decide +kernel) (by decide +kernel) (by decide +kernel) ⟨Nat.le_of_ble_eq_true rfl, Nat.le_of_ble_eq_true rfl⟩ rfl rfl (Nat.le_of_ble_eq_true rfl) dX0_change_90 rfl (fun z43 s44 q45 => ?_)
                        obtain ⟨rfl, rfl⟩ := q45
                        refine x_if_eq (tgt := 103) (q := 96) E dX0_change_93 (by decide) rfl (by omega) (fun c93 => ?_) (fun c93 => ?_)
                        · refine x_iconst (q := 104) E dX0_change_103 rfl ?_
                          exact RET _ _ _ _ dX0_change_104 (by omega) (by first | exact Or.inl ⟨by omega, rfl, rfl⟩ | exact Or.inr ⟨by omega, rfl, rfl⟩ | (exfalso; omega))
                        · refine x_iload (q := 98) E dX0_change_96 5 rfl rfl ?_
                          refine x_iload (q := 100) E dX0_change_98 6 rfl rfl ?_
                          refine x_icmp_ne (tgt := 105) (q := 103) E dX0_change_100 (by decide) rfl (by omega) (by omega) (fun c100 => ?_) (fun c100 => ?_)
                          · refine x_aload_n (q := 106) E dX0_change_105 1 rfl rfl ?_
                            refine x_get (q := 109) E iX0_change_X0 (5 + a) (xg_alph ha) rfl 0 (by decide) (by decide +kernel) rfl dX0_change_106 rfl ?_
                            refine x_iconst (q := 110) E dX0_change_109 rfl ?_
                            refine x_iload_n (q := 111) E dX0_change_110 3 rfl rfl ?_
                            refine x_iast (q := 112) (st' := (sA st (1 + a) (0) (w0))) (f := st.2 (1 + a)) E (9 + a) (xg_let ha) 0 rfl (by omega) (by omega) (by decide) dX0_change_111 (xs_let ha _ _) rfl ?_
                            refine x_aload_n (q := 113) E dX0_change_112 1 rfl rfl ?_
                            refine x_get (q := 116) E iX0_change_X0 (5 + a) (xg_alph ha) rfl 0 (by decide) (by decide +kernel) rfl dX0_change_113 rfl ?_
                            refine x_iconst (q := 117) E dX0_change_116 rfl ?_
                            refine x_iload_n (q := 118) E dX0_change_117 4 rfl rfl ?_
                            refine x_iast (q := 119) (st' := (sA (sA st (1 + a) (0) (w0)) (1 + a) (1) (x0))) (f := (sA st (1 + a) (0) (w0)).2 (1 + a)) E (9 + a) (xg_let ha) 0 rfl (by omega) (by omega) (by decide) dX0_change_118 (xs_let ha _ _) rfl ?_
                            refine x_aload_n (q := 120) E dX0_change_119 1 rfl rfl ?_
                            refine x_get (q := 123) E iX0_change_X0 (5 + a) (xg_alph ha) rfl 0 (by decide) (by decide +kernel) rfl dX0_change_120 rfl ?_
                            refine x_iconst (q := 124) E dX0_change_123 rfl ?_
                            refine x_iload (q := 126) E dX0_change_124 5 rfl rfl ?_
                            refine x_iast (q := 127) (st' := (sA (sA (sA st (1 + a) (0) (w0)) (1 + a) (1) (x0)) (1 + a) (2) (y0))) (f := (sA (sA st (1 + a) (0) (w0)) (1 + a) (1) (x0)).2 (1 + a)) E (9 + a) (xg_let ha) 0 rfl (by omega) (by omega) (by decide) dX0_change_126 (xs_let ha _ _) rfl ?_
                            refine x_aload_n (q := 128) E dX0_change_127 1 rfl rfl ?_
                            refine x_get (q := 131) E iX0_change_X0 (5 + a) (xg_alph ha) rfl 0 (by decide) (by decide +kernel) rfl dX0_change_128 rfl ?_
                            refine x_iconst (q := 132) E dX0_change_131 rfl ?_
                            refine x_iload (q := 134) E dX0_change_132 6 rfl rfl ?_
                            refine x_iast (q := 135) (st' := (sA (sA (sA (sA st (1 + a) (0) (w0)) (1 + a) (1) (x0)) (1 + a) (2) (y0)) (1 + a) (3) (z0))) (f := (sA (sA (sA st (1 + a) (0) (w0)) (1 + a) (1) (x0)) (1 + a) (2) (y0)).2 (1 + a)) E (9 + a) (xg_let ha) 0 rfl (by omega) (by omega) (by decide) dX0_change_134 (xs_let ha _ _) rfl ?_
                            refine x_aload_n (q := 136) E dX0_change_135 1 rfl rfl ?_
                            refine x_iload_n (q := 137) E dX0_change_136 2 rfl rfl ?_
                            refine x_put (q := 140) (st' := (sG (sA (sA (sA (sA st (1 + a) (0) (w0)) (1 + a) (1) (x0)) (1 + a) (2) (y0)) (1 + a) (3) (z0)) (3 + a) (n0))) (v := .int (ii (n0))) (ty := .int) E iX0_change_X0 tyX0 tyX0_ok nmX0 (5 + a) (xg_alph ha) rfl 1 (by decide) (by decide +kernel) rfl (by decide +kernel) rfl rfl (Nat.le_of_ble_eq_true rfl) dX0_change_137 (xs_alph ha _) rfl ?_
                            refine x_iconst (q := 141) E dX0_change_140 rfl ?_
                            exact RET _ _ _ _ dX0_change_141 (by omega) (by first | exact Or.inl ⟨by omega, rfl, rfl⟩ | exact Or.inr ⟨by omega, rfl, rfl⟩ | (exfalso; omega))
                          · refine x_iconst (q := 104) E dX0_change_103 rfl ?_
                            exact RET _ _ _ _ dX0_change_104 (by omega) (by first | exact Or.inl ⟨by omega, rfl, rfl⟩ | exact Or.inr ⟨by omega, rfl, rfl⟩ | (exfalso; omega))
                    · refine x_iconst (q := 82) E dX0_change_81 rfl ?_
                      exact RET _ _ _ _ dX0_change_82 (by omega) (by first | exact Or.inl ⟨by omega, rfl, rfl⟩ | exact Or.inr ⟨by omega, rfl, rfl⟩ | (exfalso; omega))
              · refine x_iconst (q := 61) E dX0_change_60 rfl ?_
                exact RET _ _ _ _ dX0_change_61 (by omega) (by first | exact Or.inl ⟨by omega, rfl, rfl⟩ | exact Or.inr ⟨by omega, rfl, rfl⟩ | (exfalso; omega))
    · refine x_iconst (q := 11) E dX0_change_10 rfl ?_
      exact RET _ _ _ _ dX0_change_11 (by omega) (by first | exact Or.inl ⟨by omega, rfl, rfl⟩ | exact Or.inr ⟨by omega, rfl, rfl⟩ | (exfalso; omega))

theorem iX4_change_X4 : ∀ w ∈ wsX40, w ∈ wsX4_change := by decide +kernel
set_option maxRecDepth 100000 in
set_option maxHeartbeats 4000000 in
theorem c_X4_change (l : Launch) (D : va_G) (T : Nat → ClassId) (ad : Nat → Nat) (hN : ∀ i j, i < 33 → j < 33 → ad i = ad j → i = j) (st : St_) (w : Nat) (hw : w < 3) (k : Int) (bk : -2147483648 ≤ k ∧ k < 2147483648) (v : Int) (bv : -2147483648 ≤ v ∧ v < 2147483648) (hk : 0 ≤ k ∧ k < 60) : CXv l yX4_change wsX4_change (rmX 0 0) [.ref (ad (25 + w)), .int (ii (k)), .int (ii (v))] D (tyX T) (XW T ad) (alX ad) st (fun st2 => st2 = sA st (14 + w) k v) := by
  refine mk_v (cc := cX4_change) (nL := 3) rfl rfl (XW_ok hN) (Nat.le_of_ble_eq_true rfl) [(0, .ref (ad (25 + w))), (1, .int (ii (k))), (2, .int (ii (v)))] rfl (fun p e s m args below meth c A Q E RET => ?_)
  refine x_iload_n (q := 1) E dX4_change_0 1 rfl rfl ?_
  refine x_if_lt (tgt := 20) (q := 4) E dX4_change_1 (by decide) rfl (by omega) (fun c1 => ?_) (fun c1 => ?_)
  · exact RET _ _ _ dX4_change_20 (by first | (exfalso; omega) | rfl)
  · refine x_iload_n (q := 5) E dX4_change_4 1 rfl rfl ?_
    refine x_aload_n (q := 6) E dX4_change_5 0 rfl rfl ?_
    refine x_get (q := 9) E iX4_change_X4 (25 + w) (xg_word hw) rfl 0 (by decide) (by decide +kernel) rfl dX4_change_6 rfl ?_
    refine x_alen (q := 10) E (28 + w) (xg_wl hw) 0 rfl dX4_change_9 rfl ?_
    refine x_ti (show (((60 : Nat) : Int)) = 60 from rfl) ?_
    refine x_icmp_ge (tgt := 20) (q := 13) E dX4_change_10 (by decide) rfl (by omega) (by omega) (fun c10 => ?_) (fun c10 => ?_)
    · exact RET _ _ _ dX4_change_20 (by first | (exfalso; omega) | rfl)
    · refine x_aload_n (q := 14) E dX4_change_13 0 rfl rfl ?_
      refine x_get (q := 17) E iX4_change_X4 (25 + w) (xg_word hw) rfl 0 (by decide) (by decide +kernel) rfl dX4_change_14 rfl ?_
      refine x_iload_n (q := 18) E dX4_change_17 1 rfl rfl ?_
      refine x_iload_n (q := 19) E dX4_change_18 2 rfl rfl ?_
      refine x_iast (q := 20) (st' := (sA st (14 + w) (k) (v))) (f := st.2 (14 + w)) E (28 + w) (xg_wl hw) 0 rfl (by omega) (by omega) (by decide) dX4_change_19 (xs_wl hw _ _) rfl ?_
      exact RET _ _ _ dX4_change_20 (by first | (exfalso; omega) | rfl)

theorem iX4_mixInto_X4 : ∀ w ∈ wsX40, w ∈ wsX4_mixInto := by decide +kernel
set_option maxRecDepth 100000 in
set_option maxHeartbeats 4000000 in
theorem c_X4_mixInto (l : Launch) (D : va_G) (T : Nat → ClassId) (ad : Nat → Nat) (hN : ∀ i j, i < 33 → j < 33 → ad i = ad j → i = j) (st : St_) (w : Nat) (hw : w < 3) (h : Int) (hs : 0 ≤ st.1 (10 + w) ∧ st.1 (10 + w) ≤ 60) (hb : ∀ j : Int, 0 ≤ j → j < 60 → 0 ≤ st.2 (14 + w) j ∧ st.2 (14 + w) j ≤ 60) : CXl l yX4_mixInto wsX4_mixInto (rmX 1 21) [.ref (ad (25 + w)), .long (jj (h))] D (tyX T) (XW T ad) (alX ad) st (fun z st2 => mix (st.2 (14 + w)) (h) (st.1 (10 + w)) = z ∧ st = st2) := by
  refine mk_l (cc := cX4_mixInto) (nL := 6) rfl rfl (XW_ok hN) (Nat.le_of_ble_eq_true rfl) [(0, .ref (ad (25 + w))), (1, .long (jj (h)))] rfl (fun p e s m args below meth c A Q E RET => ?_)
  refine x_lload_n (q := 1) E dX4_mixInto_0 1 rfl rfl ?_
  refine x_lstore_n (q := 2) (lv' := [(3, .long (jj (h))), (0, .ref (ad (25 + w))), (1, .long (jj (h)))]) E dX4_mixInto_1 (by decide) rfl rfl ?_
  refine x_iconst (q := 3) E dX4_mixInto_2 rfl ?_
  refine x_istore (q := 5) (lv' := [(5, .int (ii (0))), (3, .long (jj (h))), (0, .ref (ad (25 + w))), (1, .long (jj (h)))]) E dX4_mixInto_3 (by decide) rfl rfl ?_
  have L5 : ∀ (n : Nat) (t : Int) (i : Int), (st.1 (10 + w) - i).toNat < n → (0 ≤ i ∧ i ≤ st.1 (10 + w)) → (t = mix (st.2 (14 + w)) h i) → XJ p l e (rmX 1 21) s m args below meth c D (XW T ad) A 6 Q 0 0 st 5 [(0, .ref (ad (25 + w))), (3, .long (jj (t))), (5, .int (ii (i)))] [] := by
    intro n
    induction n with
    | zero => intro t i hn; exact absurd hn (Nat.not_lt_zero _)
    | succ n ih5 =>
      intro t i hn5 a1 a2
      refine x_iload (q := 7) E dX4_mixInto_5 2 rfl rfl ?_
      refine x_aload_n (q := 8) E dX4_mixInto_7 0 rfl rfl ?_
      refine x_get (q := 11) E iX4_mixInto_X4 (25 + w) (xg_word hw) rfl 1 (by decide) (by decide +kernel) rfl dX4_mixInto_8 rfl ?_
      refine x_icmp_ge (tgt := 34) (q := 14) E dX4_mixInto_11 (by decide) rfl (by omega) (by omega) (fun c11 => ?_) (fun c11 => ?_)
      · refine x_lload_n (q := 35) E dX4_mixInto_34 1 rfl rfl ?_
        exact RET _ _ _ _ dX4_mixInto_35 (⟨by rw [a2]; exact congrArg _ (by omega), rfl⟩)
      · have e1 : wat st w i = st.2 (14 + w) i := wat_in (by omega) (by omega) (by omega)
        have e2 := hb i (by omega) (by omega)
        refine x_ldc2 (q := 17) (v := 31) (z := 31) E (by decide +kernel) (by decide) dX4_mixInto_14 rfl ?_
        refine x_lload_n (q := 18) E dX4_mixInto_17 1 rfl rfl ?_
        refine x_lmul (q := 19) E dX4_mixInto_18 rfl ?_
        refine x_aload_n (q := 20) E dX4_mixInto_19 0 rfl rfl ?_
        refine x_iload (q := 22) E dX4_mixInto_20 2 rfl rfl ?_
        refine x_callVi (q := 25) (n := 1) (As := [.int (ii (i))]) (r := [.long (jj ((31) * (t)))]) E (c_X4_letterAt l D T ad hN st (w) hw (i) (by omega) (by omega)) gX4_mixInto_X4_letterAt rfl rfl rfl (by decide +kernel) ⟨Nat.le_of_ble_eq_true rfl, Nat.le_of_ble_eq_true rfl⟩ (25 + w) (xg_word hw) rfl rfl rfl (Nat.le_of_ble_eq_true rfl) dX4_mixInto_22 rfl (fun z1 s2 q3 => ?_)
        obtain ⟨rfl, rfl⟩ := q3
        refine x_i2l (q := 26) E dX4_mixInto_25 (by omega) rfl ?_
        refine x_ladd (q := 27) E dX4_mixInto_26 rfl ?_
        refine x_lstore_n (q := 28) (lv' := [(3, .long (jj (((31) * (t)) + (wat st w (i))))), (0, .ref (ad (25 + w))), (5, .int (ii (i)))]) E dX4_mixInto_27 (by decide) rfl rfl ?_
        refine x_iinc (q := 31) (k := 2) (lv' := [(5, .int (ii (i + 1))), (3, .long (jj (((31) * (t)) + (wat st w (i))))), (0, .ref (ad (25 + w)))]) E dX4_mixInto_28 rfl (by decide) rfl rfl ?_
        refine x_goto (tgt := 5) E dX4_mixInto_31 (by decide) ?_
        refine x_lv E (lv' := [(0, .ref (ad (25 + w))), (3, .long (jj (((31) * (t)) + (wat st w (i))))), (5, .int (ii (i + 1)))]) [2, 1, 0] rfl ?_
        exact ih5 (((31) * (t)) + (wat st w (i))) (i + 1) (by omega) (by omega) (by rw [mix_s _ _ (by omega), a2, e1])
  refine x_lv E (lv' := [(0, .ref (ad (25 + w))), (3, .long (jj (h))), (5, .int (ii (0)))]) [2, 1, 0] rfl ?_
  exact L5 _ (h) (0) (Nat.lt_succ_self _) (by omega) ((mix_0 _ _).symm)

theorem iX4_turnRound_X4 : ∀ w ∈ wsX40, w ∈ wsX4_turnRound := by decide +kernel
set_option maxRecDepth 100000 in
set_option maxHeartbeats 4000000 in
theorem c_X4_turnRound (l : Launch) (D : va_G) (T : Nat → ClassId) (ad : Nat → Nat) (hN : ∀ i j, i < 33 → j < 33 → ad i = ad j → i = j) (st : St_) (w : Nat) (hw : w < 3) (hs : 0 ≤ st.1 (10 + w) ∧ st.1 (10 + w) ≤ 60) (hb : ∀ j : Int, 0 ≤ j → j < 60 → 0 ≤ st.2 (14 + w) j ∧ st.2 (14 + w) j ≤ 60) : CXv l yX4_turnRound wsX4_turnRound (rmX 1 22) [.ref (ad (25 + w))] D (tyX T) (XW T ad) (alX ad) st (fun st2 => ∃ f : Int → Int, st2 = sF st (14 + w) f ∧ (∀ k : Int, 0 ≤ k → k < st.1 (10 + w) → f k = st.2 (14 + w) (st.1 (10 + w) - 1 - k)) ∧ ∀ j : Int, 0 ≤ j → j < 60 → 0 ≤ f j ∧ f j ≤ 60) := by
  refine mk_v (cc := cX4_turnRound) (nL := 4) rfl rfl (XW_ok hN) (Nat.le_of_ble_eq_true rfl) [(0, .ref (ad (25 + w)))] rfl (fun p e s m args below meth c A Q E RET => ?_)
  refine x_iconst (q := 1) E dX4_turnRound_0 rfl ?_
  refine x_istore_n (q := 2) (lv' := [(1, .int (ii (0))), (0, .ref (ad (25 + w)))]) E dX4_turnRound_1 (by decide) rfl rfl ?_
  refine x_aload_n (q := 3) E dX4_turnRound_2 1 rfl rfl ?_
  refine x_get (q := 6) E iX4_turnRound_X4 (25 + w) (xg_word hw) rfl 1 (by decide) (by decide +kernel) rfl dX4_turnRound_3 rfl ?_
  refine x_iconst (q := 7) E dX4_turnRound_6 rfl ?_
  refine x_isub (q := 8) E dX4_turnRound_7 rfl ?_
  refine x_istore_n (q := 9) (lv' := [(2, .int (ii ((st.1 (10 + w)) - (1)))), (1, .int (ii (0))), (0, .ref (ad (25 + w)))]) E dX4_turnRound_8 (by decide) rfl rfl ?_
  have L9 : ∀ (n : Nat) (i : Int) (v : Int) (f : Int → Int), (v - i + 2).toNat < n → (0 ≤ i ∧ i + v = st.1 (10 + w) - 1 ∧ i ≤ v + 2) → (∀ j : Int, i ≤ j → j ≤ v → f j = st.2 (14 + w) j) → (∀ j : Int, 0 ≤ j → j < i → f j = st.2 (14 + w) (st.1 (10 + w) - 1 - j) ∧ f (st.1 (10 + w) - 1 - j) = st.2 (14 + w) j) → (∀ j : Int, 0 ≤ j → j < 60 → 0 ≤ f j ∧ f j ≤ 60) → XJ p l e (rmX 1 22) s m args below meth c D (XW T ad) A 4 Q 0 0 (sF st (14 + w) (f)) 9 [(0, .ref (ad (25 + w))), (1, .int (ii (i))), (2, .int (ii (v)))] [] := by
    intro n
    induction n with
    | zero => intro i v f hn; exact absurd hn (Nat.not_lt_zero _)
    | succ n ih9 =>
      intro i v f hn9 a1 a2 a3 a4
      refine x_iload_n (q := 10) E dX4_turnRound_9 1 rfl rfl ?_
      refine x_iload_n (q := 11) E dX4_turnRound_10 2 rfl rfl ?_
      refine x_icmp_ge (tgt := 45) (q := 14) E dX4_turnRound_11 (by decide) rfl (by omega) (by omega) (fun c11 => ?_) (fun c11 => ?_)
      · exact RET _ _ _ dX4_turnRound_45 (⟨f, rfl, fun k h0 h1 => if hk : k < i then (a3 k h0 hk).1 else if hk2 : k ≤ v then (by rw [a2 k (by omega) hk2]; exact congrArg _ (by omega)) else (by have := (a3 (st.1 (10 + w) - 1 - k) (by omega) (by omega)).2; rw [show st.1 (10 + w) - 1 - (st.1 (10 + w) - 1 - k) = k from by omega] at this; exact this), a4⟩)
      · have e1 : wat (sF st (14 + w) f) w i = f i := by rw [wat_in (by omega) (by rw [sF_1]; omega) (by rw [sF_1]; omega), sF_s]
        have e2 : wat (sF st (14 + w) f) w v = f v := by rw [wat_in (by omega) (by rw [sF_1]; omega) (by rw [sF_1]; omega), sF_s]
        have e3 := a4 i (by omega) (by omega)
        have e4 := a4 v (by omega) (by omega)
        rw [← e1] at e3
        rw [← e2] at e4
        refine x_aload_n (q := 15) E dX4_turnRound_14 0 rfl rfl ?_
        refine x_iload_n (q := 16) E dX4_turnRound_15 1 rfl rfl ?_
        refine x_callVi (q := 19) (n := 1) (As := [.int (ii (i))]) (r := []) E (c_X4_letterAt l D T ad hN (sF st (14 + w) (f)) (w) hw (i) (by omega) (by rw [sF_1]; omega)) gX4_turnRound_X4_letterAt rfl rfl rfl (by decide +kernel) ⟨Nat.le_of_ble_eq_true rfl, Nat.le_of_ble_eq_true rfl⟩ (25 + w) (xg_word hw) rfl rfl rfl (Nat.le_of_ble_eq_true rfl) dX4_turnRound_16 rfl (fun z1 s2 q3 => ?_)
        obtain ⟨rfl, rfl⟩ := q3
        refine x_istore_n (q := 20) (lv' := [(3, .int (ii (wat (sF st (14 + w) (f)) w (i)))), (0, .ref (ad (25 + w))), (1, .int (ii (i))), (2, .int (ii (v)))]) E dX4_turnRound_19 (by decide) rfl rfl ?_
        refine x_aload_n (q := 21) E dX4_turnRound_20 1 rfl rfl ?_
        refine x_iload_n (q := 22) E dX4_turnRound_21 2 rfl rfl ?_
        refine x_aload_n (q := 23) E dX4_turnRound_22 1 rfl rfl ?_
        refine x_iload_n (q := 24) E dX4_turnRound_23 3 rfl rfl ?_
        refine x_callVi (q := 27) (n := 1) (As := [.int (ii (v))]) (r := [.int (ii (i)), .ref (ad (25 + w))]) E (c_X4_letterAt l D T ad hN (sF st (14 + w) (f)) (w) hw (v) (by omega) (by rw [sF_1]; omega)) gX4_turnRound_X4_letterAt rfl rfl rfl (by decide +kernel) ⟨Nat.le_of_ble_eq_true rfl, Nat.le_of_ble_eq_true rfl⟩ (25 + w) (xg_word hw) rfl rfl rfl (Nat.le_of_ble_eq_true rfl) dX4_turnRound_24 rfl (fun z4 s5 q6 => ?_)
        obtain ⟨rfl, rfl⟩ := q6
        refine x_callVv (q := 30) (n := 2) (As := [.int (ii (i)), .int (ii (wat (sF st (14 + w) (f)) w (v)))]) (r := []) E (c_X4_change l D T ad hN (sF st (14 + w) (f)) (w) hw (i) (by omega) (wat (sF st (14 + w) (f)) w (v)) (by omega) (by omega)) gX4_turnRound_X4_change rfl rfl rfl (by decide +kernel) ⟨Nat.le_of_ble_eq_true rfl, Nat.le_of_ble_eq_true rfl⟩ (25 + w) (xg_word hw) rfl rfl rfl (Nat.le_of_ble_eq_true rfl) dX4_turnRound_27 rfl (fun s8 q9 => ?_)
        obtain rfl := q9
        refine x_aload_n (q := 31) E dX4_turnRound_30 1 rfl rfl ?_
        refine x_iload_n (q := 32) E dX4_turnRound_31 3 rfl rfl ?_
        refine x_iload_n (q := 33) E dX4_turnRound_32 0 rfl rfl ?_
        refine x_callVv (q := 36) (n := 2) (As := [.int (ii (v)), .int (ii (wat (sF st (14 + w) (f)) w (i)))]) (r := []) E (c_X4_change l D T ad hN (sA (sF st (14 + w) (f)) (14 + w) (i) (wat (sF st (14 + w) (f)) w (v))) (w) hw (v) (by omega) (wat (sF st (14 + w) (f)) w (i)) (by omega) (by omega)) gX4_turnRound_X4_change rfl rfl rfl (by decide +kernel) ⟨Nat.le_of_ble_eq_true rfl, Nat.le_of_ble_eq_true rfl⟩ (25 + w) (xg_word hw) rfl rfl rfl (Nat.le_of_ble_eq_true rfl) dX4_turnRound_33 rfl (fun s11 q12 => ?_)
        obtain rfl := q12
        refine x_iinc (q := 39) (k := 2) (lv' := [(1, .int (ii (i + 1))), (3, .int (ii (wat (sF st (14 + w) (f)) w (i)))), (0, .ref (ad (25 + w))), (2, .int (ii (v)))]) E dX4_turnRound_36 rfl (by decide) rfl rfl ?_
        refine x_iinc (q := 42) (k := 3) (lv' := [(2, .int (ii (v + (-1)))), (1, .int (ii (i + 1))), (3, .int (ii (wat (sF st (14 + w) (f)) w (i)))), (0, .ref (ad (25 + w)))]) E dX4_turnRound_39 rfl (by decide) rfl rfl ?_
        refine x_goto (tgt := 9) E dX4_turnRound_42 (by decide) ?_
        refine x_st E (st' := (sF st (14 + w) (zup (zup (f) (i) (wat (sF st (14 + w) (f)) w (v))) (v) (wat (sF st (14 + w) (f)) w (i))))) (by refine Prod.ext (funext fun k9 => ?_) (funext fun q9 => ?_) <;> simp only [sG_1, sG_2, sA_1, sA_2, sF_1, sF_2, reduceIte] <;> (repeat' split) <;> first | rfl | omega | (subst_vars; first | rfl | omega) | simp_all) ?_
        refine x_lv E (lv' := [(0, .ref (ad (25 + w))), (1, .int (ii (i + 1))), (2, .int (ii (v + (-1))))]) [3, 1, 0] rfl ?_
        exact ih9 (i + 1) (v + (-1)) (zup (zup (f) (i) (wat (sF st (14 + w) (f)) w (v))) (v) (wat (sF st (14 + w) (f)) w (i))) (by omega) (by omega) (fun j h0 h1 => by rw [zup_ne _ _ (by omega), zup_ne _ _ (by omega)]; exact a2 j (by omega) (by omega)) (fun j h0 h1 => if hj : j = i then (by rw [hj, show st.1 (10 + w) - 1 - i = v from by omega, zup_eq, zup_ne _ _ (by omega), zup_eq, e1, e2]; exact ⟨a2 v (by omega) (by omega), a2 i (by omega) (by omega)⟩) else (by rw [zup_ne _ _ (by omega), zup_ne _ _ (by omega), zup_ne _ _ (by omega), zup_ne _ _ (by omega)]; exact a3 j h0 (by omega))) (zup_b (zup_b a4 (by omega) (by omega)) (by omega) (by omega))
  refine x_lv E (lv' := [(0, .ref (ad (25 + w))), (1, .int (ii (0))), (2, .int (ii ((st.1 (10 + w)) - (1))))]) [2, 1, 0] rfl ?_
  refine x_st E (st' := (sF st (14 + w) (st.2 (14 + w)))) (by refine Prod.ext (funext fun k9 => ?_) (funext fun q9 => ?_) <;> simp only [sG_1, sG_2, sA_1, sA_2, sF_1, sF_2, reduceIte] <;> (repeat' split) <;> first | rfl | omega | (subst_vars; first | rfl | omega) | simp_all) ?_
  exact L9 _ (0) ((st.1 (10 + w)) - (1)) (st.2 (14 + w)) (Nat.lt_succ_self _) (by omega) (fun _ _ _ => rfl) (fun j h0 h1 => absurd h1 (by omega)) (hb)

theorem iX4_replaceBy_X4 : ∀ w ∈ wsX40, w ∈ wsX4_replaceBy := by decide +kernel
set_option maxRecDepth 100000 in
set_option maxHeartbeats 4000000 in
theorem c_X4_replaceBy (l : Launch) (D : va_G) (T : Nat → ClassId) (ad : Nat → Nat) (hN : ∀ i j, i < 33 → j < 33 → ad i = ad j → i = j) (st : St_) (w : Nat) (hw : w < 3) (a : Nat) (ha : a < 4) (hs : 0 ≤ st.1 (10 + w) ∧ st.1 (10 + w) ≤ 60) (hb : ∀ j : Int, 0 ≤ j → j < 60 → 0 ≤ st.2 (14 + w) j ∧ st.2 (14 + w) j ≤ 60) (hsa : 2 ≤ st.1 (3 + a) ∧ st.1 (3 + a) ≤ 4) (hla : ∀ j : Int, 0 ≤ j → j < st.1 (3 + a) → 1 ≤ st.2 (1 + a) j ∧ st.2 (1 + a) j ≤ 6) : CXi l yX4_replaceBy wsX4_replaceBy (rmX 2 44) [.ref (ad (25 + w)), .ref (ad (5 + a))] D (tyX T) (XW T ad) (alX ad) st (fun z st2 => ∃ f : Int → Int, st2 = sF st (14 + w) f ∧ (∀ j : Int, 0 ≤ j → j < st.1 (10 + w) → TR (st.2 (1 + a)) (st.1 (3 + a)) (st.2 (14 + w) j) (f j)) ∧ (∀ j : Int, 0 ≤ j → j < 60 → 0 ≤ f j ∧ f j ≤ 60) ∧ z = isum (fun j => if f j = st.2 (14 + w) j then 0 else 1) (st.1 (10 + w))) := by
  refine mk_i (cc := cX4_replaceBy) (nL := 5) rfl rfl (XW_ok hN) (Nat.le_of_ble_eq_true rfl) [(0, .ref (ad (25 + w))), (1, .ref (ad (5 + a)))] rfl (fun p e s m args below meth c A Q E RET => ?_)
  refine x_iconst (q := 1) E dX4_replaceBy_0 rfl ?_
  refine x_istore_n (q := 2) (lv' := [(2, .int (ii (0))), (0, .ref (ad (25 + w))), (1, .ref (ad (5 + a)))]) E dX4_replaceBy_1 (by decide) rfl rfl ?_
  refine x_iconst (q := 3) E dX4_replaceBy_2 rfl ?_
  refine x_istore_n (q := 4) (lv' := [(3, .int (ii (0))), (2, .int (ii (0))), (0, .ref (ad (25 + w))), (1, .ref (ad (5 + a)))]) E dX4_replaceBy_3 (by decide) rfl rfl ?_
  have L4 : ∀ (n : Nat) (t : Int) (i : Int) (f : Int → Int), (st.1 (10 + w) - i).toNat < n → (0 ≤ i ∧ i ≤ st.1 (10 + w)) → (∀ j : Int, i ≤ j → f j = st.2 (14 + w) j) → (∀ j : Int, 0 ≤ j → j < i → TR (st.2 (1 + a)) (st.1 (3 + a)) (st.2 (14 + w) j) (f j)) → (∀ j : Int, 0 ≤ j → j < 60 → 0 ≤ f j ∧ f j ≤ 60) → (t = isum (fun j => if f j = st.2 (14 + w) j then 0 else 1) i) → XJ p l e (rmX 2 44) s m args below meth c D (XW T ad) A 5 Q 0 0 (sF st (14 + w) (f)) 4 [(0, .ref (ad (25 + w))), (1, .ref (ad (5 + a))), (2, .int (ii (t))), (3, .int (ii (i)))] [] := by
    intro n
    induction n with
    | zero => intro t i f hn; exact absurd hn (Nat.not_lt_zero _)
    | succ n ih4 =>
      intro t i f hn4 a1 a2 a3 a4 a5
      refine x_iload_n (q := 5) E dX4_replaceBy_4 3 rfl rfl ?_
      refine x_aload_n (q := 6) E dX4_replaceBy_5 0 rfl rfl ?_
      refine x_get (q := 9) E iX4_replaceBy_X4 (25 + w) (xg_word hw) rfl 1 (by decide) (by decide +kernel) rfl dX4_replaceBy_6 rfl ?_
      refine x_ti (show (sF st (14 + w) (f)).1 (10 + w) = st.1 (10 + w) by rw [sF_1]) ?_
      refine x_icmp_ge (tgt := 58) (q := 12) E dX4_replaceBy_9 (by decide) rfl (by omega) (by omega) (fun c9 => ?_) (fun c9 => ?_)
      · refine x_iload_n (q := 59) E dX4_replaceBy_58 2 rfl rfl ?_
        exact RET _ _ _ _ dX4_replaceBy_59 (⟨f, rfl, fun j h0 h1 => a3 j h0 (by omega), a4, by rw [a5]; exact congrArg _ (by omega)⟩)
      · have e1 : wat (sF st (14 + w) f) w i = st.2 (14 + w) i := by rw [wat_in (by omega) (by rw [sF_1]; omega) (by rw [sF_1]; omega), sF_s]; exact a2 i (by omega)
        have e2 := hb i (by omega) (by omega)
        have e3 : wat (sF st (14 + w) f) w i ≠ -1 := by omega
        have e4 : 0 ≤ wat (sF st (14 + w) f) w i ∧ wat (sF st (14 + w) f) w i ≤ 60 := by omega
        refine x_aload_n (q := 13) E dX4_replaceBy_12 1 rfl rfl ?_
        refine x_aload_n (q := 14) E dX4_replaceBy_13 0 rfl rfl ?_
        refine x_iload_n (q := 15) E dX4_replaceBy_14 3 rfl rfl ?_
        refine x_callVi (q := 18) (n := 1) (As := [.int (ii (i))]) (r := [.ref (ad (5 + a))]) E (c_X4_letterAt l D T ad hN (sF st (14 + w) (f)) (w) hw (i) (by omega) (by rw [sF_1]; omega)) gX4_replaceBy_X4_letterAt rfl rfl rfl (by decide +kernel) ⟨Nat.le_of_ble_eq_true rfl, Nat.le_of_ble_eq_true rfl⟩ (25 + w) (xg_word hw) rfl rfl rfl (Nat.le_of_ble_eq_true rfl) dX4_replaceBy_15 rfl (fun z1 s2 q3 => ?_)
        obtain ⟨rfl, rfl⟩ := q3
        refine x_callVi (q := 21) (n := 1) (As := [.int (ii (wat (sF st (14 + w) (f)) w (i)))]) (r := []) E (c_X0_letterBehind l D T ad hN (sF st (14 + w) (f)) (a) ha (wat (sF st (14 + w) (f)) w (i)) (by omega) (by rw [sF_1]; omega) (by rw [sF_1, sF_n _ _ (by omega)]; exact hla)) gX4_replaceBy_X0_letterBehind rfl rfl rfl (by decide +kernel) ⟨Nat.le_of_ble_eq_true rfl, Nat.le_of_ble_eq_true rfl⟩ (5 + a) (xg_alph ha) rfl rfl rfl (Nat.le_of_ble_eq_true rfl) dX4_replaceBy_18 rfl (fun z4 s5 q6 => ?_)
        obtain ⟨rfl, h7⟩ := q6
        have e5 := h7
        rw [sF_1, sF_n _ _ (by omega), e1] at e5
        have e6 := LB_TR (by omega) (fun j h0 h1 => by have := hla j h0 h1; omega) (by omega) e5
        have e7 := TR_b (lo := 0) (hi := 60) (by omega) (fun j h0 h1 => by have := hla j h0 h1; omega) (by omega) e6
        have e8 : -1 ≤ z4 ∧ z4 ≤ 60 := by split at e7 <;> omega
        refine x_istore (q := 23) (lv' := [(4, .int (ii (z4))), (0, .ref (ad (25 + w))), (1, .ref (ad (5 + a))), (2, .int (ii (t))), (3, .int (ii (i)))]) E dX4_replaceBy_21 (by decide) rfl rfl ?_
        refine x_iload (q := 25) E dX4_replaceBy_23 0 rfl rfl ?_
        refine x_iconst (q := 26) E dX4_replaceBy_25 rfl ?_
        refine x_icmp_eq (tgt := 52) (q := 29) E dX4_replaceBy_26 (by decide) rfl (by omega) (by omega) (fun c26 => ?_) (fun c26 => ?_)
        · refine x_iinc (q := 55) (k := 4) (lv' := [(3, .int (ii (i + 1))), (4, .int (ii (z4))), (0, .ref (ad (25 + w))), (1, .ref (ad (5 + a))), (2, .int (ii (t)))]) E dX4_replaceBy_52 rfl (by decide) rfl rfl ?_
          refine x_goto (tgt := 4) E dX4_replaceBy_55 (by decide) ?_
          refine x_lv E (lv' := [(0, .ref (ad (25 + w))), (1, .ref (ad (5 + a))), (2, .int (ii (t))), (3, .int (ii (i + 1)))]) [2, 3, 4, 0] rfl ?_
          exact ih4 (t) (i + 1) (f) (by omega) (by omega) (fun j h0 => a2 j (by omega)) (fun j h0 h1 => if hj : j = i then (by rw [hj, a2 i (by omega)]; rw [if_pos c26] at e6; exact e6) else a3 j h0 (by omega)) (a4) (by rw [isum_s _ (by omega), ← a5, if_pos (a2 i (by omega))]; omega)
        · refine x_iload (q := 31) E dX4_replaceBy_29 0 rfl rfl ?_
          refine x_aload_n (q := 32) E dX4_replaceBy_31 1 rfl rfl ?_
          refine x_iload_n (q := 33) E dX4_replaceBy_32 4 rfl rfl ?_
          refine x_callVi (q := 36) (n := 1) (As := [.int (ii (i))]) (r := [.int (ii (z4))]) E (c_X4_letterAt l D T ad hN (sF st (14 + w) (f)) (w) hw (i) (by omega) (by rw [sF_1]; omega)) gX4_replaceBy_X4_letterAt rfl rfl rfl (by decide +kernel) ⟨Nat.le_of_ble_eq_true rfl, Nat.le_of_ble_eq_true rfl⟩ (25 + w) (xg_word hw) rfl rfl rfl (Nat.le_of_ble_eq_true rfl) dX4_replaceBy_33 rfl (fun z8 s9 q10 => ?_)
          obtain ⟨rfl, rfl⟩ := q10
          refine x_icmp_ne (tgt := 42) (q := 39) E dX4_replaceBy_36 (by decide) rfl (by omega) (by omega) (fun c36 => ?_) (fun c36 => ?_)
          · refine x_aload_n (q := 43) E dX4_replaceBy_42 1 rfl rfl ?_
            refine x_iload_n (q := 44) E dX4_replaceBy_43 4 rfl rfl ?_
            refine x_iload (q := 46) E dX4_replaceBy_44 0 rfl rfl ?_
            refine x_callVv (q := 49) (n := 2) (As := [.int (ii (i)), .int (ii (z4))]) (r := []) E (c_X4_change l D T ad hN (sF st (14 + w) (f)) (w) hw (i) (by omega) (z4) (by omega) (by omega)) gX4_replaceBy_X4_change rfl rfl rfl (by decide +kernel) ⟨Nat.le_of_ble_eq_true rfl, Nat.le_of_ble_eq_true rfl⟩ (25 + w) (xg_word hw) rfl rfl rfl (Nat.le_of_ble_eq_true rfl) dX4_replaceBy_46 rfl (fun s12 q13 => ?_)
            obtain rfl := q13
            refine x_iinc (q := 52) (k := 3) (lv' := [(2, .int (ii (t + 1))), (4, .int (ii (z4))), (0, .ref (ad (25 + w))), (1, .ref (ad (5 + a))), (3, .int (ii (i)))]) E dX4_replaceBy_49 rfl (by decide) rfl rfl ?_
            refine x_iinc (q := 55) (k := 4) (lv' := [(3, .int (ii (i + 1))), (2, .int (ii (t + 1))), (4, .int (ii (z4))), (0, .ref (ad (25 + w))), (1, .ref (ad (5 + a)))]) E dX4_replaceBy_52 rfl (by decide) rfl rfl ?_
            refine x_goto (tgt := 4) E dX4_replaceBy_55 (by decide) ?_
            refine x_st E (st' := (sF st (14 + w) (zup (f) (i) (z4)))) (by refine Prod.ext (funext fun k9 => ?_) (funext fun q9 => ?_) <;> simp only [sG_1, sG_2, sA_1, sA_2, sF_1, sF_2, reduceIte] <;> (repeat' split) <;> first | rfl | omega | (subst_vars; first | rfl | omega) | simp_all) ?_
            refine x_lv E (lv' := [(0, .ref (ad (25 + w))), (1, .ref (ad (5 + a))), (2, .int (ii (t + 1))), (3, .int (ii (i + 1)))]) [3, 4, 1, 0] rfl ?_
            exact ih4 (t + 1) (i + 1) (zup (f) (i) (z4)) (by omega) (by omega) (fun j h0 => by rw [zup_ne _ _ (by omega)]; exact a2 j (by omega)) (fun j h0 h1 => if hj : j = i then (by rw [hj, zup_eq]; rw [if_neg c26] at e6; exact e6) else (by rw [zup_ne _ _ hj]; exact a3 j h0 (by omega))) (zup_b a4 (by rw [if_neg c26] at e7; omega) (by rw [if_neg c26] at e7; omega)) (by rw [isum_s _ (by omega), zup_eq, if_neg (by rw [e1] at c36; exact c36), isum_congr (g := fun j => if f j = st.2 (14 + w) j then 0 else 1) (fun j h0 h1 => by rw [zup_ne _ _ (by omega)]), ← a5])
          · refine x_goto (tgt := 52) E dX4_replaceBy_39 (by decide) ?_
            refine x_iinc (q := 55) (k := 4) (lv' := [(3, .int (ii (i + 1))), (4, .int (ii (z4))), (0, .ref (ad (25 + w))), (1, .ref (ad (5 + a))), (2, .int (ii (t)))]) E dX4_replaceBy_52 rfl (by decide) rfl rfl ?_
            refine x_goto (tgt := 4) E dX4_replaceBy_55 (by decide) ?_
            refine x_lv E (lv' := [(0, .ref (ad (25 + w))), (1, .ref (ad (5 + a))), (2, .int (ii (t))), (3, .int (ii (i + 1)))]) [2, 3, 4, 0] rfl ?_
            exact ih4 (t) (i + 1) (f) (by omega) (by omega) (fun j h0 => a2 j (by omega)) (fun j h0 h1 => if hj : j = i then (by rw [hj, a2 i (by omega)]; rw [if_neg c26] at e6; rw [e1] at c36; rw [Classical.byContradiction c36] at e6; exact e6) else a3 j h0 (by omega)) (a4) (by rw [isum_s _ (by omega), ← a5, if_pos (a2 i (by omega))]; omega)
  refine x_lv E (lv' := [(0, .ref (ad (25 + w))), (1, .ref (ad (5 + a))), (2, .int (ii (0))), (3, .int (ii (0)))]) [2, 3, 1, 0] rfl ?_
  refine x_st E (st' := (sF st (14 + w) (st.2 (14 + w)))) (by refine Prod.ext (funext fun k9 => ?_) (funext fun q9 => ?_) <;> simp only [sG_1, sG_2, sA_1, sA_2, sF_1, sF_2, reduceIte] <;> (repeat' split) <;> first | rfl | omega | (subst_vars; first | rfl | omega) | simp_all) ?_
  exact L4 _ (0) (0) (st.2 (14 + w)) (Nat.lt_succ_self _) (by omega) (fun _ _ => rfl) (fun j h0 h1 => absurd h1 (by omega)) (hb) ((isum_0 _).symm)

theorem iX4_hasTwice_X4 : ∀ w ∈ wsX40, w ∈ wsX4_hasTwice := by decide +kernel
set_option maxRecDepth 100000 in
set_option maxHeartbeats 4000000 in
theorem c_X4_hasTwice (l : Launch) (D : va_G) (T : Nat → ClassId) (ad : Nat → Nat) (hN : ∀ i j, i < 33 → j < 33 → ad i = ad j → i = j) (st : St_) (w : Nat) (hw : w < 3) (m0 : Int) (bm0 : -2147483648 ≤ m0 ∧ m0 < 2147483648) (hs : 0 ≤ st.1 (10 + w) ∧ st.1 (10 + w) ≤ 60) (hb : ∀ j : Int, 0 ≤ j → j < 60 → 0 ≤ st.2 (14 + w) j ∧ st.2 (14 + w) j ≤ 60) (hm : 1 ≤ m0 ∧ m0 ≤ 60) : CXi l yX4_hasTwice wsX4_hasTwice (rmX 1 21) [.ref (ad (25 + w)), .int (ii (m0))] D (tyX T) (XW T ad) (alX ad) st (fun z st2 => st = st2 ∧ ((z = 1 ∧ ∃ i : Int, 0 ≤ i ∧ i + 2 * m0 ≤ st.1 (10 + w) ∧ tw (st.2 (14 + w)) m0 i) ∨ (z = 0 ∧ ∀ i : Int, 0 ≤ i → i + 2 * m0 ≤ st.1 (10 + w) → ¬ tw (st.2 (14 + w)) m0 i))) := by
  refine mk_z (cc := cX4_hasTwice) (nL := 4) rfl rfl (XW_ok hN) (Nat.le_of_ble_eq_true rfl) [(0, .ref (ad (25 + w))), (1, .int (ii (m0)))] rfl (fun p e s m args below meth c A Q E RET => ?_)
  refine x_iconst (q := 1) E dX4_hasTwice_0 rfl ?_
  refine x_istore_n (q := 2) (lv' := [(2, .int (ii (0))), (0, .ref (ad (25 + w))), (1, .int (ii (m0)))]) E dX4_hasTwice_1 (by decide) rfl rfl ?_
  refine x_iconst (q := 3) E dX4_hasTwice_2 rfl ?_
  refine x_istore_n (q := 4) (lv' := [(3, .int (ii (0))), (2, .int (ii (0))), (0, .ref (ad (25 + w))), (1, .int (ii (m0)))]) E dX4_hasTwice_3 (by decide) rfl rfl ?_
  have L4 : ∀ (n : Nat) (u : Int) (i : Int), (st.1 (10 + w) - i).toNat < n → (0 ≤ i ∧ (i = 0 ∨ i + m0 ≤ st.1 (10 + w))) → (0 ≤ u ∧ u < m0 ∧ u ≤ i) → (∀ t : Int, i - u ≤ t → t < i → st.2 (14 + w) t = st.2 (14 + w) (t + m0)) → (u = i ∨ st.2 (14 + w) (i - u - 1) ≠ st.2 (14 + w) (i - u - 1 + m0)) → (∀ v : Int, 0 ≤ v → v + m0 ≤ i → ¬ tw (st.2 (14 + w)) m0 v) → XJ p l e (rmX 1 21) s m args below meth c D (XW T ad) A 4 Q 0 0 st 4 [(0, .ref (ad (25 + w))), (1, .int (ii (m0))), (2, .int (ii (u))), (3, .int (ii (i)))] [] := by
    intro n
    induction n with
    | zero => intro u i hn; exact absurd hn (Nat.not_lt_zero _)
    | succ n ih4 =>
      intro u i hn4 a1 a2 a3 a4 a5
      refine x_iload_n (q := 5) E dX4_hasTwice_4 3 rfl rfl ?_
      refine x_iload_n (q := 6) E dX4_hasTwice_5 1 rfl rfl ?_
      refine x_iadd (q := 7) E dX4_hasTwice_6 rfl ?_
      refine x_aload_n (q := 8) E dX4_hasTwice_7 0 rfl rfl ?_
      refine x_get (q := 11) E iX4_hasTwice_X4 (25 + w) (xg_word hw) rfl 1 (by decide) (by decide +kernel) rfl dX4_hasTwice_8 rfl ?_
      refine x_icmp_ge (tgt := 50) (q := 14) E dX4_hasTwice_11 (by decide) rfl (by omega) (by omega) (fun c11 => ?_) (fun c11 => ?_)
      · refine x_iconst (q := 51) E dX4_hasTwice_50 rfl ?_
        exact RET _ _ _ _ dX4_hasTwice_51 (by omega) (⟨rfl, Or.inr ⟨rfl, fun v h0 h1 => a5 v h0 (by omega)⟩⟩)
      · have e1 : wat st w i = st.2 (14 + w) i := wat_in (by omega) (by omega) (by omega)
        have e2 : wat st w (i + m0) = st.2 (14 + w) (i + m0) := wat_in (by omega) (by omega) (by omega)
        have e3 := hb i (by omega) (by omega)
        have e4 := hb (i + m0) (by omega) (by omega)
        refine x_aload_n (q := 15) E dX4_hasTwice_14 0 rfl rfl ?_
        refine x_iload_n (q := 16) E dX4_hasTwice_15 3 rfl rfl ?_
        refine x_callVi (q := 19) (n := 1) (As := [.int (ii (i))]) (r := []) E (c_X4_letterAt l D T ad hN st (w) hw (i) (by omega) (by omega)) gX4_hasTwice_X4_letterAt rfl rfl rfl (by decide +kernel) ⟨Nat.le_of_ble_eq_true rfl, Nat.le_of_ble_eq_true rfl⟩ (25 + w) (xg_word hw) rfl rfl rfl (Nat.le_of_ble_eq_true rfl) dX4_hasTwice_16 rfl (fun z1 s2 q3 => ?_)
        obtain ⟨rfl, rfl⟩ := q3
        refine x_aload_n (q := 20) E dX4_hasTwice_19 0 rfl rfl ?_
        refine x_iload_n (q := 21) E dX4_hasTwice_20 3 rfl rfl ?_
        refine x_iload_n (q := 22) E dX4_hasTwice_21 1 rfl rfl ?_
        refine x_iadd (q := 23) E dX4_hasTwice_22 rfl ?_
        refine x_callVi (q := 26) (n := 1) (As := [.int (ii ((i) + (m0)))]) (r := [.int (ii (wat st w (i)))]) E (c_X4_letterAt l D T ad hN st (w) hw ((i) + (m0)) (by omega) (by omega)) gX4_hasTwice_X4_letterAt rfl rfl rfl (by decide +kernel) ⟨Nat.le_of_ble_eq_true rfl, Nat.le_of_ble_eq_true rfl⟩ (25 + w) (xg_word hw) rfl rfl rfl (Nat.le_of_ble_eq_true rfl) dX4_hasTwice_23 rfl (fun z4 s5 q6 => ?_)
        obtain ⟨rfl, rfl⟩ := q6
        refine x_icmp_ne (tgt := 35) (q := 29) E dX4_hasTwice_26 (by decide) rfl (by omega) (by omega) (fun c26 => ?_) (fun c26 => ?_)
        · refine x_iconst (q := 36) E dX4_hasTwice_35 rfl ?_
          refine x_istore_n (q := 37) (lv' := [(2, .int (ii (0))), (0, .ref (ad (25 + w))), (1, .int (ii (m0))), (3, .int (ii (i)))]) E dX4_hasTwice_36 (by decide) rfl rfl ?_
          refine x_iload_n (q := 38) E dX4_hasTwice_37 0 rfl rfl ?_
          refine x_iload_n (q := 39) E dX4_hasTwice_38 2 rfl rfl ?_
          refine x_icmp_ne (tgt := 44) (q := 42) E dX4_hasTwice_39 (by decide) rfl (by omega) (by omega) (fun c39 => ?_) (fun c39 => ?_)
          · refine x_iinc (q := 47) (k := 3) (lv' := [(3, .int (ii (i + 1))), (2, .int (ii (0))), (0, .ref (ad (25 + w))), (1, .int (ii (m0)))]) E dX4_hasTwice_44 rfl (by decide) rfl rfl ?_
            refine x_goto (tgt := 4) E dX4_hasTwice_47 (by decide) ?_
            refine x_lv E (lv' := [(0, .ref (ad (25 + w))), (1, .int (ii (m0))), (2, .int (ii (0))), (3, .int (ii (i + 1)))]) [2, 3, 1, 0] rfl ?_
            exact ih4 (0) (i + 1) (by omega) (by omega) (by omega) (fun t h0 h1 => absurd h1 (by omega)) (Or.inr (by rw [show i + 1 - 0 - 1 = i from by omega]; rw [e1, e2] at c26; exact c26)) (fun v h0 h1 => if hv : v + m0 ≤ i then a5 v h0 hv else (fun z => by have := z (i - v) (by omega) (by omega); rw [show v + (i - v) = i from by omega] at this; rw [e1, e2] at c26; exact c26 this))
          · refine x_iconst (q := 43) E dX4_hasTwice_42 rfl ?_
            exact RET _ _ _ _ dX4_hasTwice_43 (by omega) (by exfalso; omega)
        · refine x_iload_n (q := 30) E dX4_hasTwice_29 2 rfl rfl ?_
          refine x_iconst (q := 31) E dX4_hasTwice_30 rfl ?_
          refine x_iadd (q := 32) E dX4_hasTwice_31 rfl ?_
          refine x_goto (tgt := 36) E dX4_hasTwice_32 (by decide) ?_
          refine x_istore_n (q := 37) (lv' := [(2, .int (ii ((u) + (1)))), (0, .ref (ad (25 + w))), (1, .int (ii (m0))), (3, .int (ii (i)))]) E dX4_hasTwice_36 (by decide) rfl rfl ?_
          refine x_iload_n (q := 38) E dX4_hasTwice_37 0 rfl rfl ?_
          refine x_iload_n (q := 39) E dX4_hasTwice_38 2 rfl rfl ?_
          refine x_icmp_ne (tgt := 44) (q := 42) E dX4_hasTwice_39 (by decide) rfl (by omega) (by omega) (fun c39 => ?_) (fun c39 => ?_)
          · refine x_iinc (q := 47) (k := 3) (lv' := [(3, .int (ii (i + 1))), (2, .int (ii ((u) + (1)))), (0, .ref (ad (25 + w))), (1, .int (ii (m0)))]) E dX4_hasTwice_44 rfl (by decide) rfl rfl ?_
            refine x_goto (tgt := 4) E dX4_hasTwice_47 (by decide) ?_
            refine x_lv E (lv' := [(0, .ref (ad (25 + w))), (1, .int (ii (m0))), (2, .int (ii ((u) + (1)))), (3, .int (ii (i + 1)))]) [2, 3, 1, 0] rfl ?_
            exact ih4 ((u) + (1)) (i + 1) (by omega) (by omega) (by omega) (fun t h0 h1 => if ht : t = i then (by rw [ht]; rw [e1, e2] at c26; exact Classical.byContradiction c26) else a3 t (by omega) (by omega)) (a4.elim (fun z => Or.inl (by omega)) (fun z => Or.inr (by rw [show i + 1 - (u + 1) - 1 = i - u - 1 from by omega]; exact z))) (fun v h0 h1 => if hv : v + m0 ≤ i then a5 v h0 hv else (fun z => a4.elim (fun y => by omega) (fun y => y (by have := z (i - u - 1 - v) (by omega) (by omega); rw [show v + (i - u - 1 - v) = i - u - 1 from by omega] at this; exact this))))
          · refine x_iconst (q := 43) E dX4_hasTwice_42 rfl ?_
            exact RET _ _ _ _ dX4_hasTwice_43 (by omega) (⟨rfl, Or.inl ⟨rfl, i + 1 - m0, by omega, by omega, fun t h0 h1 => if ht : i + 1 - m0 + t = i then (by rw [ht]; rw [e1, e2] at c26; exact Classical.byContradiction c26) else a3 _ (by omega) (by omega)⟩⟩)
  refine x_lv E (lv' := [(0, .ref (ad (25 + w))), (1, .int (ii (m0))), (2, .int (ii (0))), (3, .int (ii (0)))]) [2, 3, 1, 0] rfl ?_
  exact L4 _ (0) (0) (Nat.lt_succ_self _) (by omega) (by omega) (fun t h0 h1 => absurd h1 (by omega)) (Or.inl rfl) (fun v h0 h1 => absurd h1 (by omega))

theorem iX4_leastTwice_X4 : ∀ w ∈ wsX40, w ∈ wsX4_leastTwice := by decide +kernel
set_option maxRecDepth 100000 in
set_option maxHeartbeats 4000000 in
theorem c_X4_leastTwice (l : Launch) (D : va_G) (T : Nat → ClassId) (ad : Nat → Nat) (hN : ∀ i j, i < 33 → j < 33 → ad i = ad j → i = j) (st : St_) (w : Nat) (hw : w < 3) (hs : 0 ≤ st.1 (10 + w) ∧ st.1 (10 + w) ≤ 60) (hb : ∀ j : Int, 0 ≤ j → j < 60 → 0 ≤ st.2 (14 + w) j ∧ st.2 (14 + w) j ≤ 60) : CXi l yX4_leastTwice wsX4_leastTwice (rmX 2 44) [.ref (ad (25 + w))] D (tyX T) (XW T ad) (alX ad) st (fun z st2 => st = st2 ∧ 0 ≤ z ∧ z ≤ 30 ∧ (z = 0 ∨ (2 * z ≤ st.1 (10 + w) ∧ ∃ i : Int, 0 ≤ i ∧ i + 2 * z ≤ st.1 (10 + w) ∧ tw (st.2 (14 + w)) z i)) ∧ (∀ v : Int, 1 ≤ v → (z = 0 ∨ v < z) → ∀ i : Int, 0 ≤ i → i + 2 * v ≤ st.1 (10 + w) → ¬ tw (st.2 (14 + w)) v i)) := by
  refine mk_i (cc := cX4_leastTwice) (nL := 2) rfl rfl (XW_ok hN) (Nat.le_of_ble_eq_true rfl) [(0, .ref (ad (25 + w)))] rfl (fun p e s m args below meth c A Q E RET => ?_)
  refine x_iconst (q := 1) E dX4_leastTwice_0 rfl ?_
  refine x_istore_n (q := 2) (lv' := [(1, .int (ii (1))), (0, .ref (ad (25 + w)))]) E dX4_leastTwice_1 (by decide) rfl rfl ?_
  have L2 : ∀ (n : Nat) (v : Int), (st.1 (10 + w) - v).toNat < n → (1 ≤ v ∧ v ≤ 31) → (∀ x : Int, 1 ≤ x → x < v → ∀ i : Int, 0 ≤ i → i + 2 * x ≤ st.1 (10 + w) → ¬ tw (st.2 (14 + w)) x i) → XJ p l e (rmX 2 44) s m args below meth c D (XW T ad) A 2 Q 0 0 st 2 [(0, .ref (ad (25 + w))), (1, .int (ii (v)))] [] := by
    intro n
    induction n with
    | zero => intro v hn; exact absurd hn (Nat.not_lt_zero _)
    | succ n ih2 =>
      intro v hn2 a1 a2
      refine x_iload_n (q := 3) E dX4_leastTwice_2 1 rfl rfl ?_
      refine x_aload_n (q := 4) E dX4_leastTwice_3 0 rfl rfl ?_
      refine x_get (q := 7) E iX4_leastTwice_X4 (25 + w) (xg_word hw) rfl 1 (by decide) (by decide +kernel) rfl dX4_leastTwice_4 rfl ?_
      refine x_iconst (q := 8) E dX4_leastTwice_7 rfl ?_
      refine x_idiv (q := 9) E dX4_leastTwice_8 (by omega) (by omega) (by omega) (by omega) rfl ?_
      refine x_icmp_gt (tgt := 28) (q := 12) E dX4_leastTwice_9 (by decide) rfl (by omega) (by omega) (fun c9 => ?_) (fun c9 => ?_)
      · refine x_iconst (q := 29) E dX4_leastTwice_28 rfl ?_
        exact RET _ _ _ _ dX4_leastTwice_29 (⟨rfl, by omega, by omega, Or.inl rfl, fun x h0 h1 i h2 h3 => a2 x h0 (by omega) i h2 h3⟩)
      · refine x_aload_n (q := 13) E dX4_leastTwice_12 0 rfl rfl ?_
        refine x_iload_n (q := 14) E dX4_leastTwice_13 1 rfl rfl ?_
        refine x_callVi (q := 17) (n := 1) (As := [.int (ii (v))]) (r := []) E (c_X4_hasTwice l D T ad hN st (w) hw (v) (by omega) (by omega) (by omega) (by omega)) gX4_leastTwice_X4_hasTwice rfl rfl rfl (by decide +kernel) ⟨Nat.le_of_ble_eq_true rfl, Nat.le_of_ble_eq_true rfl⟩ (25 + w) (xg_word hw) rfl rfl rfl (Nat.le_of_ble_eq_true rfl) dX4_leastTwice_14 rfl (fun z1 s2 q3 => ?_)
        obtain ⟨rfl, h4⟩ := q3
        have e9 := h4
        have e8 : 0 ≤ z1 ∧ z1 ≤ 1 := by rcases e9 with q | q <;> omega
        refine x_if_eq (tgt := 22) (q := 20) E dX4_leastTwice_17 (by decide) rfl (by omega) (fun c17 => ?_) (fun c17 => ?_)
        · refine x_iinc (q := 25) (k := 1) (lv' := [(1, .int (ii (v + 1))), (0, .ref (ad (25 + w)))]) E dX4_leastTwice_22 rfl (by decide) rfl rfl ?_
          refine x_goto (tgt := 2) E dX4_leastTwice_25 (by decide) ?_
          refine x_lv E (lv' := [(0, .ref (ad (25 + w))), (1, .int (ii (v + 1)))]) [1, 0] rfl ?_
          exact ih2 (v + 1) (by omega) (by omega) (fun x h0 h1 => if hx : x = v then (by rw [hx]; exact (e9.resolve_left (fun z => by omega)).2) else a2 x h0 (by omega))
        · refine x_iload_n (q := 21) E dX4_leastTwice_20 1 rfl rfl ?_
          exact RET _ _ _ _ dX4_leastTwice_21 (⟨rfl, by omega, by omega, Or.inr ⟨by omega, (e9.resolve_right (fun z => by omega)).2⟩, fun x h0 h1 => a2 x h0 (by omega)⟩)
  refine x_lv E (lv' := [(0, .ref (ad (25 + w))), (1, .int (ii (1)))]) [1, 0] rfl ?_
  exact L2 _ (1) (Nat.lt_succ_self _) (by omega) (fun x h0 h1 => absurd h1 (by omega))

