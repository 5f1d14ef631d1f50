set_option maxRecDepth 100000 in
set_option maxHeartbeats 4000000 in
theorem c_X6_in (l : Launch) (D : va_G) (T : Nat → ClassId) (ad : Nat → Nat) (hN : ∀ i j, i < 13 → j < 13 → ad i = ad j → i = j) (st : St_) (v : Int) (lo : Int) (hi : Int) (h1 : -4611686018427387904 ≤ v ∧ v ≤ 4611686018427387904) (h2 : -4611686018427387904 ≤ lo ∧ lo ≤ 4611686018427387904) (h3 : -4611686018427387904 ≤ hi ∧ hi ≤ 4611686018427387904) : CXi l yX6_in wsX6_in (rmX 0 0) [.long (jj (v)), .long (jj (lo)), .long (jj (hi))] D (tyX T) (MW T ad) (alM ad) st (fun z st2 => (if lo ≤ v ∧ v ≤ hi then 1 else 0) = z ∧ st = st2) := by
  refine mk_z (cc := cX6_in) (nL := 6) rfl rfl (MW_ok hN) (Nat.le_of_ble_eq_true rfl) [(0, .long (jj (v))), (2, .long (jj (lo))), (4, .long (jj (hi)))] rfl (fun p e s m args below meth c A Q E RET => ?_)
  refine x_lload_n (q := 1) E dX6_in_0 0 rfl rfl ?_
  refine x_lload_n (q := 2) E dX6_in_1 1 rfl rfl ?_
  refine x_lcmp (q := 3) E dX6_in_2 (by omega) (by omega) rfl ?_
  refine x_if_lt (tgt := 17) (q := 6) E dX6_in_3 (by decide) rfl (by omega) (fun c3 => ?_) (fun c3 => ?_)
  · refine x_iconst (q := 18) E dX6_in_17 rfl ?_
    exact RET _ _ _ _ dX6_in_18 (by omega) (⟨by first | (rw [if_pos (by omega)]) | (rw [if_neg (by omega)]), rfl⟩)
  · refine x_lload_n (q := 7) E dX6_in_6 0 rfl rfl ?_
    refine x_lload (q := 9) E dX6_in_7 2 rfl rfl ?_
    refine x_lcmp (q := 10) E dX6_in_9 (by omega) (by omega) rfl ?_
    refine x_if_gt (tgt := 17) (q := 13) E dX6_in_10 (by decide) rfl (by omega) (fun c10 => ?_) (fun c10 => ?_)
    · refine x_iconst (q := 18) E dX6_in_17 rfl ?_
      exact RET _ _ _ _ dX6_in_18 (by omega) (⟨by first | (rw [if_pos (by omega)]) | (rw [if_neg (by omega)]), rfl⟩)
    · refine x_iconst (q := 14) E dX6_in_13 rfl ?_
      refine x_goto (tgt := 18) E dX6_in_14 (by decide) ?_
      exact RET _ _ _ _ dX6_in_18 (by omega) (⟨by first | (rw [if_pos (by omega)]) | (rw [if_neg (by omega)]), rfl⟩)

set_option maxRecDepth 100000 in
set_option maxHeartbeats 4000000 in
theorem c_X6_isAlphabet (l : Launch) (D : va_G) (T : Nat → ClassId) (ad : Nat → Nat) (hN : ∀ i j, i < 13 → j < 13 → ad i = ad j → i = j) (st : St_) (k : Int) (bk : -2147483648 ≤ k ∧ k < 2147483648) : CXi l yX6_isAlphabet wsX6_isAlphabet (rmX 1 25) [.int (ii (k))] D (tyX T) (MW T ad) (alM ad) st (fun z st2 => (if 0 ≤ k ∧ k ≤ 3 then 1 else 0) = z ∧ st = st2) := by
  refine mk_z (cc := cX6_isAlphabet) (nL := 1) rfl rfl (MW_ok hN) (Nat.le_of_ble_eq_true rfl) [(0, .int (ii (k)))] rfl (fun p e s m args below meth c A Q E RET => ?_)
  refine x_iload_n (q := 1) E dX6_isAlphabet_0 0 rfl rfl ?_
  refine x_i2l (q := 2) E dX6_isAlphabet_1 (by omega) rfl ?_
  refine x_lconst (q := 3) (z := 0) E dX6_isAlphabet_2 (by decide) rfl ?_
  refine x_ldc2 (q := 6) (v := 3) (z := 3) E (by decide +kernel) (by decide) dX6_isAlphabet_3 rfl ?_
  refine x_callSi (q := 9) (n := 3) (As := [.long (jj (k)), .long (jj (0)), .long (jj (3))]) (r := []) E (c_X6_in l D T ad hN st (k) (0) (3) (by omega) (by omega) (by omega)) gX6_isAlphabet_X6_in rfl rfl rfl (by decide +kernel) ⟨Nat.le_of_ble_eq_true rfl, Nat.le_of_ble_eq_true rfl⟩ rfl rfl (Nat.le_of_ble_eq_true rfl) dX6_isAlphabet_6 rfl (fun z1 s2 q3 => ?_)
  obtain ⟨rfl, rfl⟩ := q3
  exact RET _ _ _ _ dX6_isAlphabet_9 (by omega) (⟨rfl, rfl⟩)

set_option maxRecDepth 100000 in
set_option maxHeartbeats 4000000 in
theorem c_X6_isPlace (l : Launch) (D : va_G) (T : Nat → ClassId) (ad : Nat → Nat) (hN : ∀ i j, i < 13 → j < 13 → ad i = ad j → i = j) (st : St_) (k : Int) (bk : -2147483648 ≤ k ∧ k < 2147483648) : CXi l yX6_isPlace wsX6_isPlace (rmX 1 25) [.int (ii (k))] D (tyX T) (MW T ad) (alM ad) st (fun z st2 => (if 0 ≤ k ∧ k ≤ 100000 then 1 else 0) = z ∧ st = st2) := by
  refine mk_z (cc := cX6_isPlace) (nL := 1) rfl rfl (MW_ok hN) (Nat.le_of_ble_eq_true rfl) [(0, .int (ii (k)))] rfl (fun p e s m args below meth c A Q E RET => ?_)
  refine x_iload_n (q := 1) E dX6_isPlace_0 0 rfl rfl ?_
  refine x_i2l (q := 2) E dX6_isPlace_1 (by omega) rfl ?_
  refine x_lconst (q := 3) (z := 0) E dX6_isPlace_2 (by decide) rfl ?_
  refine x_ldc2 (q := 6) (v := 100000) (z := 100000) E (by decide +kernel) (by decide) dX6_isPlace_3 rfl ?_
  refine x_callSi (q := 9) (n := 3) (As := [.long (jj (k)), .long (jj (0)), .long (jj (100000))]) (r := []) E (c_X6_in l D T ad hN st (k) (0) (100000) (by omega) (by omega) (by omega)) gX6_isPlace_X6_in rfl rfl rfl (by decide +kernel) ⟨Nat.le_of_ble_eq_true rfl, Nat.le_of_ble_eq_true rfl⟩ rfl rfl (Nat.le_of_ble_eq_true rfl) dX6_isPlace_6 rfl (fun z1 s2 q3 => ?_)
  obtain ⟨rfl, rfl⟩ := q3
  exact RET _ _ _ _ dX6_isPlace_9 (by omega) (⟨rfl, rfl⟩)

theorem iX6_isRow_X6 : ∀ w ∈ wsX60, w ∈ wsX6_isRow := by decide +kernel
set_option maxRecDepth 100000 in
set_option maxHeartbeats 4000000 in
theorem c_X6_isRow (l : Launch) (D : va_G) (T : Nat → ClassId) (ad : Nat → Nat) (hN : ∀ i j, i < 13 → j < 13 → ad i = ad j → i = j) (st : St_) (k : Int) (bk : -2147483648 ≤ k ∧ k < 2147483648) (hn : 1 ≤ st.1 0 ∧ st.1 0 ≤ 3) : CXi l yX6_isRow wsX6_isRow (rmX 1 25) [.ref (ad 0), .int (ii (k))] D (tyX T) (MW T ad) (alM ad) st (fun z st2 => (if 0 ≤ k ∧ k ≤ st.1 0 - 1 then 1 else 0) = z ∧ st = st2) := by
  refine mk_z (cc := cX6_isRow) (nL := 2) rfl rfl (MW_ok hN) (Nat.le_of_ble_eq_true rfl) [(0, .ref (ad 0)), (1, .int (ii (k)))] rfl (fun p e s m args below meth c A Q E RET => ?_)
  refine x_iload_n (q := 1) E dX6_isRow_0 1 rfl rfl ?_
  refine x_i2l (q := 2) E dX6_isRow_1 (by omega) rfl ?_
  refine x_lconst (q := 3) (z := 0) E dX6_isRow_2 (by decide) rfl ?_
  refine x_aload_n (q := 4) E dX6_isRow_3 0 rfl rfl ?_
  refine x_get (q := 7) E iX6_isRow_X6 (0) rfl rfl 2 (by decide) (by decide +kernel) rfl dX6_isRow_4 rfl ?_
  refine x_iconst (q := 8) E dX6_isRow_7 rfl ?_
  refine x_isub (q := 9) E dX6_isRow_8 rfl ?_
  refine x_i2l (q := 10) E dX6_isRow_9 (by omega) rfl ?_
  refine x_callSi (q := 13) (n := 3) (As := [.long (jj (k)), .long (jj (0)), .long (jj ((st.1 (0)) - (1)))]) (r := []) E (c_X6_in l D T ad hN st (k) (0) ((st.1 (0)) - (1)) (by omega) (by omega) (by omega)) gX6_isRow_X6_in rfl rfl rfl (by decide +kernel) ⟨Nat.le_of_ble_eq_true rfl, Nat.le_of_ble_eq_true rfl⟩ rfl rfl (Nat.le_of_ble_eq_true rfl) dX6_isRow_10 rfl (fun z1 s2 q3 => ?_)
  obtain ⟨rfl, rfl⟩ := q3
  exact RET _ _ _ _ dX6_isRow_13 (by omega) (⟨rfl, rfl⟩)

theorem iX6_number_X6 : ∀ w ∈ wsX60, w ∈ wsX6_number := by decide +kernel
set_option maxRecDepth 100000 in
set_option maxHeartbeats 4000000 in
theorem c_X6_number (l : Launch) (D : va_G) (T : Nat → ClassId) (ad : Nat → Nat) (hN : ∀ i j, i < 13 → j < 13 → ad i = ad j → i = j) (st : St_) (r : Nat) (hr : r < 3) (k : Int) (bk : -2147483648 ≤ k ∧ k < 2147483648) (hk : 0 ≤ k ∧ k ≤ 100000) : CXi l yX6_number wsX6_number (rmX 0 0) [.ref (ad 0), .int (ii ((r : Int))), .int (ii (k))] D (tyX T) (MW T ad) (alM ad) st (fun z st2 => st.2 (3 + r) (k) = z ∧ st = st2) := by
  refine mk_i (cc := cX6_number) (nL := 3) rfl rfl (MW_ok hN) (Nat.le_of_ble_eq_true rfl) [(0, .ref (ad 0)), (1, .int (ii ((r : Int)))), (2, .int (ii (k)))] rfl (fun p e s m args below meth c A Q E RET => ?_)
  refine x_iload_n (q := 1) E dX6_number_0 1 rfl rfl ?_
  refine x_if_ne (tgt := 13) (q := 4) E dX6_number_1 (by decide) rfl (by omega) (fun c1 => ?_) (fun c1 => ?_)
  · refine x_iload_n (q := 14) E dX6_number_13 1 rfl rfl ?_
    refine x_iconst (q := 15) E dX6_number_14 rfl ?_
    refine x_icmp_ne (tgt := 27) (q := 18) E dX6_number_15 (by decide) rfl (by omega) (by omega) (fun c15 => ?_) (fun c15 => ?_)
    · refine x_aload_n (q := 28) E dX6_number_27 0 rfl rfl ?_
      refine x_get (q := 31) E iX6_number_X6 (0) rfl rfl 7 (by decide) (by decide +kernel) rfl dX6_number_28 rfl ?_
      refine x_iload_n (q := 32) E dX6_number_31 2 rfl rfl ?_
      refine x_bald (q := 33) (f := st.2 (5)) E (6) rfl 1 rfl (by omega) (by omega) (by decide) dX6_number_32 rfl ?_
      exact RET _ _ _ _ dX6_number_33 (by have y : r = 2 := (by omega); subst y; exact ⟨rfl, rfl⟩)
    · refine x_aload_n (q := 19) E dX6_number_18 0 rfl rfl ?_
      refine x_get (q := 22) E iX6_number_X6 (0) rfl rfl 6 (by decide) (by decide +kernel) rfl dX6_number_19 rfl ?_
      refine x_iload_n (q := 23) E dX6_number_22 2 rfl rfl ?_
      refine x_bald (q := 24) (f := st.2 (4)) E (5) rfl 1 rfl (by omega) (by omega) (by decide) dX6_number_23 rfl ?_
      refine x_goto (tgt := 33) E dX6_number_24 (by decide) ?_
      exact RET _ _ _ _ dX6_number_33 (by have y : r = 1 := (by omega); subst y; exact ⟨rfl, rfl⟩)
  · refine x_aload_n (q := 5) E dX6_number_4 0 rfl rfl ?_
    refine x_get (q := 8) E iX6_number_X6 (0) rfl rfl 5 (by decide) (by decide +kernel) rfl dX6_number_5 rfl ?_
    refine x_iload_n (q := 9) E dX6_number_8 2 rfl rfl ?_
    refine x_bald (q := 10) (f := st.2 (3)) E (4) rfl 1 rfl (by omega) (by omega) (by decide) dX6_number_9 rfl ?_
    refine x_goto (tgt := 33) E dX6_number_10 (by decide) ?_
    exact RET _ _ _ _ dX6_number_33 (by have y : r = 0 := (by omega); subst y; exact ⟨rfl, rfl⟩)

theorem iX6_put_X6 : ∀ w ∈ wsX60, w ∈ wsX6_put := by decide +kernel
set_option maxRecDepth 100000 in
set_option maxHeartbeats 4000000 in
theorem c_X6_put (l : Launch) (D : va_G) (T : Nat → ClassId) (ad : Nat → Nat) (hN : ∀ i j, i < 13 → j < 13 → ad i = ad j → i = j) (st : St_) (r : Nat) (hr : r < 3) (k : Int) (bk : -2147483648 ≤ k ∧ k < 2147483648) (v : Int) (bv : -2147483648 ≤ v ∧ v < 2147483648) (hk : 0 ≤ k ∧ k ≤ 100000) (hv : 0 ≤ v ∧ v < 128) : CXv l yX6_put wsX6_put (rmX 0 0) [.ref (ad 0), .int (ii ((r : Int))), .int (ii (k)), .int (ii (v))] D (tyX T) (MW T ad) (alM ad) st (fun st2 => st2 = sA st (3 + r) k v) := by
  refine mk_v (cc := cX6_put) (nL := 4) rfl rfl (MW_ok hN) (Nat.le_of_ble_eq_true rfl) [(0, .ref (ad 0)), (1, .int (ii ((r : Int)))), (2, .int (ii (k))), (3, .int (ii (v)))] rfl (fun p e s m args below meth c A Q E RET => ?_)
  refine x_iload_n (q := 1) E dX6_put_0 1 rfl rfl ?_
  refine x_if_ne (tgt := 15) (q := 4) E dX6_put_1 (by decide) rfl (by omega) (fun c1 => ?_) (fun c1 => ?_)
  · refine x_iload_n (q := 16) E dX6_put_15 1 rfl rfl ?_
    refine x_iconst (q := 17) E dX6_put_16 rfl ?_
    refine x_icmp_ne (tgt := 31) (q := 20) E dX6_put_17 (by decide) rfl (by omega) (by omega) (fun c17 => ?_) (fun c17 => ?_)
    · refine x_aload_n (q := 32) E dX6_put_31 0 rfl rfl ?_
      refine x_get (q := 35) E iX6_put_X6 (0) rfl rfl 7 (by decide) (by decide +kernel) rfl dX6_put_32 rfl ?_
      refine x_iload_n (q := 36) E dX6_put_35 2 rfl rfl ?_
      refine x_iload_n (q := 37) E dX6_put_36 3 rfl rfl ?_
      refine x_i2b (q := 38) E dX6_put_37 (by omega) (by omega) rfl ?_
      refine x_bast (q := 39) (st' := (sA st (5) (k) (v))) (f := st.2 (5)) E (6) rfl 1 rfl (by omega) (by omega) (by decide) (by omega) (by omega) dX6_put_38 (ma_5 _ _) rfl ?_
      exact RET _ _ _ dX6_put_39 (by have y : r = 2 := (by omega); subst y; exact rfl)
    · refine x_aload_n (q := 21) E dX6_put_20 0 rfl rfl ?_
      refine x_get (q := 24) E iX6_put_X6 (0) rfl rfl 6 (by decide) (by decide +kernel) rfl dX6_put_21 rfl ?_
      refine x_iload_n (q := 25) E dX6_put_24 2 rfl rfl ?_
      refine x_iload_n (q := 26) E dX6_put_25 3 rfl rfl ?_
      refine x_i2b (q := 27) E dX6_put_26 (by omega) (by omega) rfl ?_
      refine x_bast (q := 28) (st' := (sA st (4) (k) (v))) (f := st.2 (4)) E (5) rfl 1 rfl (by omega) (by omega) (by decide) (by omega) (by omega) dX6_put_27 (ma_4 _ _) rfl ?_
      refine x_goto (tgt := 39) E dX6_put_28 (by decide) ?_
      exact RET _ _ _ dX6_put_39 (by have y : r = 1 := (by omega); subst y; exact rfl)
  · refine x_aload_n (q := 5) E dX6_put_4 0 rfl rfl ?_
    refine x_get (q := 8) E iX6_put_X6 (0) rfl rfl 5 (by decide) (by decide +kernel) rfl dX6_put_5 rfl ?_
    refine x_iload_n (q := 9) E dX6_put_8 2 rfl rfl ?_
    refine x_iload_n (q := 10) E dX6_put_9 3 rfl rfl ?_
    refine x_i2b (q := 11) E dX6_put_10 (by omega) (by omega) rfl ?_
    refine x_bast (q := 12) (st' := (sA st (3) (k) (v))) (f := st.2 (3)) E (4) rfl 1 rfl (by omega) (by omega) (by decide) (by omega) (by omega) dX6_put_11 (ma_3 _ _) rfl ?_
    refine x_goto (tgt := 39) E dX6_put_12 (by decide) ?_
    exact RET _ _ _ dX6_put_39 (by have y : r = 0 := (by omega); subst y; exact rfl)

theorem iX6_letterOf_X6 : ∀ w ∈ wsX60, w ∈ wsX6_letterOf := by decide +kernel
set_option maxRecDepth 100000 in
set_option maxHeartbeats 4000000 in
theorem c_X6_letterOf (l : Launch) (D : va_G) (T : Nat → ClassId) (ad : Nat → Nat) (hN : ∀ i j, i < 13 → j < 13 → ad i = ad j → i = j) (st : St_) (r : Nat) (hr : r < 3) (j : Int) (bj : -2147483648 ≤ j ∧ j < 2147483648) (hA : AM st) (hrn : (r : Int) < st.1 0) (hj : 0 ≤ j) : CXi l yX6_letterOf wsX6_letterOf (rmX 0 0) [.ref (ad 0), .int (ii ((r : Int))), .int (ii (j))] D (tyX T) (MW T ad) (alM ad) st (fun z st2 => ltm st r (j) = z ∧ st = st2) := by
  refine mk_i (cc := cX6_letterOf) (nL := 4) rfl rfl (MW_ok hN) (Nat.le_of_ble_eq_true rfl) [(0, .ref (ad 0)), (1, .int (ii ((r : Int)))), (2, .int (ii (j)))] rfl (fun p e s m args below meth c A Q E RET => ?_)
  have b1 := hA.2.1 r hrn
  have b2 := hA.2.2 (st.2 2 (r : Int)) (by omega) (by omega)
  have m1 := Int.emod_nonneg j (show st.2 1 (st.2 2 (r : Int)) ≠ 0 by omega)
  have m2 := Int.emod_lt_of_pos j (show 0 < st.2 1 (st.2 2 (r : Int)) by omega)
  have hn := hA.1
  refine x_aload_n (q := 1) E dX6_letterOf_0 0 rfl rfl ?_
  refine x_get (q := 4) E iX6_letterOf_X6 (0) rfl rfl 3 (by decide) (by decide +kernel) rfl dX6_letterOf_1 rfl ?_
  refine x_iload_n (q := 5) E dX6_letterOf_4 1 rfl rfl ?_
  refine x_iald (q := 6) (f := st.2 (2)) E (3) rfl 0 rfl (by omega) (by omega) (by decide) dX6_letterOf_5 rfl ?_
  refine x_istore_n (q := 7) (lv' := [(3, .int (ii (st.2 (2) ((r : Int))))), (0, .ref (ad 0)), (1, .int (ii ((r : Int)))), (2, .int (ii (j)))]) E dX6_letterOf_6 (by decide) rfl rfl ?_
  refine x_aload_n (q := 8) E dX6_letterOf_7 1 rfl rfl ?_
  refine x_get (q := 11) E iX6_letterOf_X6 (0) rfl rfl 0 (by decide) (by decide +kernel) rfl dX6_letterOf_8 rfl ?_
  refine x_iconst (q := 12) E dX6_letterOf_11 rfl ?_
  refine x_iload_n (q := 13) E dX6_letterOf_12 0 rfl rfl ?_
  refine x_imul (q := 14) E dX6_letterOf_13 rfl ?_
  refine x_iload_n (q := 15) E dX6_letterOf_14 3 rfl rfl ?_
  refine x_aload_n (q := 16) E dX6_letterOf_15 1 rfl rfl ?_
  refine x_get (q := 19) E iX6_letterOf_X6 (0) rfl rfl 1 (by decide) (by decide +kernel) rfl dX6_letterOf_16 rfl ?_
  refine x_iload_n (q := 20) E dX6_letterOf_19 0 rfl rfl ?_
  refine x_iald (q := 21) (f := st.2 (1)) E (2) rfl 0 rfl (by omega) (by omega) (by decide) dX6_letterOf_20 rfl ?_
  refine x_irem (q := 22) E dX6_letterOf_21 (by omega) (by omega) (by omega) (by omega) rfl ?_
  refine x_iadd (q := 23) E dX6_letterOf_22 rfl ?_
  refine x_iald (q := 24) (f := st.2 (0)) E (1) rfl 0 rfl (by omega) (by omega) (by decide) dX6_letterOf_23 rfl ?_
  exact RET _ _ _ _ dX6_letterOf_24 (⟨rfl, rfl⟩)

theorem iX6_make_X6 : ∀ w ∈ wsX60, w ∈ wsX6_make := by decide +kernel
set_option maxRecDepth 100000 in
set_option maxHeartbeats 4000000 in
theorem c_X6_make (l : Launch) (D : va_G) (T : Nat → ClassId) (ad : Nat → Nat) (hN : ∀ i j, i < 13 → j < 13 → ad i = ad j → i = j) (st : St_) (r : Nat) (hr : r < 3) (k : Int) (bk : -2147483648 ≤ k ∧ k < 2147483648) (hrn : (r : Int) < st.1 0) (hk : -1 ≤ k ∧ k ≤ 100000) (lt : Nat → Int → Int) (hM : MH lt st) : CXv l yX6_make wsX6_make (rmX 1 23) [.ref (ad 0), .int (ii ((r : Int))), .int (ii (k))] D (tyX T) (MW T ad) (alM ad) st (fun st2 => MH lt st2 ∧ frm st st2 ∧ st2.1 1 = 0 ∧ k < st2.2 6 (r : Int)) := by
  refine mk_v (cc := cX6_make) (nL := 8) rfl rfl (MW_ok hN) (Nat.le_of_ble_eq_true rfl) [(0, .ref (ad 0)), (1, .int (ii ((r : Int)))), (2, .int (ii (k)))] rfl (fun p e s m args below meth c A Q E RET => ?_)
  have hL := hM.1
  have hA := hM.2.1
  have hlt := hM.2.2.1
  have hsl := hM.2.2.2.1
  have hq := hM.2.2.2.2
  have hn := hA.1
  refine x_aload_n (q := 1) E dX6_make_0 0 rfl rfl ?_
  refine x_get (q := 4) E iX6_make_X6 (0) rfl rfl 4 (by decide) (by decide +kernel) rfl dX6_make_1 rfl ?_
  refine x_if_eq (tgt := 37) (q := 7) E dX6_make_4 (by decide) rfl (by omega) (fun c4 => ?_) (fun c4 => ?_)
  · have L37 : ∀ (n : Nat)  (st1 : St_), (100002 - st1.1 2).toNat < n → (0 ≤ st1.1 2) → (Mq lt (st.1 0) st1 (fun _ => st1.1 2)) → (frm st st1) → (st1.1 1 = 0) → XJ p l e (rmX 1 23) s m args below meth c D (MW T ad) A 8 Q 0 0 st1 37 [(0, .ref (ad 0)), (1, .int (ii ((r : Int)))), (2, .int (ii (k)))] [] := by
      intro n
      induction n with
      | zero => intro  st1 hn; exact absurd hn (Nat.not_lt_zero _)
      | succ n ih37 =>
        intro  st1 hn37 b1 b2 b3 b4
        have br := b2 r hrn
        have br1 := br.1
        have br2 : ((BQ lt (nxn (st.1 0)) r (st1.1 2) ≤ 100001 ∧ st1.2 6 (r : Int) = BQ lt (nxn (st.1 0)) r (st1.1 2)) ∨ (100001 < BQ lt (nxn (st.1 0)) r (st1.1 2) ∧ st1.2 6 (r : Int) = 100001)) := br.2.2
        have br3 := BQ_ge (nx := nxn (st.1 0)) hL.pos r b1
        refine x_aload_n (q := 38) E dX6_make_37 0 rfl rfl ?_
        refine x_get (q := 41) E iX6_make_X6 (0) rfl rfl 8 (by decide) (by decide +kernel) rfl dX6_make_38 rfl ?_
        refine x_iload_n (q := 42) E dX6_make_41 1 rfl rfl ?_
        refine x_iald (q := 43) (f := st1.2 (6)) E (7) rfl 0 rfl (by omega) (by omega) (by decide) dX6_make_42 rfl ?_
        refine x_iload_n (q := 44) E dX6_make_43 2 rfl rfl ?_
        refine x_icmp_gt (tgt := 183) (q := 47) E dX6_make_44 (by decide) rfl (by omega) (by omega) (fun c44 => ?_) (fun c44 => ?_)
        · exact RET _ _ _ dX6_make_183 (⟨⟨hL, AM_frm b3 hA, fun x j hx hj => by rw [b3.1 0 (by omega) (by omega)] at hx; rw [ltm_frm b3]; exact hlt x j hx hj, Or.inl b4, fun _ => ⟨b1, by rw [b3.1 0 (by omega) (by omega)]; exact b2⟩⟩, b3, b4, by omega⟩)
        · have hj : 0 ≤ st1.1 2 ∧ st1.1 2 ≤ 100000 := by omega
          refine x_aload_n (q := 48) E dX6_make_47 0 rfl rfl ?_
          refine x_get (q := 51) E iX6_make_X6 (0) rfl rfl 9 (by decide) (by decide +kernel) rfl dX6_make_48 rfl ?_
          refine x_istore_n (q := 52) (lv' := [(3, .int (ii (st1.1 (2)))), (0, .ref (ad 0)), (1, .int (ii ((r : Int)))), (2, .int (ii (k)))]) E dX6_make_51 (by decide) rfl rfl ?_
          refine x_iconst (q := 53) E dX6_make_52 rfl ?_
          refine x_istore (q := 55) (lv' := [(4, .int (ii (0))), (3, .int (ii (st1.1 (2)))), (0, .ref (ad 0)), (1, .int (ii ((r : Int)))), (2, .int (ii (k)))]) E dX6_make_53 (by decide) rfl rfl ?_
          have L55 : ∀ (n : Nat) (i : Nat) (st2 : St_), (st.1 0 - (i : Int)).toNat < n → ((i : Int) ≤ st.1 0) → (Mq lt (st.1 0) st2 (fun x => if x < i then st1.1 2 + 1 else st1.1 2)) → (frm st st2) → (st2.1 1 = 0) → (st2.1 2 = st1.1 2) → XJ p l e (rmX 1 23) s m args below meth c D (MW T ad) A 8 Q 0 0 st2 55 [(0, .ref (ad 0)), (1, .int (ii ((r : Int)))), (2, .int (ii (k))), (3, .int (ii (st1.1 (2)))), (4, .int (ii ((i : Int))))] [] := by
            intro n
            induction n with
            | zero => intro i st2 hn; exact absurd hn (Nat.not_lt_zero _)
            | succ n ih55 =>
              intro i st2 hn55 d1 d2 d3 d4 d5
              have d0 : st2.1 0 = st.1 0 := d3.1 0 (by omega) (by omega)
              refine x_iload (q := 57) E dX6_make_55 4 rfl rfl ?_
              refine x_aload_n (q := 58) E dX6_make_57 0 rfl rfl ?_
              refine x_get (q := 61) E iX6_make_X6 (0) rfl rfl 2 (by decide) (by decide +kernel) rfl dX6_make_58 rfl ?_
              refine x_icmp_ge (tgt := 170) (q := 64) E dX6_make_61 (by decide) rfl (by omega) (by omega) (fun c61 => ?_) (fun c61 => ?_)
              · refine x_aload_n (q := 171) E dX6_make_170 0 rfl rfl ?_
                refine x_dup (q := 172) E dX6_make_171 rfl rfl ?_
                refine x_get (q := 175) E iX6_make_X6 (0) rfl rfl 9 (by decide) (by decide +kernel) rfl dX6_make_172 rfl ?_
                refine x_iconst (q := 176) E dX6_make_175 rfl ?_
                refine x_iadd (q := 177) E dX6_make_176 rfl ?_
                refine x_put (q := 180) (st' := (sG st2 (2) ((st2.1 (2)) + (1)))) (v := .int (ii ((st2.1 (2)) + (1)))) (ty := .int) E iX6_make_X6 tyX6 tyX6_ok nmX6 (0) rfl rfl 9 (by decide) (by decide +kernel) rfl (by decide +kernel) rfl rfl (Nat.le_of_ble_eq_true rfl) dX6_make_177 (ms_2 _) rfl ?_
                refine x_goto (tgt := 37) E dX6_make_180 (by decide) ?_
                refine x_lv E (lv' := [(0, .ref (ad 0)), (1, .int (ii ((r : Int)))), (2, .int (ii (k)))]) [0, 1, 2] rfl ?_
                exact ih37 (sG st2 (2) ((st2.1 (2)) + (1))) (by rw [sG_s]; omega) (by rw [sG_s]; omega) (Mq_J d2 (fun x hx => by rw [if_pos (by omega), sG_s, d5])) (frm_tr d3 ⟨fun y y0 y1 => by rw [sG_n _ _ y1], fun y hy => rfl⟩) (by rw [sG_n _ _ (by omega)]; exact d4)
              · have hi2 : (i : Int) < st.1 0 := by omega
                have hi : i < 3 := by omega
                have hx := nxn_lt (n := st.1 0) (r := i) hn.1
                have e9 := Mq.tell hL d2 hx hj (by by_cases y : nxn (st.1 0) i < i; exact Or.inr (if_pos y); exact Or.inl (if_neg y))
                have e8 := (d2 _ hx).1
                have e7 := BQ_ge (nx := nxn (st.1 0)) hL.pos i b1
                have e6 := SQ_pos (nx := nxn (st.1 0)) hL.pos (nxn (st.1 0) i) (st1.1 2) b1
                have e5 := SQ_le (nx := nxn (st.1 0)) (fun r j hj => (hL.1 r j hj).2) (nxn (st.1 0) i) (st1.1 2) b1
                have e4 := hL.1 i (st1.1 2) b1
                refine x_iload (q := 66) E dX6_make_64 4 rfl rfl ?_
                refine x_iconst (q := 67) E dX6_make_66 rfl ?_
                refine x_iadd (q := 68) E dX6_make_67 rfl ?_
                refine x_aload_n (q := 69) E dX6_make_68 0 rfl rfl ?_
                refine x_get (q := 72) E iX6_make_X6 (0) rfl rfl 2 (by decide) (by decide +kernel) rfl dX6_make_69 rfl ?_
                refine x_irem (q := 73) E dX6_make_72 (by omega) (by omega) (by omega) (by omega) rfl ?_
                refine x_ti (show ((i : Int) + (1)) % (st2.1 (0)) = ((nxn (st.1 0) i : Nat) : Int) from by rw [d0]; exact nxn_mod hn hi2) ?_
                refine x_istore (q := 75) (lv' := [(5, .int (ii (((nxn (st.1 0) i : Nat) : Int)))), (0, .ref (ad 0)), (1, .int (ii ((r : Int)))), (2, .int (ii (k))), (3, .int (ii (st1.1 (2)))), (4, .int (ii ((i : Int))))]) E dX6_make_73 (by decide) rfl rfl ?_
                refine x_aload_n (q := 76) E dX6_make_75 1 rfl rfl ?_
                refine x_get (q := 79) E iX6_make_X6 (0) rfl rfl 8 (by decide) (by decide +kernel) rfl dX6_make_76 rfl ?_
                refine x_iload (q := 81) E dX6_make_79 0 rfl rfl ?_
                refine x_iald (q := 82) (f := st2.2 (6)) E (7) rfl 0 rfl (by omega) (by omega) (by decide) dX6_make_81 rfl ?_
                refine x_iload_n (q := 83) E dX6_make_82 4 rfl rfl ?_
                refine x_icmp_le (tgt := 96) (q := 86) E dX6_make_83 (by decide) rfl (by omega) (by omega) (fun c83 => ?_) (fun c83 => ?_)
                · refine x_aload_n (q := 97) E dX6_make_96 1 rfl rfl ?_
                  refine x_iload (q := 99) E dX6_make_97 0 rfl rfl ?_
                  refine x_iload_n (q := 100) E dX6_make_99 4 rfl rfl ?_
                  refine x_callVi (q := 103) (n := 2) (As := [.int (ii (((nxn (st.1 0) i : Nat) : Int))), .int (ii (st1.1 (2)))]) (r := []) E (c_X6_letterOf l D T ad hN st2 (nxn (st.1 0) i) (by omega) (st1.1 (2)) (by omega) (AM_frm d3 hA) (by rw [d0]; exact hx) (by omega)) gX6_make_X6_letterOf rfl rfl rfl (by decide +kernel) ⟨Nat.le_of_ble_eq_true rfl, Nat.le_of_ble_eq_true rfl⟩ (0) rfl rfl rfl rfl (Nat.le_of_ble_eq_true rfl) dX6_make_100 rfl (fun z1 s2 q3 => ?_)
                  obtain ⟨rfl, rfl⟩ := q3
                  refine x_ti (show ltm st2 (nxn (st.1 0) i) (st1.1 (2)) = SQ lt (nxn (st.1 0)) (nxn (st.1 0) i) (st1.1 2) from by rw [ltm_frm d3, hlt _ _ hx (by omega)]; exact e9.2 (by omega)) ?_
                  refine x_istore (q := 105) (lv' := [(6, .int (ii (SQ lt (nxn (st.1 0)) (nxn (st.1 0) i) (st1.1 2)))), (5, .int (ii (((nxn (st.1 0) i : Nat) : Int)))), (0, .ref (ad 0)), (1, .int (ii ((r : Int)))), (2, .int (ii (k))), (3, .int (ii (st1.1 (2)))), (4, .int (ii ((i : Int))))]) E dX6_make_103 (by decide) rfl rfl ?_
                  refine x_iconst (q := 106) E dX6_make_105 rfl ?_
                  refine x_istore (q := 108) (lv' := [(7, .int (ii (0))), (6, .int (ii (SQ lt (nxn (st.1 0)) (nxn (st.1 0) i) (st1.1 2)))), (5, .int (ii (((nxn (st.1 0) i : Nat) : Int)))), (0, .ref (ad 0)), (1, .int (ii ((r : Int)))), (2, .int (ii (k))), (3, .int (ii (st1.1 (2)))), (4, .int (ii ((i : Int))))]) E dX6_make_106 (by decide) rfl rfl ?_
                  have L108 : ∀ (n : Nat) (t : Int) (f : Int → Int) (g6 : Int → Int), (SQ lt (nxn (st.1 0)) (nxn (st.1 0) i) (st1.1 2) - t).toNat < n → (0 ≤ t ∧ t ≤ SQ lt (nxn (st.1 0)) (nxn (st.1 0) i) (st1.1 2)) → (g6 (i : Int) = if BQ lt (nxn (st.1 0)) i (st1.1 2) + t ≤ 100001 then BQ lt (nxn (st.1 0)) i (st1.1 2) + t else 100001) → (∀ x : Int, x ≠ (i : Int) → g6 x = st2.2 6 x) → (∀ x : Int, 0 ≤ x → x < g6 (i : Int) → f x = SQ lt (nxn (st.1 0)) i x) → XJ p l e (rmX 1 23) s m args below meth c D (MW T ad) A 8 Q 0 0 (sF (sF st2 (3 + i) (f)) (6) (g6)) 108 [(0, .ref (ad 0)), (1, .int (ii ((r : Int)))), (2, .int (ii (k))), (3, .int (ii (st1.1 (2)))), (4, .int (ii ((i : Int)))), (5, .int (ii (((nxn (st.1 0) i : Nat) : Int)))), (6, .int (ii (SQ lt (nxn (st.1 0)) (nxn (st.1 0) i) (st1.1 2)))), (7, .int (ii (t)))] [] := by
                    intro n
                    induction n with
                    | zero => intro t f g6 hn; exact absurd hn (Nat.not_lt_zero _)
                    | succ n ih108 =>
                      intro t f g6 hn108 t1 t2 t3 t4
                      have t6 : frm st (sF (sF st2 (3 + i) (f)) (6) (g6)) := frm_tr d3 ⟨fun y y0 y1 => rfl, fun y hy => by rw [sF_n _ _ (by omega), sF_n _ _ (by omega)]⟩
                      have t7 : (sF (sF st2 (3 + i) (f)) (6) (g6)).1 0 = st.1 0 := t6.1 0 (by omega) (by omega)
                      have t8 : 0 ≤ g6 (i : Int) ∧ g6 (i : Int) ≤ 100001 := by rw [t2]; split <;> omega
                      refine x_iload (q := 110) E dX6_make_108 7 rfl rfl ?_
                      refine x_iload (q := 112) E dX6_make_110 6 rfl rfl ?_
                      refine x_icmp_ge (tgt := 164) (q := 115) E dX6_make_112 (by decide) rfl (by omega) (by omega) (fun c112 => ?_) (fun c112 => ?_)
                      · refine x_iinc (q := 167) (k := 4) (lv' := [(4, .int (ii ((i : Int) + 1))), (0, .ref (ad 0)), (1, .int (ii ((r : Int)))), (2, .int (ii (k))), (3, .int (ii (st1.1 (2)))), (5, .int (ii (((nxn (st.1 0) i : Nat) : Int)))), (6, .int (ii (SQ lt (nxn (st.1 0)) (nxn (st.1 0) i) (st1.1 2)))), (7, .int (ii (t)))]) E dX6_make_164 rfl (by decide) rfl rfl ?_
                        refine x_goto (tgt := 55) E dX6_make_167 (by decide) ?_
                        refine x_lv E (lv' := [(0, .ref (ad 0)), (1, .int (ii ((r : Int)))), (2, .int (ii (k))), (3, .int (ii (st1.1 (2)))), (4, .int (ii ((i : Int) + 1)))]) [1, 2, 3, 4, 0] rfl ?_
                        exact ih55 (i + 1) (sF (sF st2 (3 + i) (f)) (6) (g6)) (by omega) (by omega) (Mq.put d2 hn.2 (i := i) (g6 := g6) (f := f) (m := g6 (i : Int)) (by rw [sF_s]) (by rw [sF_n _ _ (by omega), sF_s]) (fun x hx3 hx => by rw [sF_n _ _ (by omega), sF_n _ _ (by omega)]) rfl t3 (fun x hx => by by_cases y : x < i; rw [if_pos y, if_pos (by omega)]; rw [if_neg y, if_neg (by omega)]) (by rw [if_pos (by omega)]; exact ⟨by rw [t2]; split <;> omega, t4, by rw [BQ_s lt (nxn (st.1 0)) i b1, t2]; split <;> omega⟩)) (frm_tr d3 ⟨fun y y0 y1 => rfl, fun y hy => by rw [sF_n _ _ (by omega), sF_n _ _ (by omega)]⟩) (d4) (d5)
                      · refine x_aload_n (q := 116) E dX6_make_115 0 rfl rfl ?_
                        refine x_get (q := 119) E iX6_make_X6 (0) rfl rfl 8 (by decide) (by decide +kernel) rfl dX6_make_116 rfl ?_
                        refine x_iload (q := 121) E dX6_make_119 4 rfl rfl ?_
                        refine x_iald (q := 122) (f := (sF (sF st2 (3 + i) (f)) (6) (g6)).2 (6)) E (7) rfl 0 rfl (by omega) (by omega) (by decide) dX6_make_121 rfl ?_
                        refine x_ti (show (sF (sF st2 (3 + i) (f)) (6) (g6)).2 (6) ((i : Int)) = g6 ((i : Int)) by rw [sF_s]) ?_
                        refine x_ldc (q := 124) (v := 100000) (z := 100000) E (by decide +kernel) (by decide) dX6_make_122 rfl ?_
                        refine x_icmp_gt (tgt := 164) (q := 127) E dX6_make_124 (by decide) rfl (by omega) (by omega) (fun c124 => ?_) (fun c124 => ?_)
                        · refine x_iinc (q := 167) (k := 4) (lv' := [(4, .int (ii ((i : Int) + 1))), (0, .ref (ad 0)), (1, .int (ii ((r : Int)))), (2, .int (ii (k))), (3, .int (ii (st1.1 (2)))), (5, .int (ii (((nxn (st.1 0) i : Nat) : Int)))), (6, .int (ii (SQ lt (nxn (st.1 0)) (nxn (st.1 0) i) (st1.1 2)))), (7, .int (ii (t)))]) E dX6_make_164 rfl (by decide) rfl rfl ?_
                          refine x_goto (tgt := 55) E dX6_make_167 (by decide) ?_
                          refine x_lv E (lv' := [(0, .ref (ad 0)), (1, .int (ii ((r : Int)))), (2, .int (ii (k))), (3, .int (ii (st1.1 (2)))), (4, .int (ii ((i : Int) + 1)))]) [1, 2, 3, 4, 0] rfl ?_
                          exact ih55 (i + 1) (sF (sF st2 (3 + i) (f)) (6) (g6)) (by omega) (by omega) (Mq.put d2 hn.2 (i := i) (g6 := g6) (f := f) (m := g6 (i : Int)) (by rw [sF_s]) (by rw [sF_n _ _ (by omega), sF_s]) (fun x hx3 hx => by rw [sF_n _ _ (by omega), sF_n _ _ (by omega)]) rfl t3 (fun x hx => by by_cases y : x < i; rw [if_pos y, if_pos (by omega)]; rw [if_neg y, if_neg (by omega)]) (by rw [if_pos (by omega)]; exact ⟨by rw [t2]; split <;> omega, t4, by rw [BQ_s lt (nxn (st.1 0)) i b1, t2]; split <;> omega⟩)) (frm_tr d3 ⟨fun y y0 y1 => rfl, fun y hy => by rw [sF_n _ _ (by omega), sF_n _ _ (by omega)]⟩) (d4) (d5)
                        · have t9 : g6 (i : Int) < BQ lt (nxn (st.1 0)) i (st1.1 2) + SQ lt (nxn (st.1 0)) (nxn (st.1 0) i) (st1.1 2) → SQ lt (nxn (st.1 0)) i (g6 (i : Int)) = lt i (st1.1 2) := fun y => Mq.run hL b1 (g6 (i : Int)) (by rw [t2] at c124 ⊢; split at c124 <;> split <;> omega) y
                          have t10 : g6 (i : Int) = BQ lt (nxn (st.1 0)) i (st1.1 2) + t := by rw [t2] at c124 ⊢; split at c124 <;> split <;> omega
                          refine x_aload_n (q := 128) E dX6_make_127 0 rfl rfl ?_
                          refine x_iload (q := 130) E dX6_make_128 4 rfl rfl ?_
                          refine x_aload_n (q := 131) E dX6_make_130 0 rfl rfl ?_
                          refine x_get (q := 134) E iX6_make_X6 (0) rfl rfl 8 (by decide) (by decide +kernel) rfl dX6_make_131 rfl ?_
                          refine x_iload (q := 136) E dX6_make_134 4 rfl rfl ?_
                          refine x_iald (q := 137) (f := (sF (sF st2 (3 + i) (f)) (6) (g6)).2 (6)) E (7) rfl 0 rfl (by omega) (by omega) (by decide) dX6_make_136 rfl ?_
                          refine x_ti (show (sF (sF st2 (3 + i) (f)) (6) (g6)).2 (6) ((i : Int)) = g6 ((i : Int)) by rw [sF_s]) ?_
                          refine x_aload_n (q := 138) E dX6_make_137 0 rfl rfl ?_
                          refine x_iload (q := 140) E dX6_make_138 4 rfl rfl ?_
                          refine x_iload_n (q := 141) E dX6_make_140 3 rfl rfl ?_
                          refine x_callVi (q := 144) (n := 2) (As := [.int (ii ((i : Int))), .int (ii (st1.1 (2)))]) (r := [.int (ii (g6 ((i : Int)))), .int (ii ((i : Int))), .ref (ad 0)]) E (c_X6_letterOf l D T ad hN (sF (sF st2 (3 + i) (f)) (6) (g6)) i hi (st1.1 (2)) (by omega) (AM_frm t6 hA) (by rw [t7]; exact hi2) (by omega)) gX6_make_X6_letterOf rfl rfl rfl (by decide +kernel) ⟨Nat.le_of_ble_eq_true rfl, Nat.le_of_ble_eq_true rfl⟩ (0) rfl rfl rfl rfl (Nat.le_of_ble_eq_true rfl) dX6_make_141 rfl (fun z4 s5 q6 => ?_)
                          obtain ⟨rfl, rfl⟩ := q6
                          refine x_ti (show ltm (sF (sF st2 (3 + i) (f)) (6) (g6)) i (st1.1 (2)) = lt i (st1.1 2) from by rw [ltm_frm t6]; exact hlt i _ hi2 (by omega)) ?_
                          refine x_callVv (q := 147) (n := 3) (As := [.int (ii ((i : Int))), .int (ii (g6 ((i : Int)))), .int (ii (lt i (st1.1 2)))]) (r := []) E (c_X6_put l D T ad hN (sF (sF st2 (3 + i) (f)) (6) (g6)) i hi (g6 ((i : Int))) (by omega) (lt i (st1.1 2)) (by omega) (by omega) (by omega)) gX6_make_X6_put rfl rfl rfl (by decide +kernel) ⟨Nat.le_of_ble_eq_true rfl, Nat.le_of_ble_eq_true rfl⟩ (0) rfl rfl rfl rfl (Nat.le_of_ble_eq_true rfl) dX6_make_144 rfl (fun s8 q9 => ?_)
                          obtain rfl := q9
                          refine x_aload_n (q := 148) E dX6_make_147 0 rfl rfl ?_
                          refine x_get (q := 151) E iX6_make_X6 (0) rfl rfl 8 (by decide) (by decide +kernel) rfl dX6_make_148 rfl ?_
                          refine x_iload (q := 153) E dX6_make_151 4 rfl rfl ?_
                          refine x_dup2 (q := 154) E dX6_make_153 rfl rfl rfl ?_
                          refine x_iald (q := 155) (f := (sA (sF (sF st2 (3 + i) (f)) (6) (g6)) (3 + i) (g6 ((i : Int))) (lt i (st1.1 2))).2 (6)) E (7) rfl 0 rfl (by omega) (by omega) (by decide) dX6_make_154 rfl ?_
                          refine x_ti (show (sA (sF (sF st2 (3 + i) (f)) (6) (g6)) (3 + i) (g6 ((i : Int))) (lt i (st1.1 2))).2 (6) ((i : Int)) = g6 ((i : Int)) by rw [sA_n _ _ _ (by omega), sF_s]) ?_
                          refine x_iconst (q := 156) E dX6_make_155 rfl ?_
                          refine x_iadd (q := 157) E dX6_make_156 rfl ?_
                          refine x_iast (q := 158) (st' := (sA (sA (sF (sF st2 (3 + i) (f)) (6) (g6)) (3 + i) (g6 ((i : Int))) (lt i (st1.1 2))) (6) ((i : Int)) ((g6 ((i : Int))) + (1)))) (f := (sA (sF (sF st2 (3 + i) (f)) (6) (g6)) (3 + i) (g6 ((i : Int))) (lt i (st1.1 2))).2 (6)) E (7) rfl 0 rfl (by omega) (by omega) (by decide) dX6_make_157 (ma_6 _ _) rfl ?_
                          refine x_iinc (q := 161) (k := 7) (lv' := [(7, .int (ii (t + 1))), (0, .ref (ad 0)), (1, .int (ii ((r : Int)))), (2, .int (ii (k))), (3, .int (ii (st1.1 (2)))), (4, .int (ii ((i : Int)))), (5, .int (ii (((nxn (st.1 0) i : Nat) : Int)))), (6, .int (ii (SQ lt (nxn (st.1 0)) (nxn (st.1 0) i) (st1.1 2))))]) E dX6_make_158 rfl (by decide) rfl rfl ?_
                          refine x_goto (tgt := 108) E dX6_make_161 (by decide) ?_
                          refine x_st E (st' := (sF (sF st2 (3 + i) (zup (f) (g6 ((i : Int))) (lt i (st1.1 2)))) (6) (zup (g6) ((i : Int)) ((g6 ((i : Int))) + (1))))) (by refine Prod.ext (funext fun k9 => ?_) (funext fun q9 => ?_) <;> simp only [sG_1, sG_2, sA_1, sA_2, sF_1, sF_2, reduceIte] <;> (repeat' split) <;> first | rfl | omega | (subst_vars; first | rfl | omega) | simp_all) ?_
                          refine x_lv E (lv' := [(0, .ref (ad 0)), (1, .int (ii ((r : Int)))), (2, .int (ii (k))), (3, .int (ii (st1.1 (2)))), (4, .int (ii ((i : Int)))), (5, .int (ii (((nxn (st.1 0) i : Nat) : Int)))), (6, .int (ii (SQ lt (nxn (st.1 0)) (nxn (st.1 0) i) (st1.1 2)))), (7, .int (ii (t + 1)))]) [1, 2, 3, 4, 5, 6, 7, 0] rfl ?_
                          exact ih108 (t + 1) (zup (f) (g6 ((i : Int))) (lt i (st1.1 2))) (zup (g6) ((i : Int)) ((g6 ((i : Int))) + (1))) (by omega) (by omega) (by rw [zup_eq]; rw [t2]; rw [t2] at c124; split at c124 <;> split <;> omega) (fun x hx => by rw [zup_ne _ _ hx]; exact t3 x hx) (fun x x0 x1 => by rw [zup_eq] at x1; exact if hx : x = g6 (i : Int) then (by rw [hx, zup_eq]; exact (t9 (by omega)).symm) else (by rw [zup_ne _ _ hx]; exact t4 x x0 (by omega)))
                  refine x_lv E (lv' := [(0, .ref (ad 0)), (1, .int (ii ((r : Int)))), (2, .int (ii (k))), (3, .int (ii (st1.1 (2)))), (4, .int (ii ((i : Int)))), (5, .int (ii (((nxn (st.1 0) i : Nat) : Int)))), (6, .int (ii (SQ lt (nxn (st.1 0)) (nxn (st.1 0) i) (st1.1 2)))), (7, .int (ii (0)))]) [3, 4, 5, 6, 7, 2, 1, 0] rfl ?_
                  refine x_st E (st' := (sF (sF st2 (3 + i) (st2.2 (3 + i))) (6) (st2.2 (6)))) (by refine Prod.ext (funext fun k9 => ?_) (funext fun q9 => ?_) <;> simp only [sG_1, sG_2, sA_1, sA_2, sF_1, sF_2, reduceIte] <;> (repeat' split) <;> first | rfl | omega | (subst_vars; first | rfl | omega) | simp_all) ?_
                  exact L108 _ (0) (st2.2 (3 + i)) (st2.2 (6)) (Nat.lt_succ_self _) (by omega) (by have y := (d2 i hi2).2.2; dsimp only at y; rw [if_neg (Nat.lt_irrefl i)] at y; split <;> omega) (fun _ _ => rfl) ((d2 i hi2).2.1)
                · refine x_aload_n (q := 87) E dX6_make_86 1 rfl rfl ?_
                  refine x_iload (q := 89) E dX6_make_87 0 rfl rfl ?_
                  refine x_iload_n (q := 90) E dX6_make_89 4 rfl rfl ?_
                  refine x_callVi (q := 93) (n := 2) (As := [.int (ii (((nxn (st.1 0) i : Nat) : Int))), .int (ii (st1.1 (2)))]) (r := []) E (c_X6_number l D T ad hN st2 (nxn (st.1 0) i) (by omega) (st1.1 (2)) (by omega) (by omega)) gX6_make_X6_number rfl rfl rfl (by decide +kernel) ⟨Nat.le_of_ble_eq_true rfl, Nat.le_of_ble_eq_true rfl⟩ (0) rfl rfl rfl rfl (Nat.le_of_ble_eq_true rfl) dX6_make_90 rfl (fun z10 s11 q12 => ?_)
                  obtain ⟨rfl, rfl⟩ := q12
                  refine x_goto (tgt := 103) E dX6_make_93 (by decide) ?_
                  refine x_ti (show st2.2 (3 + (nxn (st.1 0) i)) (st1.1 (2)) = SQ lt (nxn (st.1 0)) (nxn (st.1 0) i) (st1.1 2) from e9.1 (by omega)) ?_
                  refine x_istore (q := 105) (lv' := [(6, .int (ii (SQ lt (nxn (st.1 0)) (nxn (st.1 0) i) (st1.1 2)))), (5, .int (ii (((nxn (st.1 0) i : Nat) : Int)))), (0, .ref (ad 0)), (1, .int (ii ((r : Int)))), (2, .int (ii (k))), (3, .int (ii (st1.1 (2)))), (4, .int (ii ((i : Int))))]) E dX6_make_103 (by decide) rfl rfl ?_
                  refine x_iconst (q := 106) E dX6_make_105 rfl ?_
                  refine x_istore (q := 108) (lv' := [(7, .int (ii (0))), (6, .int (ii (SQ lt (nxn (st.1 0)) (nxn (st.1 0) i) (st1.1 2)))), (5, .int (ii (((nxn (st.1 0) i : Nat) : Int)))), (0, .ref (ad 0)), (1, .int (ii ((r : Int)))), (2, .int (ii (k))), (3, .int (ii (st1.1 (2)))), (4, .int (ii ((i : Int))))]) E dX6_make_106 (by decide) rfl rfl ?_
                  have L108 : ∀ (n : Nat) (t : Int) (f : Int → Int) (g6 : Int → Int), (SQ lt (nxn (st.1 0)) (nxn (st.1 0) i) (st1.1 2) - t).toNat < n → (0 ≤ t ∧ t ≤ SQ lt (nxn (st.1 0)) (nxn (st.1 0) i) (st1.1 2)) → (g6 (i : Int) = if BQ lt (nxn (st.1 0)) i (st1.1 2) + t ≤ 100001 then BQ lt (nxn (st.1 0)) i (st1.1 2) + t else 100001) → (∀ x : Int, x ≠ (i : Int) → g6 x = st2.2 6 x) → (∀ x : Int, 0 ≤ x → x < g6 (i : Int) → f x = SQ lt (nxn (st.1 0)) i x) → XJ p l e (rmX 1 23) s m args below meth c D (MW T ad) A 8 Q 0 0 (sF (sF st2 (3 + i) (f)) (6) (g6)) 108 [(0, .ref (ad 0)), (1, .int (ii ((r : Int)))), (2, .int (ii (k))), (3, .int (ii (st1.1 (2)))), (4, .int (ii ((i : Int)))), (5, .int (ii (((nxn (st.1 0) i : Nat) : Int)))), (6, .int (ii (SQ lt (nxn (st.1 0)) (nxn (st.1 0) i) (st1.1 2)))), (7, .int (ii (t)))] [] := by
                    intro n
                    induction n with
                    | zero => intro t f g6 hn; exact absurd hn (Nat.not_lt_zero _)
                    | succ n ih108 =>
                      intro t f g6 hn108 t1 t2 t3 t4
                      have t6 : frm st (sF (sF st2 (3 + i) (f)) (6) (g6)) := frm_tr d3 ⟨fun y y0 y1 => rfl, fun y hy => by rw [sF_n _ _ (by omega), sF_n _ _ (by omega)]⟩
                      have t7 : (sF (sF st2 (3 + i) (f)) (6) (g6)).1 0 = st.1 0 := t6.1 0 (by omega) (by omega)
                      have t8 : 0 ≤ g6 (i : Int) ∧ g6 (i : Int) ≤ 100001 := by rw [t2]; split <;> omega
                      refine x_iload (q := 110) E dX6_make_108 7 rfl rfl ?_
                      refine x_iload (q := 112) E dX6_make_110 6 rfl rfl ?_
                      refine x_icmp_ge (tgt := 164) (q := 115) E dX6_make_112 (by decide) rfl (by omega) (by omega) (fun c112 => ?_) (fun c112 => ?_)
                      · refine x_iinc (q := 167) (k := 4) (lv' := [(4, .int (ii ((i : Int) + 1))), (0, .ref (ad 0)), (1, .int (ii ((r : Int)))), (2, .int (ii (k))), (3, .int (ii (st1.1 (2)))), (5, .int (ii (((nxn (st.1 0) i : Nat) : Int)))), (6, .int (ii (SQ lt (nxn (st.1 0)) (nxn (st.1 0) i) (st1.1 2)))), (7, .int (ii (t)))]) E dX6_make_164 rfl (by decide) rfl rfl ?_
                        refine x_goto (tgt := 55) E dX6_make_167 (by decide) ?_
                        refine x_lv E (lv' := [(0, .ref (ad 0)), (1, .int (ii ((r : Int)))), (2, .int (ii (k))), (3, .int (ii (st1.1 (2)))), (4, .int (ii ((i : Int) + 1)))]) [1, 2, 3, 4, 0] rfl ?_
                        exact ih55 (i + 1) (sF (sF st2 (3 + i) (f)) (6) (g6)) (by omega) (by omega) (Mq.put d2 hn.2 (i := i) (g6 := g6) (f := f) (m := g6 (i : Int)) (by rw [sF_s]) (by rw [sF_n _ _ (by omega), sF_s]) (fun x hx3 hx => by rw [sF_n _ _ (by omega), sF_n _ _ (by omega)]) rfl t3 (fun x hx => by by_cases y : x < i; rw [if_pos y, if_pos (by omega)]; rw [if_neg y, if_neg (by omega)]) (by rw [if_pos (by omega)]; exact ⟨by rw [t2]; split <;> omega, t4, by rw [BQ_s lt (nxn (st.1 0)) i b1, t2]; split <;> omega⟩)) (frm_tr d3 ⟨fun y y0 y1 => rfl, fun y hy => by rw [sF_n _ _ (by omega), sF_n _ _ (by omega)]⟩) (d4) (d5)
                      · refine x_aload_n (q := 116) E dX6_make_115 0 rfl rfl ?_
                        refine x_get (q := 119) E iX6_make_X6 (0) rfl rfl 8 (by decide) (by decide +kernel) rfl dX6_make_116 rfl ?_
                        refine x_iload (q := 121) E dX6_make_119 4 rfl rfl ?_
                        refine x_iald (q := 122) (f := (sF (sF st2 (3 + i) (f)) (6) (g6)).2 (6)) E (7) rfl 0 rfl (by omega) (by omega) (by decide) dX6_make_121 rfl ?_
                        refine x_ti (show (sF (sF st2 (3 + i) (f)) (6) (g6)).2 (6) ((i : Int)) = g6 ((i : Int)) by rw [sF_s]) ?_
                        refine x_ldc (q := 124) (v := 100000) (z := 100000) E (by decide +kernel) (by decide) dX6_make_122 rfl ?_
                        refine x_icmp_gt (tgt := 164) (q := 127) E dX6_make_124 (by decide) rfl (by omega) (by omega) (fun c124 => ?_) (fun c124 => ?_)
                        · refine x_iinc (q := 167) (k := 4) (lv' := [(4, .int (ii ((i : Int) + 1))), (0, .ref (ad 0)), (1, .int (ii ((r : Int)))), (2, .int (ii (k))), (3, .int (ii (st1.1 (2)))), (5, .int (ii (((nxn (st.1 0) i : Nat) : Int)))), (6, .int (ii (SQ lt (nxn (st.1 0)) (nxn (st.1 0) i) (st1.1 2)))), (7, .int (ii (t)))]) E dX6_make_164 rfl (by decide) rfl rfl ?_
                          refine x_goto (tgt := 55) E dX6_make_167 (by decide) ?_
                          refine x_lv E (lv' := [(0, .ref (ad 0)), (1, .int (ii ((r : Int)))), (2, .int (ii (k))), (3, .int (ii (st1.1 (2)))), (4, .int (ii ((i : Int) + 1)))]) [1, 2, 3, 4, 0] rfl ?_
                          exact ih55 (i + 1) (sF (sF st2 (3 + i) (f)) (6) (g6)) (by omega) (by omega) (Mq.put d2 hn.2 (i := i) (g6 := g6) (f := f) (m := g6 (i : Int)) (by rw [sF_s]) (by rw [sF_n _ _ (by omega), sF_s]) (fun x hx3 hx => by rw [sF_n _ _ (by omega), sF_n _ _ (by omega)]) rfl t3 (fun x hx => by by_cases y : x < i; rw [if_pos y, if_pos (by omega)]; rw [if_neg y, if_neg (by omega)]) (by rw [if_pos (by omega)]; exact ⟨by rw [t2]; split <;> omega, t4, by rw [BQ_s lt (nxn (st.1 0)) i b1, t2]; split <;> omega⟩)) (frm_tr d3 ⟨fun y y0 y1 => rfl, fun y hy => by rw [sF_n _ _ (by omega), sF_n _ _ (by omega)]⟩) (d4) (d5)
                        · have t9 : g6 (i : Int) < BQ lt (nxn (st.1 0)) i (st1.1 2) + SQ lt (nxn (st.1 0)) (nxn (st.1 0) i) (st1.1 2) → SQ lt (nxn (st.1 0)) i (g6 (i : Int)) = lt i (st1.1 2) := fun y => Mq.run hL b1 (g6 (i : Int)) (by rw [t2] at c124 ⊢; split at c124 <;> split <;> omega) y
                          have t10 : g6 (i : Int) = BQ lt (nxn (st.1 0)) i (st1.1 2) + t := by rw [t2] at c124 ⊢; split at c124 <;> split <;> omega
                          refine x_aload_n (q := 128) E dX6_make_127 0 rfl rfl ?_
                          refine x_iload (q := 130) E dX6_make_128 4 rfl rfl ?_
                          refine x_aload_n (q := 131) E dX6_make_130 0 rfl rfl ?_
                          refine x_get (q := 134) E iX6_make_X6 (0) rfl rfl 8 (by decide) (by decide +kernel) rfl dX6_make_131 rfl ?_
                          refine x_iload (q := 136) E dX6_make_134 4 rfl rfl ?_
                          refine x_iald (q := 137) (f := (sF (sF st2 (3 + i) (f)) (6) (g6)).2 (6)) E (7) rfl 0 rfl (by omega) (by omega) (by decide) dX6_make_136 rfl ?_
                          refine x_ti (show (sF (sF st2 (3 + i) (f)) (6) (g6)).2 (6) ((i : Int)) = g6 ((i : Int)) by rw [sF_s]) ?_
                          refine x_aload_n (q := 138) E dX6_make_137 0 rfl rfl ?_
                          refine x_iload (q := 140) E dX6_make_138 4 rfl rfl ?_
                          refine x_iload_n (q := 141) E dX6_make_140 3 rfl rfl ?_
                          refine x_callVi (q := 144) (n := 2) (As := [.int (ii ((i : Int))), .int (ii (st1.1 (2)))]) (r := [.int (ii (g6 ((i : Int)))), .int (ii ((i : Int))), .ref (ad 0)]) E (c_X6_letterOf l D T ad hN (sF (sF st2 (3 + i) (f)) (6) (g6)) i hi (st1.1 (2)) (by omega) (AM_frm t6 hA) (by rw [t7]; exact hi2) (by omega)) gX6_make_X6_letterOf rfl rfl rfl (by decide +kernel) ⟨Nat.le_of_ble_eq_true rfl, Nat.le_of_ble_eq_true rfl⟩ (0) rfl rfl rfl rfl (Nat.le_of_ble_eq_true rfl) dX6_make_141 rfl (fun z13 s14 q15 => ?_)
                          obtain ⟨rfl, rfl⟩ := q15
                          refine x_ti (show ltm (sF (sF st2 (3 + i) (f)) (6) (g6)) i (st1.1 (2)) = lt i (st1.1 2) from by rw [ltm_frm t6]; exact hlt i _ hi2 (by omega)) ?_
                          refine x_callVv (q := 147) (n := 3) (As := [.int (ii ((i : Int))), .int (ii (g6 ((i : Int)))), .int (ii (lt i (st1.1 2)))]) (r := []) E (c_X6_put l D T ad hN (sF (sF st2 (3 + i) (f)) (6) (g6)) i hi (g6 ((i : Int))) (by omega) (lt i (st1.1 2)) (by omega) (by omega) (by omega)) gX6_make_X6_put rfl rfl rfl (by decide +kernel) ⟨Nat.le_of_ble_eq_true rfl, Nat.le_of_ble_eq_true rfl⟩ (0) rfl rfl rfl rfl (Nat.le_of_ble_eq_true rfl) dX6_make_144 rfl (fun s17 q18 => ?_)
                          obtain rfl := q18
                          refine x_aload_n (q := 148) E dX6_make_147 0 rfl rfl ?_
                          refine x_get (q := 151) E iX6_make_X6 (0) rfl rfl 8 (by decide) (by decide +kernel) rfl dX6_make_148 rfl ?_
                          refine x_iload (q := 153) E dX6_make_151 4 rfl rfl ?_
                          refine x_dup2 (q := 154) E dX6_make_153 rfl rfl rfl ?_
                          refine x_iald (q := 155) (f := (sA (sF (sF st2 (3 + i) (f)) (6) (g6)) (3 + i) (g6 ((i : Int))) (lt i (st1.1 2))).2 (6)) E (7) rfl 0 rfl (by omega) (by omega) (by decide) dX6_make_154 rfl ?_
                          refine x_ti (show (sA (sF (sF st2 (3 + i) (f)) (6) (g6)) (3 + i) (g6 ((i : Int))) (lt i (st1.1 2))).2 (6) ((i : Int)) = g6 ((i : Int)) by rw [sA_n _ _ _ (by omega), sF_s]) ?_
                          refine x_iconst (q := 156) E dX6_make_155 rfl ?_
                          refine x_iadd (q := 157) E dX6_make_156 rfl ?_
                          refine x_iast (q := 158) (st' := (sA (sA (sF (sF st2 (3 + i) (f)) (6) (g6)) (3 + i) (g6 ((i : Int))) (lt i (st1.1 2))) (6) ((i : Int)) ((g6 ((i : Int))) + (1)))) (f := (sA (sF (sF st2 (3 + i) (f)) (6) (g6)) (3 + i) (g6 ((i : Int))) (lt i (st1.1 2))).2 (6)) E (7) rfl 0 rfl (by omega) (by omega) (by decide) dX6_make_157 (ma_6 _ _) rfl ?_
                          refine x_iinc (q := 161) (k := 7) (lv' := [(7, .int (ii (t + 1))), (0, .ref (ad 0)), (1, .int (ii ((r : Int)))), (2, .int (ii (k))), (3, .int (ii (st1.1 (2)))), (4, .int (ii ((i : Int)))), (5, .int (ii (((nxn (st.1 0) i : Nat) : Int)))), (6, .int (ii (SQ lt (nxn (st.1 0)) (nxn (st.1 0) i) (st1.1 2))))]) E dX6_make_158 rfl (by decide) rfl rfl ?_
                          refine x_goto (tgt := 108) E dX6_make_161 (by decide) ?_
                          refine x_st E (st' := (sF (sF st2 (3 + i) (zup (f) (g6 ((i : Int))) (lt i (st1.1 2)))) (6) (zup (g6) ((i : Int)) ((g6 ((i : Int))) + (1))))) (by refine Prod.ext (funext fun k9 => ?_) (funext fun q9 => ?_) <;> simp only [sG_1, sG_2, sA_1, sA_2, sF_1, sF_2, reduceIte] <;> (repeat' split) <;> first | rfl | omega | (subst_vars; first | rfl | omega) | simp_all) ?_
                          refine x_lv E (lv' := [(0, .ref (ad 0)), (1, .int (ii ((r : Int)))), (2, .int (ii (k))), (3, .int (ii (st1.1 (2)))), (4, .int (ii ((i : Int)))), (5, .int (ii (((nxn (st.1 0) i : Nat) : Int)))), (6, .int (ii (SQ lt (nxn (st.1 0)) (nxn (st.1 0) i) (st1.1 2)))), (7, .int (ii (t + 1)))]) [1, 2, 3, 4, 5, 6, 7, 0] rfl ?_
                          exact ih108 (t + 1) (zup (f) (g6 ((i : Int))) (lt i (st1.1 2))) (zup (g6) ((i : Int)) ((g6 ((i : Int))) + (1))) (by omega) (by omega) (by rw [zup_eq]; rw [t2]; rw [t2] at c124; split at c124 <;> split <;> omega) (fun x hx => by rw [zup_ne _ _ hx]; exact t3 x hx) (fun x x0 x1 => by rw [zup_eq] at x1; exact if hx : x = g6 (i : Int) then (by rw [hx, zup_eq]; exact (t9 (by omega)).symm) else (by rw [zup_ne _ _ hx]; exact t4 x x0 (by omega)))
                  refine x_lv E (lv' := [(0, .ref (ad 0)), (1, .int (ii ((r : Int)))), (2, .int (ii (k))), (3, .int (ii (st1.1 (2)))), (4, .int (ii ((i : Int)))), (5, .int (ii (((nxn (st.1 0) i : Nat) : Int)))), (6, .int (ii (SQ lt (nxn (st.1 0)) (nxn (st.1 0) i) (st1.1 2)))), (7, .int (ii (0)))]) [3, 4, 5, 6, 7, 2, 1, 0] rfl ?_
                  refine x_st E (st' := (sF (sF st2 (3 + i) (st2.2 (3 + i))) (6) (st2.2 (6)))) (by refine Prod.ext (funext fun k9 => ?_) (funext fun q9 => ?_) <;> simp only [sG_1, sG_2, sA_1, sA_2, sF_1, sF_2, reduceIte] <;> (repeat' split) <;> first | rfl | omega | (subst_vars; first | rfl | omega) | simp_all) ?_
                  exact L108 _ (0) (st2.2 (3 + i)) (st2.2 (6)) (Nat.lt_succ_self _) (by omega) (by have y := (d2 i hi2).2.2; dsimp only at y; rw [if_neg (Nat.lt_irrefl i)] at y; split <;> omega) (fun _ _ => rfl) ((d2 i hi2).2.1)
          refine x_lv E (lv' := [(0, .ref (ad 0)), (1, .int (ii ((r : Int)))), (2, .int (ii (k))), (3, .int (ii (st1.1 (2)))), (4, .int (ii (0)))]) [2, 3, 4, 1, 0] rfl ?_
          exact L55 _ (0) st1 (Nat.lt_succ_self _) (by omega) (Mq_J b2 (fun x hx => if_neg (by omega))) (b3) (b4) (rfl)
    refine x_lv E (lv' := [(0, .ref (ad 0)), (1, .int (ii ((r : Int)))), (2, .int (ii (k)))]) [0, 1, 2] rfl ?_
    exact L37 _  st (Nat.lt_succ_self _) ((hq (by omega)).1) ((hq (by omega)).2) (frm_rf st) (by omega)
  · refine x_aload_n (q := 8) E dX6_make_7 0 rfl rfl ?_
    refine x_iconst (q := 9) E dX6_make_8 rfl ?_
    refine x_put (q := 12) (st' := (sG st (1) (0))) (v := .int (ii (0))) (ty := .boolean) E iX6_make_X6 tyX6 tyX6_ok nmX6 (0) rfl rfl 4 (by decide) (by decide +kernel) rfl (by decide +kernel) (by decide) (by decide) (Nat.le_of_ble_eq_true rfl) dX6_make_9 (ms_1 _) rfl ?_
    refine x_aload_n (q := 13) E dX6_make_12 0 rfl rfl ?_
    refine x_iconst (q := 14) E dX6_make_13 rfl ?_
    refine x_put (q := 17) (st' := (sG (sG st (1) (0)) (2) (0))) (v := .int (ii (0))) (ty := .int) E iX6_make_X6 tyX6 tyX6_ok nmX6 (0) rfl rfl 9 (by decide) (by decide +kernel) rfl (by decide +kernel) rfl rfl (Nat.le_of_ble_eq_true rfl) dX6_make_14 (ms_2 _) rfl ?_
    refine x_iconst (q := 18) E dX6_make_17 rfl ?_
    refine x_istore_n (q := 19) (lv' := [(3, .int (ii (0))), (0, .ref (ad 0)), (1, .int (ii ((r : Int)))), (2, .int (ii (k)))]) E dX6_make_18 (by decide) rfl rfl ?_
    refine x_iload_n (q := 20) E dX6_make_19 0 rfl rfl ?_
    refine x_iconst (q := 21) E dX6_make_20 rfl ?_
    refine x_icmp_ge (tgt := 37) (q := 24) E dX6_make_21 (by decide) rfl (by omega) (by omega) (fun h9 => absurd h9 (by decide)) (fun _ => ?_)
    refine x_aload_n (q := 25) E dX6_make_24 1 rfl rfl ?_
    refine x_get (q := 28) E iX6_make_X6 (0) rfl rfl 8 (by decide) (by decide +kernel) rfl dX6_make_25 rfl ?_
    refine x_iload_n (q := 29) E dX6_make_28 0 rfl rfl ?_
    refine x_iconst (q := 30) E dX6_make_29 rfl ?_
    refine x_iast (q := 31) (st' := (sA (sG (sG st (1) (0)) (2) (0)) (6) (0) (0))) (f := (sG (sG st (1) (0)) (2) (0)).2 (6)) E (7) rfl 0 rfl (by omega) (by omega) (by decide) dX6_make_30 (ma_6 _ _) rfl ?_
    refine x_iinc (q := 34) (k := 0) (lv' := [(3, .int (ii (1))), (0, .ref (ad 0)), (1, .int (ii ((r : Int)))), (2, .int (ii (k)))]) E dX6_make_31 rfl (by decide) rfl rfl ?_
    refine x_goto (tgt := 19) E dX6_make_34 (by decide) ?_
    refine x_iload_n (q := 20) E dX6_make_19 0 rfl rfl ?_
    refine x_iconst (q := 21) E dX6_make_20 rfl ?_
    refine x_icmp_ge (tgt := 37) (q := 24) E dX6_make_21 (by decide) rfl (by omega) (by omega) (fun h9 => absurd h9 (by decide)) (fun _ => ?_)
    refine x_aload_n (q := 25) E dX6_make_24 1 rfl rfl ?_
    refine x_get (q := 28) E iX6_make_X6 (0) rfl rfl 8 (by decide) (by decide +kernel) rfl dX6_make_25 rfl ?_
    refine x_iload_n (q := 29) E dX6_make_28 0 rfl rfl ?_
    refine x_iconst (q := 30) E dX6_make_29 rfl ?_
    refine x_iast (q := 31) (st' := (sA (sA (sG (sG st (1) (0)) (2) (0)) (6) (0) (0)) (6) (1) (0))) (f := (sA (sG (sG st (1) (0)) (2) (0)) (6) (0) (0)).2 (6)) E (7) rfl 0 rfl (by omega) (by omega) (by decide) dX6_make_30 (ma_6 _ _) rfl ?_
    refine x_iinc (q := 34) (k := 0) (lv' := [(3, .int (ii (2))), (0, .ref (ad 0)), (1, .int (ii ((r : Int)))), (2, .int (ii (k)))]) E dX6_make_31 rfl (by decide) rfl rfl ?_
    refine x_goto (tgt := 19) E dX6_make_34 (by decide) ?_
    refine x_iload_n (q := 20) E dX6_make_19 0 rfl rfl ?_
    refine x_iconst (q := 21) E dX6_make_20 rfl ?_
    refine x_icmp_ge (tgt := 37) (q := 24) E dX6_make_21 (by decide) rfl (by omega) (by omega) (fun h9 => absurd h9 (by decide)) (fun _ => ?_)
    refine x_aload_n (q := 25) E dX6_make_24 1 rfl rfl ?_
    refine x_get (q := 28) E iX6_make_X6 (0) rfl rfl 8 (by decide) (by decide +kernel) rfl dX6_make_25 rfl ?_
    refine x_iload_n (q := 29) E dX6_make_28 0 rfl rfl ?_
    refine x_iconst (q := 30) E dX6_make_29 rfl ?_
    refine x_iast (q := 31) (st' := (sA (sA (sA (sG (sG st (1) (0)) (2) (0)) (6) (0) (0)) (6) (1) (0)) (6) (2) (0))) (f := (sA (sA (sG (sG st (1) (0)) (2) (0)) (6) (0) (0)) (6) (1) (0)).2 (6)) E (7) rfl 0 rfl (by omega) (by omega) (by decide) dX6_make_30 (ma_6 _ _) rfl ?_
    refine x_iinc (q := 34) (k := 0) (lv' := [(3, .int (ii (3))), (0, .ref (ad 0)), (1, .int (ii ((r : Int)))), (2, .int (ii (k)))]) E dX6_make_31 rfl (by decide) rfl rfl ?_
    refine x_goto (tgt := 19) E dX6_make_34 (by decide) ?_
    refine x_iload_n (q := 20) E dX6_make_19 0 rfl rfl ?_
    refine x_iconst (q := 21) E dX6_make_20 rfl ?_
    refine x_icmp_ge (tgt := 37) (q := 24) E dX6_make_21 (by decide) rfl (by omega) (by omega) (fun _ => ?_) (fun h9 => absurd h9 (by decide))
    have L37 : ∀ (n : Nat)  (st1 : St_), (100002 - st1.1 2).toNat < n → (0 ≤ st1.1 2) → (Mq lt (st.1 0) st1 (fun _ => st1.1 2)) → (frm st st1) → (st1.1 1 = 0) → XJ p l e (rmX 1 23) s m args below meth c D (MW T ad) A 8 Q 0 0 st1 37 [(0, .ref (ad 0)), (1, .int (ii ((r : Int)))), (2, .int (ii (k)))] [] := by
      intro n
      induction n with
      | zero => intro  st1 hn; exact absurd hn (Nat.not_lt_zero _)
      | succ n ih37 =>
        intro  st1 hn37 b1 b2 b3 b4
        have br := b2 r hrn
        have br1 := br.1
        have br2 : ((BQ lt (nxn (st.1 0)) r (st1.1 2) ≤ 100001 ∧ st1.2 6 (r : Int) = BQ lt (nxn (st.1 0)) r (st1.1 2)) ∨ (100001 < BQ lt (nxn (st.1 0)) r (st1.1 2) ∧ st1.2 6 (r : Int) = 100001)) := br.2.2
        have br3 := BQ_ge (nx := nxn (st.1 0)) hL.pos r b1
        refine x_aload_n (q := 38) E dX6_make_37 0 rfl rfl ?_
        refine x_get (q := 41) E iX6_make_X6 (0) rfl rfl 8 (by decide) (by decide +kernel) rfl dX6_make_38 rfl ?_
        refine x_iload_n (q := 42) E dX6_make_41 1 rfl rfl ?_
        refine x_iald (q := 43) (f := st1.2 (6)) E (7) rfl 0 rfl (by omega) (by omega) (by decide) dX6_make_42 rfl ?_
        refine x_iload_n (q := 44) E dX6_make_43 2 rfl rfl ?_
        refine x_icmp_gt (tgt := 183) (q := 47) E dX6_make_44 (by decide) rfl (by omega) (by omega) (fun c44 => ?_) (fun c44 => ?_)
        · exact RET _ _ _ dX6_make_183 (⟨⟨hL, AM_frm b3 hA, fun x j hx hj => by rw [b3.1 0 (by omega) (by omega)] at hx; rw [ltm_frm b3]; exact hlt x j hx hj, Or.inl b4, fun _ => ⟨b1, by rw [b3.1 0 (by omega) (by omega)]; exact b2⟩⟩, b3, b4, by omega⟩)
        · have hj : 0 ≤ st1.1 2 ∧ st1.1 2 ≤ 100000 := by omega
          refine x_aload_n (q := 48) E dX6_make_47 0 rfl rfl ?_
          refine x_get (q := 51) E iX6_make_X6 (0) rfl rfl 9 (by decide) (by decide +kernel) rfl dX6_make_48 rfl ?_
          refine x_istore_n (q := 52) (lv' := [(3, .int (ii (st1.1 (2)))), (0, .ref (ad 0)), (1, .int (ii ((r : Int)))), (2, .int (ii (k)))]) E dX6_make_51 (by decide) rfl rfl ?_
          refine x_iconst (q := 53) E dX6_make_52 rfl ?_
          refine x_istore (q := 55) (lv' := [(4, .int (ii (0))), (3, .int (ii (st1.1 (2)))), (0, .ref (ad 0)), (1, .int (ii ((r : Int)))), (2, .int (ii (k)))]) E dX6_make_53 (by decide) rfl rfl ?_
          have L55 : ∀ (n : Nat) (i : Nat) (st2 : St_), (st.1 0 - (i : Int)).toNat < n → ((i : Int) ≤ st.1 0) → (Mq lt (st.1 0) st2 (fun x => if x < i then st1.1 2 + 1 else st1.1 2)) → (frm st st2) → (st2.1 1 = 0) → (st2.1 2 = st1.1 2) → XJ p l e (rmX 1 23) s m args below meth c D (MW T ad) A 8 Q 0 0 st2 55 [(0, .ref (ad 0)), (1, .int (ii ((r : Int)))), (2, .int (ii (k))), (3, .int (ii (st1.1 (2)))), (4, .int (ii ((i : Int))))] [] := by
            intro n
            induction n with
            | zero => intro i st2 hn; exact absurd hn (Nat.not_lt_zero _)
            | succ n ih55 =>
              intro i st2 hn55 d1 d2 d3 d4 d5
              have d0 : st2.1 0 = st.1 0 := d3.1 0 (by omega) (by omega)
              refine x_iload (q := 57) E dX6_make_55 4 rfl rfl ?_
              refine x_aload_n (q := 58) E dX6_make_57 0 rfl rfl ?_
              refine x_get (q := 61) E iX6_make_X6 (0) rfl rfl 2 (by decide) (by decide +kernel) rfl dX6_make_58 rfl ?_
              refine x_icmp_ge (tgt := 170) (q := 64) E dX6_make_61 (by decide) rfl (by omega) (by omega) (fun c61 => ?_) (fun c61 => ?_)
              · refine x_aload_n (q := 171) E dX6_make_170 0 rfl rfl ?_
                refine x_dup (q := 172) E dX6_make_171 rfl rfl ?_
                refine x_get (q := 175) E iX6_make_X6 (0) rfl rfl 9 (by decide) (by decide +kernel) rfl dX6_make_172 rfl ?_
                refine x_iconst (q := 176) E dX6_make_175 rfl ?_
                refine x_iadd (q := 177) E dX6_make_176 rfl ?_
                refine x_put (q := 180) (st' := (sG st2 (2) ((st2.1 (2)) + (1)))) (v := .int (ii ((st2.1 (2)) + (1)))) (ty := .int) E iX6_make_X6 tyX6 tyX6_ok nmX6 (0) rfl rfl 9 (by decide) (by decide +kernel) rfl (by decide +kernel) rfl rfl (Nat.le_of_ble_eq_true rfl) dX6_make_177 (ms_2 _) rfl ?_
                refine x_goto (tgt := 37) E dX6_make_180 (by decide) ?_
                refine x_lv E (lv' := [(0, .ref (ad 0)), (1, .int (ii ((r : Int)))), (2, .int (ii (k)))]) [0, 1, 2] rfl ?_
                exact ih37 (sG st2 (2) ((st2.1 (2)) + (1))) (by rw [sG_s]; omega) (by rw [sG_s]; omega) (Mq_J d2 (fun x hx => by rw [if_pos (by omega), sG_s, d5])) (frm_tr d3 ⟨fun y y0 y1 => by rw [sG_n _ _ y1], fun y hy => rfl⟩) (by rw [sG_n _ _ (by omega)]; exact d4)
              · have hi2 : (i : Int) < st.1 0 := by omega
                have hi : i < 3 := by omega
                have hx := nxn_lt (n := st.1 0) (r := i) hn.1
                have e9 := Mq.tell hL d2 hx hj (by by_cases y : nxn (st.1 0) i < i; exact Or.inr (if_pos y); exact Or.inl (if_neg y))
                have e8 := (d2 _ hx).1
                have e7 := BQ_ge (nx := nxn (st.1 0)) hL.pos i b1
                have e6 := SQ_pos (nx := nxn (st.1 0)) hL.pos (nxn (st.1 0) i) (st1.1 2) b1
                have e5 := SQ_le (nx := nxn (st.1 0)) (fun r j hj => (hL.1 r j hj).2) (nxn (st.1 0) i) (st1.1 2) b1
                have e4 := hL.1 i (st1.1 2) b1
                refine x_iload (q := 66) E dX6_make_64 4 rfl rfl ?_
                refine x_iconst (q := 67) E dX6_make_66 rfl ?_
                refine x_iadd (q := 68) E dX6_make_67 rfl ?_
                refine x_aload_n (q := 69) E dX6_make_68 0 rfl rfl ?_
                refine x_get (q := 72) E iX6_make_X6 (0) rfl rfl 2 (by decide) (by decide +kernel) rfl dX6_make_69 rfl ?_
                refine x_irem (q := 73) E dX6_make_72 (by omega) (by omega) (by omega) (by omega) rfl ?_
                refine x_ti (show ((i : Int) + (1)) % (st2.1 (0)) = ((nxn (st.1 0) i : Nat) : Int) from by rw [d0]; exact nxn_mod hn hi2) ?_
                refine x_istore (q := 75) (lv' := [(5, .int (ii (((nxn (st.1 0) i : Nat) : Int)))), (0, .ref (ad 0)), (1, .int (ii ((r : Int)))), (2, .int (ii (k))), (3, .int (ii (st1.1 (2)))), (4, .int (ii ((i : Int))))]) E dX6_make_73 (by decide) rfl rfl ?_
                refine x_aload_n (q := 76) E dX6_make_75 1 rfl rfl ?_
                refine x_get (q := 79) E iX6_make_X6 (0) rfl rfl 8 (by decide) (by decide +kernel) rfl dX6_make_76 rfl ?_
                refine x_iload (q := 81) E dX6_make_79 0 rfl rfl ?_
                refine x_iald (q := 82) (f := st2.2 (6)) E (7) rfl 0 rfl (by omega) (by omega) (by decide) dX6_make_81 rfl ?_
                refine x_iload_n (q := 83) E dX6_make_82 4 rfl rfl ?_
                refine x_icmp_le (tgt := 96) (q := 86) E dX6_make_83 (by decide) rfl (by omega) (by omega) (fun c83 => ?_) (fun c83 => ?_)
                · refine x_aload_n (q := 97) E dX6_make_96 1 rfl rfl ?_
                  refine x_iload (q := 99) E dX6_make_97 0 rfl rfl ?_
                  refine x_iload_n (q := 100) E dX6_make_99 4 rfl rfl ?_
                  refine x_callVi (q := 103) (n := 2) (As := [.int (ii (((nxn (st.1 0) i : Nat) : Int))), .int (ii (st1.1 (2)))]) (r := []) E (c_X6_letterOf l D T ad hN st2 (nxn (st.1 0) i) (by omega) (st1.1 (2)) (by omega) (AM_frm d3 hA) (by rw [d0]; exact hx) (by omega)) gX6_make_X6_letterOf rfl rfl rfl (by decide +kernel) ⟨Nat.le_of_ble_eq_true rfl, Nat.le_of_ble_eq_true rfl⟩ (0) rfl rfl rfl rfl (Nat.le_of_ble_eq_true rfl) dX6_make_100 rfl (fun z19 s20 q21 => ?_)
                  obtain ⟨rfl, rfl⟩ := q21
                  refine x_ti (show ltm st2 (nxn (st.1 0) i) (st1.1 (2)) = SQ lt (nxn (st.1 0)) (nxn (st.1 0) i) (st1.1 2) from by rw [ltm_frm d3, hlt _ _ hx (by omega)]; exact e9.2 (by omega)) ?_
                  refine x_istore (q := 105) (lv' := [(6, .int (ii (SQ lt (nxn (st.1 0)) (nxn (st.1 0) i) (st1.1 2)))), (5, .int (ii (((nxn (st.1 0) i : Nat) : Int)))), (0, .ref (ad 0)), (1, .int (ii ((r : Int)))), (2, .int (ii (k))), (3, .int (ii (st1.1 (2)))), (4, .int (ii ((i : Int))))]) E dX6_make_103 (by decide) rfl rfl ?_
                  refine x_iconst (q := 106) E dX6_make_105 rfl ?_
                  refine x_istore (q := 108) (lv' := [(7, .int (ii (0))), (6, .int (ii (SQ lt (nxn (st.1 0)) (nxn (st.1 0) i) (st1.1 2)))), (5, .int (ii (((nxn (st.1 0) i : Nat) : Int)))), (0, .ref (ad 0)), (1, .int (ii ((r : Int)))), (2, .int (ii (k))), (3, .int (ii (st1.1 (2)))), (4, .int (ii ((i : Int))))]) E dX6_make_106 (by decide) rfl rfl ?_
                  have L108 : ∀ (n : Nat) (t : Int) (f : Int → Int) (g6 : Int → Int), (SQ lt (nxn (st.1 0)) (nxn (st.1 0) i) (st1.1 2) - t).toNat < n → (0 ≤ t ∧ t ≤ SQ lt (nxn (st.1 0)) (nxn (st.1 0) i) (st1.1 2)) → (g6 (i : Int) = if BQ lt (nxn (st.1 0)) i (st1.1 2) + t ≤ 100001 then BQ lt (nxn (st.1 0)) i (st1.1 2) + t else 100001) → (∀ x : Int, x ≠ (i : Int) → g6 x = st2.2 6 x) → (∀ x : Int, 0 ≤ x → x < g6 (i : Int) → f x = SQ lt (nxn (st.1 0)) i x) → XJ p l e (rmX 1 23) s m args below meth c D (MW T ad) A 8 Q 0 0 (sF (sF st2 (3 + i) (f)) (6) (g6)) 108 [(0, .ref (ad 0)), (1, .int (ii ((r : Int)))), (2, .int (ii (k))), (3, .int (ii (st1.1 (2)))), (4, .int (ii ((i : Int)))), (5, .int (ii (((nxn (st.1 0) i : Nat) : Int)))), (6, .int (ii (SQ lt (nxn (st.1 0)) (nxn (st.1 0) i) (st1.1 2)))), (7, .int (ii (t)))] [] := by
                    intro n
                    induction n with
                    | zero => intro t f g6 hn; exact absurd hn (Nat.not_lt_zero _)
                    | succ n ih108 =>
                      intro t f g6 hn108 t1 t2 t3 t4
                      have t6 : frm st (sF (sF st2 (3 + i) (f)) (6) (g6)) := frm_tr d3 ⟨fun y y0 y1 => rfl, fun y hy => by rw [sF_n _ _ (by omega), sF_n _ _ (by omega)]⟩
                      have t7 : (sF (sF st2 (3 + i) (f)) (6) (g6)).1 0 = st.1 0 := t6.1 0 (by omega) (by omega)
                      have t8 : 0 ≤ g6 (i : Int) ∧ g6 (i : Int) ≤ 100001 := by rw [t2]; split <;> omega
                      refine x_iload (q := 110) E dX6_make_108 7 rfl rfl ?_
                      refine x_iload (q := 112) E dX6_make_110 6 rfl rfl ?_
                      refine x_icmp_ge (tgt := 164) (q := 115) E dX6_make_112 (by decide) rfl (by omega) (by omega) (fun c112 => ?_) (fun c112 => ?_)
                      · refine x_iinc (q := 167) (k := 4) (lv' := [(4, .int (ii ((i : Int) + 1))), (0, .ref (ad 0)), (1, .int (ii ((r : Int)))), (2, .int (ii (k))), (3, .int (ii (st1.1 (2)))), (5, .int (ii (((nxn (st.1 0) i : Nat) : Int)))), (6, .int (ii (SQ lt (nxn (st.1 0)) (nxn (st.1 0) i) (st1.1 2)))), (7, .int (ii (t)))]) E dX6_make_164 rfl (by decide) rfl rfl ?_
                        refine x_goto (tgt := 55) E dX6_make_167 (by decide) ?_
                        refine x_lv E (lv' := [(0, .ref (ad 0)), (1, .int (ii ((r : Int)))), (2, .int (ii (k))), (3, .int (ii (st1.1 (2)))), (4, .int (ii ((i : Int) + 1)))]) [1, 2, 3, 4, 0] rfl ?_
                        exact ih55 (i + 1) (sF (sF st2 (3 + i) (f)) (6) (g6)) (by omega) (by omega) (Mq.put d2 hn.2 (i := i) (g6 := g6) (f := f) (m := g6 (i : Int)) (by rw [sF_s]) (by rw [sF_n _ _ (by omega), sF_s]) (fun x hx3 hx => by rw [sF_n _ _ (by omega), sF_n _ _ (by omega)]) rfl t3 (fun x hx => by by_cases y : x < i; rw [if_pos y, if_pos (by omega)]; rw [if_neg y, if_neg (by omega)]) (by rw [if_pos (by omega)]; exact ⟨by rw [t2]; split <;> omega, t4, by rw [BQ_s lt (nxn (st.1 0)) i b1, t2]; split <;> omega⟩)) (frm_tr d3 ⟨fun y y0 y1 => rfl, fun y hy => by rw [sF_n _ _ (by omega), sF_n _ _ (by omega)]⟩) (d4) (d5)
                      · refine x_aload_n (q := 116) E dX6_make_115 0 rfl rfl ?_
                        refine x_get (q := 119) E iX6_make_X6 (0) rfl rfl 8 (by decide) (by decide +kernel) rfl dX6_make_116 rfl ?_
                        refine x_iload (q := 121) E dX6_make_119 4 rfl rfl ?_
                        refine x_iald (q := 122) (f := (sF (sF st2 (3 + i) (f)) (6) (g6)).2 (6)) E (7) rfl 0 rfl (by omega) (by omega) (by decide) dX6_make_121 rfl ?_
                        refine x_ti (show (sF (sF st2 (3 + i) (f)) (6) (g6)).2 (6) ((i : Int)) = g6 ((i : Int)) by rw [sF_s]) ?_
                        refine x_ldc (q := 124) (v := 100000) (z := 100000) E (by decide +kernel) (by decide) dX6_make_122 rfl ?_
                        refine x_icmp_gt (tgt := 164) (q := 127) E dX6_make_124 (by decide) rfl (by omega) (by omega) (fun c124 => ?_) (fun c124 => ?_)
                        · refine x_iinc (q := 167) (k := 4) (lv' := [(4, .int (ii ((i : Int) + 1))), (0, .ref (ad 0)), (1, .int (ii ((r : Int)))), (2, .int (ii (k))), (3, .int (ii (st1.1 (2)))), (5, .int (ii (((nxn (st.1 0) i : Nat) : Int)))), (6, .int (ii (SQ lt (nxn (st.1 0)) (nxn (st.1 0) i) (st1.1 2)))), (7, .int (ii (t)))]) E dX6_make_164 rfl (by decide) rfl rfl ?_
                          refine x_goto (tgt := 55) E dX6_make_167 (by decide) ?_
                          refine x_lv E (lv' := [(0, .ref (ad 0)), (1, .int (ii ((r : Int)))), (2, .int (ii (k))), (3, .int (ii (st1.1 (2)))), (4, .int (ii ((i : Int) + 1)))]) [1, 2, 3, 4, 0] rfl ?_
                          exact ih55 (i + 1) (sF (sF st2 (3 + i) (f)) (6) (g6)) (by omega) (by omega) (Mq.put d2 hn.2 (i := i) (g6 := g6) (f := f) (m := g6 (i : Int)) (by rw [sF_s]) (by rw [sF_n _ _ (by omega), sF_s]) (fun x hx3 hx => by rw [sF_n _ _ (by omega), sF_n _ _ (by omega)]) rfl t3 (fun x hx => by by_cases y : x < i; rw [if_pos y, if_pos (by omega)]; rw [if_neg y, if_neg (by omega)]) (by rw [if_pos (by omega)]; exact ⟨by rw [t2]; split <;> omega, t4, by rw [BQ_s lt (nxn (st.1 0)) i b1, t2]; split <;> omega⟩)) (frm_tr d3 ⟨fun y y0 y1 => rfl, fun y hy => by rw [sF_n _ _ (by omega), sF_n _ _ (by omega)]⟩) (d4) (d5)
                        · have t9 : g6 (i : Int) < BQ lt (nxn (st.1 0)) i (st1.1 2) + SQ lt (nxn (st.1 0)) (nxn (st.1 0) i) (st1.1 2) → SQ lt (nxn (st.1 0)) i (g6 (i : Int)) = lt i (st1.1 2) := fun y => Mq.run hL b1 (g6 (i : Int)) (by rw [t2] at c124 ⊢; split at c124 <;> split <;> omega) y
                          have t10 : g6 (i : Int) = BQ lt (nxn (st.1 0)) i (st1.1 2) + t := by rw [t2] at c124 ⊢; split at c124 <;> split <;> omega
                          refine x_aload_n (q := 128) E dX6_make_127 0 rfl rfl ?_
                          refine x_iload (q := 130) E dX6_make_128 4 rfl rfl ?_
                          refine x_aload_n (q := 131) E dX6_make_130 0 rfl rfl ?_
                          refine x_get (q := 134) E iX6_make_X6 (0) rfl rfl 8 (by decide) (by decide +kernel) rfl dX6_make_131 rfl ?_
                          refine x_iload (q := 136) E dX6_make_134 4 rfl rfl ?_
                          refine x_iald (q := 137) (f := (sF (sF st2 (3 + i) (f)) (6) (g6)).2 (6)) E (7) rfl 0 rfl (by omega) (by omega) (by decide) dX6_make_136 rfl ?_
                          refine x_ti (show (sF (sF st2 (3 + i) (f)) (6) (g6)).2 (6) ((i : Int)) = g6 ((i : Int)) by rw [sF_s]) ?_
                          refine x_aload_n (q := 138) E dX6_make_137 0 rfl rfl ?_
                          refine x_iload (q := 140) E dX6_make_138 4 rfl rfl ?_
                          refine x_iload_n (q := 141) E dX6_make_140 3 rfl rfl ?_
                          refine x_callVi (q := 144) (n := 2) (As := [.int (ii ((i : Int))), .int (ii (st1.1 (2)))]) (r := [.int (ii (g6 ((i : Int)))), .int (ii ((i : Int))), .ref (ad 0)]) E (c_X6_letterOf l D T ad hN (sF (sF st2 (3 + i) (f)) (6) (g6)) i hi (st1.1 (2)) (by omega) (AM_frm t6 hA) (by rw [t7]; exact hi2) (by omega)) gX6_make_X6_letterOf rfl rfl rfl (by decide +kernel) ⟨Nat.le_of_ble_eq_true rfl, Nat.le_of_ble_eq_true rfl⟩ (0) rfl rfl rfl rfl (Nat.le_of_ble_eq_true rfl) dX6_make_141 rfl (fun z22 s23 q24 => ?_)
                          obtain ⟨rfl, rfl⟩ := q24
                          refine x_ti (show ltm (sF (sF st2 (3 + i) (f)) (6) (g6)) i (st1.1 (2)) = lt i (st1.1 2) from by rw [ltm_frm t6]; exact hlt i _ hi2 (by omega)) ?_
                          refine x_callVv (q := 147) (n := 3) (As := [.int (ii ((i : Int))), .int (ii (g6 ((i : Int)))), .int (ii (lt i (st1.1 2)))]) (r := []) E (c_X6_put l D T ad hN (sF (sF st2 (3 + i) (f)) (6) (g6)) i hi (g6 ((i : Int))) (by omega) (lt i (st1.1 2)) (by omega) (by omega) (by omega)) gX6_make_X6_put rfl rfl rfl (by decide +kernel) ⟨Nat.le_of_ble_eq_true rfl, Nat.le_of_ble_eq_true rfl⟩ (0) rfl rfl rfl rfl (Nat.le_of_ble_eq_true rfl) dX6_make_144 rfl (fun s26 q27 => ?_)
                          obtain rfl := q27
                          refine x_aload_n (q := 148) E dX6_make_147 0 rfl rfl ?_
                          refine x_get (q := 151) E iX6_make_X6 (0) rfl rfl 8 (by decide) (by decide +kernel) rfl dX6_make_148 rfl ?_
                          refine x_iload (q := 153) E dX6_make_151 4 rfl rfl ?_
                          refine x_dup2 (q := 154) E dX6_make_153 rfl rfl rfl ?_
                          refine x_iald (q := 155) (f := (sA (sF (sF st2 (3 + i) (f)) (6) (g6)) (3 + i) (g6 ((i : Int))) (lt i (st1.1 2))).2 (6)) E (7) rfl 0 rfl (by omega) (by omega) (by decide) dX6_make_154 rfl ?_
                          refine x_ti (show (sA (sF (sF st2 (3 + i) (f)) (6) (g6)) (3 + i) (g6 ((i : Int))) (lt i (st1.1 2))).2 (6) ((i : Int)) = g6 ((i : Int)) by rw [sA_n _ _ _ (by omega), sF_s]) ?_
                          refine x_iconst (q := 156) E dX6_make_155 rfl ?_
                          refine x_iadd (q := 157) E dX6_make_156 rfl ?_
                          refine x_iast (q := 158) (st' := (sA (sA (sF (sF st2 (3 + i) (f)) (6) (g6)) (3 + i) (g6 ((i : Int))) (lt i (st1.1 2))) (6) ((i : Int)) ((g6 ((i : Int))) + (1)))) (f := (sA (sF (sF st2 (3 + i) (f)) (6) (g6)) (3 + i) (g6 ((i : Int))) (lt i (st1.1 2))).2 (6)) E (7) rfl 0 rfl (by omega) (by omega) (by decide) dX6_make_157 (ma_6 _ _) rfl ?_
                          refine x_iinc (q := 161) (k := 7) (lv' := [(7, .int (ii (t + 1))), (0, .ref (ad 0)), (1, .int (ii ((r : Int)))), (2, .int (ii (k))), (3, .int (ii (st1.1 (2)))), (4, .int (ii ((i : Int)))), (5, .int (ii (((nxn (st.1 0) i : Nat) : Int)))), (6, .int (ii (SQ lt (nxn (st.1 0)) (nxn (st.1 0) i) (st1.1 2))))]) E dX6_make_158 rfl (by decide) rfl rfl ?_
                          refine x_goto (tgt := 108) E dX6_make_161 (by decide) ?_
                          refine x_st E (st' := (sF (sF st2 (3 + i) (zup (f) (g6 ((i : Int))) (lt i (st1.1 2)))) (6) (zup (g6) ((i : Int)) ((g6 ((i : Int))) + (1))))) (by refine Prod.ext (funext fun k9 => ?_) (funext fun q9 => ?_) <;> simp only [sG_1, sG_2, sA_1, sA_2, sF_1, sF_2, reduceIte] <;> (repeat' split) <;> first | rfl | omega | (subst_vars; first | rfl | omega) | simp_all) ?_
                          refine x_lv E (lv' := [(0, .ref (ad 0)), (1, .int (ii ((r : Int)))), (2, .int (ii (k))), (3, .int (ii (st1.1 (2)))), (4, .int (ii ((i : Int)))), (5, .int (ii (((nxn (st.1 0) i : Nat) : Int)))), (6, .int (ii (SQ lt (nxn (st.1 0)) (nxn (st.1 0) i) (st1.1 2)))), (7, .int (ii (t + 1)))]) [1, 2, 3, 4, 5, 6, 7, 0] rfl ?_
                          exact ih108 (t + 1) (zup (f) (g6 ((i : Int))) (lt i (st1.1 2))) (zup (g6) ((i : Int)) ((g6 ((i : Int))) + (1))) (by omega) (by omega) (by rw [zup_eq]; rw [t2]; rw [t2] at c124; split at c124 <;> split <;> omega) (fun x hx => by rw [zup_ne _ _ hx]; exact t3 x hx) (fun x x0 x1 => by rw [zup_eq] at x1; exact if hx : x = g6 (i : Int) then (by rw [hx, zup_eq]; exact (t9 (by omega)).symm) else (by rw [zup_ne _ _ hx]; exact t4 x x0 (by omega)))
                  refine x_lv E (lv' := [(0, .ref (ad 0)), (1, .int (ii ((r : Int)))), (2, .int (ii (k))), (3, .int (ii (st1.1 (2)))), (4, .int (ii ((i : Int)))), (5, .int (ii (((nxn (st.1 0) i : Nat) : Int)))), (6, .int (ii (SQ lt (nxn (st.1 0)) (nxn (st.1 0) i) (st1.1 2)))), (7, .int (ii (0)))]) [3, 4, 5, 6, 7, 2, 1, 0] rfl ?_
                  refine x_st E (st' := (sF (sF st2 (3 + i) (st2.2 (3 + i))) (6) (st2.2 (6)))) (by refine Prod.ext (funext fun k9 => ?_) (funext fun q9 => ?_) <;> simp only [sG_1, sG_2, sA_1, sA_2, sF_1, sF_2, reduceIte] <;> (repeat' split) <;> first | rfl | omega | (subst_vars; first | rfl | omega) | simp_all) ?_
                  exact L108 _ (0) (st2.2 (3 + i)) (st2.2 (6)) (Nat.lt_succ_self _) (by omega) (by have y := (d2 i hi2).2.2; dsimp only at y; rw [if_neg (Nat.lt_irrefl i)] at y; split <;> omega) (fun _ _ => rfl) ((d2 i hi2).2.1)
                · refine x_aload_n (q := 87) E dX6_make_86 1 rfl rfl ?_
                  refine x_iload (q := 89) E dX6_make_87 0 rfl rfl ?_
                  refine x_iload_n (q := 90) E dX6_make_89 4 rfl rfl ?_
                  refine x_callVi (q := 93) (n := 2) (As := [.int (ii (((nxn (st.1 0) i : Nat) : Int))), .int (ii (st1.1 (2)))]) (r := []) E (c_X6_number l D T ad hN st2 (nxn (st.1 0) i) (by omega) (st1.1 (2)) (by omega) (by omega)) gX6_make_X6_number rfl rfl rfl (by decide +kernel) ⟨Nat.le_of_ble_eq_true rfl, Nat.le_of_ble_eq_true rfl⟩ (0) rfl rfl rfl rfl (Nat.le_of_ble_eq_true rfl) dX6_make_90 rfl (fun z28 s29 q30 => ?_)
                  obtain ⟨rfl, rfl⟩ := q30
                  refine x_goto (tgt := 103) E dX6_make_93 (by decide) ?_
                  refine x_ti (show st2.2 (3 + (nxn (st.1 0) i)) (st1.1 (2)) = SQ lt (nxn (st.1 0)) (nxn (st.1 0) i) (st1.1 2) from e9.1 (by omega)) ?_
                  refine x_istore (q := 105) (lv' := [(6, .int (ii (SQ lt (nxn (st.1 0)) (nxn (st.1 0) i) (st1.1 2)))), (5, .int (ii (((nxn (st.1 0) i : Nat) : Int)))), (0, .ref (ad 0)), (1, .int (ii ((r : Int)))), (2, .int (ii (k))), (3, .int (ii (st1.1 (2)))), (4, .int (ii ((i : Int))))]) E dX6_make_103 (by decide) rfl rfl ?_
                  refine x_iconst (q := 106) E dX6_make_105 rfl ?_
                  refine x_istore (q := 108) (lv' := [(7, .int (ii (0))), (6, .int (ii (SQ lt (nxn (st.1 0)) (nxn (st.1 0) i) (st1.1 2)))), (5, .int (ii (((nxn (st.1 0) i : Nat) : Int)))), (0, .ref (ad 0)), (1, .int (ii ((r : Int)))), (2, .int (ii (k))), (3, .int (ii (st1.1 (2)))), (4, .int (ii ((i : Int))))]) E dX6_make_106 (by decide) rfl rfl ?_
                  have L108 : ∀ (n : Nat) (t : Int) (f : Int → Int) (g6 : Int → Int), (SQ lt (nxn (st.1 0)) (nxn (st.1 0) i) (st1.1 2) - t).toNat < n → (0 ≤ t ∧ t ≤ SQ lt (nxn (st.1 0)) (nxn (st.1 0) i) (st1.1 2)) → (g6 (i : Int) = if BQ lt (nxn (st.1 0)) i (st1.1 2) + t ≤ 100001 then BQ lt (nxn (st.1 0)) i (st1.1 2) + t else 100001) → (∀ x : Int, x ≠ (i : Int) → g6 x = st2.2 6 x) → (∀ x : Int, 0 ≤ x → x < g6 (i : Int) → f x = SQ lt (nxn (st.1 0)) i x) → XJ p l e (rmX 1 23) s m args below meth c D (MW T ad) A 8 Q 0 0 (sF (sF st2 (3 + i) (f)) (6) (g6)) 108 [(0, .ref (ad 0)), (1, .int (ii ((r : Int)))), (2, .int (ii (k))), (3, .int (ii (st1.1 (2)))), (4, .int (ii ((i : Int)))), (5, .int (ii (((nxn (st.1 0) i : Nat) : Int)))), (6, .int (ii (SQ lt (nxn (st.1 0)) (nxn (st.1 0) i) (st1.1 2)))), (7, .int (ii (t)))] [] := by
                    intro n
                    induction n with
                    | zero => intro t f g6 hn; exact absurd hn (Nat.not_lt_zero _)
                    | succ n ih108 =>
                      intro t f g6 hn108 t1 t2 t3 t4
                      have t6 : frm st (sF (sF st2 (3 + i) (f)) (6) (g6)) := frm_tr d3 ⟨fun y y0 y1 => rfl, fun y hy => by rw [sF_n _ _ (by omega), sF_n _ _ (by omega)]⟩
                      have t7 : (sF (sF st2 (3 + i) (f)) (6) (g6)).1 0 = st.1 0 := t6.1 0 (by omega) (by omega)
                      have t8 : 0 ≤ g6 (i : Int) ∧ g6 (i : Int) ≤ 100001 := by rw [t2]; split <;> omega
                      refine x_iload (q := 110) E dX6_make_108 7 rfl rfl ?_
                      refine x_iload (q := 112) E dX6_make_110 6 rfl rfl ?_
                      refine x_icmp_ge (tgt := 164) (q := 115) E dX6_make_112 (by decide) rfl (by omega) (by omega) (fun c112 => ?_) (fun c112 => ?_)
                      · refine x_iinc (q := 167) (k := 4) (lv' := [(4, .int (ii ((i : Int) + 1))), (0, .ref (ad 0)), (1, .int (ii ((r : Int)))), (2, .int (ii (k))), (3, .int (ii (st1.1 (2)))), (5, .int (ii (((nxn (st.1 0) i : Nat) : Int)))), (6, .int (ii (SQ lt (nxn (st.1 0)) (nxn (st.1 0) i) (st1.1 2)))), (7, .int (ii (t)))]) E dX6_make_164 rfl (by decide) rfl rfl ?_
                        refine x_goto (tgt := 55) E dX6_make_167 (by decide) ?_
                        refine x_lv E (lv' := [(0, .ref (ad 0)), (1, .int (ii ((r : Int)))), (2, .int (ii (k))), (3, .int (ii (st1.1 (2)))), (4, .int (ii ((i : Int) + 1)))]) [1, 2, 3, 4, 0] rfl ?_
                        exact ih55 (i + 1) (sF (sF st2 (3 + i) (f)) (6) (g6)) (by omega) (by omega) (Mq.put d2 hn.2 (i := i) (g6 := g6) (f := f) (m := g6 (i : Int)) (by rw [sF_s]) (by rw [sF_n _ _ (by omega), sF_s]) (fun x hx3 hx => by rw [sF_n _ _ (by omega), sF_n _ _ (by omega)]) rfl t3 (fun x hx => by by_cases y : x < i; rw [if_pos y, if_pos (by omega)]; rw [if_neg y, if_neg (by omega)]) (by rw [if_pos (by omega)]; exact ⟨by rw [t2]; split <;> omega, t4, by rw [BQ_s lt (nxn (st.1 0)) i b1, t2]; split <;> omega⟩)) (frm_tr d3 ⟨fun y y0 y1 => rfl, fun y hy => by rw [sF_n _ _ (by omega), sF_n _ _ (by omega)]⟩) (d4) (d5)
                      · refine x_aload_n (q := 116) E dX6_make_115 0 rfl rfl ?_
                        refine x_get (q := 119) E iX6_make_X6 (0) rfl rfl 8 (by decide) (by decide +kernel) rfl dX6_make_116 rfl ?_
                        refine x_iload (q := 121) E dX6_make_119 4 rfl rfl ?_
                        refine x_iald (q := 122) (f := (sF (sF st2 (3 + i) (f)) (6) (g6)).2 (6)) E (7) rfl 0 rfl (by omega) (by omega) (by decide) dX6_make_121 rfl ?_
                        refine x_ti (show (sF (sF st2 (3 + i) (f)) (6) (g6)).2 (6) ((i : Int)) = g6 ((i : Int)) by rw [sF_s]) ?_
                        refine x_ldc (q := 124) (v := 100000) (z := 100000) E (by decide +kernel) (by decide) dX6_make_122 rfl ?_
                        refine x_icmp_gt (tgt := 164) (q := 127) E dX6_make_124 (by decide) rfl (by omega) (by omega) (fun c124 => ?_) (fun c124 => ?_)
                        · refine x_iinc (q := 167) (k := 4) (lv' := [(4, .int (ii ((i : Int) + 1))), (0, .ref (ad 0)), (1, .int (ii ((r : Int)))), (2, .int (ii (k))), (3, .int (ii (st1.1 (2)))), (5, .int (ii (((nxn (st.1 0) i : Nat) : Int)))), (6, .int (ii (SQ lt (nxn (st.1 0)) (nxn (st.1 0) i) (st1.1 2)))), (7, .int (ii (t)))]) E dX6_make_164 rfl (by decide) rfl rfl ?_
                          refine x_goto (tgt := 55) E dX6_make_167 (by decide) ?_
                          refine x_lv E (lv' := [(0, .ref (ad 0)), (1, .int (ii ((r : Int)))), (2, .int (ii (k))), (3, .int (ii (st1.1 (2)))), (4, .int (ii ((i : Int) + 1)))]) [1, 2, 3, 4, 0] rfl ?_
                          exact ih55 (i + 1) (sF (sF st2 (3 + i) (f)) (6) (g6)) (by omega) (by omega) (Mq.put d2 hn.2 (i := i) (g6 := g6) (f := f) (m := g6 (i : Int)) (by rw [sF_s]) (by rw [sF_n _ _ (by omega), sF_s]) (fun x hx3 hx => by rw [sF_n _ _ (by omega), sF_n _ _ (by omega)]) rfl t3 (fun x hx => by by_cases y : x < i; rw [if_pos y, if_pos (by omega)]; rw [if_neg y, if_neg (by omega)]) (by rw [if_pos (by omega)]; exact ⟨by rw [t2]; split <;> omega, t4, by rw [BQ_s lt (nxn (st.1 0)) i b1, t2]; split <;> omega⟩)) (frm_tr d3 ⟨fun y y0 y1 => rfl, fun y hy => by rw [sF_n _ _ (by omega), sF_n _ _ (by omega)]⟩) (d4) (d5)
                        · have t9 : g6 (i : Int) < BQ lt (nxn (st.1 0)) i (st1.1 2) + SQ lt (nxn (st.1 0)) (nxn (st.1 0) i) (st1.1 2) → SQ lt (nxn (st.1 0)) i (g6 (i : Int)) = lt i (st1.1 2) := fun y => Mq.run hL b1 (g6 (i : Int)) (by rw [t2] at c124 ⊢; split at c124 <;> split <;> omega) y
                          have t10 : g6 (i : Int) = BQ lt (nxn (st.1 0)) i (st1.1 2) + t := by rw [t2] at c124 ⊢; split at c124 <;> split <;> omega
                          refine x_aload_n (q := 128) E dX6_make_127 0 rfl rfl ?_
                          refine x_iload (q := 130) E dX6_make_128 4 rfl rfl ?_
                          refine x_aload_n (q := 131) E dX6_make_130 0 rfl rfl ?_
                          refine x_get (q := 134) E iX6_make_X6 (0) rfl rfl 8 (by decide) (by decide +kernel) rfl dX6_make_131 rfl ?_
                          refine x_iload (q := 136) E dX6_make_134 4 rfl rfl ?_
                          refine x_iald (q := 137) (f := (sF (sF st2 (3 + i) (f)) (6) (g6)).2 (6)) E (7) rfl 0 rfl (by omega) (by omega) (by decide) dX6_make_136 rfl ?_
                          refine x_ti (show (sF (sF st2 (3 + i) (f)) (6) (g6)).2 (6) ((i : Int)) = g6 ((i : Int)) by rw [sF_s]) ?_
                          refine x_aload_n (q := 138) E dX6_make_137 0 rfl rfl ?_
                          refine x_iload (q := 140) E dX6_make_138 4 rfl rfl ?_
                          refine x_iload_n (q := 141) E dX6_make_140 3 rfl rfl ?_
                          refine x_callVi (q := 144) (n := 2) (As := [.int (ii ((i : Int))), .int (ii (st1.1 (2)))]) (r := [.int (ii (g6 ((i : Int)))), .int (ii ((i : Int))), .ref (ad 0)]) E (c_X6_letterOf l D T ad hN (sF (sF st2 (3 + i) (f)) (6) (g6)) i hi (st1.1 (2)) (by omega) (AM_frm t6 hA) (by rw [t7]; exact hi2) (by omega)) gX6_make_X6_letterOf rfl rfl rfl (by decide +kernel) ⟨Nat.le_of_ble_eq_true rfl, Nat.le_of_ble_eq_true rfl⟩ (0) rfl rfl rfl rfl (Nat.le_of_ble_eq_true rfl) dX6_make_141 rfl (fun z31 s32 q33 => ?_)
                          obtain ⟨rfl, rfl⟩ := q33
                          refine x_ti (show ltm (sF (sF st2 (3 + i) (f)) (6) (g6)) i (st1.1 (2)) = lt i (st1.1 2) from by rw [ltm_frm t6]; exact hlt i _ hi2 (by omega)) ?_
                          refine x_callVv (q := 147) (n := 3) (As := [.int (ii ((i : Int))), .int (ii (g6 ((i : Int)))), .int (ii (lt i (st1.1 2)))]) (r := []) E (c_X6_put l D T ad hN (sF (sF st2 (3 + i) (f)) (6) (g6)) i hi (g6 ((i : Int))) (by omega) (lt i (st1.1 2)) (by omega) (by omega) (by omega)) gX6_make_X6_put rfl rfl rfl (by decide +kernel) ⟨Nat.le_of_ble_eq_true rfl, Nat.le_of_ble_eq_true rfl⟩ (0) rfl rfl rfl rfl (Nat.le_of_ble_eq_true rfl) dX6_make_144 rfl (fun s35 q36 => ?_)
                          obtain rfl := q36
                          refine x_aload_n (q := 148) E dX6_make_147 0 rfl rfl ?_
                          refine x_get (q := 151) E iX6_make_X6 (0) rfl rfl 8 (by decide) (by decide +kernel) rfl dX6_make_148 rfl ?_
                          refine x_iload (q := 153) E dX6_make_151 4 rfl rfl ?_
                          refine x_dup2 (q := 154) E dX6_make_153 rfl rfl rfl ?_
                          refine x_iald (q := 155) (f := (sA (sF (sF st2 (3 + i) (f)) (6) (g6)) (3 + i) (g6 ((i : Int))) (lt i (st1.1 2))).2 (6)) E (7) rfl 0 rfl (by omega) (by omega) (by decide) dX6_make_154 rfl ?_
                          refine x_ti (show (sA (sF (sF st2 (3 + i) (f)) (6) (g6)) (3 + i) (g6 ((i : Int))) (lt i (st1.1 2))).2 (6) ((i : Int)) = g6 ((i : Int)) by rw [sA_n _ _ _ (by omega), sF_s]) ?_
                          refine x_iconst (q := 156) E dX6_make_155 rfl ?_
                          refine x_iadd (q := 157) E dX6_make_156 rfl ?_
                          refine x_iast (q := 158) (st' := (sA (sA (sF (sF st2 (3 + i) (f)) (6) (g6)) (3 + i) (g6 ((i : Int))) (lt i (st1.1 2))) (6) ((i : Int)) ((g6 ((i : Int))) + (1)))) (f := (sA (sF (sF st2 (3 + i) (f)) (6) (g6)) (3 + i) (g6 ((i : Int))) (lt i (st1.1 2))).2 (6)) E (7) rfl 0 rfl (by omega) (by omega) (by decide) dX6_make_157 (ma_6 _ _) rfl ?_
                          refine x_iinc (q := 161) (k := 7) (lv' := [(7, .int (ii (t + 1))), (0, .ref (ad 0)), (1, .int (ii ((r : Int)))), (2, .int (ii (k))), (3, .int (ii (st1.1 (2)))), (4, .int (ii ((i : Int)))), (5, .int (ii (((nxn (st.1 0) i : Nat) : Int)))), (6, .int (ii (SQ lt (nxn (st.1 0)) (nxn (st.1 0) i) (st1.1 2))))]) E dX6_make_158 rfl (by decide) rfl rfl ?_
                          refine x_goto (tgt := 108) E dX6_make_161 (by decide) ?_
                          refine x_st E (st' := (sF (sF st2 (3 + i) (zup (f) (g6 ((i : Int))) (lt i (st1.1 2)))) (6) (zup (g6) ((i : Int)) ((g6 ((i : Int))) + (1))))) (by refine Prod.ext (funext fun k9 => ?_) (funext fun q9 => ?_) <;> simp only [sG_1, sG_2, sA_1, sA_2, sF_1, sF_2, reduceIte] <;> (repeat' split) <;> first | rfl | omega | (subst_vars; first | rfl | omega) | simp_all) ?_
                          refine x_lv E (lv' := [(0, .ref (ad 0)), (1, .int (ii ((r : Int)))), (2, .int (ii (k))), (3, .int (ii (st1.1 (2)))), (4, .int (ii ((i : Int)))), (5, .int (ii (((nxn (st.1 0) i : Nat) : Int)))), (6, .int (ii (SQ lt (nxn (st.1 0)) (nxn (st.1 0) i) (st1.1 2)))), (7, .int (ii (t + 1)))]) [1, 2, 3, 4, 5, 6, 7, 0] rfl ?_
                          exact ih108 (t + 1) (zup (f) (g6 ((i : Int))) (lt i (st1.1 2))) (zup (g6) ((i : Int)) ((g6 ((i : Int))) + (1))) (by omega) (by omega) (by rw [zup_eq]; rw [t2]; rw [t2] at c124; split at c124 <;> split <;> omega) (fun x hx => by rw [zup_ne _ _ hx]; exact t3 x hx) (fun x x0 x1 => by rw [zup_eq] at x1; exact if hx : x = g6 (i : Int) then (by rw [hx, zup_eq]; exact (t9 (by omega)).symm) else (by rw [zup_ne _ _ hx]; exact t4 x x0 (by omega)))
                  refine x_lv E (lv' := [(0, .ref (ad 0)), (1, .int (ii ((r : Int)))), (2, .int (ii (k))), (3, .int (ii (st1.1 (2)))), (4, .int (ii ((i : Int)))), (5, .int (ii (((nxn (st.1 0) i : Nat) : Int)))), (6, .int (ii (SQ lt (nxn (st.1 0)) (nxn (st.1 0) i) (st1.1 2)))), (7, .int (ii (0)))]) [3, 4, 5, 6, 7, 2, 1, 0] rfl ?_
                  refine x_st E (st' := (sF (sF st2 (3 + i) (st2.2 (3 + i))) (6) (st2.2 (6)))) (by refine Prod.ext (funext fun k9 => ?_) (funext fun q9 => ?_) <;> simp only [sG_1, sG_2, sA_1, sA_2, sF_1, sF_2, reduceIte] <;> (repeat' split) <;> first | rfl | omega | (subst_vars; first | rfl | omega) | simp_all) ?_
                  exact L108 _ (0) (st2.2 (3 + i)) (st2.2 (6)) (Nat.lt_succ_self _) (by omega) (by have y := (d2 i hi2).2.2; dsimp only at y; rw [if_neg (Nat.lt_irrefl i)] at y; split <;> omega) (fun _ _ => rfl) ((d2 i hi2).2.1)
          refine x_lv E (lv' := [(0, .ref (ad 0)), (1, .int (ii ((r : Int)))), (2, .int (ii (k))), (3, .int (ii (st1.1 (2)))), (4, .int (ii (0)))]) [2, 3, 4, 1, 0] rfl ?_
          exact L55 _ (0) st1 (Nat.lt_succ_self _) (by omega) (Mq_J b2 (fun x hx => if_neg (by omega))) (b3) (b4) (rfl)
    refine x_lv E (lv' := [(0, .ref (ad 0)), (1, .int (ii ((r : Int)))), (2, .int (ii (k)))]) [1, 2, 3] rfl ?_
    exact L37 _  (sA (sA (sA (sG (sG st (1) (0)) (2) (0)) (6) (0) (0)) (6) (1) (0)) (6) (2) (0)) (Nat.lt_succ_self _) (Int.le_refl 0) (Mq_J (Mq_0 (fun x hx => by rcases (show x = 0 ∨ x = 1 ∨ x = 2 by omega) with y | y | y <;> subst y <;> rfl)) (fun _ _ => rfl)) (⟨fun j j0 j1 => by rw [sA_1, sA_1, sA_1, sG_n _ _ j1, sG_n _ _ j0], fun q hq => by rw [sA_n _ _ _ (by omega), sA_n _ _ _ (by omega), sA_n _ _ _ (by omega), sG_2, sG_2]⟩) (rfl)

