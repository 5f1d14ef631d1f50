theorem iX5_at_X5 : ∀ w ∈ wsX50, w ∈ wsX5_at := by decide +kernel
set_option maxRecDepth 100000 in
set_option maxHeartbeats 4000000 in
theorem c_X5_at (l : Launch) (D : va_G) (T : Nat → ClassId) (ad : Nat → Nat) (hN : ∀ i j, i < 33 → j < 33 → ad i = ad j → i = j) (st : St_) (r : Nat) (hr : r < 3) (k : Int) (bk : -2147483648 ≤ k ∧ k < 2147483648) (hrn : (r : Int) < st.1 2) (a : AB_) (hC : CI st a) : CXi l yX5_at wsX5_at (rmX 5 119) [.ref (ad 0), .int (ii ((r : Int))), .int (ii (k))] D (tyX T) (XW T ad) (alX ad) st (fun z st2 => z = (if 0 ≤ k ∧ k ≤ 100000 then (SQ (lta a) (nxn (a.1.1 0)) r) k else -102) ∧ CI st2 a) := by
  refine mk_i (cc := cX5_at) (nL := 3) rfl rfl (XW_ok hN) (Nat.le_of_ble_eq_true rfl) [(0, .ref (ad 0)), (1, .int (ii ((r : Int)))), (2, .int (ii (k)))] rfl (fun p e s m args below meth c A Q E RET => ?_)
  have k1 := hC.1
  have k2 := hC.2.1
  have k3 := hC.2.2.1
  have k4 := hC.2.2.2.1
  have k5 := hC.2.2.2.2.1
  have k6 := hC.2.2.2.2.2.1
  have k7 := hC.2.2.2.2.2.2.1
  have k8 := hC.2.2.2.2.2.2.2
  have hn := k7.2.1.1
  have w0 := (k6 0 (by omega)).1
  have wb0 := (k6 0 (by omega)).2
  have hL := hC.len
  have hf := hC.lf
  have hf6 := hC.let6
  refine x_aload_n (q := 1) E dX5_at_0 0 rfl rfl ?_
  refine x_get (q := 4) E iX5_at_X5 (0) rfl rfl 0 (by decide) (by decide +kernel) rfl dX5_at_1 rfl ?_
  refine x_iload_n (q := 5) E dX5_at_4 1 rfl rfl ?_
  refine x_callVi (q := 8) (n := 1) (As := [.int (ii ((r : Int)))]) (r := []) E (c_X1_hasRow l D T ad hN st ((r : Int)) (by omega) (hn)) gX5_at_X1_hasRow rfl rfl rfl (by decide +kernel) ⟨Nat.le_of_ble_eq_true rfl, Nat.le_of_ble_eq_true rfl⟩ (1) rfl rfl rfl rfl (Nat.le_of_ble_eq_true rfl) dX5_at_5 rfl (fun z1 s2 q3 => ?_)
  obtain ⟨rfl, rfl⟩ := q3
  refine x_if_ne (tgt := 14) (q := 11) E dX5_at_8 (by decide) rfl (by omega) (fun c8 => ?_) (fun c8 => ?_)
  · refine x_iload_n (q := 15) E dX5_at_14 2 rfl rfl ?_
    refine x_ldc (q := 17) (v := 100000) (z := 100000) E (by decide +kernel) (by decide) dX5_at_15 rfl ?_
    refine x_callSi (q := 20) (n := 2) (As := [.int (ii (k)), .int (ii (100000))]) (r := []) E (c_X5_isOutside l D T ad hN st (k) (by omega) (100000) (by omega)) gX5_at_X5_isOutside rfl rfl rfl (by decide +kernel) ⟨Nat.le_of_ble_eq_true rfl, Nat.le_of_ble_eq_true rfl⟩ rfl rfl (Nat.le_of_ble_eq_true rfl) dX5_at_17 rfl (fun z4 s5 q6 => ?_)
    obtain ⟨rfl, rfl⟩ := q6
    refine x_if_eq (tgt := 26) (q := 23) E dX5_at_20 (by decide) rfl (by omega) (fun c20 => ?_) (fun c20 => ?_)
    · refine x_aload_n (q := 27) E dX5_at_26 0 rfl rfl ?_
      refine x_get (q := 30) E iX5_at_X5 (0) rfl rfl 0 (by decide) (by decide +kernel) rfl dX5_at_27 rfl ?_
      refine x_iload_n (q := 31) E dX5_at_30 1 rfl rfl ?_
      refine x_iload_n (q := 32) E dX5_at_31 2 rfl rfl ?_
      refine x_iconst (q := 33) E dX5_at_32 rfl ?_
      refine x_iadd (q := 34) E dX5_at_33 rfl ?_
      refine x_callVr (q := 37) (n := 2) (As := [.int (ii ((r : Int))), .int (ii ((k) + (1)))]) (r := []) E (c_X1_rowOf l D T ad hN st r hr ((k) + (1)) (by omega) (by omega) (by omega) (lta a) k7) gX5_at_X1_rowOf rfl rfl rfl (by decide +kernel) ⟨Nat.le_of_ble_eq_true rfl, Nat.le_of_ble_eq_true rfl⟩ (1) rfl rfl rfl rfl (Nat.le_of_ble_eq_true rfl) dX5_at_34 rfl (fun z7 s8 q9 => ?_)
      obtain ⟨rfl, h110, h211, h312⟩ := q9
      have g1 := h110
      have g2 := h211
      have g3 := h312
      have hC1 := CI_grw hC g2 g1
      have e0 : s8.1 2 = a.1.1 0 := hC1.1
      have hr1 : ((r : Nat) : Int) < s8.1 2 := by rw [e0, ← k1]; exact (by omega)
      have d1 := RI.b g1.1 g1.2.2.2.1 hr1
      have d2 := d1.1
      have d3 := d1.2.1
      have hSq : ∀ j : Int, 0 ≤ j → j < s8.1 (7 + r) → s8.2 (5 + r) j = SQ (lta a) (nxn (a.1.1 0)) (r) j := fun j j0 j1 => by rw [RI.num g1.2.2.2.1 hr1 j0 j1, e0]
      have hkp := RI.kp g1.2.2.2.1 hr1
      refine x_iload_n (q := 38) E dX5_at_37 2 rfl rfl ?_
      refine x_callVi (q := 41) (n := 1) (As := [.int (ii (k))]) (r := []) E (c_X2_number l D T ad hN s8 (r) hr (k) (by omega) (by omega)) gX5_at_X2_number rfl rfl rfl (by decide +kernel) ⟨Nat.le_of_ble_eq_true rfl, Nat.le_of_ble_eq_true rfl⟩ (13 + r) (xg_row hr) rfl rfl rfl (Nat.le_of_ble_eq_true rfl) dX5_at_38 rfl (fun z13 s14 q15 => ?_)
      obtain ⟨rfl, rfl⟩ := q15
      exact RET _ _ _ _ dX5_at_41 (⟨by rw [if_pos (by omega), nat_in (by omega) (by omega) (by omega)]; exact hSq k (by omega) (by omega), hC1⟩)
    · refine x_bipush (q := 25) E dX5_at_23 (by decide) rfl ?_
      exact RET _ _ _ _ dX5_at_25 (⟨by rw [if_neg (by omega)], hC⟩)
  · exfalso; omega

theorem iX5_at_n_X5 : ∀ w ∈ wsX50, w ∈ wsX5_at := by decide +kernel
set_option maxRecDepth 100000 in
set_option maxHeartbeats 4000000 in
theorem c_X5_at_n (l : Launch) (D : va_G) (T : Nat → ClassId) (ad : Nat → Nat) (hN : ∀ i j, i < 33 → j < 33 → ad i = ad j → i = j) (st : St_) (z0 : Int) (bz0 : -2147483648 ≤ z0 ∧ z0 < 2147483648) (k : Int) (bk : -2147483648 ≤ k ∧ k < 2147483648) (hz : z0 < 0 ∨ st.1 2 ≤ z0) (a : AB_) (hC : CI st a) : CXi l yX5_at wsX5_at (rmX 1 21) [.ref (ad 0), .int (ii (z0)), .int (ii (k))] D (tyX T) (XW T ad) (alX ad) st (fun z st2 => z = -101 ∧ CI st2 a) := by
  refine mk_i (cc := cX5_at) (nL := 3) rfl rfl (XW_ok hN) (Nat.le_of_ble_eq_true rfl) [(0, .ref (ad 0)), (1, .int (ii (z0))), (2, .int (ii (k)))] rfl (fun p e s m args below meth c A Q E RET => ?_)
  have k1 := hC.1
  have k2 := hC.2.1
  have k3 := hC.2.2.1
  have k4 := hC.2.2.2.1
  have k5 := hC.2.2.2.2.1
  have k6 := hC.2.2.2.2.2.1
  have k7 := hC.2.2.2.2.2.2.1
  have k8 := hC.2.2.2.2.2.2.2
  have hn := k7.2.1.1
  have w0 := (k6 0 (by omega)).1
  have wb0 := (k6 0 (by omega)).2
  have hL := hC.len
  have hf := hC.lf
  have hf6 := hC.let6
  refine x_aload_n (q := 1) E dX5_at_0 0 rfl rfl ?_
  refine x_get (q := 4) E iX5_at_n_X5 (0) rfl rfl 0 (by decide) (by decide +kernel) rfl dX5_at_1 rfl ?_
  refine x_iload_n (q := 5) E dX5_at_4 1 rfl rfl ?_
  refine x_callVi (q := 8) (n := 1) (As := [.int (ii (z0))]) (r := []) E (c_X1_hasRow l D T ad hN st (z0) (by omega) (hn)) gX5_at_X1_hasRow rfl rfl rfl (by decide +kernel) ⟨Nat.le_of_ble_eq_true rfl, Nat.le_of_ble_eq_true rfl⟩ (1) rfl rfl rfl rfl (Nat.le_of_ble_eq_true rfl) dX5_at_5 rfl (fun z1 s2 q3 => ?_)
  obtain ⟨rfl, rfl⟩ := q3
  refine x_if_ne (tgt := 14) (q := 11) E dX5_at_8 (by decide) rfl (by omega) (fun c8 => ?_) (fun c8 => ?_)
  · exfalso; omega
  · refine x_bipush (q := 13) E dX5_at_11 (by decide) rfl ?_
    exact RET _ _ _ _ dX5_at_13 (⟨rfl, hC⟩)

theorem iX5_count_X5 : ∀ w ∈ wsX50, w ∈ wsX5_count := by decide +kernel
set_option maxRecDepth 100000 in
set_option maxHeartbeats 4000000 in
theorem c_X5_count (l : Launch) (D : va_G) (T : Nat → ClassId) (ad : Nat → Nat) (hN : ∀ i j, i < 33 → j < 33 → ad i = ad j → i = j) (st : St_) (r : Nat) (hr : r < 3) (v : Int) (bv : -2147483648 ≤ v ∧ v < 2147483648) (n0 : Int) (bn0 : -2147483648 ≤ n0 ∧ n0 < 2147483648) (hrn : (r : Int) < st.1 2) (a : AB_) (hC : CI st a) : CXi l yX5_count wsX5_count (rmX 5 119) [.ref (ad 0), .int (ii ((r : Int))), .int (ii (v)), .int (ii (n0))] D (tyX T) (XW T ad) (alX ad) st (fun z st2 => z = (if 0 ≤ n0 ∧ n0 ≤ 100000 then cntv (SQ (lta a) (nxn (a.1.1 0)) r) v n0 else -102) ∧ CI st2 a) := by
  refine mk_i (cc := cX5_count) (nL := 4) rfl rfl (XW_ok hN) (Nat.le_of_ble_eq_true rfl) [(0, .ref (ad 0)), (1, .int (ii ((r : Int)))), (2, .int (ii (v))), (3, .int (ii (n0)))] rfl (fun p e s m args below meth c A Q E RET => ?_)
  have k1 := hC.1
  have k2 := hC.2.1
  have k3 := hC.2.2.1
  have k4 := hC.2.2.2.1
  have k5 := hC.2.2.2.2.1
  have k6 := hC.2.2.2.2.2.1
  have k7 := hC.2.2.2.2.2.2.1
  have k8 := hC.2.2.2.2.2.2.2
  have hn := k7.2.1.1
  have w0 := (k6 0 (by omega)).1
  have wb0 := (k6 0 (by omega)).2
  have hL := hC.len
  have hf := hC.lf
  have hf6 := hC.let6
  refine x_aload_n (q := 1) E dX5_count_0 0 rfl rfl ?_
  refine x_get (q := 4) E iX5_count_X5 (0) rfl rfl 0 (by decide) (by decide +kernel) rfl dX5_count_1 rfl ?_
  refine x_iload_n (q := 5) E dX5_count_4 1 rfl rfl ?_
  refine x_callVi (q := 8) (n := 1) (As := [.int (ii ((r : Int)))]) (r := []) E (c_X1_hasRow l D T ad hN st ((r : Int)) (by omega) (hn)) gX5_count_X1_hasRow rfl rfl rfl (by decide +kernel) ⟨Nat.le_of_ble_eq_true rfl, Nat.le_of_ble_eq_true rfl⟩ (1) rfl rfl rfl rfl (Nat.le_of_ble_eq_true rfl) dX5_count_5 rfl (fun z1 s2 q3 => ?_)
  obtain ⟨rfl, rfl⟩ := q3
  refine x_if_ne (tgt := 14) (q := 11) E dX5_count_8 (by decide) rfl (by omega) (fun c8 => ?_) (fun c8 => ?_)
  · refine x_iload_n (q := 15) E dX5_count_14 3 rfl rfl ?_
    refine x_ldc (q := 17) (v := 100000) (z := 100000) E (by decide +kernel) (by decide) dX5_count_15 rfl ?_
    refine x_callSi (q := 20) (n := 2) (As := [.int (ii (n0)), .int (ii (100000))]) (r := []) E (c_X5_isOutside l D T ad hN st (n0) (by omega) (100000) (by omega)) gX5_count_X5_isOutside rfl rfl rfl (by decide +kernel) ⟨Nat.le_of_ble_eq_true rfl, Nat.le_of_ble_eq_true rfl⟩ rfl rfl (Nat.le_of_ble_eq_true rfl) dX5_count_17 rfl (fun z4 s5 q6 => ?_)
    obtain ⟨rfl, rfl⟩ := q6
    refine x_if_eq (tgt := 26) (q := 23) E dX5_count_20 (by decide) rfl (by omega) (fun c20 => ?_) (fun c20 => ?_)
    · refine x_aload_n (q := 27) E dX5_count_26 0 rfl rfl ?_
      refine x_get (q := 30) E iX5_count_X5 (0) rfl rfl 0 (by decide) (by decide +kernel) rfl dX5_count_27 rfl ?_
      refine x_iload_n (q := 31) E dX5_count_30 1 rfl rfl ?_
      refine x_iload_n (q := 32) E dX5_count_31 3 rfl rfl ?_
      refine x_callVr (q := 35) (n := 2) (As := [.int (ii ((r : Int))), .int (ii (n0))]) (r := []) E (c_X1_rowOf l D T ad hN st r hr (n0) (by omega) (by omega) (by omega) (lta a) k7) gX5_count_X1_rowOf rfl rfl rfl (by decide +kernel) ⟨Nat.le_of_ble_eq_true rfl, Nat.le_of_ble_eq_true rfl⟩ (1) rfl rfl rfl rfl (Nat.le_of_ble_eq_true rfl) dX5_count_32 rfl (fun z7 s8 q9 => ?_)
      obtain ⟨rfl, h110, h211, h312⟩ := q9
      have g1 := h110
      have g2 := h211
      have g3 := h312
      have hC1 := CI_grw hC g2 g1
      have e0 : s8.1 2 = a.1.1 0 := hC1.1
      have hr1 : ((r : Nat) : Int) < s8.1 2 := by rw [e0, ← k1]; exact (by omega)
      have d1 := RI.b g1.1 g1.2.2.2.1 hr1
      have d2 := d1.1
      have d3 := d1.2.1
      have hSq : ∀ j : Int, 0 ≤ j → j < s8.1 (7 + r) → s8.2 (5 + r) j = SQ (lta a) (nxn (a.1.1 0)) (r) j := fun j j0 j1 => by rw [RI.num g1.2.2.2.1 hr1 j0 j1, e0]
      have hkp := RI.kp g1.2.2.2.1 hr1
      refine x_iload_n (q := 36) E dX5_count_35 2 rfl rfl ?_
      refine x_iload_n (q := 37) E dX5_count_36 3 rfl rfl ?_
      refine x_callVi (q := 40) (n := 2) (As := [.int (ii (v)), .int (ii (n0))]) (r := []) E (c_X2_lettersWithin l D T ad hN s8 (r) hr (v) (by omega) (n0) (by omega) (by omega) (hkp) (d3) (by omega)) gX5_count_X2_lettersWithin rfl rfl rfl (by decide +kernel) ⟨Nat.le_of_ble_eq_true rfl, Nat.le_of_ble_eq_true rfl⟩ (13 + r) (xg_row hr) rfl rfl rfl (Nat.le_of_ble_eq_true rfl) dX5_count_37 rfl (fun z13 s14 q15 => ?_)
      obtain ⟨rfl, rfl⟩ := q15
      exact RET _ _ _ _ dX5_count_40 (⟨by rw [if_pos (by omega)]; exact cntv_congr (fun j j0 j1 => hSq j j0 (by omega)), hC1⟩)
    · refine x_bipush (q := 25) E dX5_count_23 (by decide) rfl ?_
      exact RET _ _ _ _ dX5_count_25 (⟨by rw [if_neg (by omega)], hC⟩)
  · exfalso; omega

theorem iX5_count_n_X5 : ∀ w ∈ wsX50, w ∈ wsX5_count := by decide +kernel
set_option maxRecDepth 100000 in
set_option maxHeartbeats 4000000 in
theorem c_X5_count_n (l : Launch) (D : va_G) (T : Nat → ClassId) (ad : Nat → Nat) (hN : ∀ i j, i < 33 → j < 33 → ad i = ad j → i = j) (st : St_) (z0 : Int) (bz0 : -2147483648 ≤ z0 ∧ z0 < 2147483648) (v : Int) (bv : -2147483648 ≤ v ∧ v < 2147483648) (n0 : Int) (bn0 : -2147483648 ≤ n0 ∧ n0 < 2147483648) (hz : z0 < 0 ∨ st.1 2 ≤ z0) (a : AB_) (hC : CI st a) : CXi l yX5_count wsX5_count (rmX 1 21) [.ref (ad 0), .int (ii (z0)), .int (ii (v)), .int (ii (n0))] D (tyX T) (XW T ad) (alX ad) st (fun z st2 => z = -101 ∧ CI st2 a) := by
  refine mk_i (cc := cX5_count) (nL := 4) rfl rfl (XW_ok hN) (Nat.le_of_ble_eq_true rfl) [(0, .ref (ad 0)), (1, .int (ii (z0))), (2, .int (ii (v))), (3, .int (ii (n0)))] rfl (fun p e s m args below meth c A Q E RET => ?_)
  have k1 := hC.1
  have k2 := hC.2.1
  have k3 := hC.2.2.1
  have k4 := hC.2.2.2.1
  have k5 := hC.2.2.2.2.1
  have k6 := hC.2.2.2.2.2.1
  have k7 := hC.2.2.2.2.2.2.1
  have k8 := hC.2.2.2.2.2.2.2
  have hn := k7.2.1.1
  have w0 := (k6 0 (by omega)).1
  have wb0 := (k6 0 (by omega)).2
  have hL := hC.len
  have hf := hC.lf
  have hf6 := hC.let6
  refine x_aload_n (q := 1) E dX5_count_0 0 rfl rfl ?_
  refine x_get (q := 4) E iX5_count_n_X5 (0) rfl rfl 0 (by decide) (by decide +kernel) rfl dX5_count_1 rfl ?_
  refine x_iload_n (q := 5) E dX5_count_4 1 rfl rfl ?_
  refine x_callVi (q := 8) (n := 1) (As := [.int (ii (z0))]) (r := []) E (c_X1_hasRow l D T ad hN st (z0) (by omega) (hn)) gX5_count_X1_hasRow rfl rfl rfl (by decide +kernel) ⟨Nat.le_of_ble_eq_true rfl, Nat.le_of_ble_eq_true rfl⟩ (1) rfl rfl rfl rfl (Nat.le_of_ble_eq_true rfl) dX5_count_5 rfl (fun z1 s2 q3 => ?_)
  obtain ⟨rfl, rfl⟩ := q3
  refine x_if_ne (tgt := 14) (q := 11) E dX5_count_8 (by decide) rfl (by omega) (fun c8 => ?_) (fun c8 => ?_)
  · exfalso; omega
  · refine x_bipush (q := 13) E dX5_count_11 (by decide) rfl ?_
    exact RET _ _ _ _ dX5_count_13 (⟨rfl, hC⟩)

theorem iX5_sum_X5 : ∀ w ∈ wsX50, w ∈ wsX5_sum := by decide +kernel
set_option maxRecDepth 100000 in
set_option maxHeartbeats 4000000 in
theorem c_X5_sum (l : Launch) (D : va_G) (T : Nat → ClassId) (ad : Nat → Nat) (hN : ∀ i j, i < 33 → j < 33 → ad i = ad j → i = j) (st : St_) (r : Nat) (hr : r < 3) (n0 : Int) (bn0 : -2147483648 ≤ n0 ∧ n0 < 2147483648) (hrn : (r : Int) < st.1 2) (a : AB_) (hC : CI st a) : CXi l yX5_sum wsX5_sum (rmX 5 119) [.ref (ad 0), .int (ii ((r : Int))), .int (ii (n0))] D (tyX T) (XW T ad) (alX ad) st (fun z st2 => z = (if 0 ≤ n0 ∧ n0 ≤ 100000 then isum (SQ (lta a) (nxn (a.1.1 0)) r) n0 else -102) ∧ CI st2 a) := by
  refine mk_i (cc := cX5_sum) (nL := 3) rfl rfl (XW_ok hN) (Nat.le_of_ble_eq_true rfl) [(0, .ref (ad 0)), (1, .int (ii ((r : Int)))), (2, .int (ii (n0)))] rfl (fun p e s m args below meth c A Q E RET => ?_)
  have k1 := hC.1
  have k2 := hC.2.1
  have k3 := hC.2.2.1
  have k4 := hC.2.2.2.1
  have k5 := hC.2.2.2.2.1
  have k6 := hC.2.2.2.2.2.1
  have k7 := hC.2.2.2.2.2.2.1
  have k8 := hC.2.2.2.2.2.2.2
  have hn := k7.2.1.1
  have w0 := (k6 0 (by omega)).1
  have wb0 := (k6 0 (by omega)).2
  have hL := hC.len
  have hf := hC.lf
  have hf6 := hC.let6
  refine x_aload_n (q := 1) E dX5_sum_0 0 rfl rfl ?_
  refine x_get (q := 4) E iX5_sum_X5 (0) rfl rfl 0 (by decide) (by decide +kernel) rfl dX5_sum_1 rfl ?_
  refine x_iload_n (q := 5) E dX5_sum_4 1 rfl rfl ?_
  refine x_callVi (q := 8) (n := 1) (As := [.int (ii ((r : Int)))]) (r := []) E (c_X1_hasRow l D T ad hN st ((r : Int)) (by omega) (hn)) gX5_sum_X1_hasRow rfl rfl rfl (by decide +kernel) ⟨Nat.le_of_ble_eq_true rfl, Nat.le_of_ble_eq_true rfl⟩ (1) rfl rfl rfl rfl (Nat.le_of_ble_eq_true rfl) dX5_sum_5 rfl (fun z1 s2 q3 => ?_)
  obtain ⟨rfl, rfl⟩ := q3
  refine x_if_ne (tgt := 14) (q := 11) E dX5_sum_8 (by decide) rfl (by omega) (fun c8 => ?_) (fun c8 => ?_)
  · refine x_iload_n (q := 15) E dX5_sum_14 2 rfl rfl ?_
    refine x_ldc (q := 17) (v := 100000) (z := 100000) E (by decide +kernel) (by decide) dX5_sum_15 rfl ?_
    refine x_callSi (q := 20) (n := 2) (As := [.int (ii (n0)), .int (ii (100000))]) (r := []) E (c_X5_isOutside l D T ad hN st (n0) (by omega) (100000) (by omega)) gX5_sum_X5_isOutside rfl rfl rfl (by decide +kernel) ⟨Nat.le_of_ble_eq_true rfl, Nat.le_of_ble_eq_true rfl⟩ rfl rfl (Nat.le_of_ble_eq_true rfl) dX5_sum_17 rfl (fun z4 s5 q6 => ?_)
    obtain ⟨rfl, rfl⟩ := q6
    refine x_if_eq (tgt := 26) (q := 23) E dX5_sum_20 (by decide) rfl (by omega) (fun c20 => ?_) (fun c20 => ?_)
    · refine x_aload_n (q := 27) E dX5_sum_26 0 rfl rfl ?_
      refine x_get (q := 30) E iX5_sum_X5 (0) rfl rfl 0 (by decide) (by decide +kernel) rfl dX5_sum_27 rfl ?_
      refine x_iload_n (q := 31) E dX5_sum_30 1 rfl rfl ?_
      refine x_iload_n (q := 32) E dX5_sum_31 2 rfl rfl ?_
      refine x_callVr (q := 35) (n := 2) (As := [.int (ii ((r : Int))), .int (ii (n0))]) (r := []) E (c_X1_rowOf l D T ad hN st r hr (n0) (by omega) (by omega) (by omega) (lta a) k7) gX5_sum_X1_rowOf rfl rfl rfl (by decide +kernel) ⟨Nat.le_of_ble_eq_true rfl, Nat.le_of_ble_eq_true rfl⟩ (1) rfl rfl rfl rfl (Nat.le_of_ble_eq_true rfl) dX5_sum_32 rfl (fun z7 s8 q9 => ?_)
      obtain ⟨rfl, h110, h211, h312⟩ := q9
      have g1 := h110
      have g2 := h211
      have g3 := h312
      have hC1 := CI_grw hC g2 g1
      have e0 : s8.1 2 = a.1.1 0 := hC1.1
      have hr1 : ((r : Nat) : Int) < s8.1 2 := by rw [e0, ← k1]; exact (by omega)
      have d1 := RI.b g1.1 g1.2.2.2.1 hr1
      have d2 := d1.1
      have d3 := d1.2.1
      have hSq : ∀ j : Int, 0 ≤ j → j < s8.1 (7 + r) → s8.2 (5 + r) j = SQ (lta a) (nxn (a.1.1 0)) (r) j := fun j j0 j1 => by rw [RI.num g1.2.2.2.1 hr1 j0 j1, e0]
      have hkp := RI.kp g1.2.2.2.1 hr1
      refine x_iload_n (q := 36) E dX5_sum_35 2 rfl rfl ?_
      refine x_callVi (q := 39) (n := 1) (As := [.int (ii (n0))]) (r := []) E (c_X2_sumWithin l D T ad hN s8 (r) hr (n0) (by omega) (by omega) (hkp) (d3) (by omega)) gX5_sum_X2_sumWithin rfl rfl rfl (by decide +kernel) ⟨Nat.le_of_ble_eq_true rfl, Nat.le_of_ble_eq_true rfl⟩ (13 + r) (xg_row hr) rfl rfl rfl (Nat.le_of_ble_eq_true rfl) dX5_sum_36 rfl (fun z13 s14 q15 => ?_)
      obtain ⟨rfl, rfl⟩ := q15
      exact RET _ _ _ _ dX5_sum_39 (⟨by rw [if_pos (by omega)]; exact isum_congr (fun j j0 j1 => hSq j j0 (by omega)), hC1⟩)
    · refine x_bipush (q := 25) E dX5_sum_23 (by decide) rfl ?_
      exact RET _ _ _ _ dX5_sum_25 (⟨by rw [if_neg (by omega)], hC⟩)
  · exfalso; omega

theorem iX5_sum_n_X5 : ∀ w ∈ wsX50, w ∈ wsX5_sum := by decide +kernel
set_option maxRecDepth 100000 in
set_option maxHeartbeats 4000000 in
theorem c_X5_sum_n (l : Launch) (D : va_G) (T : Nat → ClassId) (ad : Nat → Nat) (hN : ∀ i j, i < 33 → j < 33 → ad i = ad j → i = j) (st : St_) (z0 : Int) (bz0 : -2147483648 ≤ z0 ∧ z0 < 2147483648) (n0 : Int) (bn0 : -2147483648 ≤ n0 ∧ n0 < 2147483648) (hz : z0 < 0 ∨ st.1 2 ≤ z0) (a : AB_) (hC : CI st a) : CXi l yX5_sum wsX5_sum (rmX 1 21) [.ref (ad 0), .int (ii (z0)), .int (ii (n0))] D (tyX T) (XW T ad) (alX ad) st (fun z st2 => z = -101 ∧ CI st2 a) := by
  refine mk_i (cc := cX5_sum) (nL := 3) rfl rfl (XW_ok hN) (Nat.le_of_ble_eq_true rfl) [(0, .ref (ad 0)), (1, .int (ii (z0))), (2, .int (ii (n0)))] rfl (fun p e s m args below meth c A Q E RET => ?_)
  have k1 := hC.1
  have k2 := hC.2.1
  have k3 := hC.2.2.1
  have k4 := hC.2.2.2.1
  have k5 := hC.2.2.2.2.1
  have k6 := hC.2.2.2.2.2.1
  have k7 := hC.2.2.2.2.2.2.1
  have k8 := hC.2.2.2.2.2.2.2
  have hn := k7.2.1.1
  have w0 := (k6 0 (by omega)).1
  have wb0 := (k6 0 (by omega)).2
  have hL := hC.len
  have hf := hC.lf
  have hf6 := hC.let6
  refine x_aload_n (q := 1) E dX5_sum_0 0 rfl rfl ?_
  refine x_get (q := 4) E iX5_sum_n_X5 (0) rfl rfl 0 (by decide) (by decide +kernel) rfl dX5_sum_1 rfl ?_
  refine x_iload_n (q := 5) E dX5_sum_4 1 rfl rfl ?_
  refine x_callVi (q := 8) (n := 1) (As := [.int (ii (z0))]) (r := []) E (c_X1_hasRow l D T ad hN st (z0) (by omega) (hn)) gX5_sum_X1_hasRow rfl rfl rfl (by decide +kernel) ⟨Nat.le_of_ble_eq_true rfl, Nat.le_of_ble_eq_true rfl⟩ (1) rfl rfl rfl rfl (Nat.le_of_ble_eq_true rfl) dX5_sum_5 rfl (fun z1 s2 q3 => ?_)
  obtain ⟨rfl, rfl⟩ := q3
  refine x_if_ne (tgt := 14) (q := 11) E dX5_sum_8 (by decide) rfl (by omega) (fun c8 => ?_) (fun c8 => ?_)
  · exfalso; omega
  · refine x_bipush (q := 13) E dX5_sum_11 (by decide) rfl ?_
    exact RET _ _ _ _ dX5_sum_13 (⟨rfl, hC⟩)

theorem iX5_run_X5 : ∀ w ∈ wsX50, w ∈ wsX5_run := by decide +kernel
set_option maxRecDepth 100000 in
set_option maxHeartbeats 4000000 in
theorem c_X5_run (l : Launch) (D : va_G) (T : Nat → ClassId) (ad : Nat → Nat) (hN : ∀ i j, i < 33 → j < 33 → ad i = ad j → i = j) (st : St_) (r : Nat) (hr : r < 3) (k : Int) (bk : -2147483648 ≤ k ∧ k < 2147483648) (hrn : (r : Int) < st.1 2) (a : AB_) (hC : CI st a) : CXi l yX5_run wsX5_run (rmX 5 119) [.ref (ad 0), .int (ii ((r : Int))), .int (ii (k))] D (tyX T) (XW T ad) (alX ad) st (fun z st2 => z = (if 0 ≤ k ∧ k ≤ 100000 then chg (SQ (lta a) (nxn (a.1.1 0)) r) (k + 1) - 1 else -102) ∧ CI st2 a) := by
  refine mk_i (cc := cX5_run) (nL := 3) rfl rfl (XW_ok hN) (Nat.le_of_ble_eq_true rfl) [(0, .ref (ad 0)), (1, .int (ii ((r : Int)))), (2, .int (ii (k)))] rfl (fun p e s m args below meth c A Q E RET => ?_)
  have k1 := hC.1
  have k2 := hC.2.1
  have k3 := hC.2.2.1
  have k4 := hC.2.2.2.1
  have k5 := hC.2.2.2.2.1
  have k6 := hC.2.2.2.2.2.1
  have k7 := hC.2.2.2.2.2.2.1
  have k8 := hC.2.2.2.2.2.2.2
  have hn := k7.2.1.1
  have w0 := (k6 0 (by omega)).1
  have wb0 := (k6 0 (by omega)).2
  have hL := hC.len
  have hf := hC.lf
  have hf6 := hC.let6
  refine x_aload_n (q := 1) E dX5_run_0 0 rfl rfl ?_
  refine x_get (q := 4) E iX5_run_X5 (0) rfl rfl 0 (by decide) (by decide +kernel) rfl dX5_run_1 rfl ?_
  refine x_iload_n (q := 5) E dX5_run_4 1 rfl rfl ?_
  refine x_callVi (q := 8) (n := 1) (As := [.int (ii ((r : Int)))]) (r := []) E (c_X1_hasRow l D T ad hN st ((r : Int)) (by omega) (hn)) gX5_run_X1_hasRow rfl rfl rfl (by decide +kernel) ⟨Nat.le_of_ble_eq_true rfl, Nat.le_of_ble_eq_true rfl⟩ (1) rfl rfl rfl rfl (Nat.le_of_ble_eq_true rfl) dX5_run_5 rfl (fun z1 s2 q3 => ?_)
  obtain ⟨rfl, rfl⟩ := q3
  refine x_if_ne (tgt := 14) (q := 11) E dX5_run_8 (by decide) rfl (by omega) (fun c8 => ?_) (fun c8 => ?_)
  · refine x_iload_n (q := 15) E dX5_run_14 2 rfl rfl ?_
    refine x_ldc (q := 17) (v := 100000) (z := 100000) E (by decide +kernel) (by decide) dX5_run_15 rfl ?_
    refine x_callSi (q := 20) (n := 2) (As := [.int (ii (k)), .int (ii (100000))]) (r := []) E (c_X5_isOutside l D T ad hN st (k) (by omega) (100000) (by omega)) gX5_run_X5_isOutside rfl rfl rfl (by decide +kernel) ⟨Nat.le_of_ble_eq_true rfl, Nat.le_of_ble_eq_true rfl⟩ rfl rfl (Nat.le_of_ble_eq_true rfl) dX5_run_17 rfl (fun z4 s5 q6 => ?_)
    obtain ⟨rfl, rfl⟩ := q6
    refine x_if_eq (tgt := 26) (q := 23) E dX5_run_20 (by decide) rfl (by omega) (fun c20 => ?_) (fun c20 => ?_)
    · refine x_aload_n (q := 27) E dX5_run_26 0 rfl rfl ?_
      refine x_get (q := 30) E iX5_run_X5 (0) rfl rfl 0 (by decide) (by decide +kernel) rfl dX5_run_27 rfl ?_
      refine x_iload_n (q := 31) E dX5_run_30 1 rfl rfl ?_
      refine x_iload_n (q := 32) E dX5_run_31 2 rfl rfl ?_
      refine x_iconst (q := 33) E dX5_run_32 rfl ?_
      refine x_iadd (q := 34) E dX5_run_33 rfl ?_
      refine x_callVr (q := 37) (n := 2) (As := [.int (ii ((r : Int))), .int (ii ((k) + (1)))]) (r := []) E (c_X1_rowOf l D T ad hN st r hr ((k) + (1)) (by omega) (by omega) (by omega) (lta a) k7) gX5_run_X1_rowOf rfl rfl rfl (by decide +kernel) ⟨Nat.le_of_ble_eq_true rfl, Nat.le_of_ble_eq_true rfl⟩ (1) rfl rfl rfl rfl (Nat.le_of_ble_eq_true rfl) dX5_run_34 rfl (fun z7 s8 q9 => ?_)
      obtain ⟨rfl, h110, h211, h312⟩ := q9
      have g1 := h110
      have g2 := h211
      have g3 := h312
      have hC1 := CI_grw hC g2 g1
      have e0 : s8.1 2 = a.1.1 0 := hC1.1
      have hr1 : ((r : Nat) : Int) < s8.1 2 := by rw [e0, ← k1]; exact (by omega)
      have d1 := RI.b g1.1 g1.2.2.2.1 hr1
      have d2 := d1.1
      have d3 := d1.2.1
      have hSq : ∀ j : Int, 0 ≤ j → j < s8.1 (7 + r) → s8.2 (5 + r) j = SQ (lta a) (nxn (a.1.1 0)) (r) j := fun j j0 j1 => by rw [RI.num g1.2.2.2.1 hr1 j0 j1, e0]
      have hkp := RI.kp g1.2.2.2.1 hr1
      refine x_iload_n (q := 38) E dX5_run_37 2 rfl rfl ?_
      refine x_iconst (q := 39) E dX5_run_38 rfl ?_
      refine x_iadd (q := 40) E dX5_run_39 rfl ?_
      refine x_callVi (q := 43) (n := 1) (As := [.int (ii ((k) + (1)))]) (r := []) E (c_X2_runsWithin l D T ad hN s8 (r) hr ((k) + (1)) (by omega) (by omega) (hkp) (d3) (by omega)) gX5_run_X2_runsWithin rfl rfl rfl (by decide +kernel) ⟨Nat.le_of_ble_eq_true rfl, Nat.le_of_ble_eq_true rfl⟩ (13 + r) (xg_row hr) rfl rfl rfl (Nat.le_of_ble_eq_true rfl) dX5_run_40 rfl (fun z13 s14 q15 => ?_)
      obtain ⟨rfl, rfl⟩ := q15
      refine x_iconst (q := 44) E dX5_run_43 rfl ?_
      refine x_isub (q := 45) E dX5_run_44 rfl ?_
      exact RET _ _ _ _ dX5_run_45 (⟨by rw [if_pos (by omega)]; exact congrArg (fun y => y - 1) (chg_congr (fun j j0 j1 => hSq j j0 (by omega))), hC1⟩)
    · refine x_bipush (q := 25) E dX5_run_23 (by decide) rfl ?_
      exact RET _ _ _ _ dX5_run_25 (⟨by rw [if_neg (by omega)], hC⟩)
  · exfalso; omega

theorem iX5_run_n_X5 : ∀ w ∈ wsX50, w ∈ wsX5_run := by decide +kernel
set_option maxRecDepth 100000 in
set_option maxHeartbeats 4000000 in
theorem c_X5_run_n (l : Launch) (D : va_G) (T : Nat → ClassId) (ad : Nat → Nat) (hN : ∀ i j, i < 33 → j < 33 → ad i = ad j → i = j) (st : St_) (z0 : Int) (bz0 : -2147483648 ≤ z0 ∧ z0 < 2147483648) (k : Int) (bk : -2147483648 ≤ k ∧ k < 2147483648) (hz : z0 < 0 ∨ st.1 2 ≤ z0) (a : AB_) (hC : CI st a) : CXi l yX5_run wsX5_run (rmX 1 21) [.ref (ad 0), .int (ii (z0)), .int (ii (k))] D (tyX T) (XW T ad) (alX ad) st (fun z st2 => z = -101 ∧ CI st2 a) := by
  refine mk_i (cc := cX5_run) (nL := 3) rfl rfl (XW_ok hN) (Nat.le_of_ble_eq_true rfl) [(0, .ref (ad 0)), (1, .int (ii (z0))), (2, .int (ii (k)))] rfl (fun p e s m args below meth c A Q E RET => ?_)
  have k1 := hC.1
  have k2 := hC.2.1
  have k3 := hC.2.2.1
  have k4 := hC.2.2.2.1
  have k5 := hC.2.2.2.2.1
  have k6 := hC.2.2.2.2.2.1
  have k7 := hC.2.2.2.2.2.2.1
  have k8 := hC.2.2.2.2.2.2.2
  have hn := k7.2.1.1
  have w0 := (k6 0 (by omega)).1
  have wb0 := (k6 0 (by omega)).2
  have hL := hC.len
  have hf := hC.lf
  have hf6 := hC.let6
  refine x_aload_n (q := 1) E dX5_run_0 0 rfl rfl ?_
  refine x_get (q := 4) E iX5_run_n_X5 (0) rfl rfl 0 (by decide) (by decide +kernel) rfl dX5_run_1 rfl ?_
  refine x_iload_n (q := 5) E dX5_run_4 1 rfl rfl ?_
  refine x_callVi (q := 8) (n := 1) (As := [.int (ii (z0))]) (r := []) E (c_X1_hasRow l D T ad hN st (z0) (by omega) (hn)) gX5_run_X1_hasRow rfl rfl rfl (by decide +kernel) ⟨Nat.le_of_ble_eq_true rfl, Nat.le_of_ble_eq_true rfl⟩ (1) rfl rfl rfl rfl (Nat.le_of_ble_eq_true rfl) dX5_run_5 rfl (fun z1 s2 q3 => ?_)
  obtain ⟨rfl, rfl⟩ := q3
  refine x_if_ne (tgt := 14) (q := 11) E dX5_run_8 (by decide) rfl (by omega) (fun c8 => ?_) (fun c8 => ?_)
  · exfalso; omega
  · refine x_bipush (q := 13) E dX5_run_11 (by decide) rfl ?_
    exact RET _ _ _ _ dX5_run_13 (⟨rfl, hC⟩)

theorem iX5_off_X5 : ∀ w ∈ wsX50, w ∈ wsX5_off := by decide +kernel
set_option maxRecDepth 100000 in
set_option maxHeartbeats 4000000 in
theorem c_X5_off (l : Launch) (D : va_G) (T : Nat → ClassId) (ad : Nat → Nat) (hN : ∀ i j, i < 33 → j < 33 → ad i = ad j → i = j) (st : St_) (r : Nat) (hr : r < 3) (v : Int) (bv : -2147483648 ≤ v ∧ v < 2147483648) (s0 : Int) (bs0 : -2147483648 ≤ s0 ∧ s0 < 2147483648) (n0 : Int) (bn0 : -2147483648 ≤ n0 ∧ n0 < 2147483648) (hrn : (r : Int) < st.1 2) (a : AB_) (hC : CI st a) : CXi l yX5_off wsX5_off (rmX 5 119) [.ref (ad 0), .int (ii ((r : Int))), .int (ii (v)), .int (ii (s0)), .int (ii (n0))] D (tyX T) (XW T ad) (alX ad) st (fun z st2 => z = (if (0 ≤ n0 ∧ n0 ≤ 100000) ∧ 2 ≤ s0 ∧ s0 ≤ 6 then ofn (SQ (lta a) (nxn (a.1.1 0)) r) v s0 n0 else -102) ∧ CI st2 a) := by
  refine mk_i (cc := cX5_off) (nL := 5) rfl rfl (XW_ok hN) (Nat.le_of_ble_eq_true rfl) [(0, .ref (ad 0)), (1, .int (ii ((r : Int)))), (2, .int (ii (v))), (3, .int (ii (s0))), (4, .int (ii (n0)))] rfl (fun p e s m args below meth c A Q E RET => ?_)
  have k1 := hC.1
  have k2 := hC.2.1
  have k3 := hC.2.2.1
  have k4 := hC.2.2.2.1
  have k5 := hC.2.2.2.2.1
  have k6 := hC.2.2.2.2.2.1
  have k7 := hC.2.2.2.2.2.2.1
  have k8 := hC.2.2.2.2.2.2.2
  have hn := k7.2.1.1
  have w0 := (k6 0 (by omega)).1
  have wb0 := (k6 0 (by omega)).2
  have hL := hC.len
  have hf := hC.lf
  have hf6 := hC.let6
  refine x_aload_n (q := 1) E dX5_off_0 0 rfl rfl ?_
  refine x_get (q := 4) E iX5_off_X5 (0) rfl rfl 0 (by decide) (by decide +kernel) rfl dX5_off_1 rfl ?_
  refine x_iload_n (q := 5) E dX5_off_4 1 rfl rfl ?_
  refine x_callVi (q := 8) (n := 1) (As := [.int (ii ((r : Int)))]) (r := []) E (c_X1_hasRow l D T ad hN st ((r : Int)) (by omega) (hn)) gX5_off_X1_hasRow rfl rfl rfl (by decide +kernel) ⟨Nat.le_of_ble_eq_true rfl, Nat.le_of_ble_eq_true rfl⟩ (1) rfl rfl rfl rfl (Nat.le_of_ble_eq_true rfl) dX5_off_5 rfl (fun z1 s2 q3 => ?_)
  obtain ⟨rfl, rfl⟩ := q3
  refine x_if_ne (tgt := 14) (q := 11) E dX5_off_8 (by decide) rfl (by omega) (fun c8 => ?_) (fun c8 => ?_)
  · refine x_iload (q := 16) E dX5_off_14 4 rfl rfl ?_
    refine x_ldc (q := 18) (v := 100000) (z := 100000) E (by decide +kernel) (by decide) dX5_off_16 rfl ?_
    refine x_callSi (q := 21) (n := 2) (As := [.int (ii (n0)), .int (ii (100000))]) (r := []) E (c_X5_isOutside l D T ad hN st (n0) (by omega) (100000) (by omega)) gX5_off_X5_isOutside rfl rfl rfl (by decide +kernel) ⟨Nat.le_of_ble_eq_true rfl, Nat.le_of_ble_eq_true rfl⟩ rfl rfl (Nat.le_of_ble_eq_true rfl) dX5_off_18 rfl (fun z4 s5 q6 => ?_)
    obtain ⟨rfl, rfl⟩ := q6
    refine x_if_ne (tgt := 35) (q := 24) E dX5_off_21 (by decide) rfl (by omega) (fun c21 => ?_) (fun c21 => ?_)
    · refine x_bipush (q := 37) E dX5_off_35 (by decide) rfl ?_
      exact RET _ _ _ _ dX5_off_37 (⟨by rw [if_neg (by omega)], hC⟩)
    · refine x_iload_n (q := 25) E dX5_off_24 3 rfl rfl ?_
      refine x_iconst (q := 26) E dX5_off_25 rfl ?_
      refine x_icmp_lt (tgt := 35) (q := 29) E dX5_off_26 (by decide) rfl (by omega) (by omega) (fun c26 => ?_) (fun c26 => ?_)
      · refine x_bipush (q := 37) E dX5_off_35 (by decide) rfl ?_
        exact RET _ _ _ _ dX5_off_37 (⟨by rw [if_neg (by omega)], hC⟩)
      · refine x_iload_n (q := 30) E dX5_off_29 3 rfl rfl ?_
        refine x_bipush (q := 32) E dX5_off_30 (by decide) rfl ?_
        refine x_icmp_le (tgt := 38) (q := 35) E dX5_off_32 (by decide) rfl (by omega) (by omega) (fun c32 => ?_) (fun c32 => ?_)
        · refine x_aload_n (q := 39) E dX5_off_38 0 rfl rfl ?_
          refine x_get (q := 42) E iX5_off_X5 (0) rfl rfl 0 (by decide) (by decide +kernel) rfl dX5_off_39 rfl ?_
          refine x_iload_n (q := 43) E dX5_off_42 1 rfl rfl ?_
          refine x_iload (q := 45) E dX5_off_43 4 rfl rfl ?_
          refine x_callVr (q := 48) (n := 2) (As := [.int (ii ((r : Int))), .int (ii (n0))]) (r := []) E (c_X1_rowOf l D T ad hN st r hr (n0) (by omega) (by omega) (by omega) (lta a) k7) gX5_off_X1_rowOf rfl rfl rfl (by decide +kernel) ⟨Nat.le_of_ble_eq_true rfl, Nat.le_of_ble_eq_true rfl⟩ (1) rfl rfl rfl rfl (Nat.le_of_ble_eq_true rfl) dX5_off_45 rfl (fun z7 s8 q9 => ?_)
          obtain ⟨rfl, h110, h211, h312⟩ := q9
          have g1 := h110
          have g2 := h211
          have g3 := h312
          have hC1 := CI_grw hC g2 g1
          have e0 : s8.1 2 = a.1.1 0 := hC1.1
          have hr1 : ((r : Nat) : Int) < s8.1 2 := by rw [e0, ← k1]; exact (by omega)
          have d1 := RI.b g1.1 g1.2.2.2.1 hr1
          have d2 := d1.1
          have d3 := d1.2.1
          have hSq : ∀ j : Int, 0 ≤ j → j < s8.1 (7 + r) → s8.2 (5 + r) j = SQ (lta a) (nxn (a.1.1 0)) (r) j := fun j j0 j1 => by rw [RI.num g1.2.2.2.1 hr1 j0 j1, e0]
          have hkp := RI.kp g1.2.2.2.1 hr1
          refine x_iload_n (q := 49) E dX5_off_48 2 rfl rfl ?_
          refine x_iload_n (q := 50) E dX5_off_49 3 rfl rfl ?_
          refine x_iload (q := 52) E dX5_off_50 4 rfl rfl ?_
          refine x_callVi (q := 55) (n := 3) (As := [.int (ii (v)), .int (ii (s0)), .int (ii (n0))]) (r := []) E (c_X2_greatestOff l D T ad hN s8 (r) hr (v) (by omega) (s0) (by omega) (n0) (by omega) (by omega) (d3) (by omega) (by omega)) gX5_off_X2_greatestOff rfl rfl rfl (by decide +kernel) ⟨Nat.le_of_ble_eq_true rfl, Nat.le_of_ble_eq_true rfl⟩ (13 + r) (xg_row hr) rfl rfl rfl (Nat.le_of_ble_eq_true rfl) dX5_off_52 rfl (fun z13 s14 q15 => ?_)
          obtain ⟨rfl, rfl⟩ := q15
          exact RET _ _ _ _ dX5_off_55 (⟨by rw [if_pos (by omega)]; exact ofn_congr (fun j j0 j1 => hSq j j0 (by omega)), hC1⟩)
        · refine x_bipush (q := 37) E dX5_off_35 (by decide) rfl ?_
          exact RET _ _ _ _ dX5_off_37 (⟨by rw [if_neg (by omega)], hC⟩)
  · exfalso; omega

theorem iX5_off_n_X5 : ∀ w ∈ wsX50, w ∈ wsX5_off := by decide +kernel
set_option maxRecDepth 100000 in
set_option maxHeartbeats 4000000 in
theorem c_X5_off_n (l : Launch) (D : va_G) (T : Nat → ClassId) (ad : Nat → Nat) (hN : ∀ i j, i < 33 → j < 33 → ad i = ad j → i = j) (st : St_) (z0 : Int) (bz0 : -2147483648 ≤ z0 ∧ z0 < 2147483648) (v : Int) (bv : -2147483648 ≤ v ∧ v < 2147483648) (s0 : Int) (bs0 : -2147483648 ≤ s0 ∧ s0 < 2147483648) (n0 : Int) (bn0 : -2147483648 ≤ n0 ∧ n0 < 2147483648) (hz : z0 < 0 ∨ st.1 2 ≤ z0) (a : AB_) (hC : CI st a) : CXi l yX5_off wsX5_off (rmX 1 21) [.ref (ad 0), .int (ii (z0)), .int (ii (v)), .int (ii (s0)), .int (ii (n0))] D (tyX T) (XW T ad) (alX ad) st (fun z st2 => z = -101 ∧ CI st2 a) := by
  refine mk_i (cc := cX5_off) (nL := 5) rfl rfl (XW_ok hN) (Nat.le_of_ble_eq_true rfl) [(0, .ref (ad 0)), (1, .int (ii (z0))), (2, .int (ii (v))), (3, .int (ii (s0))), (4, .int (ii (n0)))] rfl (fun p e s m args below meth c A Q E RET => ?_)
  have k1 := hC.1
  have k2 := hC.2.1
  have k3 := hC.2.2.1
  have k4 := hC.2.2.2.1
  have k5 := hC.2.2.2.2.1
  have k6 := hC.2.2.2.2.2.1
  have k7 := hC.2.2.2.2.2.2.1
  have k8 := hC.2.2.2.2.2.2.2
  have hn := k7.2.1.1
  have w0 := (k6 0 (by omega)).1
  have wb0 := (k6 0 (by omega)).2
  have hL := hC.len
  have hf := hC.lf
  have hf6 := hC.let6
  refine x_aload_n (q := 1) E dX5_off_0 0 rfl rfl ?_
  refine x_get (q := 4) E iX5_off_n_X5 (0) rfl rfl 0 (by decide) (by decide +kernel) rfl dX5_off_1 rfl ?_
  refine x_iload_n (q := 5) E dX5_off_4 1 rfl rfl ?_
  refine x_callVi (q := 8) (n := 1) (As := [.int (ii (z0))]) (r := []) E (c_X1_hasRow l D T ad hN st (z0) (by omega) (hn)) gX5_off_X1_hasRow rfl rfl rfl (by decide +kernel) ⟨Nat.le_of_ble_eq_true rfl, Nat.le_of_ble_eq_true rfl⟩ (1) rfl rfl rfl rfl (Nat.le_of_ble_eq_true rfl) dX5_off_5 rfl (fun z1 s2 q3 => ?_)
  obtain ⟨rfl, rfl⟩ := q3
  refine x_if_ne (tgt := 14) (q := 11) E dX5_off_8 (by decide) rfl (by omega) (fun c8 => ?_) (fun c8 => ?_)
  · exfalso; omega
  · refine x_bipush (q := 13) E dX5_off_11 (by decide) rfl ?_
    exact RET _ _ _ _ dX5_off_13 (⟨rfl, hC⟩)

theorem iX5_begins_X5 : ∀ w ∈ wsX50, w ∈ wsX5_begins := by decide +kernel
set_option maxRecDepth 100000 in
set_option maxHeartbeats 4000000 in
theorem c_X5_begins (l : Launch) (D : va_G) (T : Nat → ClassId) (ad : Nat → Nat) (hN : ∀ i j, i < 33 → j < 33 → ad i = ad j → i = j) (st : St_) (r : Nat) (hr : r < 3) (k : Int) (bk : -2147483648 ≤ k ∧ k < 2147483648) (hrn : (r : Int) < st.1 2) (a : AB_) (hC : CI st a) : CXi l yX5_begins wsX5_begins (rmX 5 119) [.ref (ad 0), .int (ii ((r : Int))), .int (ii (k))] D (tyX T) (XW T ad) (alX ad) st (fun z st2 => z = (if 0 ≤ k ∧ k ≤ 100000 then (if 100000 < BQ (lta a) (nxn (a.1.1 0)) r k then -1 else BQ (lta a) (nxn (a.1.1 0)) r k) else -102) ∧ CI st2 a) := by
  refine mk_i (cc := cX5_begins) (nL := 4) rfl rfl (XW_ok hN) (Nat.le_of_ble_eq_true rfl) [(0, .ref (ad 0)), (1, .int (ii ((r : Int)))), (2, .int (ii (k)))] rfl (fun p e s m args below meth c A Q E RET => ?_)
  have k1 := hC.1
  have k2 := hC.2.1
  have k3 := hC.2.2.1
  have k4 := hC.2.2.2.1
  have k5 := hC.2.2.2.2.1
  have k6 := hC.2.2.2.2.2.1
  have k7 := hC.2.2.2.2.2.2.1
  have k8 := hC.2.2.2.2.2.2.2
  have hn := k7.2.1.1
  have w0 := (k6 0 (by omega)).1
  have wb0 := (k6 0 (by omega)).2
  have hL := hC.len
  have hf := hC.lf
  have hf6 := hC.let6
  refine x_aload_n (q := 1) E dX5_begins_0 0 rfl rfl ?_
  refine x_get (q := 4) E iX5_begins_X5 (0) rfl rfl 0 (by decide) (by decide +kernel) rfl dX5_begins_1 rfl ?_
  refine x_iload_n (q := 5) E dX5_begins_4 1 rfl rfl ?_
  refine x_callVi (q := 8) (n := 1) (As := [.int (ii ((r : Int)))]) (r := []) E (c_X1_hasRow l D T ad hN st ((r : Int)) (by omega) (hn)) gX5_begins_X1_hasRow rfl rfl rfl (by decide +kernel) ⟨Nat.le_of_ble_eq_true rfl, Nat.le_of_ble_eq_true rfl⟩ (1) rfl rfl rfl rfl (Nat.le_of_ble_eq_true rfl) dX5_begins_5 rfl (fun z1 s2 q3 => ?_)
  obtain ⟨rfl, rfl⟩ := q3
  refine x_if_ne (tgt := 14) (q := 11) E dX5_begins_8 (by decide) rfl (by omega) (fun c8 => ?_) (fun c8 => ?_)
  · refine x_iload_n (q := 15) E dX5_begins_14 2 rfl rfl ?_
    refine x_ldc (q := 17) (v := 100000) (z := 100000) E (by decide +kernel) (by decide) dX5_begins_15 rfl ?_
    refine x_callSi (q := 20) (n := 2) (As := [.int (ii (k)), .int (ii (100000))]) (r := []) E (c_X5_isOutside l D T ad hN st (k) (by omega) (100000) (by omega)) gX5_begins_X5_isOutside rfl rfl rfl (by decide +kernel) ⟨Nat.le_of_ble_eq_true rfl, Nat.le_of_ble_eq_true rfl⟩ rfl rfl (Nat.le_of_ble_eq_true rfl) dX5_begins_17 rfl (fun z4 s5 q6 => ?_)
    obtain ⟨rfl, rfl⟩ := q6
    refine x_if_eq (tgt := 26) (q := 23) E dX5_begins_20 (by decide) rfl (by omega) (fun c20 => ?_) (fun c20 => ?_)
    · refine x_aload_n (q := 27) E dX5_begins_26 0 rfl rfl ?_
      refine x_get (q := 30) E iX5_begins_X5 (0) rfl rfl 0 (by decide) (by decide +kernel) rfl dX5_begins_27 rfl ?_
      refine x_aload_n (q := 31) E dX5_begins_30 0 rfl rfl ?_
      refine x_get (q := 34) E iX5_begins_X5 (0) rfl rfl 0 (by decide) (by decide +kernel) rfl dX5_begins_31 rfl ?_
      refine x_iload_n (q := 35) E dX5_begins_34 1 rfl rfl ?_
      refine x_callVi (q := 38) (n := 1) (As := [.int (ii ((r : Int)))]) (r := [.ref (ad 1)]) E (c_X1_nextOf l D T ad hN st r hr (hn)) gX5_begins_X1_nextOf rfl rfl rfl (by decide +kernel) ⟨Nat.le_of_ble_eq_true rfl, Nat.le_of_ble_eq_true rfl⟩ (1) rfl rfl rfl rfl (Nat.le_of_ble_eq_true rfl) dX5_begins_35 rfl (fun z7 s8 q9 => ?_)
      obtain ⟨rfl, rfl⟩ := q9
      refine x_iload_n (q := 39) E dX5_begins_38 2 rfl rfl ?_
      refine x_callVr (q := 42) (n := 2) (As := [.int (ii (((nxn (st.1 2) r : Nat) : Int))), .int (ii (k))]) (r := []) E (c_X1_rowOf l D T ad hN st (nxn (st.1 2) r) (by have := nxn_lt (n := st.1 2) (r := r) hn.1; omega) (k) (by omega) (nxn_lt hn.1) (by omega) (lta a) k7) gX5_begins_X1_rowOf rfl rfl rfl (by decide +kernel) ⟨Nat.le_of_ble_eq_true rfl, Nat.le_of_ble_eq_true rfl⟩ (1) rfl rfl rfl rfl (Nat.le_of_ble_eq_true rfl) dX5_begins_39 rfl (fun z10 s11 q12 => ?_)
      obtain ⟨rfl, h113, h214, h315⟩ := q12
      have g1 := h113
      have g2 := h214
      have g3 := h315
      have hC1 := CI_grw hC g2 g1
      have e0 : s11.1 2 = a.1.1 0 := hC1.1
      have hr1 : ((nxn (st.1 2) r : Nat) : Int) < s11.1 2 := by rw [e0, ← k1]; exact nxn_lt hn.1
      have d1 := RI.b g1.1 g1.2.2.2.1 hr1
      have d2 := d1.1
      have d3 := d1.2.1
      have hSq : ∀ j : Int, 0 ≤ j → j < s11.1 (7 + nxn (st.1 2) r) → s11.2 (5 + nxn (st.1 2) r) j = SQ (lta a) (nxn (a.1.1 0)) (nxn (st.1 2) r) j := fun j j0 j1 => by rw [RI.num g1.2.2.2.1 hr1 j0 j1, e0]
      have hkp := RI.kp g1.2.2.2.1 hr1
      refine x_iload_n (q := 43) E dX5_begins_42 2 rfl rfl ?_
      refine x_callVi (q := 46) (n := 1) (As := [.int (ii (k))]) (r := []) E (c_X2_sumWithin l D T ad hN s11 ((nxn (st.1 2) r)) (by omega) (k) (by omega) (by omega) (hkp) (d3) (by omega)) gX5_begins_X2_sumWithin rfl rfl rfl (by decide +kernel) ⟨Nat.le_of_ble_eq_true rfl, Nat.le_of_ble_eq_true rfl⟩ (13 + (nxn (st.1 2) r)) (xg_row (by omega)) rfl rfl rfl (Nat.le_of_ble_eq_true rfl) dX5_begins_43 rfl (fun z16 s17 q18 => ?_)
      obtain ⟨rfl, rfl⟩ := q18
      have e5 := isum_b (f := s11.2 (5 + (nxn (st.1 2) r))) (n := k) (b := 6) (by omega) (fun j j0 j1 => by have := d3 j j0 (by omega); omega)
      have e6 : BQ (lta a) (nxn (a.1.1 0)) r k = isum (s11.2 (5 + (nxn (st.1 2) r))) k := by unfold BQ; rw [← k1]; exact (isum_congr (fun j j0 j1 => by rw [hSq j j0 (by omega), k1])).symm
      refine x_istore_n (q := 47) (lv' := [(3, .int (ii (isum (s11.2 (5 + (nxn (st.1 2) r))) (k)))), (0, .ref (ad 0)), (1, .int (ii ((r : Int)))), (2, .int (ii (k)))]) E dX5_begins_46 (by decide) rfl rfl ?_
      refine x_iload_n (q := 48) E dX5_begins_47 0 rfl rfl ?_
      refine x_ldc (q := 50) (v := 100000) (z := 100000) E (by decide +kernel) (by decide) dX5_begins_48 rfl ?_
      refine x_icmp_le (tgt := 57) (q := 53) E dX5_begins_50 (by decide) rfl (by omega) (by omega) (fun c50 => ?_) (fun c50 => ?_)
      · refine x_iload_n (q := 58) E dX5_begins_57 0 rfl rfl ?_
        exact RET _ _ _ _ dX5_begins_58 (⟨by rw [if_pos (by omega), e6, if_neg (by omega)], hC1⟩)
      · refine x_iconst (q := 54) E dX5_begins_53 rfl ?_
        refine x_goto (tgt := 58) E dX5_begins_54 (by decide) ?_
        exact RET _ _ _ _ dX5_begins_58 (⟨by rw [if_pos (by omega), e6, if_pos (by omega)], hC1⟩)
    · refine x_bipush (q := 25) E dX5_begins_23 (by decide) rfl ?_
      exact RET _ _ _ _ dX5_begins_25 (⟨by rw [if_neg (by omega)], hC⟩)
  · exfalso; omega

theorem iX5_begins_n_X5 : ∀ w ∈ wsX50, w ∈ wsX5_begins := by decide +kernel
set_option maxRecDepth 100000 in
set_option maxHeartbeats 4000000 in
theorem c_X5_begins_n (l : Launch) (D : va_G) (T : Nat → ClassId) (ad : Nat → Nat) (hN : ∀ i j, i < 33 → j < 33 → ad i = ad j → i = j) (st : St_) (z0 : Int) (bz0 : -2147483648 ≤ z0 ∧ z0 < 2147483648) (k : Int) (bk : -2147483648 ≤ k ∧ k < 2147483648) (hz : z0 < 0 ∨ st.1 2 ≤ z0) (a : AB_) (hC : CI st a) : CXi l yX5_begins wsX5_begins (rmX 1 21) [.ref (ad 0), .int (ii (z0)), .int (ii (k))] D (tyX T) (XW T ad) (alX ad) st (fun z st2 => z = -101 ∧ CI st2 a) := by
  refine mk_i (cc := cX5_begins) (nL := 4) rfl rfl (XW_ok hN) (Nat.le_of_ble_eq_true rfl) [(0, .ref (ad 0)), (1, .int (ii (z0))), (2, .int (ii (k)))] rfl (fun p e s m args below meth c A Q E RET => ?_)
  have k1 := hC.1
  have k2 := hC.2.1
  have k3 := hC.2.2.1
  have k4 := hC.2.2.2.1
  have k5 := hC.2.2.2.2.1
  have k6 := hC.2.2.2.2.2.1
  have k7 := hC.2.2.2.2.2.2.1
  have k8 := hC.2.2.2.2.2.2.2
  have hn := k7.2.1.1
  have w0 := (k6 0 (by omega)).1
  have wb0 := (k6 0 (by omega)).2
  have hL := hC.len
  have hf := hC.lf
  have hf6 := hC.let6
  refine x_aload_n (q := 1) E dX5_begins_0 0 rfl rfl ?_
  refine x_get (q := 4) E iX5_begins_n_X5 (0) rfl rfl 0 (by decide) (by decide +kernel) rfl dX5_begins_1 rfl ?_
  refine x_iload_n (q := 5) E dX5_begins_4 1 rfl rfl ?_
  refine x_callVi (q := 8) (n := 1) (As := [.int (ii (z0))]) (r := []) E (c_X1_hasRow l D T ad hN st (z0) (by omega) (hn)) gX5_begins_X1_hasRow rfl rfl rfl (by decide +kernel) ⟨Nat.le_of_ble_eq_true rfl, Nat.le_of_ble_eq_true rfl⟩ (1) rfl rfl rfl rfl (Nat.le_of_ble_eq_true rfl) dX5_begins_5 rfl (fun z1 s2 q3 => ?_)
  obtain ⟨rfl, rfl⟩ := q3
  refine x_if_ne (tgt := 14) (q := 11) E dX5_begins_8 (by decide) rfl (by omega) (fun c8 => ?_) (fun c8 => ?_)
  · exfalso; omega
  · refine x_bipush (q := 13) E dX5_begins_11 (by decide) rfl ?_
    exact RET _ _ _ _ dX5_begins_13 (⟨rfl, hC⟩)

theorem iX5_add_X5 : ∀ w ∈ wsX50, w ∈ wsX5_add := by decide +kernel
set_option maxRecDepth 100000 in
set_option maxHeartbeats 4000000 in
theorem c_X5_add (l : Launch) (D : va_G) (T : Nat → ClassId) (ad : Nat → Nat) (hN : ∀ i j, i < 33 → j < 33 → ad i = ad j → i = j) (st : St_) (v : Int) (bv : -2147483648 ≤ v ∧ v < 2147483648) (a : AB_) (hC : CI st a) : CXi l yX5_add wsX5_add (rmX 1 21) [.ref (ad 0), .int (ii (v))] D (tyX T) (XW T ad) (alX ad) st (fun z st2 => z = (if 1 ≤ v ∧ v ≤ 6 then (if (a.2.length : Int) = 60 then -104 else (a.2.length : Int) + 1) else -102) ∧ CI st2 (if (1 ≤ v ∧ v ≤ 6) ∧ (a.2.length : Int) < 60 then (a.1, a.2 ++ [v]) else a)) := by
  refine mk_i (cc := cX5_add) (nL := 2) rfl rfl (XW_ok hN) (Nat.le_of_ble_eq_true rfl) [(0, .ref (ad 0)), (1, .int (ii (v)))] rfl (fun p e s m args below meth c A Q E RET => ?_)
  have k1 := hC.1
  have k2 := hC.2.1
  have k3 := hC.2.2.1
  have k4 := hC.2.2.2.1
  have k5 := hC.2.2.2.2.1
  have k6 := hC.2.2.2.2.2.1
  have k7 := hC.2.2.2.2.2.2.1
  have k8 := hC.2.2.2.2.2.2.2
  have hn := k7.2.1.1
  have w0 := (k6 0 (by omega)).1
  have wb0 := (k6 0 (by omega)).2
  have hL := hC.len
  have hf := hC.lf
  have hf6 := hC.let6
  refine x_iload_n (q := 1) E dX5_add_0 1 rfl rfl ?_
  refine x_callSi (q := 4) (n := 1) (As := [.int (ii (v))]) (r := []) E (c_X5_isLetter l D T ad hN st (v) (by omega)) gX5_add_X5_isLetter rfl rfl rfl (by decide +kernel) ⟨Nat.le_of_ble_eq_true rfl, Nat.le_of_ble_eq_true rfl⟩ rfl rfl (Nat.le_of_ble_eq_true rfl) dX5_add_1 rfl (fun z1 s2 q3 => ?_)
  obtain ⟨rfl, rfl⟩ := q3
  refine x_if_ne (tgt := 10) (q := 7) E dX5_add_4 (by decide) rfl (by omega) (fun c4 => ?_) (fun c4 => ?_)
  · refine x_aload_n (q := 11) E dX5_add_10 0 rfl rfl ?_
    refine x_get (q := 14) E iX5_add_X5 (0) rfl rfl 1 (by decide) (by decide +kernel) rfl dX5_add_11 rfl ?_
    refine x_iload_n (q := 15) E dX5_add_14 1 rfl rfl ?_
    rcases (show st.1 (10 + 0) < 60 ∨ st.1 (10 + 0) = 60 by omega) with c60 | c60
    · refine x_callVi (q := 18) (n := 1) (As := [.int (ii (v))]) (r := []) E (c_X4_put l D T ad hN st (0) (by decide) (v) (by omega) (by omega)) gX5_add_X4_put rfl rfl rfl (by decide +kernel) ⟨Nat.le_of_ble_eq_true rfl, Nat.le_of_ble_eq_true rfl⟩ (25 + 0) (xg_word (by decide)) rfl rfl rfl (Nat.le_of_ble_eq_true rfl) dX5_add_15 rfl (fun z4 s5 q6 => ?_)
      obtain ⟨rfl, rfl⟩ := q6
      refine x_if_ne (tgt := 24) (q := 21) E dX5_add_18 (by decide) rfl (by omega) (fun _ => ?_) (fun h9 => absurd h9 (by decide))
      refine x_aload_n (q := 25) E dX5_add_24 0 rfl rfl ?_
      refine x_get (q := 28) E iX5_add_X5 (0) rfl rfl 1 (by decide) (by decide +kernel) rfl dX5_add_25 rfl ?_
      refine x_callVi (q := 31) (n := 0) (As := []) (r := []) E (c_X4_size l D T ad hN (sG (sA st (14 + 0) (st.1 (10 + 0)) (v)) (10 + 0) ((st.1 (10 + 0)) + 1)) (0) (by decide)) gX5_add_X4_size rfl rfl rfl (by decide +kernel) ⟨Nat.le_of_ble_eq_true rfl, Nat.le_of_ble_eq_true rfl⟩ (25 + 0) (xg_word (by decide)) rfl rfl rfl (Nat.le_of_ble_eq_true rfl) dX5_add_28 rfl (fun z7 s8 q9 => ?_)
      obtain ⟨rfl, rfl⟩ := q9
      refine x_ti (show (sG (sA st (14 + 0) (st.1 (10 + 0)) (v)) (10 + 0) ((st.1 (10 + 0)) + 1)).1 (10 + 0) = (st.1 (10 + 0)) + 1 by rw [sG_s]) ?_
      exact RET _ _ _ _ dX5_add_31 (by first | (exfalso; omega) | exact ⟨by rw [if_pos (by omega), if_neg (by omega), hL], by rw [if_pos (by omega), show sG (sA st (14 + 0) (st.1 (10 + 0)) v) (10 + 0) (st.1 (10 + 0) + 1) = sF (sG st (10 + 0) (st.1 (10 + 0) + 1)) (14 + 0) (zup (st.2 (14 + 0)) (st.1 (10 + 0)) v) from by refine Prod.ext (funext fun k9 => ?_) (funext fun q9 => ?_) <;> simp only [sG_1, sG_2, sA_1, sA_2, sF_1, sF_2, reduceIte] <;> (repeat' split) <;> first | rfl | omega | (subst_vars; first | rfl | omega) | simp_all]; exact CI_word hC (by omega) (zup_b wb0 (by omega) (by omega)) (by rw [wl_put _ _ (by omega), k2]) (fun x hx => by rcases List.mem_append.mp hx with y | y; exact k8.2.2.2.2.1.2 x y; rw [List.mem_singleton.mp y]; omega)⟩)
    · refine x_callVi (q := 18) (n := 1) (As := [.int (ii (v))]) (r := []) E (c_X4_put_f l D T ad hN st (0) (by decide) (v) (by omega) (by omega)) gX5_add_X4_put rfl rfl rfl (by decide +kernel) ⟨Nat.le_of_ble_eq_true rfl, Nat.le_of_ble_eq_true rfl⟩ (25 + 0) (xg_word (by decide)) rfl rfl rfl (Nat.le_of_ble_eq_true rfl) dX5_add_15 rfl (fun z10 s11 q12 => ?_)
      obtain ⟨rfl, rfl⟩ := q12
      refine x_if_ne (tgt := 24) (q := 21) E dX5_add_18 (by decide) rfl (by omega) (fun h9 => absurd h9 (by decide)) (fun _ => ?_)
      refine x_bipush (q := 23) E dX5_add_21 (by decide) rfl ?_
      exact RET _ _ _ _ dX5_add_23 (by first | (exfalso; omega) | exact ⟨by rw [if_pos (by omega), if_pos (by omega)], by rw [if_neg (by omega)]; exact hC⟩)
  · refine x_bipush (q := 9) E dX5_add_7 (by decide) rfl ?_
    exact RET _ _ _ _ dX5_add_9 (⟨by rw [if_neg (by omega)], by rw [if_neg (by omega)]; exact hC⟩)

theorem iX5_clear_X5 : ∀ w ∈ wsX50, w ∈ wsX5_clear := by decide +kernel
set_option maxRecDepth 100000 in
set_option maxHeartbeats 4000000 in
theorem c_X5_clear (l : Launch) (D : va_G) (T : Nat → ClassId) (ad : Nat → Nat) (hN : ∀ i j, i < 33 → j < 33 → ad i = ad j → i = j) (st : St_) (a : AB_) (hC : CI st a) : CXi l yX5_clear wsX5_clear (rmX 1 20) [.ref (ad 0)] D (tyX T) (XW T ad) (alX ad) st (fun z st2 => z = (a.2.length : Int) ∧ CI st2 (a.1, ([] : List Int))) := by
  refine mk_i (cc := cX5_clear) (nL := 2) rfl rfl (XW_ok hN) (Nat.le_of_ble_eq_true rfl) [(0, .ref (ad 0))] rfl (fun p e s m args below meth c A Q E RET => ?_)
  have k1 := hC.1
  have k2 := hC.2.1
  have k3 := hC.2.2.1
  have k4 := hC.2.2.2.1
  have k5 := hC.2.2.2.2.1
  have k6 := hC.2.2.2.2.2.1
  have k7 := hC.2.2.2.2.2.2.1
  have k8 := hC.2.2.2.2.2.2.2
  have hn := k7.2.1.1
  have w0 := (k6 0 (by omega)).1
  have wb0 := (k6 0 (by omega)).2
  have hL := hC.len
  have hf := hC.lf
  have hf6 := hC.let6
  refine x_aload_n (q := 1) E dX5_clear_0 0 rfl rfl ?_
  refine x_get (q := 4) E iX5_clear_X5 (0) rfl rfl 1 (by decide) (by decide +kernel) rfl dX5_clear_1 rfl ?_
  refine x_callVi (q := 7) (n := 0) (As := []) (r := []) E (c_X4_size l D T ad hN st (0) (by decide)) gX5_clear_X4_size rfl rfl rfl (by decide +kernel) ⟨Nat.le_of_ble_eq_true rfl, Nat.le_of_ble_eq_true rfl⟩ (25 + 0) (xg_word (by decide)) rfl rfl rfl (Nat.le_of_ble_eq_true rfl) dX5_clear_4 rfl (fun z1 s2 q3 => ?_)
  obtain ⟨rfl, rfl⟩ := q3
  refine x_istore_n (q := 8) (lv' := [(1, .int (ii (st.1 (10 + 0)))), (0, .ref (ad 0))]) E dX5_clear_7 (by decide) rfl rfl ?_
  refine x_aload_n (q := 9) E dX5_clear_8 1 rfl rfl ?_
  refine x_get (q := 12) E iX5_clear_X5 (0) rfl rfl 1 (by decide) (by decide +kernel) rfl dX5_clear_9 rfl ?_
  refine x_callVv (q := 15) (n := 0) (As := []) (r := []) E (c_X4_empty l D T ad hN st (0) (by decide)) gX5_clear_X4_empty rfl rfl rfl (by decide +kernel) ⟨Nat.le_of_ble_eq_true rfl, Nat.le_of_ble_eq_true rfl⟩ (25 + 0) (xg_word (by decide)) rfl rfl rfl (Nat.le_of_ble_eq_true rfl) dX5_clear_12 rfl (fun s5 q6 => ?_)
  subst q6
  refine x_iload_n (q := 16) E dX5_clear_15 0 rfl rfl ?_
  exact RET _ _ _ _ dX5_clear_16 (⟨hL.symm, by rw [show sG st (10 + 0) 0 = sF (sG st (10 + 0) 0) (14 + 0) (st.2 (14 + 0)) from by refine Prod.ext (funext fun k9 => ?_) (funext fun q9 => ?_) <;> simp only [sG_1, sG_2, sA_1, sA_2, sF_1, sF_2, reduceIte] <;> (repeat' split) <;> first | rfl | omega | (subst_vars; first | rfl | omega) | simp_all]; exact CI_word hC (by omega) wb0 rfl (fun x hx => (by cases hx))⟩)

theorem iX5_letter_X5 : ∀ w ∈ wsX50, w ∈ wsX5_letter := by decide +kernel
set_option maxRecDepth 100000 in
set_option maxHeartbeats 4000000 in
theorem c_X5_letter (l : Launch) (D : va_G) (T : Nat → ClassId) (ad : Nat → Nat) (hN : ∀ i j, i < 33 → j < 33 → ad i = ad j → i = j) (st : St_) (k : Int) (bk : -2147483648 ≤ k ∧ k < 2147483648) (a : AB_) (hC : CI st a) : CXi l yX5_letter wsX5_letter (rmX 1 21) [.ref (ad 0), .int (ii (k))] D (tyX T) (XW T ad) (alX ad) st (fun z st2 => z = (if 0 ≤ k ∧ k < (a.2.length : Int) then (lf a.2) k else -1) ∧ CI st2 a) := by
  refine mk_i (cc := cX5_letter) (nL := 2) rfl rfl (XW_ok hN) (Nat.le_of_ble_eq_true rfl) [(0, .ref (ad 0)), (1, .int (ii (k)))] rfl (fun p e s m args below meth c A Q E RET => ?_)
  have k1 := hC.1
  have k2 := hC.2.1
  have k3 := hC.2.2.1
  have k4 := hC.2.2.2.1
  have k5 := hC.2.2.2.2.1
  have k6 := hC.2.2.2.2.2.1
  have k7 := hC.2.2.2.2.2.2.1
  have k8 := hC.2.2.2.2.2.2.2
  have hn := k7.2.1.1
  have w0 := (k6 0 (by omega)).1
  have wb0 := (k6 0 (by omega)).2
  have hL := hC.len
  have hf := hC.lf
  have hf6 := hC.let6
  refine x_aload_n (q := 1) E dX5_letter_0 0 rfl rfl ?_
  refine x_get (q := 4) E iX5_letter_X5 (0) rfl rfl 1 (by decide) (by decide +kernel) rfl dX5_letter_1 rfl ?_
  refine x_iload_n (q := 5) E dX5_letter_4 1 rfl rfl ?_
  refine x_callVi (q := 8) (n := 1) (As := [.int (ii (k))]) (r := []) E (c_X4_letterAt l D T ad hN st (0) (by decide) (k) (by omega) (by omega)) gX5_letter_X4_letterAt rfl rfl rfl (by decide +kernel) ⟨Nat.le_of_ble_eq_true rfl, Nat.le_of_ble_eq_true rfl⟩ (25 + 0) (xg_word (by decide)) rfl rfl rfl (Nat.le_of_ble_eq_true rfl) dX5_letter_5 rfl (fun z1 s2 q3 => ?_)
  obtain ⟨rfl, rfl⟩ := q3
  exact RET _ _ _ _ dX5_letter_8 (⟨by unfold wat; by_cases h : 0 ≤ k ∧ k < st.1 (10 + 0); rw [if_pos (by omega), if_pos (by omega)]; exact (hf k h.1 h.2).symm; rw [if_neg (by omega), if_neg (by omega)], hC⟩)

theorem iX5_runs_X5 : ∀ w ∈ wsX50, w ∈ wsX5_runs := by decide +kernel
set_option maxRecDepth 100000 in
set_option maxHeartbeats 4000000 in
theorem c_X5_runs (l : Launch) (D : va_G) (T : Nat → ClassId) (ad : Nat → Nat) (hN : ∀ i j, i < 33 → j < 33 → ad i = ad j → i = j) (st : St_) (a : AB_) (hC : CI st a) : CXi l yX5_runs wsX5_runs (rmX 3 64) [.ref (ad 0)] D (tyX T) (XW T ad) (alX ad) st (fun z st2 => z = chg (lf a.2) (a.2.length : Int) ∧ CI st2 a) := by
  refine mk_i (cc := cX5_runs) (nL := 1) rfl rfl (XW_ok hN) (Nat.le_of_ble_eq_true rfl) [(0, .ref (ad 0))] rfl (fun p e s m args below meth c A Q E RET => ?_)
  have k1 := hC.1
  have k2 := hC.2.1
  have k3 := hC.2.2.1
  have k4 := hC.2.2.2.1
  have k5 := hC.2.2.2.2.1
  have k6 := hC.2.2.2.2.2.1
  have k7 := hC.2.2.2.2.2.2.1
  have k8 := hC.2.2.2.2.2.2.2
  have hn := k7.2.1.1
  have w0 := (k6 0 (by omega)).1
  have wb0 := (k6 0 (by omega)).2
  have hL := hC.len
  have hf := hC.lf
  have hf6 := hC.let6
  refine x_aload_n (q := 1) E dX5_runs_0 0 rfl rfl ?_
  refine x_get (q := 4) E iX5_runs_X5 (0) rfl rfl 1 (by decide) (by decide +kernel) rfl dX5_runs_1 rfl ?_
  refine x_callVi (q := 7) (n := 0) (As := []) (r := []) E (c_X4_runsInIt l D T ad hN st (0) (by decide) (by omega) (wb0)) gX5_runs_X4_runsInIt rfl rfl rfl (by decide +kernel) ⟨Nat.le_of_ble_eq_true rfl, Nat.le_of_ble_eq_true rfl⟩ (25 + 0) (xg_word (by decide)) rfl rfl rfl (Nat.le_of_ble_eq_true rfl) dX5_runs_4 rfl (fun z1 s2 q3 => ?_)
  obtain ⟨rfl, rfl⟩ := q3
  exact RET _ _ _ _ dX5_runs_7 (⟨by rw [hL]; exact (chg_congr (fun j j0 j1 => hf j j0 j1)).symm, hC⟩)

theorem iX5_shorten_X5 : ∀ w ∈ wsX50, w ∈ wsX5_shorten := by decide +kernel
set_option maxRecDepth 100000 in
set_option maxHeartbeats 4000000 in
theorem c_X5_shorten (l : Launch) (D : va_G) (T : Nat → ClassId) (ad : Nat → Nat) (hN : ∀ i j, i < 33 → j < 33 → ad i = ad j → i = j) (st : St_) (g0 : Int) (bg0 : -2147483648 ≤ g0 ∧ g0 < 2147483648) (a : AB_) (hC : CI st a) : CXi l yX5_shorten wsX5_shorten (rmX 3 68) [.ref (ad 0), .int (ii (g0))] D (tyX T) (XW T ad) (alX ad) st (fun z st2 => z = (if 1 ≤ g0 ∧ g0 ≤ 6 then (if 6 < lg (lf a.2) (a.2.length : Int) then -103 else ((sh g0 (runs (lf a.2) (a.2.length : Int))).length : Int)) else -102) ∧ CI st2 (if (1 ≤ g0 ∧ g0 ≤ 6) ∧ ¬ 6 < lg (lf a.2) (a.2.length : Int) then (a.1, sh g0 (runs (lf a.2) (a.2.length : Int))) else a)) := by
  refine mk_i (cc := cX5_shorten) (nL := 2) rfl rfl (XW_ok hN) (Nat.le_of_ble_eq_true rfl) [(0, .ref (ad 0)), (1, .int (ii (g0)))] rfl (fun p e s m args below meth c A Q E RET => ?_)
  have k1 := hC.1
  have k2 := hC.2.1
  have k3 := hC.2.2.1
  have k4 := hC.2.2.2.1
  have k5 := hC.2.2.2.2.1
  have k6 := hC.2.2.2.2.2.1
  have k7 := hC.2.2.2.2.2.2.1
  have k8 := hC.2.2.2.2.2.2.2
  have hn := k7.2.1.1
  have w0 := (k6 0 (by omega)).1
  have wb0 := (k6 0 (by omega)).2
  have hL := hC.len
  have hf := hC.lf
  have hf6 := hC.let6
  refine x_iload_n (q := 1) E dX5_shorten_0 1 rfl rfl ?_
  refine x_callSi (q := 4) (n := 1) (As := [.int (ii (g0))]) (r := []) E (c_X5_isLetter l D T ad hN st (g0) (by omega)) gX5_shorten_X5_isLetter rfl rfl rfl (by decide +kernel) ⟨Nat.le_of_ble_eq_true rfl, Nat.le_of_ble_eq_true rfl⟩ rfl rfl (Nat.le_of_ble_eq_true rfl) dX5_shorten_1 rfl (fun z1 s2 q3 => ?_)
  obtain ⟨rfl, rfl⟩ := q3
  refine x_if_ne (tgt := 10) (q := 7) E dX5_shorten_4 (by decide) rfl (by omega) (fun c4 => ?_) (fun c4 => ?_)
  · have e1 : lg (lf a.2) (a.2.length : Int) = lg (st.2 (14 + 0)) (st.1 (10 + 0)) := by rw [hL]; exact lg_congr (fun j j0 j1 => hf j j0 j1)
    have e2 : runs (lf a.2) (a.2.length : Int) = runs (st.2 (14 + 0)) (st.1 (10 + 0)) := by rw [hL]; exact runs_congr (fun j j0 j1 => hf j j0 j1)
    have e3 := lg_b (st.2 (14 + 0)) (k := st.1 (10 + 0)) w0.1
    refine x_aload_n (q := 11) E dX5_shorten_10 0 rfl rfl ?_
    refine x_get (q := 14) E iX5_shorten_X5 (0) rfl rfl 1 (by decide) (by decide +kernel) rfl dX5_shorten_11 rfl ?_
    refine x_callVi (q := 17) (n := 0) (As := []) (r := []) E (c_X4_longestRun l D T ad hN st (0) (by decide) (by omega) (wb0)) gX5_shorten_X4_longestRun rfl rfl rfl (by decide +kernel) ⟨Nat.le_of_ble_eq_true rfl, Nat.le_of_ble_eq_true rfl⟩ (25 + 0) (xg_word (by decide)) rfl rfl rfl (Nat.le_of_ble_eq_true rfl) dX5_shorten_14 rfl (fun z4 s5 q6 => ?_)
    obtain ⟨rfl, rfl⟩ := q6
    refine x_bipush (q := 19) E dX5_shorten_17 (by decide) rfl ?_
    refine x_icmp_le (tgt := 25) (q := 22) E dX5_shorten_19 (by decide) rfl (by omega) (by omega) (fun c19 => ?_) (fun c19 => ?_)
    · refine x_aload_n (q := 26) E dX5_shorten_25 0 rfl rfl ?_
      refine x_get (q := 29) E iX5_shorten_X5 (0) rfl rfl 1 (by decide) (by decide +kernel) rfl dX5_shorten_26 rfl ?_
      refine x_iload_n (q := 30) E dX5_shorten_29 1 rfl rfl ?_
      refine x_callVv (q := 33) (n := 1) (As := [.int (ii (g0))]) (r := []) E (c_X4_becomeShorter l D T ad hN st (0) (by decide) (g0) (by omega) (by omega) (wb0)) gX5_shorten_X4_becomeShorter rfl rfl rfl (by decide +kernel) ⟨Nat.le_of_ble_eq_true rfl, Nat.le_of_ble_eq_true rfl⟩ (25 + 0) (xg_word (by decide)) rfl rfl rfl (Nat.le_of_ble_eq_true rfl) dX5_shorten_30 rfl (fun s8 q9 => ?_)
      obtain ⟨k10, f11, rfl, h112, h213, h314⟩ := q9
      refine x_aload_n (q := 34) E dX5_shorten_33 0 rfl rfl ?_
      refine x_get (q := 37) E iX5_shorten_X5 (0) rfl rfl 1 (by decide) (by decide +kernel) rfl dX5_shorten_34 rfl ?_
      refine x_callVi (q := 40) (n := 0) (As := []) (r := []) E (c_X4_size l D T ad hN (sF (sG st (10 + 0) (k10)) (14 + 0) (f11)) (0) (by decide)) gX5_shorten_X4_size rfl rfl rfl (by decide +kernel) ⟨Nat.le_of_ble_eq_true rfl, Nat.le_of_ble_eq_true rfl⟩ (25 + 0) (xg_word (by decide)) rfl rfl rfl (Nat.le_of_ble_eq_true rfl) dX5_shorten_37 rfl (fun z15 s16 q17 => ?_)
      obtain ⟨rfl, rfl⟩ := q17
      refine x_ti (show (sF (sG st (10 + 0) (k10)) (14 + 0) (f11)).1 (10 + 0) = k10 by rw [sF_1, sG_s]) ?_
      exact RET _ _ _ _ dX5_shorten_40 (by have q1 := h112; have q2 := h213; have q3 := h314; exact ⟨by rw [if_pos (by omega), if_neg (by omega), e2, ← q2]; exact (wl_len _ q1.1).symm, by rw [if_pos (by omega), e2]; exact CI_word hC (by omega) q3 q2 (sh_letters (f := st.2 (14 + 0)) w0.1 (by omega))⟩)
    · refine x_bipush (q := 24) E dX5_shorten_22 (by decide) rfl ?_
      exact RET _ _ _ _ dX5_shorten_24 (⟨by rw [if_pos (by omega), if_pos (by omega)], by rw [if_neg (by omega)]; exact hC⟩)
  · refine x_bipush (q := 9) E dX5_shorten_7 (by decide) rfl ?_
    exact RET _ _ _ _ dX5_shorten_9 (⟨by rw [if_neg (by omega)], by rw [if_neg (by omega)]; exact hC⟩)

theorem iX5_mirror_X5 : ∀ w ∈ wsX50, w ∈ wsX5_mirror := by decide +kernel
set_option maxRecDepth 100000 in
set_option maxHeartbeats 4000000 in
theorem c_X5_mirror (l : Launch) (D : va_G) (T : Nat → ClassId) (ad : Nat → Nat) (hN : ∀ i j, i < 33 → j < 33 → ad i = ad j → i = j) (st : St_) (a : AB_) (hC : CI st a) : CXi l yX5_mirror wsX5_mirror (rmX 2 45) [.ref (ad 0)] D (tyX T) (XW T ad) (alX ad) st (fun z st2 => z = (a.2.length : Int) ∧ CI st2 (a.1, wl (fun j => (lf a.2) ((a.2.length : Int) - 1 - j)) (a.2.length : Int))) := by
  refine mk_i (cc := cX5_mirror) (nL := 1) rfl rfl (XW_ok hN) (Nat.le_of_ble_eq_true rfl) [(0, .ref (ad 0))] rfl (fun p e s m args below meth c A Q E RET => ?_)
  have k1 := hC.1
  have k2 := hC.2.1
  have k3 := hC.2.2.1
  have k4 := hC.2.2.2.1
  have k5 := hC.2.2.2.2.1
  have k6 := hC.2.2.2.2.2.1
  have k7 := hC.2.2.2.2.2.2.1
  have k8 := hC.2.2.2.2.2.2.2
  have hn := k7.2.1.1
  have w0 := (k6 0 (by omega)).1
  have wb0 := (k6 0 (by omega)).2
  have hL := hC.len
  have hf := hC.lf
  have hf6 := hC.let6
  refine x_aload_n (q := 1) E dX5_mirror_0 0 rfl rfl ?_
  refine x_get (q := 4) E iX5_mirror_X5 (0) rfl rfl 1 (by decide) (by decide +kernel) rfl dX5_mirror_1 rfl ?_
  refine x_callVv (q := 7) (n := 0) (As := []) (r := []) E (c_X4_turnRound l D T ad hN st (0) (by decide) (by omega) (wb0)) gX5_mirror_X4_turnRound rfl rfl rfl (by decide +kernel) ⟨Nat.le_of_ble_eq_true rfl, Nat.le_of_ble_eq_true rfl⟩ (25 + 0) (xg_word (by decide)) rfl rfl rfl (Nat.le_of_ble_eq_true rfl) dX5_mirror_4 rfl (fun s2 q3 => ?_)
  obtain ⟨f4, rfl, h15, h26⟩ := q3
  refine x_aload_n (q := 8) E dX5_mirror_7 0 rfl rfl ?_
  refine x_get (q := 11) E iX5_mirror_X5 (0) rfl rfl 1 (by decide) (by decide +kernel) rfl dX5_mirror_8 rfl ?_
  refine x_callVi (q := 14) (n := 0) (As := []) (r := []) E (c_X4_size l D T ad hN (sF st (14 + 0) (f4)) (0) (by decide)) gX5_mirror_X4_size rfl rfl rfl (by decide +kernel) ⟨Nat.le_of_ble_eq_true rfl, Nat.le_of_ble_eq_true rfl⟩ (25 + 0) (xg_word (by decide)) rfl rfl rfl (Nat.le_of_ble_eq_true rfl) dX5_mirror_11 rfl (fun z7 s8 q9 => ?_)
  obtain ⟨rfl, rfl⟩ := q9
  refine x_ti (show (sF st (14 + 0) (f4)).1 (10 + 0) = st.1 (10 + 0) by rw [sF_1]) ?_
  exact RET _ _ _ _ dX5_mirror_14 (by have q1 := h15; have q2 := h26; exact ⟨hL.symm, by rw [show sF st (14 + 0) f4 = sF (sG st (10 + 0) (st.1 (10 + 0))) (14 + 0) f4 from by refine Prod.ext (funext fun k9 => ?_) (funext fun q9 => ?_) <;> simp only [sG_1, sG_2, sA_1, sA_2, sF_1, sF_2, reduceIte] <;> (repeat' split) <;> first | rfl | omega | (subst_vars; first | rfl | omega) | simp_all, hL]; exact CI_word hC (by omega) q2 (wl_congr (fun j j0 j1 => by rw [q1 j j0 j1]; exact (hf _ (by omega) (by omega)).symm)) (wl_letters (fun j j0 j1 => by rw [hf _ (by omega) (by omega)]; exact hf6 _ (by omega) (by omega)))⟩)


