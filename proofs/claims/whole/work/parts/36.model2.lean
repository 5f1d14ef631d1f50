set_option maxRecDepth 100000 in
set_option maxHeartbeats 4000000 in
theorem c_X6_at (l : Launch) (D : va_G) (T : Nat → ClassId) (ad : Nat → Nat) (hN : ∀ i j, i < 13 → j < 13 → ad i = ad j → i = j) (st : St_) (r : Nat) (hr : r < 3) (k : Int) (bk : -2147483648 ≤ k ∧ k < 2147483648) (hrn : (r : Int) < st.1 0) (a : AB_) (hI : MI st a) : CXi l yX6_at wsX6_at (rmX 2 50) [.ref (ad 0), .int (ii ((r : Int))), .int (ii (k))] D (tyX T) (MW T ad) (alM ad) st (fun z st2 => z = (if 0 ≤ k ∧ k ≤ 100000 then (SQ (lta a) (nxn (a.1.1 0)) r) k else -102) ∧ MI st2 a) := by
  refine mk_i (cc := cX6_at) (nL := 3) rfl rfl (MW_ok hN) (Nat.le_of_ble_eq_true rfl) [(0, .ref (ad 0)), (1, .int (ii ((r : Int)))), (2, .int (ii (k)))] rfl (fun p e s m args below meth c A Q E RET => ?_)
  have k1 := hI.1
  have k2 := hI.2.1
  have k3 := hI.2.2.1
  have k4 := hI.2.2.2.1
  have k5 := hI.2.2.2.2.1
  have k6 := hI.2.2.2.2.2.1
  have k7 := hI.2.2.2.2.2.2.1
  have k8 := hI.2.2.2.2.2.2.2
  have hn := k7.2.1.1
  have hL := hI.len
  have hf := hI.lf
  have hf6 := hI.let6
  refine x_aload_n (q := 1) E dX6_at_0 0 rfl rfl ?_
  refine x_iload_n (q := 2) E dX6_at_1 1 rfl rfl ?_
  refine x_callVi (q := 5) (n := 1) (As := [.int (ii ((r : Int)))]) (r := []) E (c_X6_isRow l D T ad hN st ((r : Int)) (by omega) (hn)) gX6_at_X6_isRow rfl rfl rfl (by decide +kernel) ⟨Nat.le_of_ble_eq_true rfl, Nat.le_of_ble_eq_true rfl⟩ (0) rfl rfl rfl rfl (Nat.le_of_ble_eq_true rfl) dX6_at_2 rfl (fun z1 s2 q3 => ?_)
  obtain ⟨rfl, rfl⟩ := q3
  refine x_if_ne (tgt := 11) (q := 8) E dX6_at_5 (by decide) rfl (by omega) (fun c5 => ?_) (fun c5 => ?_)
  · refine x_iload_n (q := 12) E dX6_at_11 2 rfl rfl ?_
    refine x_callSi (q := 15) (n := 1) (As := [.int (ii (k))]) (r := []) E (c_X6_isPlace l D T ad hN st (k) (by omega)) gX6_at_X6_isPlace rfl rfl rfl (by decide +kernel) ⟨Nat.le_of_ble_eq_true rfl, Nat.le_of_ble_eq_true rfl⟩ rfl rfl (Nat.le_of_ble_eq_true rfl) dX6_at_12 rfl (fun z4 s5 q6 => ?_)
    obtain ⟨rfl, rfl⟩ := q6
    refine x_if_ne (tgt := 21) (q := 18) E dX6_at_15 (by decide) rfl (by omega) (fun c15 => ?_) (fun c15 => ?_)
    · refine x_aload_n (q := 22) E dX6_at_21 0 rfl rfl ?_
      refine x_iload_n (q := 23) E dX6_at_22 1 rfl rfl ?_
      refine x_iload_n (q := 24) E dX6_at_23 2 rfl rfl ?_
      refine x_callVv (q := 27) (n := 2) (As := [.int (ii ((r : Int))), .int (ii (k))]) (r := []) E (c_X6_make l D T ad hN st r hr (k) (by omega) (by omega) (by omega) (lta a) k7) gX6_at_X6_make rfl rfl rfl (by decide +kernel) ⟨Nat.le_of_ble_eq_true rfl, Nat.le_of_ble_eq_true rfl⟩ (0) rfl rfl rfl rfl (Nat.le_of_ble_eq_true rfl) dX6_at_24 rfl (fun s8 q9 => ?_)
      obtain ⟨h110, h211, h312, h413⟩ := q9
      have g1 := h110
      have g2 := h211
      have g3 := h312
      have g4 := h413
      have hI1 := MI_frm hI g2 g1
      have e0 : s8.1 0 = a.1.1 0 := hI1.1
      have hr1 : (r : Int) < s8.1 0 := by rw [e0, ← k1]; exact hrn
      have hSq : ∀ j : Int, 0 ≤ j → j < s8.2 6 (r : Int) → s8.2 (3 + r) j = SQ (lta a) (nxn (a.1.1 0)) r j := fun j j0 j1 => by rw [MH.rows g1 g3 hr1 j j0 j1, e0]
      have hS6 : ∀ j : Int, 0 ≤ j → 1 ≤ SQ (lta a) (nxn (a.1.1 0)) r j ∧ SQ (lta a) (nxn (a.1.1 0)) r j ≤ 6 := fun j j0 => ⟨SQ_pos g1.1.pos r j j0, SQ_le (fun x y hy => (g1.1.1 x y hy).2) r j j0⟩
      refine x_aload_n (q := 28) E dX6_at_27 0 rfl rfl ?_
      refine x_iload_n (q := 29) E dX6_at_28 1 rfl rfl ?_
      refine x_iload_n (q := 30) E dX6_at_29 2 rfl rfl ?_
      refine x_callVi (q := 33) (n := 2) (As := [.int (ii ((r : Int))), .int (ii (k))]) (r := []) E (c_X6_number l D T ad hN s8 r hr (k) (by omega) (by omega)) gX6_at_X6_number rfl rfl rfl (by decide +kernel) ⟨Nat.le_of_ble_eq_true rfl, Nat.le_of_ble_eq_true rfl⟩ (0) rfl rfl rfl rfl (Nat.le_of_ble_eq_true rfl) dX6_at_30 rfl (fun z14 s15 q16 => ?_)
      obtain ⟨rfl, rfl⟩ := q16
      exact RET _ _ _ _ dX6_at_33 (⟨by rw [if_pos (by omega)]; exact hSq k (by omega) (by omega), hI1⟩)
    · refine x_bipush (q := 20) E dX6_at_18 (by decide) rfl ?_
      exact RET _ _ _ _ dX6_at_20 (⟨by rw [if_neg (by omega)], hI⟩)
  · exfalso; omega

set_option maxRecDepth 100000 in
set_option maxHeartbeats 4000000 in
theorem c_X6_at_n (l : Launch) (D : va_G) (T : Nat → ClassId) (ad : Nat → Nat) (hN : ∀ i j, i < 13 → j < 13 → ad i = ad j → i = j) (st : St_) (z0 : Int) (bz0 : -2147483648 ≤ z0 ∧ z0 < 2147483648) (k : Int) (bk : -2147483648 ≤ k ∧ k < 2147483648) (hz : z0 < 0 ∨ st.1 0 ≤ z0) (a : AB_) (hI : MI st a) : CXi l yX6_at wsX6_at (rmX 2 46) [.ref (ad 0), .int (ii (z0)), .int (ii (k))] D (tyX T) (MW T ad) (alM ad) st (fun z st2 => z = -101 ∧ MI st2 a) := by
  refine mk_i (cc := cX6_at) (nL := 3) rfl rfl (MW_ok hN) (Nat.le_of_ble_eq_true rfl) [(0, .ref (ad 0)), (1, .int (ii (z0))), (2, .int (ii (k)))] rfl (fun p e s m args below meth c A Q E RET => ?_)
  have k1 := hI.1
  have k2 := hI.2.1
  have k3 := hI.2.2.1
  have k4 := hI.2.2.2.1
  have k5 := hI.2.2.2.2.1
  have k6 := hI.2.2.2.2.2.1
  have k7 := hI.2.2.2.2.2.2.1
  have k8 := hI.2.2.2.2.2.2.2
  have hn := k7.2.1.1
  have hL := hI.len
  have hf := hI.lf
  have hf6 := hI.let6
  refine x_aload_n (q := 1) E dX6_at_0 0 rfl rfl ?_
  refine x_iload_n (q := 2) E dX6_at_1 1 rfl rfl ?_
  refine x_callVi (q := 5) (n := 1) (As := [.int (ii (z0))]) (r := []) E (c_X6_isRow l D T ad hN st (z0) (by omega) (hn)) gX6_at_X6_isRow rfl rfl rfl (by decide +kernel) ⟨Nat.le_of_ble_eq_true rfl, Nat.le_of_ble_eq_true rfl⟩ (0) rfl rfl rfl rfl (Nat.le_of_ble_eq_true rfl) dX6_at_2 rfl (fun z1 s2 q3 => ?_)
  obtain ⟨rfl, rfl⟩ := q3
  refine x_if_ne (tgt := 11) (q := 8) E dX6_at_5 (by decide) rfl (by omega) (fun c5 => ?_) (fun c5 => ?_)
  · exfalso; omega
  · refine x_bipush (q := 10) E dX6_at_8 (by decide) rfl ?_
    exact RET _ _ _ _ dX6_at_10 (⟨rfl, hI⟩)

set_option maxRecDepth 100000 in
set_option maxHeartbeats 4000000 in
theorem c_X6_count (l : Launch) (D : va_G) (T : Nat → ClassId) (ad : Nat → Nat) (hN : ∀ i j, i < 13 → j < 13 → ad i = ad j → i = j) (st : St_) (r : Nat) (hr : r < 3) (v : Int) (bv : -2147483648 ≤ v ∧ v < 2147483648) (n0 : Int) (bn0 : -2147483648 ≤ n0 ∧ n0 < 2147483648) (hrn : (r : Int) < st.1 0) (a : AB_) (hI : MI st a) : CXi l yX6_count wsX6_count (rmX 2 50) [.ref (ad 0), .int (ii ((r : Int))), .int (ii (v)), .int (ii (n0))] D (tyX T) (MW T ad) (alM ad) st (fun z st2 => z = (if 0 ≤ n0 ∧ n0 ≤ 100000 then cntv (SQ (lta a) (nxn (a.1.1 0)) r) v n0 else -102) ∧ MI st2 a) := by
  refine mk_i (cc := cX6_count) (nL := 6) rfl rfl (MW_ok hN) (Nat.le_of_ble_eq_true rfl) [(0, .ref (ad 0)), (1, .int (ii ((r : Int)))), (2, .int (ii (v))), (3, .int (ii (n0)))] rfl (fun p e s m args below meth c A Q E RET => ?_)
  have k1 := hI.1
  have k2 := hI.2.1
  have k3 := hI.2.2.1
  have k4 := hI.2.2.2.1
  have k5 := hI.2.2.2.2.1
  have k6 := hI.2.2.2.2.2.1
  have k7 := hI.2.2.2.2.2.2.1
  have k8 := hI.2.2.2.2.2.2.2
  have hn := k7.2.1.1
  have hL := hI.len
  have hf := hI.lf
  have hf6 := hI.let6
  refine x_aload_n (q := 1) E dX6_count_0 0 rfl rfl ?_
  refine x_iload_n (q := 2) E dX6_count_1 1 rfl rfl ?_
  refine x_callVi (q := 5) (n := 1) (As := [.int (ii ((r : Int)))]) (r := []) E (c_X6_isRow l D T ad hN st ((r : Int)) (by omega) (hn)) gX6_count_X6_isRow rfl rfl rfl (by decide +kernel) ⟨Nat.le_of_ble_eq_true rfl, Nat.le_of_ble_eq_true rfl⟩ (0) rfl rfl rfl rfl (Nat.le_of_ble_eq_true rfl) dX6_count_2 rfl (fun z1 s2 q3 => ?_)
  obtain ⟨rfl, rfl⟩ := q3
  refine x_if_ne (tgt := 11) (q := 8) E dX6_count_5 (by decide) rfl (by omega) (fun c5 => ?_) (fun c5 => ?_)
  · refine x_iload_n (q := 12) E dX6_count_11 3 rfl rfl ?_
    refine x_callSi (q := 15) (n := 1) (As := [.int (ii (n0))]) (r := []) E (c_X6_isPlace l D T ad hN st (n0) (by omega)) gX6_count_X6_isPlace rfl rfl rfl (by decide +kernel) ⟨Nat.le_of_ble_eq_true rfl, Nat.le_of_ble_eq_true rfl⟩ rfl rfl (Nat.le_of_ble_eq_true rfl) dX6_count_12 rfl (fun z4 s5 q6 => ?_)
    obtain ⟨rfl, rfl⟩ := q6
    refine x_if_ne (tgt := 21) (q := 18) E dX6_count_15 (by decide) rfl (by omega) (fun c15 => ?_) (fun c15 => ?_)
    · refine x_aload_n (q := 22) E dX6_count_21 0 rfl rfl ?_
      refine x_iload_n (q := 23) E dX6_count_22 1 rfl rfl ?_
      refine x_iload_n (q := 24) E dX6_count_23 3 rfl rfl ?_
      refine x_iconst (q := 25) E dX6_count_24 rfl ?_
      refine x_isub (q := 26) E dX6_count_25 rfl ?_
      refine x_callVv (q := 29) (n := 2) (As := [.int (ii ((r : Int))), .int (ii ((n0) - (1)))]) (r := []) E (c_X6_make l D T ad hN st r hr ((n0) - (1)) (by omega) (by omega) (by omega) (lta a) k7) gX6_count_X6_make rfl rfl rfl (by decide +kernel) ⟨Nat.le_of_ble_eq_true rfl, Nat.le_of_ble_eq_true rfl⟩ (0) rfl rfl rfl rfl (Nat.le_of_ble_eq_true rfl) dX6_count_26 rfl (fun s8 q9 => ?_)
      obtain ⟨h110, h211, h312, h413⟩ := q9
      have g1 := h110
      have g2 := h211
      have g3 := h312
      have g4 := h413
      have hI1 := MI_frm hI g2 g1
      have e0 : s8.1 0 = a.1.1 0 := hI1.1
      have hr1 : (r : Int) < s8.1 0 := by rw [e0, ← k1]; exact hrn
      have hSq : ∀ j : Int, 0 ≤ j → j < s8.2 6 (r : Int) → s8.2 (3 + r) j = SQ (lta a) (nxn (a.1.1 0)) r j := fun j j0 j1 => by rw [MH.rows g1 g3 hr1 j j0 j1, e0]
      have hS6 : ∀ j : Int, 0 ≤ j → 1 ≤ SQ (lta a) (nxn (a.1.1 0)) r j ∧ SQ (lta a) (nxn (a.1.1 0)) r j ≤ 6 := fun j j0 => ⟨SQ_pos g1.1.pos r j j0, SQ_le (fun x y hy => (g1.1.1 x y hy).2) r j j0⟩
      refine x_iconst (q := 30) E dX6_count_29 rfl ?_
      refine x_istore (q := 32) (lv' := [(4, .int (ii (0))), (0, .ref (ad 0)), (1, .int (ii ((r : Int)))), (2, .int (ii (v))), (3, .int (ii (n0)))]) E dX6_count_30 (by decide) rfl rfl ?_
      refine x_iconst (q := 33) E dX6_count_32 rfl ?_
      refine x_istore (q := 35) (lv' := [(5, .int (ii (0))), (4, .int (ii (0))), (0, .ref (ad 0)), (1, .int (ii ((r : Int)))), (2, .int (ii (v))), (3, .int (ii (n0)))]) E dX6_count_33 (by decide) rfl rfl ?_
      have L35 : ∀ (n : Nat) (t : Int) (k : Int), (n0 - k).toNat < n → (0 ≤ k ∧ k ≤ n0) → (t = cntv (SQ (lta a) (nxn (a.1.1 0)) r) v k) → XJ p l e (rmX 2 50) s m args below meth c D (MW T ad) A 6 Q 0 0 s8 35 [(0, .ref (ad 0)), (1, .int (ii ((r : Int)))), (2, .int (ii (v))), (3, .int (ii (n0))), (4, .int (ii (t))), (5, .int (ii (k)))] [] := by
        intro n
        induction n with
        | zero => intro t k hn; exact absurd hn (Nat.not_lt_zero _)
        | succ n ih35 =>
          intro t k hn35 a1 a2
          refine x_iload (q := 37) E dX6_count_35 5 rfl rfl ?_
          refine x_iload_n (q := 38) E dX6_count_37 3 rfl rfl ?_
          refine x_icmp_ge (tgt := 68) (q := 41) E dX6_count_38 (by decide) rfl (by omega) (by omega) (fun c38 => ?_) (fun c38 => ?_)
          · refine x_iload (q := 70) E dX6_count_68 4 rfl rfl ?_
            exact RET _ _ _ _ dX6_count_70 (⟨by rw [if_pos (by omega), a2]; exact congrArg _ (by omega), hI1⟩)
          · have e2 := hS6 k (by omega)
            refine x_iload (q := 43) E dX6_count_41 4 rfl rfl ?_
            refine x_aload_n (q := 44) E dX6_count_43 0 rfl rfl ?_
            refine x_iload_n (q := 45) E dX6_count_44 1 rfl rfl ?_
            refine x_iload (q := 47) E dX6_count_45 5 rfl rfl ?_
            refine x_callVi (q := 50) (n := 2) (As := [.int (ii ((r : Int))), .int (ii (k))]) (r := [.int (ii (t))]) E (c_X6_number l D T ad hN s8 r hr (k) (by omega) (by omega)) gX6_count_X6_number rfl rfl rfl (by decide +kernel) ⟨Nat.le_of_ble_eq_true rfl, Nat.le_of_ble_eq_true rfl⟩ (0) rfl rfl rfl rfl (Nat.le_of_ble_eq_true rfl) dX6_count_47 rfl (fun z14 s15 q16 => ?_)
            obtain ⟨rfl, rfl⟩ := q16
            refine x_ti (show s8.2 (3 + r) (k) = SQ (lta a) (nxn (a.1.1 0)) r (k) from hSq _ (by omega) (by omega)) ?_
            refine x_iload_n (q := 51) E dX6_count_50 2 rfl rfl ?_
            refine x_icmp_ne (tgt := 58) (q := 54) E dX6_count_51 (by decide) rfl (by omega) (by omega) (fun c51 => ?_) (fun c51 => ?_)
            · refine x_iconst (q := 59) E dX6_count_58 rfl ?_
              refine x_iadd (q := 60) E dX6_count_59 rfl ?_
              refine x_istore (q := 62) (lv' := [(4, .int (ii ((t) + (0)))), (0, .ref (ad 0)), (1, .int (ii ((r : Int)))), (2, .int (ii (v))), (3, .int (ii (n0))), (5, .int (ii (k)))]) E dX6_count_60 (by decide) rfl rfl ?_
              refine x_iinc (q := 65) (k := 5) (lv' := [(5, .int (ii (k + 1))), (4, .int (ii ((t) + (0)))), (0, .ref (ad 0)), (1, .int (ii ((r : Int)))), (2, .int (ii (v))), (3, .int (ii (n0)))]) E dX6_count_62 rfl (by decide) rfl rfl ?_
              refine x_goto (tgt := 35) E dX6_count_65 (by decide) ?_
              refine x_lv E (lv' := [(0, .ref (ad 0)), (1, .int (ii ((r : Int)))), (2, .int (ii (v))), (3, .int (ii (n0))), (4, .int (ii ((t) + (0)))), (5, .int (ii (k + 1)))]) [2, 3, 4, 5, 1, 0] rfl ?_
              exact ih35 ((t) + (0)) (k + 1) (by omega) (by omega) (by rw [cntv_s _ _ (by omega), if_neg c51, ← a2])
            · refine x_iconst (q := 55) E dX6_count_54 rfl ?_
              refine x_goto (tgt := 59) E dX6_count_55 (by decide) ?_
              refine x_iadd (q := 60) E dX6_count_59 rfl ?_
              refine x_istore (q := 62) (lv' := [(4, .int (ii ((t) + (1)))), (0, .ref (ad 0)), (1, .int (ii ((r : Int)))), (2, .int (ii (v))), (3, .int (ii (n0))), (5, .int (ii (k)))]) E dX6_count_60 (by decide) rfl rfl ?_
              refine x_iinc (q := 65) (k := 5) (lv' := [(5, .int (ii (k + 1))), (4, .int (ii ((t) + (1)))), (0, .ref (ad 0)), (1, .int (ii ((r : Int)))), (2, .int (ii (v))), (3, .int (ii (n0)))]) E dX6_count_62 rfl (by decide) rfl rfl ?_
              refine x_goto (tgt := 35) E dX6_count_65 (by decide) ?_
              refine x_lv E (lv' := [(0, .ref (ad 0)), (1, .int (ii ((r : Int)))), (2, .int (ii (v))), (3, .int (ii (n0))), (4, .int (ii ((t) + (1)))), (5, .int (ii (k + 1)))]) [2, 3, 4, 5, 1, 0] rfl ?_
              exact ih35 ((t) + (1)) (k + 1) (by omega) (by omega) (by rw [cntv_s _ _ (by omega), if_pos (Classical.byContradiction c51), ← a2])
      refine x_lv E (lv' := [(0, .ref (ad 0)), (1, .int (ii ((r : Int)))), (2, .int (ii (v))), (3, .int (ii (n0))), (4, .int (ii (0))), (5, .int (ii (0)))]) [2, 3, 4, 5, 1, 0] rfl ?_
      exact L35 _ (0) (0) (Nat.lt_succ_self _) (by omega) (rfl)
    · refine x_bipush (q := 20) E dX6_count_18 (by decide) rfl ?_
      exact RET _ _ _ _ dX6_count_20 (⟨by rw [if_neg (by omega)], hI⟩)
  · exfalso; omega

set_option maxRecDepth 100000 in
set_option maxHeartbeats 4000000 in
theorem c_X6_count_n (l : Launch) (D : va_G) (T : Nat → ClassId) (ad : Nat → Nat) (hN : ∀ i j, i < 13 → j < 13 → ad i = ad j → i = j) (st : St_) (z0 : Int) (bz0 : -2147483648 ≤ z0 ∧ z0 < 2147483648) (v : Int) (bv : -2147483648 ≤ v ∧ v < 2147483648) (n0 : Int) (bn0 : -2147483648 ≤ n0 ∧ n0 < 2147483648) (hz : z0 < 0 ∨ st.1 0 ≤ z0) (a : AB_) (hI : MI st a) : CXi l yX6_count wsX6_count (rmX 2 46) [.ref (ad 0), .int (ii (z0)), .int (ii (v)), .int (ii (n0))] D (tyX T) (MW T ad) (alM ad) st (fun z st2 => z = -101 ∧ MI st2 a) := by
  refine mk_i (cc := cX6_count) (nL := 6) rfl rfl (MW_ok hN) (Nat.le_of_ble_eq_true rfl) [(0, .ref (ad 0)), (1, .int (ii (z0))), (2, .int (ii (v))), (3, .int (ii (n0)))] rfl (fun p e s m args below meth c A Q E RET => ?_)
  have k1 := hI.1
  have k2 := hI.2.1
  have k3 := hI.2.2.1
  have k4 := hI.2.2.2.1
  have k5 := hI.2.2.2.2.1
  have k6 := hI.2.2.2.2.2.1
  have k7 := hI.2.2.2.2.2.2.1
  have k8 := hI.2.2.2.2.2.2.2
  have hn := k7.2.1.1
  have hL := hI.len
  have hf := hI.lf
  have hf6 := hI.let6
  refine x_aload_n (q := 1) E dX6_count_0 0 rfl rfl ?_
  refine x_iload_n (q := 2) E dX6_count_1 1 rfl rfl ?_
  refine x_callVi (q := 5) (n := 1) (As := [.int (ii (z0))]) (r := []) E (c_X6_isRow l D T ad hN st (z0) (by omega) (hn)) gX6_count_X6_isRow rfl rfl rfl (by decide +kernel) ⟨Nat.le_of_ble_eq_true rfl, Nat.le_of_ble_eq_true rfl⟩ (0) rfl rfl rfl rfl (Nat.le_of_ble_eq_true rfl) dX6_count_2 rfl (fun z1 s2 q3 => ?_)
  obtain ⟨rfl, rfl⟩ := q3
  refine x_if_ne (tgt := 11) (q := 8) E dX6_count_5 (by decide) rfl (by omega) (fun c5 => ?_) (fun c5 => ?_)
  · exfalso; omega
  · refine x_bipush (q := 10) E dX6_count_8 (by decide) rfl ?_
    exact RET _ _ _ _ dX6_count_10 (⟨rfl, hI⟩)

set_option maxRecDepth 100000 in
set_option maxHeartbeats 4000000 in
theorem c_X6_sum (l : Launch) (D : va_G) (T : Nat → ClassId) (ad : Nat → Nat) (hN : ∀ i j, i < 13 → j < 13 → ad i = ad j → i = j) (st : St_) (r : Nat) (hr : r < 3) (n0 : Int) (bn0 : -2147483648 ≤ n0 ∧ n0 < 2147483648) (hrn : (r : Int) < st.1 0) (a : AB_) (hI : MI st a) : CXi l yX6_sum wsX6_sum (rmX 2 50) [.ref (ad 0), .int (ii ((r : Int))), .int (ii (n0))] D (tyX T) (MW T ad) (alM ad) st (fun z st2 => z = (if 0 ≤ n0 ∧ n0 ≤ 100000 then isum (SQ (lta a) (nxn (a.1.1 0)) r) n0 else -102) ∧ MI st2 a) := by
  refine mk_i (cc := cX6_sum) (nL := 5) rfl rfl (MW_ok hN) (Nat.le_of_ble_eq_true rfl) [(0, .ref (ad 0)), (1, .int (ii ((r : Int)))), (2, .int (ii (n0)))] rfl (fun p e s m args below meth c A Q E RET => ?_)
  have k1 := hI.1
  have k2 := hI.2.1
  have k3 := hI.2.2.1
  have k4 := hI.2.2.2.1
  have k5 := hI.2.2.2.2.1
  have k6 := hI.2.2.2.2.2.1
  have k7 := hI.2.2.2.2.2.2.1
  have k8 := hI.2.2.2.2.2.2.2
  have hn := k7.2.1.1
  have hL := hI.len
  have hf := hI.lf
  have hf6 := hI.let6
  refine x_aload_n (q := 1) E dX6_sum_0 0 rfl rfl ?_
  refine x_iload_n (q := 2) E dX6_sum_1 1 rfl rfl ?_
  refine x_callVi (q := 5) (n := 1) (As := [.int (ii ((r : Int)))]) (r := []) E (c_X6_isRow l D T ad hN st ((r : Int)) (by omega) (hn)) gX6_sum_X6_isRow rfl rfl rfl (by decide +kernel) ⟨Nat.le_of_ble_eq_true rfl, Nat.le_of_ble_eq_true rfl⟩ (0) rfl rfl rfl rfl (Nat.le_of_ble_eq_true rfl) dX6_sum_2 rfl (fun z1 s2 q3 => ?_)
  obtain ⟨rfl, rfl⟩ := q3
  refine x_if_ne (tgt := 11) (q := 8) E dX6_sum_5 (by decide) rfl (by omega) (fun c5 => ?_) (fun c5 => ?_)
  · refine x_iload_n (q := 12) E dX6_sum_11 2 rfl rfl ?_
    refine x_callSi (q := 15) (n := 1) (As := [.int (ii (n0))]) (r := []) E (c_X6_isPlace l D T ad hN st (n0) (by omega)) gX6_sum_X6_isPlace rfl rfl rfl (by decide +kernel) ⟨Nat.le_of_ble_eq_true rfl, Nat.le_of_ble_eq_true rfl⟩ rfl rfl (Nat.le_of_ble_eq_true rfl) dX6_sum_12 rfl (fun z4 s5 q6 => ?_)
    obtain ⟨rfl, rfl⟩ := q6
    refine x_if_ne (tgt := 21) (q := 18) E dX6_sum_15 (by decide) rfl (by omega) (fun c15 => ?_) (fun c15 => ?_)
    · refine x_aload_n (q := 22) E dX6_sum_21 0 rfl rfl ?_
      refine x_iload_n (q := 23) E dX6_sum_22 1 rfl rfl ?_
      refine x_iload_n (q := 24) E dX6_sum_23 2 rfl rfl ?_
      refine x_iconst (q := 25) E dX6_sum_24 rfl ?_
      refine x_isub (q := 26) E dX6_sum_25 rfl ?_
      refine x_callVv (q := 29) (n := 2) (As := [.int (ii ((r : Int))), .int (ii ((n0) - (1)))]) (r := []) E (c_X6_make l D T ad hN st r hr ((n0) - (1)) (by omega) (by omega) (by omega) (lta a) k7) gX6_sum_X6_make rfl rfl rfl (by decide +kernel) ⟨Nat.le_of_ble_eq_true rfl, Nat.le_of_ble_eq_true rfl⟩ (0) rfl rfl rfl rfl (Nat.le_of_ble_eq_true rfl) dX6_sum_26 rfl (fun s8 q9 => ?_)
      obtain ⟨h110, h211, h312, h413⟩ := q9
      have g1 := h110
      have g2 := h211
      have g3 := h312
      have g4 := h413
      have hI1 := MI_frm hI g2 g1
      have e0 : s8.1 0 = a.1.1 0 := hI1.1
      have hr1 : (r : Int) < s8.1 0 := by rw [e0, ← k1]; exact hrn
      have hSq : ∀ j : Int, 0 ≤ j → j < s8.2 6 (r : Int) → s8.2 (3 + r) j = SQ (lta a) (nxn (a.1.1 0)) r j := fun j j0 j1 => by rw [MH.rows g1 g3 hr1 j j0 j1, e0]
      have hS6 : ∀ j : Int, 0 ≤ j → 1 ≤ SQ (lta a) (nxn (a.1.1 0)) r j ∧ SQ (lta a) (nxn (a.1.1 0)) r j ≤ 6 := fun j j0 => ⟨SQ_pos g1.1.pos r j j0, SQ_le (fun x y hy => (g1.1.1 x y hy).2) r j j0⟩
      refine x_iconst (q := 30) E dX6_sum_29 rfl ?_
      refine x_istore_n (q := 31) (lv' := [(3, .int (ii (0))), (0, .ref (ad 0)), (1, .int (ii ((r : Int)))), (2, .int (ii (n0)))]) E dX6_sum_30 (by decide) rfl rfl ?_
      refine x_iconst (q := 32) E dX6_sum_31 rfl ?_
      refine x_istore (q := 34) (lv' := [(4, .int (ii (0))), (3, .int (ii (0))), (0, .ref (ad 0)), (1, .int (ii ((r : Int)))), (2, .int (ii (n0)))]) E dX6_sum_32 (by decide) rfl rfl ?_
      have L34 : ∀ (n : Nat) (t : Int) (k : Int), (n0 - k).toNat < n → (0 ≤ k ∧ k ≤ n0) → (t = isum (SQ (lta a) (nxn (a.1.1 0)) r) k) → XJ p l e (rmX 2 50) s m args below meth c D (MW T ad) A 5 Q 0 0 s8 34 [(0, .ref (ad 0)), (1, .int (ii ((r : Int)))), (2, .int (ii (n0))), (3, .int (ii (t))), (4, .int (ii (k)))] [] := by
        intro n
        induction n with
        | zero => intro t k hn; exact absurd hn (Nat.not_lt_zero _)
        | succ n ih34 =>
          intro t k hn34 a1 a2
          refine x_iload (q := 36) E dX6_sum_34 4 rfl rfl ?_
          refine x_iload_n (q := 37) E dX6_sum_36 2 rfl rfl ?_
          refine x_icmp_ge (tgt := 56) (q := 40) E dX6_sum_37 (by decide) rfl (by omega) (by omega) (fun c37 => ?_) (fun c37 => ?_)
          · refine x_iload_n (q := 57) E dX6_sum_56 3 rfl rfl ?_
            exact RET _ _ _ _ dX6_sum_57 (⟨by rw [if_pos (by omega), a2]; exact congrArg _ (by omega), hI1⟩)
          · refine x_iload_n (q := 41) E dX6_sum_40 3 rfl rfl ?_
            refine x_aload_n (q := 42) E dX6_sum_41 0 rfl rfl ?_
            refine x_iload_n (q := 43) E dX6_sum_42 1 rfl rfl ?_
            refine x_iload (q := 45) E dX6_sum_43 4 rfl rfl ?_
            refine x_callVi (q := 48) (n := 2) (As := [.int (ii ((r : Int))), .int (ii (k))]) (r := [.int (ii (t))]) E (c_X6_number l D T ad hN s8 r hr (k) (by omega) (by omega)) gX6_sum_X6_number rfl rfl rfl (by decide +kernel) ⟨Nat.le_of_ble_eq_true rfl, Nat.le_of_ble_eq_true rfl⟩ (0) rfl rfl rfl rfl (Nat.le_of_ble_eq_true rfl) dX6_sum_45 rfl (fun z14 s15 q16 => ?_)
            obtain ⟨rfl, rfl⟩ := q16
            refine x_ti (show s8.2 (3 + r) (k) = SQ (lta a) (nxn (a.1.1 0)) r (k) from hSq _ (by omega) (by omega)) ?_
            refine x_iadd (q := 49) E dX6_sum_48 rfl ?_
            refine x_istore_n (q := 50) (lv' := [(3, .int (ii ((t) + (SQ (lta a) (nxn (a.1.1 0)) r (k))))), (0, .ref (ad 0)), (1, .int (ii ((r : Int)))), (2, .int (ii (n0))), (4, .int (ii (k)))]) E dX6_sum_49 (by decide) rfl rfl ?_
            refine x_iinc (q := 53) (k := 4) (lv' := [(4, .int (ii (k + 1))), (3, .int (ii ((t) + (SQ (lta a) (nxn (a.1.1 0)) r (k))))), (0, .ref (ad 0)), (1, .int (ii ((r : Int)))), (2, .int (ii (n0)))]) E dX6_sum_50 rfl (by decide) rfl rfl ?_
            refine x_goto (tgt := 34) E dX6_sum_53 (by decide) ?_
            refine x_lv E (lv' := [(0, .ref (ad 0)), (1, .int (ii ((r : Int)))), (2, .int (ii (n0))), (3, .int (ii ((t) + (SQ (lta a) (nxn (a.1.1 0)) r (k))))), (4, .int (ii (k + 1)))]) [2, 3, 4, 1, 0] rfl ?_
            exact ih34 ((t) + (SQ (lta a) (nxn (a.1.1 0)) r (k))) (k + 1) (by omega) (by omega) (by rw [isum_s _ (by omega), ← a2])
      refine x_lv E (lv' := [(0, .ref (ad 0)), (1, .int (ii ((r : Int)))), (2, .int (ii (n0))), (3, .int (ii (0))), (4, .int (ii (0)))]) [2, 3, 4, 1, 0] rfl ?_
      exact L34 _ (0) (0) (Nat.lt_succ_self _) (by omega) (rfl)
    · refine x_bipush (q := 20) E dX6_sum_18 (by decide) rfl ?_
      exact RET _ _ _ _ dX6_sum_20 (⟨by rw [if_neg (by omega)], hI⟩)
  · exfalso; omega

set_option maxRecDepth 100000 in
set_option maxHeartbeats 4000000 in
theorem c_X6_sum_n (l : Launch) (D : va_G) (T : Nat → ClassId) (ad : Nat → Nat) (hN : ∀ i j, i < 13 → j < 13 → ad i = ad j → i = j) (st : St_) (z0 : Int) (bz0 : -2147483648 ≤ z0 ∧ z0 < 2147483648) (n0 : Int) (bn0 : -2147483648 ≤ n0 ∧ n0 < 2147483648) (hz : z0 < 0 ∨ st.1 0 ≤ z0) (a : AB_) (hI : MI st a) : CXi l yX6_sum wsX6_sum (rmX 2 46) [.ref (ad 0), .int (ii (z0)), .int (ii (n0))] D (tyX T) (MW T ad) (alM ad) st (fun z st2 => z = -101 ∧ MI st2 a) := by
  refine mk_i (cc := cX6_sum) (nL := 5) rfl rfl (MW_ok hN) (Nat.le_of_ble_eq_true rfl) [(0, .ref (ad 0)), (1, .int (ii (z0))), (2, .int (ii (n0)))] rfl (fun p e s m args below meth c A Q E RET => ?_)
  have k1 := hI.1
  have k2 := hI.2.1
  have k3 := hI.2.2.1
  have k4 := hI.2.2.2.1
  have k5 := hI.2.2.2.2.1
  have k6 := hI.2.2.2.2.2.1
  have k7 := hI.2.2.2.2.2.2.1
  have k8 := hI.2.2.2.2.2.2.2
  have hn := k7.2.1.1
  have hL := hI.len
  have hf := hI.lf
  have hf6 := hI.let6
  refine x_aload_n (q := 1) E dX6_sum_0 0 rfl rfl ?_
  refine x_iload_n (q := 2) E dX6_sum_1 1 rfl rfl ?_
  refine x_callVi (q := 5) (n := 1) (As := [.int (ii (z0))]) (r := []) E (c_X6_isRow l D T ad hN st (z0) (by omega) (hn)) gX6_sum_X6_isRow rfl rfl rfl (by decide +kernel) ⟨Nat.le_of_ble_eq_true rfl, Nat.le_of_ble_eq_true rfl⟩ (0) rfl rfl rfl rfl (Nat.le_of_ble_eq_true rfl) dX6_sum_2 rfl (fun z1 s2 q3 => ?_)
  obtain ⟨rfl, rfl⟩ := q3
  refine x_if_ne (tgt := 11) (q := 8) E dX6_sum_5 (by decide) rfl (by omega) (fun c5 => ?_) (fun c5 => ?_)
  · exfalso; omega
  · refine x_bipush (q := 10) E dX6_sum_8 (by decide) rfl ?_
    exact RET _ _ _ _ dX6_sum_10 (⟨rfl, hI⟩)

set_option maxRecDepth 100000 in
set_option maxHeartbeats 4000000 in
theorem c_X6_run (l : Launch) (D : va_G) (T : Nat → ClassId) (ad : Nat → Nat) (hN : ∀ i j, i < 13 → j < 13 → ad i = ad j → i = j) (st : St_) (r : Nat) (hr : r < 3) (k : Int) (bk : -2147483648 ≤ k ∧ k < 2147483648) (hrn : (r : Int) < st.1 0) (a : AB_) (hI : MI st a) : CXi l yX6_run wsX6_run (rmX 2 50) [.ref (ad 0), .int (ii ((r : Int))), .int (ii (k))] D (tyX T) (MW T ad) (alM ad) st (fun z st2 => z = (if 0 ≤ k ∧ k ≤ 100000 then chg (SQ (lta a) (nxn (a.1.1 0)) r) (k + 1) - 1 else -102) ∧ MI st2 a) := by
  refine mk_i (cc := cX6_run) (nL := 5) rfl rfl (MW_ok hN) (Nat.le_of_ble_eq_true rfl) [(0, .ref (ad 0)), (1, .int (ii ((r : Int)))), (2, .int (ii (k)))] rfl (fun p e s m args below meth c A Q E RET => ?_)
  have k1 := hI.1
  have k2 := hI.2.1
  have k3 := hI.2.2.1
  have k4 := hI.2.2.2.1
  have k5 := hI.2.2.2.2.1
  have k6 := hI.2.2.2.2.2.1
  have k7 := hI.2.2.2.2.2.2.1
  have k8 := hI.2.2.2.2.2.2.2
  have hn := k7.2.1.1
  have hL := hI.len
  have hf := hI.lf
  have hf6 := hI.let6
  refine x_aload_n (q := 1) E dX6_run_0 0 rfl rfl ?_
  refine x_iload_n (q := 2) E dX6_run_1 1 rfl rfl ?_
  refine x_callVi (q := 5) (n := 1) (As := [.int (ii ((r : Int)))]) (r := []) E (c_X6_isRow l D T ad hN st ((r : Int)) (by omega) (hn)) gX6_run_X6_isRow rfl rfl rfl (by decide +kernel) ⟨Nat.le_of_ble_eq_true rfl, Nat.le_of_ble_eq_true rfl⟩ (0) rfl rfl rfl rfl (Nat.le_of_ble_eq_true rfl) dX6_run_2 rfl (fun z1 s2 q3 => ?_)
  obtain ⟨rfl, rfl⟩ := q3
  refine x_if_ne (tgt := 11) (q := 8) E dX6_run_5 (by decide) rfl (by omega) (fun c5 => ?_) (fun c5 => ?_)
  · refine x_iload_n (q := 12) E dX6_run_11 2 rfl rfl ?_
    refine x_callSi (q := 15) (n := 1) (As := [.int (ii (k))]) (r := []) E (c_X6_isPlace l D T ad hN st (k) (by omega)) gX6_run_X6_isPlace rfl rfl rfl (by decide +kernel) ⟨Nat.le_of_ble_eq_true rfl, Nat.le_of_ble_eq_true rfl⟩ rfl rfl (Nat.le_of_ble_eq_true rfl) dX6_run_12 rfl (fun z4 s5 q6 => ?_)
    obtain ⟨rfl, rfl⟩ := q6
    refine x_if_ne (tgt := 21) (q := 18) E dX6_run_15 (by decide) rfl (by omega) (fun c15 => ?_) (fun c15 => ?_)
    · refine x_aload_n (q := 22) E dX6_run_21 0 rfl rfl ?_
      refine x_iload_n (q := 23) E dX6_run_22 1 rfl rfl ?_
      refine x_iload_n (q := 24) E dX6_run_23 2 rfl rfl ?_
      refine x_callVv (q := 27) (n := 2) (As := [.int (ii ((r : Int))), .int (ii (k))]) (r := []) E (c_X6_make l D T ad hN st r hr (k) (by omega) (by omega) (by omega) (lta a) k7) gX6_run_X6_make rfl rfl rfl (by decide +kernel) ⟨Nat.le_of_ble_eq_true rfl, Nat.le_of_ble_eq_true rfl⟩ (0) rfl rfl rfl rfl (Nat.le_of_ble_eq_true rfl) dX6_run_24 rfl (fun s8 q9 => ?_)
      obtain ⟨h110, h211, h312, h413⟩ := q9
      have g1 := h110
      have g2 := h211
      have g3 := h312
      have g4 := h413
      have hI1 := MI_frm hI g2 g1
      have e0 : s8.1 0 = a.1.1 0 := hI1.1
      have hr1 : (r : Int) < s8.1 0 := by rw [e0, ← k1]; exact hrn
      have hSq : ∀ j : Int, 0 ≤ j → j < s8.2 6 (r : Int) → s8.2 (3 + r) j = SQ (lta a) (nxn (a.1.1 0)) r j := fun j j0 j1 => by rw [MH.rows g1 g3 hr1 j j0 j1, e0]
      have hS6 : ∀ j : Int, 0 ≤ j → 1 ≤ SQ (lta a) (nxn (a.1.1 0)) r j ∧ SQ (lta a) (nxn (a.1.1 0)) r j ≤ 6 := fun j j0 => ⟨SQ_pos g1.1.pos r j j0, SQ_le (fun x y hy => (g1.1.1 x y hy).2) r j j0⟩
      refine x_iconst (q := 28) E dX6_run_27 rfl ?_
      refine x_istore_n (q := 29) (lv' := [(3, .int (ii (0))), (0, .ref (ad 0)), (1, .int (ii ((r : Int)))), (2, .int (ii (k)))]) E dX6_run_28 (by decide) rfl rfl ?_
      refine x_iconst (q := 30) E dX6_run_29 rfl ?_
      refine x_istore (q := 32) (lv' := [(4, .int (ii (1))), (3, .int (ii (0))), (0, .ref (ad 0)), (1, .int (ii ((r : Int)))), (2, .int (ii (k)))]) E dX6_run_30 (by decide) rfl rfl ?_
      have L32 : ∀ (n : Nat) (t : Int) (i : Int), (k + 1 - i).toNat < n → (1 ≤ i ∧ i ≤ k + 1) → (t = chg (SQ (lta a) (nxn (a.1.1 0)) r) i - 1) → XJ p l e (rmX 2 50) s m args below meth c D (MW T ad) A 5 Q 0 0 s8 32 [(0, .ref (ad 0)), (1, .int (ii ((r : Int)))), (2, .int (ii (k))), (3, .int (ii (t))), (4, .int (ii (i)))] [] := by
        intro n
        induction n with
        | zero => intro t i hn; exact absurd hn (Nat.not_lt_zero _)
        | succ n ih32 =>
          intro t i hn32 a1 a2
          refine x_iload (q := 34) E dX6_run_32 4 rfl rfl ?_
          refine x_iload_n (q := 35) E dX6_run_34 2 rfl rfl ?_
          refine x_icmp_gt (tgt := 71) (q := 38) E dX6_run_35 (by decide) rfl (by omega) (by omega) (fun c35 => ?_) (fun c35 => ?_)
          · refine x_iload_n (q := 72) E dX6_run_71 3 rfl rfl ?_
            exact RET _ _ _ _ dX6_run_72 (⟨by rw [if_pos (by omega), a2, show i = k + 1 from by omega], hI1⟩)
          · have e2 := hS6 i (by omega)
            have e3 := hS6 (i - 1) (by omega)
            refine x_iload_n (q := 39) E dX6_run_38 3 rfl rfl ?_
            refine x_aload_n (q := 40) E dX6_run_39 0 rfl rfl ?_
            refine x_iload_n (q := 41) E dX6_run_40 1 rfl rfl ?_
            refine x_iload (q := 43) E dX6_run_41 4 rfl rfl ?_
            refine x_callVi (q := 46) (n := 2) (As := [.int (ii ((r : Int))), .int (ii (i))]) (r := [.int (ii (t))]) E (c_X6_number l D T ad hN s8 r hr (i) (by omega) (by omega)) gX6_run_X6_number rfl rfl rfl (by decide +kernel) ⟨Nat.le_of_ble_eq_true rfl, Nat.le_of_ble_eq_true rfl⟩ (0) rfl rfl rfl rfl (Nat.le_of_ble_eq_true rfl) dX6_run_43 rfl (fun z14 s15 q16 => ?_)
            obtain ⟨rfl, rfl⟩ := q16
            refine x_ti (show s8.2 (3 + r) (i) = SQ (lta a) (nxn (a.1.1 0)) r (i) from hSq _ (by omega) (by omega)) ?_
            refine x_aload_n (q := 47) E dX6_run_46 0 rfl rfl ?_
            refine x_iload_n (q := 48) E dX6_run_47 1 rfl rfl ?_
            refine x_iload (q := 50) E dX6_run_48 4 rfl rfl ?_
            refine x_iconst (q := 51) E dX6_run_50 rfl ?_
            refine x_isub (q := 52) E dX6_run_51 rfl ?_
            refine x_callVi (q := 55) (n := 2) (As := [.int (ii ((r : Int))), .int (ii ((i) - (1)))]) (r := [.int (ii (SQ (lta a) (nxn (a.1.1 0)) r (i))), .int (ii (t))]) E (c_X6_number l D T ad hN s8 r hr ((i) - (1)) (by omega) (by omega)) gX6_run_X6_number rfl rfl rfl (by decide +kernel) ⟨Nat.le_of_ble_eq_true rfl, Nat.le_of_ble_eq_true rfl⟩ (0) rfl rfl rfl rfl (Nat.le_of_ble_eq_true rfl) dX6_run_52 rfl (fun z17 s18 q19 => ?_)
            obtain ⟨rfl, rfl⟩ := q19
            refine x_ti (show s8.2 (3 + r) ((i) - (1)) = SQ (lta a) (nxn (a.1.1 0)) r (i - 1) from hSq _ (by omega) (by omega)) ?_
            refine x_icmp_ne (tgt := 62) (q := 58) E dX6_run_55 (by decide) rfl (by omega) (by omega) (fun c55 => ?_) (fun c55 => ?_)
            · refine x_iconst (q := 63) E dX6_run_62 rfl ?_
              refine x_iadd (q := 64) E dX6_run_63 rfl ?_
              refine x_istore_n (q := 65) (lv' := [(3, .int (ii ((t) + (1)))), (0, .ref (ad 0)), (1, .int (ii ((r : Int)))), (2, .int (ii (k))), (4, .int (ii (i)))]) E dX6_run_64 (by decide) rfl rfl ?_
              refine x_iinc (q := 68) (k := 4) (lv' := [(4, .int (ii (i + 1))), (3, .int (ii ((t) + (1)))), (0, .ref (ad 0)), (1, .int (ii ((r : Int)))), (2, .int (ii (k)))]) E dX6_run_65 rfl (by decide) rfl rfl ?_
              refine x_goto (tgt := 32) E dX6_run_68 (by decide) ?_
              refine x_lv E (lv' := [(0, .ref (ad 0)), (1, .int (ii ((r : Int)))), (2, .int (ii (k))), (3, .int (ii ((t) + (1)))), (4, .int (ii (i + 1)))]) [2, 3, 4, 1, 0] rfl ?_
              exact ih32 ((t) + (1)) (i + 1) (by omega) (by omega) (by rw [chg_s _ (by omega), if_pos (Or.inr c55), a2]; omega)
            · refine x_iconst (q := 59) E dX6_run_58 rfl ?_
              refine x_goto (tgt := 63) E dX6_run_59 (by decide) ?_
              refine x_iadd (q := 64) E dX6_run_63 rfl ?_
              refine x_istore_n (q := 65) (lv' := [(3, .int (ii ((t) + (0)))), (0, .ref (ad 0)), (1, .int (ii ((r : Int)))), (2, .int (ii (k))), (4, .int (ii (i)))]) E dX6_run_64 (by decide) rfl rfl ?_
              refine x_iinc (q := 68) (k := 4) (lv' := [(4, .int (ii (i + 1))), (3, .int (ii ((t) + (0)))), (0, .ref (ad 0)), (1, .int (ii ((r : Int)))), (2, .int (ii (k)))]) E dX6_run_65 rfl (by decide) rfl rfl ?_
              refine x_goto (tgt := 32) E dX6_run_68 (by decide) ?_
              refine x_lv E (lv' := [(0, .ref (ad 0)), (1, .int (ii ((r : Int)))), (2, .int (ii (k))), (3, .int (ii ((t) + (0)))), (4, .int (ii (i + 1)))]) [2, 3, 4, 1, 0] rfl ?_
              exact ih32 ((t) + (0)) (i + 1) (by omega) (by omega) (by rw [chg_s _ (by omega), if_neg (fun y => y.elim (fun w => by omega) (fun w => w (Classical.byContradiction c55))), a2]; omega)
      refine x_lv E (lv' := [(0, .ref (ad 0)), (1, .int (ii ((r : Int)))), (2, .int (ii (k))), (3, .int (ii (0))), (4, .int (ii (1)))]) [2, 3, 4, 1, 0] rfl ?_
      exact L32 _ (0) (1) (Nat.lt_succ_self _) (by omega) (by rw [show (1 : Int) = 0 + 1 from rfl, chg_s _ (by omega), if_pos (Or.inl rfl)]; rfl)
    · refine x_bipush (q := 20) E dX6_run_18 (by decide) rfl ?_
      exact RET _ _ _ _ dX6_run_20 (⟨by rw [if_neg (by omega)], hI⟩)
  · exfalso; omega

set_option maxRecDepth 100000 in
set_option maxHeartbeats 4000000 in
theorem c_X6_run_n (l : Launch) (D : va_G) (T : Nat → ClassId) (ad : Nat → Nat) (hN : ∀ i j, i < 13 → j < 13 → ad i = ad j → i = j) (st : St_) (z0 : Int) (bz0 : -2147483648 ≤ z0 ∧ z0 < 2147483648) (k : Int) (bk : -2147483648 ≤ k ∧ k < 2147483648) (hz : z0 < 0 ∨ st.1 0 ≤ z0) (a : AB_) (hI : MI st a) : CXi l yX6_run wsX6_run (rmX 2 46) [.ref (ad 0), .int (ii (z0)), .int (ii (k))] D (tyX T) (MW T ad) (alM ad) st (fun z st2 => z = -101 ∧ MI st2 a) := by
  refine mk_i (cc := cX6_run) (nL := 5) rfl rfl (MW_ok hN) (Nat.le_of_ble_eq_true rfl) [(0, .ref (ad 0)), (1, .int (ii (z0))), (2, .int (ii (k)))] rfl (fun p e s m args below meth c A Q E RET => ?_)
  have k1 := hI.1
  have k2 := hI.2.1
  have k3 := hI.2.2.1
  have k4 := hI.2.2.2.1
  have k5 := hI.2.2.2.2.1
  have k6 := hI.2.2.2.2.2.1
  have k7 := hI.2.2.2.2.2.2.1
  have k8 := hI.2.2.2.2.2.2.2
  have hn := k7.2.1.1
  have hL := hI.len
  have hf := hI.lf
  have hf6 := hI.let6
  refine x_aload_n (q := 1) E dX6_run_0 0 rfl rfl ?_
  refine x_iload_n (q := 2) E dX6_run_1 1 rfl rfl ?_
  refine x_callVi (q := 5) (n := 1) (As := [.int (ii (z0))]) (r := []) E (c_X6_isRow l D T ad hN st (z0) (by omega) (hn)) gX6_run_X6_isRow rfl rfl rfl (by decide +kernel) ⟨Nat.le_of_ble_eq_true rfl, Nat.le_of_ble_eq_true rfl⟩ (0) rfl rfl rfl rfl (Nat.le_of_ble_eq_true rfl) dX6_run_2 rfl (fun z1 s2 q3 => ?_)
  obtain ⟨rfl, rfl⟩ := q3
  refine x_if_ne (tgt := 11) (q := 8) E dX6_run_5 (by decide) rfl (by omega) (fun c5 => ?_) (fun c5 => ?_)
  · exfalso; omega
  · refine x_bipush (q := 10) E dX6_run_8 (by decide) rfl ?_
    exact RET _ _ _ _ dX6_run_10 (⟨rfl, hI⟩)

set_option maxRecDepth 100000 in
set_option maxHeartbeats 4000000 in
theorem c_X6_off (l : Launch) (D : va_G) (T : Nat → ClassId) (ad : Nat → Nat) (hN : ∀ i j, i < 13 → j < 13 → ad i = ad j → i = j) (st : St_) (r : Nat) (hr : r < 3) (v : Int) (bv : -2147483648 ≤ v ∧ v < 2147483648) (s0 : Int) (bs0 : -2147483648 ≤ s0 ∧ s0 < 2147483648) (n0 : Int) (bn0 : -2147483648 ≤ n0 ∧ n0 < 2147483648) (hrn : (r : Int) < st.1 0) (a : AB_) (hI : MI st a) : CXi l yX6_off wsX6_off (rmX 2 50) [.ref (ad 0), .int (ii ((r : Int))), .int (ii (v)), .int (ii (s0)), .int (ii (n0))] D (tyX T) (MW T ad) (alM ad) st (fun z st2 => z = (if (0 ≤ n0 ∧ n0 ≤ 100000) ∧ 2 ≤ s0 ∧ s0 ≤ 6 then ofn (SQ (lta a) (nxn (a.1.1 0)) r) v s0 n0 else -102) ∧ MI st2 a) := by
  refine mk_i (cc := cX6_off) (nL := 9) rfl rfl (MW_ok hN) (Nat.le_of_ble_eq_true rfl) [(0, .ref (ad 0)), (1, .int (ii ((r : Int)))), (2, .int (ii (v))), (3, .int (ii (s0))), (4, .int (ii (n0)))] rfl (fun p e s m args below meth c A Q E RET => ?_)
  have k1 := hI.1
  have k2 := hI.2.1
  have k3 := hI.2.2.1
  have k4 := hI.2.2.2.1
  have k5 := hI.2.2.2.2.1
  have k6 := hI.2.2.2.2.2.1
  have k7 := hI.2.2.2.2.2.2.1
  have k8 := hI.2.2.2.2.2.2.2
  have hn := k7.2.1.1
  have hL := hI.len
  have hf := hI.lf
  have hf6 := hI.let6
  refine x_aload_n (q := 1) E dX6_off_0 0 rfl rfl ?_
  refine x_iload_n (q := 2) E dX6_off_1 1 rfl rfl ?_
  refine x_callVi (q := 5) (n := 1) (As := [.int (ii ((r : Int)))]) (r := []) E (c_X6_isRow l D T ad hN st ((r : Int)) (by omega) (hn)) gX6_off_X6_isRow rfl rfl rfl (by decide +kernel) ⟨Nat.le_of_ble_eq_true rfl, Nat.le_of_ble_eq_true rfl⟩ (0) rfl rfl rfl rfl (Nat.le_of_ble_eq_true rfl) dX6_off_2 rfl (fun z1 s2 q3 => ?_)
  obtain ⟨rfl, rfl⟩ := q3
  refine x_if_ne (tgt := 11) (q := 8) E dX6_off_5 (by decide) rfl (by omega) (fun c5 => ?_) (fun c5 => ?_)
  · refine x_iload (q := 13) E dX6_off_11 4 rfl rfl ?_
    refine x_callSi (q := 16) (n := 1) (As := [.int (ii (n0))]) (r := []) E (c_X6_isPlace l D T ad hN st (n0) (by omega)) gX6_off_X6_isPlace rfl rfl rfl (by decide +kernel) ⟨Nat.le_of_ble_eq_true rfl, Nat.le_of_ble_eq_true rfl⟩ rfl rfl (Nat.le_of_ble_eq_true rfl) dX6_off_13 rfl (fun z4 s5 q6 => ?_)
    obtain ⟨rfl, rfl⟩ := q6
    refine x_if_eq (tgt := 33) (q := 19) E dX6_off_16 (by decide) rfl (by omega) (fun c16 => ?_) (fun c16 => ?_)
    · refine x_bipush (q := 35) E dX6_off_33 (by decide) rfl ?_
      exact RET _ _ _ _ dX6_off_35 (⟨by rw [if_neg (by omega)], hI⟩)
    · refine x_iload_n (q := 20) E dX6_off_19 3 rfl rfl ?_
      refine x_i2l (q := 21) E dX6_off_20 (by omega) rfl ?_
      refine x_ldc2 (q := 24) (v := 2) (z := 2) E (by decide +kernel) (by decide) dX6_off_21 rfl ?_
      refine x_ldc2 (q := 27) (v := 6) (z := 6) E (by decide +kernel) (by decide) dX6_off_24 rfl ?_
      refine x_callSi (q := 30) (n := 3) (As := [.long (jj (s0)), .long (jj (2)), .long (jj (6))]) (r := []) E (c_X6_in l D T ad hN st (s0) (2) (6) (by omega) (by omega) (by omega)) gX6_off_X6_in rfl rfl rfl (by decide +kernel) ⟨Nat.le_of_ble_eq_true rfl, Nat.le_of_ble_eq_true rfl⟩ rfl rfl (Nat.le_of_ble_eq_true rfl) dX6_off_27 rfl (fun z7 s8 q9 => ?_)
      obtain ⟨rfl, rfl⟩ := q9
      refine x_if_ne (tgt := 36) (q := 33) E dX6_off_30 (by decide) rfl (by omega) (fun c30 => ?_) (fun c30 => ?_)
      · refine x_aload_n (q := 37) E dX6_off_36 0 rfl rfl ?_
        refine x_iload_n (q := 38) E dX6_off_37 1 rfl rfl ?_
        refine x_iload (q := 40) E dX6_off_38 4 rfl rfl ?_
        refine x_iconst (q := 41) E dX6_off_40 rfl ?_
        refine x_isub (q := 42) E dX6_off_41 rfl ?_
        refine x_callVv (q := 45) (n := 2) (As := [.int (ii ((r : Int))), .int (ii ((n0) - (1)))]) (r := []) E (c_X6_make l D T ad hN st r hr ((n0) - (1)) (by omega) (by omega) (by omega) (lta a) k7) gX6_off_X6_make rfl rfl rfl (by decide +kernel) ⟨Nat.le_of_ble_eq_true rfl, Nat.le_of_ble_eq_true rfl⟩ (0) rfl rfl rfl rfl (Nat.le_of_ble_eq_true rfl) dX6_off_42 rfl (fun s11 q12 => ?_)
        obtain ⟨h113, h214, h315, h416⟩ := q12
        have g1 := h113
        have g2 := h214
        have g3 := h315
        have g4 := h416
        have hI1 := MI_frm hI g2 g1
        have e0 : s11.1 0 = a.1.1 0 := hI1.1
        have hr1 : (r : Int) < s11.1 0 := by rw [e0, ← k1]; exact hrn
        have hSq : ∀ j : Int, 0 ≤ j → j < s11.2 6 (r : Int) → s11.2 (3 + r) j = SQ (lta a) (nxn (a.1.1 0)) r j := fun j j0 j1 => by rw [MH.rows g1 g3 hr1 j j0 j1, e0]
        have hS6 : ∀ j : Int, 0 ≤ j → 1 ≤ SQ (lta a) (nxn (a.1.1 0)) r j ∧ SQ (lta a) (nxn (a.1.1 0)) r j ≤ 6 := fun j j0 => ⟨SQ_pos g1.1.pos r j j0, SQ_le (fun x y hy => (g1.1.1 x y hy).2) r j j0⟩
        refine x_iconst (q := 46) E dX6_off_45 rfl ?_
        refine x_istore (q := 48) (lv' := [(5, .int (ii (0))), (0, .ref (ad 0)), (1, .int (ii ((r : Int)))), (2, .int (ii (v))), (3, .int (ii (s0))), (4, .int (ii (n0)))]) E dX6_off_46 (by decide) rfl rfl ?_
        refine x_iconst (q := 49) E dX6_off_48 rfl ?_
        refine x_istore (q := 51) (lv' := [(6, .int (ii (0))), (5, .int (ii (0))), (0, .ref (ad 0)), (1, .int (ii ((r : Int)))), (2, .int (ii (v))), (3, .int (ii (s0))), (4, .int (ii (n0)))]) E dX6_off_49 (by decide) rfl rfl ?_
        refine x_iconst (q := 52) E dX6_off_51 rfl ?_
        refine x_istore (q := 54) (lv' := [(7, .int (ii (1))), (6, .int (ii (0))), (5, .int (ii (0))), (0, .ref (ad 0)), (1, .int (ii ((r : Int)))), (2, .int (ii (v))), (3, .int (ii (s0))), (4, .int (ii (n0)))]) E dX6_off_52 (by decide) rfl rfl ?_
        have L54 : ∀ (n : Nat) (gm0 : Int) (t : Int) (k : Int), (n0 + 1 - k).toNat < n → (1 ≤ k ∧ k ≤ n0 + 1) → (t = cntv (SQ (lta a) (nxn (a.1.1 0)) r) v (k - 1)) → (gm0 = ofn (SQ (lta a) (nxn (a.1.1 0)) r) v s0 (k - 1)) → (0 ≤ gm0 ∧ gm0 ≤ 700000) → XJ p l e (rmX 2 50) s m args below meth c D (MW T ad) A 9 Q 0 0 s11 54 [(0, .ref (ad 0)), (1, .int (ii ((r : Int)))), (2, .int (ii (v))), (3, .int (ii (s0))), (4, .int (ii (n0))), (5, .int (ii (gm0))), (6, .int (ii (t))), (7, .int (ii (k)))] [] := by
          intro n
          induction n with
          | zero => intro gm0 t k hn; exact absurd hn (Nat.not_lt_zero _)
          | succ n ih54 =>
            intro gm0 t k hn54 a1 a2 a3 a4
            refine x_iload (q := 56) E dX6_off_54 7 rfl rfl ?_
            refine x_iload (q := 58) E dX6_off_56 4 rfl rfl ?_
            refine x_icmp_gt (tgt := 130) (q := 61) E dX6_off_58 (by decide) rfl (by omega) (by omega) (fun c58 => ?_) (fun c58 => ?_)
            · refine x_iload (q := 132) E dX6_off_130 5 rfl rfl ?_
              exact RET _ _ _ _ dX6_off_132 (⟨by rw [if_pos (by omega), a3]; exact congrArg _ (by omega), hI1⟩)
            · have e2 := hS6 (k - 1) (by omega)
              have e3 := cntv_b (SQ (lta a) (nxn (a.1.1 0)) r) v (n := k - 1) (by omega)
              rw [← a2] at e3
              have e4 : 0 ≤ t * s0 ∧ t * s0 ≤ 600000 := by rcases (show s0 = 2 ∨ s0 = 3 ∨ s0 = 4 ∨ s0 = 5 ∨ s0 = 6 by omega) with q | q | q | q | q <;> rw [q] <;> omega
              have e5 : 0 ≤ (t + 1) * s0 ∧ (t + 1) * s0 ≤ 600006 := by rcases (show s0 = 2 ∨ s0 = 3 ∨ s0 = 4 ∨ s0 = 5 ∨ s0 = 6 by omega) with q | q | q | q | q <;> rw [q] <;> omega
              have e8 : t + 0 = t := by omega
              refine x_iload (q := 63) E dX6_off_61 6 rfl rfl ?_
              refine x_aload_n (q := 64) E dX6_off_63 0 rfl rfl ?_
              refine x_iload_n (q := 65) E dX6_off_64 1 rfl rfl ?_
              refine x_iload (q := 67) E dX6_off_65 7 rfl rfl ?_
              refine x_iconst (q := 68) E dX6_off_67 rfl ?_
              refine x_isub (q := 69) E dX6_off_68 rfl ?_
              refine x_callVi (q := 72) (n := 2) (As := [.int (ii ((r : Int))), .int (ii ((k) - (1)))]) (r := [.int (ii (t))]) E (c_X6_number l D T ad hN s11 r hr ((k) - (1)) (by omega) (by omega)) gX6_off_X6_number rfl rfl rfl (by decide +kernel) ⟨Nat.le_of_ble_eq_true rfl, Nat.le_of_ble_eq_true rfl⟩ (0) rfl rfl rfl rfl (Nat.le_of_ble_eq_true rfl) dX6_off_69 rfl (fun z17 s18 q19 => ?_)
              obtain ⟨rfl, rfl⟩ := q19
              refine x_ti (show s11.2 (3 + r) ((k) - (1)) = SQ (lta a) (nxn (a.1.1 0)) r (k - 1) from hSq _ (by omega) (by omega)) ?_
              refine x_iload_n (q := 73) E dX6_off_72 2 rfl rfl ?_
              refine x_icmp_ne (tgt := 80) (q := 76) E dX6_off_73 (by decide) rfl (by omega) (by omega) (fun c73 => ?_) (fun c73 => ?_)
              · have e6 := cntv_s (SQ (lta a) (nxn (a.1.1 0)) r) v (n := k - 1) (by omega)
                rw [show k - 1 + 1 = k from by omega, ← a2, if_neg c73, e8] at e6
                have e7 := ofn_s (SQ (lta a) (nxn (a.1.1 0)) r) v s0 (k := k - 1) (by omega)
                rw [show k - 1 + 1 = k from by omega, e6, ← a3] at e7
                refine x_iconst (q := 81) E dX6_off_80 rfl ?_
                refine x_iadd (q := 82) E dX6_off_81 rfl ?_
                refine x_ti e8 ?_
                refine x_istore (q := 84) (lv' := [(6, .int (ii (t))), (0, .ref (ad 0)), (1, .int (ii ((r : Int)))), (2, .int (ii (v))), (3, .int (ii (s0))), (4, .int (ii (n0))), (5, .int (ii (gm0))), (7, .int (ii (k)))]) E dX6_off_82 (by decide) rfl rfl ?_
                refine x_iload (q := 86) E dX6_off_84 0 rfl rfl ?_
                refine x_iload_n (q := 87) E dX6_off_86 4 rfl rfl ?_
                refine x_imul (q := 88) E dX6_off_87 rfl ?_
                refine x_iload (q := 90) E dX6_off_88 7 rfl rfl ?_
                refine x_isub (q := 91) E dX6_off_90 rfl ?_
                refine x_istore (q := 93) (lv' := [(8, .int (ii (((t) * (s0)) - (k)))), (6, .int (ii (t))), (0, .ref (ad 0)), (1, .int (ii ((r : Int)))), (2, .int (ii (v))), (3, .int (ii (s0))), (4, .int (ii (n0))), (5, .int (ii (gm0))), (7, .int (ii (k)))]) E dX6_off_91 (by decide) rfl rfl ?_
                refine x_iload (q := 95) E dX6_off_93 0 rfl rfl ?_
                refine x_if_ge (tgt := 104) (q := 98) E dX6_off_95 (by decide) rfl (by omega) (fun c95 => ?_) (fun c95 => ?_)
                · refine x_iload (q := 106) E dX6_off_104 0 rfl rfl ?_
                  refine x_istore (q := 108) (lv' := [(8, .int (ii (((t) * (s0)) - (k)))), (6, .int (ii (t))), (0, .ref (ad 0)), (1, .int (ii ((r : Int)))), (2, .int (ii (v))), (3, .int (ii (s0))), (4, .int (ii (n0))), (5, .int (ii (gm0))), (7, .int (ii (k)))]) E dX6_off_106 (by decide) rfl rfl ?_
                  refine x_iload (q := 110) E dX6_off_108 0 rfl rfl ?_
                  refine x_iload (q := 112) E dX6_off_110 7 rfl rfl ?_
                  refine x_icmp_le (tgt := 120) (q := 115) E dX6_off_112 (by decide) rfl (by omega) (by omega) (fun c112 => ?_) (fun c112 => ?_)
                  · refine x_iload (q := 122) E dX6_off_120 7 rfl rfl ?_
                    refine x_istore (q := 124) (lv' := [(5, .int (ii (gm0))), (8, .int (ii (((t) * (s0)) - (k)))), (6, .int (ii (t))), (0, .ref (ad 0)), (1, .int (ii ((r : Int)))), (2, .int (ii (v))), (3, .int (ii (s0))), (4, .int (ii (n0))), (7, .int (ii (k)))]) E dX6_off_122 (by decide) rfl rfl ?_
                    refine x_iinc (q := 127) (k := 8) (lv' := [(7, .int (ii (k + 1))), (5, .int (ii (gm0))), (8, .int (ii (((t) * (s0)) - (k)))), (6, .int (ii (t))), (0, .ref (ad 0)), (1, .int (ii ((r : Int)))), (2, .int (ii (v))), (3, .int (ii (s0))), (4, .int (ii (n0)))]) E dX6_off_124 rfl (by decide) rfl rfl ?_
                    refine x_goto (tgt := 54) E dX6_off_127 (by decide) ?_
                    refine x_lv E (lv' := [(0, .ref (ad 0)), (1, .int (ii ((r : Int)))), (2, .int (ii (v))), (3, .int (ii (s0))), (4, .int (ii (n0))), (5, .int (ii (gm0))), (6, .int (ii (t))), (7, .int (ii (k + 1)))]) [4, 5, 6, 7, 8, 1, 3, 0] rfl ?_
                    exact ih54 (gm0) (t) (k + 1) (by omega) (by omega) (by rw [show k + 1 - 1 = k from by omega, e6]) (by rw [show k + 1 - 1 = k from by omega, e7]; unfold mx2 iab; split <;> split <;> omega) (by omega)
                  · refine x_iload (q := 117) E dX6_off_115 0 rfl rfl ?_
                    refine x_goto (tgt := 122) E dX6_off_117 (by decide) ?_
                    refine x_istore (q := 124) (lv' := [(5, .int (ii (((t) * (s0)) - (k)))), (8, .int (ii (((t) * (s0)) - (k)))), (6, .int (ii (t))), (0, .ref (ad 0)), (1, .int (ii ((r : Int)))), (2, .int (ii (v))), (3, .int (ii (s0))), (4, .int (ii (n0))), (7, .int (ii (k)))]) E dX6_off_122 (by decide) rfl rfl ?_
                    refine x_iinc (q := 127) (k := 8) (lv' := [(7, .int (ii (k + 1))), (5, .int (ii (((t) * (s0)) - (k)))), (8, .int (ii (((t) * (s0)) - (k)))), (6, .int (ii (t))), (0, .ref (ad 0)), (1, .int (ii ((r : Int)))), (2, .int (ii (v))), (3, .int (ii (s0))), (4, .int (ii (n0)))]) E dX6_off_124 rfl (by decide) rfl rfl ?_
                    refine x_goto (tgt := 54) E dX6_off_127 (by decide) ?_
                    refine x_lv E (lv' := [(0, .ref (ad 0)), (1, .int (ii ((r : Int)))), (2, .int (ii (v))), (3, .int (ii (s0))), (4, .int (ii (n0))), (5, .int (ii (((t) * (s0)) - (k)))), (6, .int (ii (t))), (7, .int (ii (k + 1)))]) [4, 5, 6, 7, 8, 1, 3, 0] rfl ?_
                    exact ih54 (((t) * (s0)) - (k)) (t) (k + 1) (by omega) (by omega) (by rw [show k + 1 - 1 = k from by omega, e6]) (by rw [show k + 1 - 1 = k from by omega, e7]; unfold mx2 iab; split <;> split <;> omega) (by omega)
                · refine x_iload (q := 100) E dX6_off_98 0 rfl rfl ?_
                  refine x_ineg (q := 101) E dX6_off_100 rfl ?_
                  refine x_goto (tgt := 106) E dX6_off_101 (by decide) ?_
                  refine x_istore (q := 108) (lv' := [(8, .int (ii (-(((t) * (s0)) - (k))))), (6, .int (ii (t))), (0, .ref (ad 0)), (1, .int (ii ((r : Int)))), (2, .int (ii (v))), (3, .int (ii (s0))), (4, .int (ii (n0))), (5, .int (ii (gm0))), (7, .int (ii (k)))]) E dX6_off_106 (by decide) rfl rfl ?_
                  refine x_iload (q := 110) E dX6_off_108 0 rfl rfl ?_
                  refine x_iload (q := 112) E dX6_off_110 7 rfl rfl ?_
                  refine x_icmp_le (tgt := 120) (q := 115) E dX6_off_112 (by decide) rfl (by omega) (by omega) (fun c112 => ?_) (fun c112 => ?_)
                  · refine x_iload (q := 122) E dX6_off_120 7 rfl rfl ?_
                    refine x_istore (q := 124) (lv' := [(5, .int (ii (gm0))), (8, .int (ii (-(((t) * (s0)) - (k))))), (6, .int (ii (t))), (0, .ref (ad 0)), (1, .int (ii ((r : Int)))), (2, .int (ii (v))), (3, .int (ii (s0))), (4, .int (ii (n0))), (7, .int (ii (k)))]) E dX6_off_122 (by decide) rfl rfl ?_
                    refine x_iinc (q := 127) (k := 8) (lv' := [(7, .int (ii (k + 1))), (5, .int (ii (gm0))), (8, .int (ii (-(((t) * (s0)) - (k))))), (6, .int (ii (t))), (0, .ref (ad 0)), (1, .int (ii ((r : Int)))), (2, .int (ii (v))), (3, .int (ii (s0))), (4, .int (ii (n0)))]) E dX6_off_124 rfl (by decide) rfl rfl ?_
                    refine x_goto (tgt := 54) E dX6_off_127 (by decide) ?_
                    refine x_lv E (lv' := [(0, .ref (ad 0)), (1, .int (ii ((r : Int)))), (2, .int (ii (v))), (3, .int (ii (s0))), (4, .int (ii (n0))), (5, .int (ii (gm0))), (6, .int (ii (t))), (7, .int (ii (k + 1)))]) [4, 5, 6, 7, 8, 1, 3, 0] rfl ?_
                    exact ih54 (gm0) (t) (k + 1) (by omega) (by omega) (by rw [show k + 1 - 1 = k from by omega, e6]) (by rw [show k + 1 - 1 = k from by omega, e7]; unfold mx2 iab; split <;> split <;> omega) (by omega)
                  · refine x_iload (q := 117) E dX6_off_115 0 rfl rfl ?_
                    refine x_goto (tgt := 122) E dX6_off_117 (by decide) ?_
                    refine x_istore (q := 124) (lv' := [(5, .int (ii (-(((t) * (s0)) - (k))))), (8, .int (ii (-(((t) * (s0)) - (k))))), (6, .int (ii (t))), (0, .ref (ad 0)), (1, .int (ii ((r : Int)))), (2, .int (ii (v))), (3, .int (ii (s0))), (4, .int (ii (n0))), (7, .int (ii (k)))]) E dX6_off_122 (by decide) rfl rfl ?_
                    refine x_iinc (q := 127) (k := 8) (lv' := [(7, .int (ii (k + 1))), (5, .int (ii (-(((t) * (s0)) - (k))))), (8, .int (ii (-(((t) * (s0)) - (k))))), (6, .int (ii (t))), (0, .ref (ad 0)), (1, .int (ii ((r : Int)))), (2, .int (ii (v))), (3, .int (ii (s0))), (4, .int (ii (n0)))]) E dX6_off_124 rfl (by decide) rfl rfl ?_
                    refine x_goto (tgt := 54) E dX6_off_127 (by decide) ?_
                    refine x_lv E (lv' := [(0, .ref (ad 0)), (1, .int (ii ((r : Int)))), (2, .int (ii (v))), (3, .int (ii (s0))), (4, .int (ii (n0))), (5, .int (ii (-(((t) * (s0)) - (k))))), (6, .int (ii (t))), (7, .int (ii (k + 1)))]) [4, 5, 6, 7, 8, 1, 3, 0] rfl ?_
                    exact ih54 (-(((t) * (s0)) - (k))) (t) (k + 1) (by omega) (by omega) (by rw [show k + 1 - 1 = k from by omega, e6]) (by rw [show k + 1 - 1 = k from by omega, e7]; unfold mx2 iab; split <;> split <;> omega) (by omega)
              · have e6 := cntv_s (SQ (lta a) (nxn (a.1.1 0)) r) v (n := k - 1) (by omega)
                rw [show k - 1 + 1 = k from by omega, ← a2, if_pos (Classical.byContradiction c73)] at e6
                have e7 := ofn_s (SQ (lta a) (nxn (a.1.1 0)) r) v s0 (k := k - 1) (by omega)
                rw [show k - 1 + 1 = k from by omega, e6, ← a3] at e7
                refine x_iconst (q := 77) E dX6_off_76 rfl ?_
                refine x_goto (tgt := 81) E dX6_off_77 (by decide) ?_
                refine x_iadd (q := 82) E dX6_off_81 rfl ?_
                refine x_istore (q := 84) (lv' := [(6, .int (ii ((t) + (1)))), (0, .ref (ad 0)), (1, .int (ii ((r : Int)))), (2, .int (ii (v))), (3, .int (ii (s0))), (4, .int (ii (n0))), (5, .int (ii (gm0))), (7, .int (ii (k)))]) E dX6_off_82 (by decide) rfl rfl ?_
                refine x_iload (q := 86) E dX6_off_84 0 rfl rfl ?_
                refine x_iload_n (q := 87) E dX6_off_86 4 rfl rfl ?_
                refine x_imul (q := 88) E dX6_off_87 rfl ?_
                refine x_iload (q := 90) E dX6_off_88 7 rfl rfl ?_
                refine x_isub (q := 91) E dX6_off_90 rfl ?_
                refine x_istore (q := 93) (lv' := [(8, .int (ii ((((t) + (1)) * (s0)) - (k)))), (6, .int (ii ((t) + (1)))), (0, .ref (ad 0)), (1, .int (ii ((r : Int)))), (2, .int (ii (v))), (3, .int (ii (s0))), (4, .int (ii (n0))), (5, .int (ii (gm0))), (7, .int (ii (k)))]) E dX6_off_91 (by decide) rfl rfl ?_
                refine x_iload (q := 95) E dX6_off_93 0 rfl rfl ?_
                refine x_if_ge (tgt := 104) (q := 98) E dX6_off_95 (by decide) rfl (by omega) (fun c95 => ?_) (fun c95 => ?_)
                · refine x_iload (q := 106) E dX6_off_104 0 rfl rfl ?_
                  refine x_istore (q := 108) (lv' := [(8, .int (ii ((((t) + (1)) * (s0)) - (k)))), (6, .int (ii ((t) + (1)))), (0, .ref (ad 0)), (1, .int (ii ((r : Int)))), (2, .int (ii (v))), (3, .int (ii (s0))), (4, .int (ii (n0))), (5, .int (ii (gm0))), (7, .int (ii (k)))]) E dX6_off_106 (by decide) rfl rfl ?_
                  refine x_iload (q := 110) E dX6_off_108 0 rfl rfl ?_
                  refine x_iload (q := 112) E dX6_off_110 7 rfl rfl ?_
                  refine x_icmp_le (tgt := 120) (q := 115) E dX6_off_112 (by decide) rfl (by omega) (by omega) (fun c112 => ?_) (fun c112 => ?_)
                  · refine x_iload (q := 122) E dX6_off_120 7 rfl rfl ?_
                    refine x_istore (q := 124) (lv' := [(5, .int (ii (gm0))), (8, .int (ii ((((t) + (1)) * (s0)) - (k)))), (6, .int (ii ((t) + (1)))), (0, .ref (ad 0)), (1, .int (ii ((r : Int)))), (2, .int (ii (v))), (3, .int (ii (s0))), (4, .int (ii (n0))), (7, .int (ii (k)))]) E dX6_off_122 (by decide) rfl rfl ?_
                    refine x_iinc (q := 127) (k := 8) (lv' := [(7, .int (ii (k + 1))), (5, .int (ii (gm0))), (8, .int (ii ((((t) + (1)) * (s0)) - (k)))), (6, .int (ii ((t) + (1)))), (0, .ref (ad 0)), (1, .int (ii ((r : Int)))), (2, .int (ii (v))), (3, .int (ii (s0))), (4, .int (ii (n0)))]) E dX6_off_124 rfl (by decide) rfl rfl ?_
                    refine x_goto (tgt := 54) E dX6_off_127 (by decide) ?_
                    refine x_lv E (lv' := [(0, .ref (ad 0)), (1, .int (ii ((r : Int)))), (2, .int (ii (v))), (3, .int (ii (s0))), (4, .int (ii (n0))), (5, .int (ii (gm0))), (6, .int (ii ((t) + (1)))), (7, .int (ii (k + 1)))]) [4, 5, 6, 7, 8, 1, 3, 0] rfl ?_
                    exact ih54 (gm0) ((t) + (1)) (k + 1) (by omega) (by omega) (by rw [show k + 1 - 1 = k from by omega, e6]) (by rw [show k + 1 - 1 = k from by omega, e7]; unfold mx2 iab; split <;> split <;> omega) (by omega)
                  · refine x_iload (q := 117) E dX6_off_115 0 rfl rfl ?_
                    refine x_goto (tgt := 122) E dX6_off_117 (by decide) ?_
                    refine x_istore (q := 124) (lv' := [(5, .int (ii ((((t) + (1)) * (s0)) - (k)))), (8, .int (ii ((((t) + (1)) * (s0)) - (k)))), (6, .int (ii ((t) + (1)))), (0, .ref (ad 0)), (1, .int (ii ((r : Int)))), (2, .int (ii (v))), (3, .int (ii (s0))), (4, .int (ii (n0))), (7, .int (ii (k)))]) E dX6_off_122 (by decide) rfl rfl ?_
                    refine x_iinc (q := 127) (k := 8) (lv' := [(7, .int (ii (k + 1))), (5, .int (ii ((((t) + (1)) * (s0)) - (k)))), (8, .int (ii ((((t) + (1)) * (s0)) - (k)))), (6, .int (ii ((t) + (1)))), (0, .ref (ad 0)), (1, .int (ii ((r : Int)))), (2, .int (ii (v))), (3, .int (ii (s0))), (4, .int (ii (n0)))]) E dX6_off_124 rfl (by decide) rfl rfl ?_
                    refine x_goto (tgt := 54) E dX6_off_127 (by decide) ?_
                    refine x_lv E (lv' := [(0, .ref (ad 0)), (1, .int (ii ((r : Int)))), (2, .int (ii (v))), (3, .int (ii (s0))), (4, .int (ii (n0))), (5, .int (ii ((((t) + (1)) * (s0)) - (k)))), (6, .int (ii ((t) + (1)))), (7, .int (ii (k + 1)))]) [4, 5, 6, 7, 8, 1, 3, 0] rfl ?_
                    exact ih54 ((((t) + (1)) * (s0)) - (k)) ((t) + (1)) (k + 1) (by omega) (by omega) (by rw [show k + 1 - 1 = k from by omega, e6]) (by rw [show k + 1 - 1 = k from by omega, e7]; unfold mx2 iab; split <;> split <;> omega) (by omega)
                · refine x_iload (q := 100) E dX6_off_98 0 rfl rfl ?_
                  refine x_ineg (q := 101) E dX6_off_100 rfl ?_
                  refine x_goto (tgt := 106) E dX6_off_101 (by decide) ?_
                  refine x_istore (q := 108) (lv' := [(8, .int (ii (-((((t) + (1)) * (s0)) - (k))))), (6, .int (ii ((t) + (1)))), (0, .ref (ad 0)), (1, .int (ii ((r : Int)))), (2, .int (ii (v))), (3, .int (ii (s0))), (4, .int (ii (n0))), (5, .int (ii (gm0))), (7, .int (ii (k)))]) E dX6_off_106 (by decide) rfl rfl ?_
                  refine x_iload (q := 110) E dX6_off_108 0 rfl rfl ?_
                  refine x_iload (q := 112) E dX6_off_110 7 rfl rfl ?_
                  refine x_icmp_le (tgt := 120) (q := 115) E dX6_off_112 (by decide) rfl (by omega) (by omega) (fun c112 => ?_) (fun c112 => ?_)
                  · refine x_iload (q := 122) E dX6_off_120 7 rfl rfl ?_
                    refine x_istore (q := 124) (lv' := [(5, .int (ii (gm0))), (8, .int (ii (-((((t) + (1)) * (s0)) - (k))))), (6, .int (ii ((t) + (1)))), (0, .ref (ad 0)), (1, .int (ii ((r : Int)))), (2, .int (ii (v))), (3, .int (ii (s0))), (4, .int (ii (n0))), (7, .int (ii (k)))]) E dX6_off_122 (by decide) rfl rfl ?_
                    refine x_iinc (q := 127) (k := 8) (lv' := [(7, .int (ii (k + 1))), (5, .int (ii (gm0))), (8, .int (ii (-((((t) + (1)) * (s0)) - (k))))), (6, .int (ii ((t) + (1)))), (0, .ref (ad 0)), (1, .int (ii ((r : Int)))), (2, .int (ii (v))), (3, .int (ii (s0))), (4, .int (ii (n0)))]) E dX6_off_124 rfl (by decide) rfl rfl ?_
                    refine x_goto (tgt := 54) E dX6_off_127 (by decide) ?_
                    refine x_lv E (lv' := [(0, .ref (ad 0)), (1, .int (ii ((r : Int)))), (2, .int (ii (v))), (3, .int (ii (s0))), (4, .int (ii (n0))), (5, .int (ii (gm0))), (6, .int (ii ((t) + (1)))), (7, .int (ii (k + 1)))]) [4, 5, 6, 7, 8, 1, 3, 0] rfl ?_
                    exact ih54 (gm0) ((t) + (1)) (k + 1) (by omega) (by omega) (by rw [show k + 1 - 1 = k from by omega, e6]) (by rw [show k + 1 - 1 = k from by omega, e7]; unfold mx2 iab; split <;> split <;> omega) (by omega)
                  · refine x_iload (q := 117) E dX6_off_115 0 rfl rfl ?_
                    refine x_goto (tgt := 122) E dX6_off_117 (by decide) ?_
                    refine x_istore (q := 124) (lv' := [(5, .int (ii (-((((t) + (1)) * (s0)) - (k))))), (8, .int (ii (-((((t) + (1)) * (s0)) - (k))))), (6, .int (ii ((t) + (1)))), (0, .ref (ad 0)), (1, .int (ii ((r : Int)))), (2, .int (ii (v))), (3, .int (ii (s0))), (4, .int (ii (n0))), (7, .int (ii (k)))]) E dX6_off_122 (by decide) rfl rfl ?_
                    refine x_iinc (q := 127) (k := 8) (lv' := [(7, .int (ii (k + 1))), (5, .int (ii (-((((t) + (1)) * (s0)) - (k))))), (8, .int (ii (-((((t) + (1)) * (s0)) - (k))))), (6, .int (ii ((t) + (1)))), (0, .ref (ad 0)), (1, .int (ii ((r : Int)))), (2, .int (ii (v))), (3, .int (ii (s0))), (4, .int (ii (n0)))]) E dX6_off_124 rfl (by decide) rfl rfl ?_
                    refine x_goto (tgt := 54) E dX6_off_127 (by decide) ?_
                    refine x_lv E (lv' := [(0, .ref (ad 0)), (1, .int (ii ((r : Int)))), (2, .int (ii (v))), (3, .int (ii (s0))), (4, .int (ii (n0))), (5, .int (ii (-((((t) + (1)) * (s0)) - (k))))), (6, .int (ii ((t) + (1)))), (7, .int (ii (k + 1)))]) [4, 5, 6, 7, 8, 1, 3, 0] rfl ?_
                    exact ih54 (-((((t) + (1)) * (s0)) - (k))) ((t) + (1)) (k + 1) (by omega) (by omega) (by rw [show k + 1 - 1 = k from by omega, e6]) (by rw [show k + 1 - 1 = k from by omega, e7]; unfold mx2 iab; split <;> split <;> omega) (by omega)
        refine x_lv E (lv' := [(0, .ref (ad 0)), (1, .int (ii ((r : Int)))), (2, .int (ii (v))), (3, .int (ii (s0))), (4, .int (ii (n0))), (5, .int (ii (0))), (6, .int (ii (0))), (7, .int (ii (1)))]) [3, 4, 5, 6, 7, 2, 1, 0] rfl ?_
        exact L54 _ (0) (0) (1) (Nat.lt_succ_self _) (by omega) (rfl) ((ofn_0 _ _ _).symm) (by omega)
      · refine x_bipush (q := 35) E dX6_off_33 (by decide) rfl ?_
        exact RET _ _ _ _ dX6_off_35 (⟨by rw [if_neg (by omega)], hI⟩)
  · exfalso; omega

set_option maxRecDepth 100000 in
set_option maxHeartbeats 4000000 in
theorem c_X6_off_n (l : Launch) (D : va_G) (T : Nat → ClassId) (ad : Nat → Nat) (hN : ∀ i j, i < 13 → j < 13 → ad i = ad j → i = j) (st : St_) (z0 : Int) (bz0 : -2147483648 ≤ z0 ∧ z0 < 2147483648) (v : Int) (bv : -2147483648 ≤ v ∧ v < 2147483648) (s0 : Int) (bs0 : -2147483648 ≤ s0 ∧ s0 < 2147483648) (n0 : Int) (bn0 : -2147483648 ≤ n0 ∧ n0 < 2147483648) (hz : z0 < 0 ∨ st.1 0 ≤ z0) (a : AB_) (hI : MI st a) : CXi l yX6_off wsX6_off (rmX 2 46) [.ref (ad 0), .int (ii (z0)), .int (ii (v)), .int (ii (s0)), .int (ii (n0))] D (tyX T) (MW T ad) (alM ad) st (fun z st2 => z = -101 ∧ MI st2 a) := by
  refine mk_i (cc := cX6_off) (nL := 9) rfl rfl (MW_ok hN) (Nat.le_of_ble_eq_true rfl) [(0, .ref (ad 0)), (1, .int (ii (z0))), (2, .int (ii (v))), (3, .int (ii (s0))), (4, .int (ii (n0)))] rfl (fun p e s m args below meth c A Q E RET => ?_)
  have k1 := hI.1
  have k2 := hI.2.1
  have k3 := hI.2.2.1
  have k4 := hI.2.2.2.1
  have k5 := hI.2.2.2.2.1
  have k6 := hI.2.2.2.2.2.1
  have k7 := hI.2.2.2.2.2.2.1
  have k8 := hI.2.2.2.2.2.2.2
  have hn := k7.2.1.1
  have hL := hI.len
  have hf := hI.lf
  have hf6 := hI.let6
  refine x_aload_n (q := 1) E dX6_off_0 0 rfl rfl ?_
  refine x_iload_n (q := 2) E dX6_off_1 1 rfl rfl ?_
  refine x_callVi (q := 5) (n := 1) (As := [.int (ii (z0))]) (r := []) E (c_X6_isRow l D T ad hN st (z0) (by omega) (hn)) gX6_off_X6_isRow rfl rfl rfl (by decide +kernel) ⟨Nat.le_of_ble_eq_true rfl, Nat.le_of_ble_eq_true rfl⟩ (0) rfl rfl rfl rfl (Nat.le_of_ble_eq_true rfl) dX6_off_2 rfl (fun z1 s2 q3 => ?_)
  obtain ⟨rfl, rfl⟩ := q3
  refine x_if_ne (tgt := 11) (q := 8) E dX6_off_5 (by decide) rfl (by omega) (fun c5 => ?_) (fun c5 => ?_)
  · exfalso; omega
  · refine x_bipush (q := 10) E dX6_off_8 (by decide) rfl ?_
    exact RET _ _ _ _ dX6_off_10 (⟨rfl, hI⟩)

theorem iX6_add_X6 : ∀ w ∈ wsX60, w ∈ wsX6_add := by decide +kernel
set_option maxRecDepth 100000 in
set_option maxHeartbeats 4000000 in
theorem c_X6_add (l : Launch) (D : va_G) (T : Nat → ClassId) (ad : Nat → Nat) (hN : ∀ i j, i < 13 → j < 13 → ad i = ad j → i = j) (st : St_) (v : Int) (bv : -2147483648 ≤ v ∧ v < 2147483648) (a : AB_) (hI : MI st a) : CXi l yX6_add wsX6_add (rmX 1 25) [.ref (ad 0), .int (ii (v))] D (tyX T) (MW T ad) (alM ad) st (fun z st2 => z = (if 1 ≤ v ∧ v ≤ 6 then (if (a.2.length : Int) = 60 then -104 else (a.2.length : Int) + 1) else -102) ∧ MI st2 (if (1 ≤ v ∧ v ≤ 6) ∧ (a.2.length : Int) < 60 then (a.1, a.2 ++ [v]) else a)) := by
  refine mk_i (cc := cX6_add) (nL := 2) rfl rfl (MW_ok hN) (Nat.le_of_ble_eq_true rfl) [(0, .ref (ad 0)), (1, .int (ii (v)))] rfl (fun p e s m args below meth c A Q E RET => ?_)
  have k1 := hI.1
  have k2 := hI.2.1
  have k3 := hI.2.2.1
  have k4 := hI.2.2.2.1
  have k5 := hI.2.2.2.2.1
  have k6 := hI.2.2.2.2.2.1
  have k7 := hI.2.2.2.2.2.2.1
  have k8 := hI.2.2.2.2.2.2.2
  have hn := k7.2.1.1
  have hL := hI.len
  have hf := hI.lf
  have hf6 := hI.let6
  refine x_iload_n (q := 1) E dX6_add_0 1 rfl rfl ?_
  refine x_i2l (q := 2) E dX6_add_1 (by omega) rfl ?_
  refine x_lconst (q := 3) (z := 1) E dX6_add_2 (by decide) rfl ?_
  refine x_ldc2 (q := 6) (v := 6) (z := 6) E (by decide +kernel) (by decide) dX6_add_3 rfl ?_
  refine x_callSi (q := 9) (n := 3) (As := [.long (jj (v)), .long (jj (1)), .long (jj (6))]) (r := []) E (c_X6_in l D T ad hN st (v) (1) (6) (by omega) (by omega) (by omega)) gX6_add_X6_in rfl rfl rfl (by decide +kernel) ⟨Nat.le_of_ble_eq_true rfl, Nat.le_of_ble_eq_true rfl⟩ rfl rfl (Nat.le_of_ble_eq_true rfl) dX6_add_6 rfl (fun z1 s2 q3 => ?_)
  obtain ⟨rfl, rfl⟩ := q3
  refine x_if_ne (tgt := 15) (q := 12) E dX6_add_9 (by decide) rfl (by omega) (fun c9 => ?_) (fun c9 => ?_)
  · refine x_aload_n (q := 16) E dX6_add_15 0 rfl rfl ?_
    refine x_get (q := 19) E iX6_add_X6 (0) rfl rfl 11 (by decide) (by decide +kernel) rfl dX6_add_16 rfl ?_
    refine x_bipush (q := 21) E dX6_add_19 (by decide) rfl ?_
    refine x_icmp_ne (tgt := 27) (q := 24) E dX6_add_21 (by decide) rfl (by omega) (by omega) (fun c21 => ?_) (fun c21 => ?_)
    · refine x_aload_n (q := 28) E dX6_add_27 0 rfl rfl ?_
      refine x_get (q := 31) E iX6_add_X6 (0) rfl rfl 10 (by decide) (by decide +kernel) rfl dX6_add_28 rfl ?_
      refine x_aload_n (q := 32) E dX6_add_31 0 rfl rfl ?_
      refine x_get (q := 35) E iX6_add_X6 (0) rfl rfl 11 (by decide) (by decide +kernel) rfl dX6_add_32 rfl ?_
      refine x_iload_n (q := 36) E dX6_add_35 1 rfl rfl ?_
      refine x_iast (q := 37) (st' := (sA st (7) (st.1 (3)) (v))) (f := st.2 (7)) E (8) rfl 0 rfl (by omega) (by omega) (by decide) dX6_add_36 (ma_7 _ _) rfl ?_
      refine x_aload_n (q := 38) E dX6_add_37 0 rfl rfl ?_
      refine x_dup (q := 39) E dX6_add_38 rfl rfl ?_
      refine x_get (q := 42) E iX6_add_X6 (0) rfl rfl 11 (by decide) (by decide +kernel) rfl dX6_add_39 rfl ?_
      refine x_ti (show (sA st (7) (st.1 (3)) (v)).1 (3) = st.1 (3) by rw [sA_1]) ?_
      refine x_iconst (q := 43) E dX6_add_42 rfl ?_
      refine x_iadd (q := 44) E dX6_add_43 rfl ?_
      refine x_put (q := 47) (st' := (sG (sA st (7) (st.1 (3)) (v)) (3) ((st.1 (3)) + (1)))) (v := .int (ii ((st.1 (3)) + (1)))) (ty := .int) E iX6_add_X6 tyX6 tyX6_ok nmX6 (0) rfl rfl 11 (by decide) (by decide +kernel) rfl (by decide +kernel) rfl rfl (Nat.le_of_ble_eq_true rfl) dX6_add_44 (ms_3 _) rfl ?_
      refine x_aload_n (q := 48) E dX6_add_47 0 rfl rfl ?_
      refine x_get (q := 51) E iX6_add_X6 (0) rfl rfl 11 (by decide) (by decide +kernel) rfl dX6_add_48 rfl ?_
      refine x_ti (show (sG (sA st (7) (st.1 (3)) (v)) (3) ((st.1 (3)) + (1))).1 (3) = (st.1 (3)) + (1) by rw [sG_s]) ?_
      exact RET _ _ _ _ dX6_add_51 (⟨by rw [if_pos (by omega), if_neg (by omega), hL], by rw [if_pos (by omega)]; exact MI_w hI (fun j hj => by rw [sG_n _ _ (by omega)]; rfl) ⟨by rw [sG_n _ _ (by omega)]; rfl, by rw [sG_n _ _ (by omega)]; rfl⟩ (fun q hq => by rw [sG_2, sA_n _ _ _ (by omega)]) (by rw [sG_s, sG_2, sA_s, wl_put _ _ (by omega), k2]) (by rw [sG_s]; omega) (fun x hx => by rcases List.mem_append.mp hx with y | y; exact k8.2.2.2.2.1.2 x y; rw [List.mem_singleton.mp y]; omega)⟩)
    · refine x_bipush (q := 26) E dX6_add_24 (by decide) rfl ?_
      exact RET _ _ _ _ dX6_add_26 (⟨by rw [if_pos (by omega), if_pos (by omega)], by rw [if_neg (by omega)]; exact hI⟩)
  · refine x_bipush (q := 14) E dX6_add_12 (by decide) rfl ?_
    exact RET _ _ _ _ dX6_add_14 (⟨by rw [if_neg (by omega)], by rw [if_neg (by omega)]; exact hI⟩)

theorem iX6_clear_X6 : ∀ w ∈ wsX60, w ∈ wsX6_clear := by decide +kernel
set_option maxRecDepth 100000 in
set_option maxHeartbeats 4000000 in
theorem c_X6_clear (l : Launch) (D : va_G) (T : Nat → ClassId) (ad : Nat → Nat) (hN : ∀ i j, i < 13 → j < 13 → ad i = ad j → i = j) (st : St_) (a : AB_) (hI : MI st a) : CXi l yX6_clear wsX6_clear (rmX 0 0) [.ref (ad 0)] D (tyX T) (MW T ad) (alM ad) st (fun z st2 => z = (a.2.length : Int) ∧ MI st2 (a.1, ([] : List Int))) := by
  refine mk_i (cc := cX6_clear) (nL := 2) rfl rfl (MW_ok hN) (Nat.le_of_ble_eq_true rfl) [(0, .ref (ad 0))] rfl (fun p e s m args below meth c A Q E RET => ?_)
  have k1 := hI.1
  have k2 := hI.2.1
  have k3 := hI.2.2.1
  have k4 := hI.2.2.2.1
  have k5 := hI.2.2.2.2.1
  have k6 := hI.2.2.2.2.2.1
  have k7 := hI.2.2.2.2.2.2.1
  have k8 := hI.2.2.2.2.2.2.2
  have hn := k7.2.1.1
  have hL := hI.len
  have hf := hI.lf
  have hf6 := hI.let6
  refine x_aload_n (q := 1) E dX6_clear_0 0 rfl rfl ?_
  refine x_get (q := 4) E iX6_clear_X6 (0) rfl rfl 11 (by decide) (by decide +kernel) rfl dX6_clear_1 rfl ?_
  refine x_istore_n (q := 5) (lv' := [(1, .int (ii (st.1 (3)))), (0, .ref (ad 0))]) E dX6_clear_4 (by decide) rfl rfl ?_
  refine x_aload_n (q := 6) E dX6_clear_5 1 rfl rfl ?_
  refine x_iconst (q := 7) E dX6_clear_6 rfl ?_
  refine x_put (q := 10) (st' := (sG st (3) (0))) (v := .int (ii (0))) (ty := .int) E iX6_clear_X6 tyX6 tyX6_ok nmX6 (0) rfl rfl 11 (by decide) (by decide +kernel) rfl (by decide +kernel) rfl rfl (Nat.le_of_ble_eq_true rfl) dX6_clear_7 (ms_3 _) rfl ?_
  refine x_iload_n (q := 11) E dX6_clear_10 0 rfl rfl ?_
  exact RET _ _ _ _ dX6_clear_11 (⟨hL.symm, MI_w hI (fun j hj => by rw [sG_n _ _ (by omega)]) ⟨by rw [sG_n _ _ (by omega)], by rw [sG_n _ _ (by omega)]⟩ (fun q hq => rfl) (by rw [sG_s]; rfl) (by rw [sG_s]; omega) (fun x hx => (by cases hx))⟩)

theorem iX6_letter_X6 : ∀ w ∈ wsX60, w ∈ wsX6_letter := by decide +kernel
set_option maxRecDepth 100000 in
set_option maxHeartbeats 4000000 in
theorem c_X6_letter (l : Launch) (D : va_G) (T : Nat → ClassId) (ad : Nat → Nat) (hN : ∀ i j, i < 13 → j < 13 → ad i = ad j → i = j) (st : St_) (k : Int) (bk : -2147483648 ≤ k ∧ k < 2147483648) (a : AB_) (hI : MI st a) : CXi l yX6_letter wsX6_letter (rmX 1 25) [.ref (ad 0), .int (ii (k))] D (tyX T) (MW T ad) (alM ad) st (fun z st2 => z = (if 0 ≤ k ∧ k < (a.2.length : Int) then (lf a.2) k else -1) ∧ MI st2 a) := by
  refine mk_i (cc := cX6_letter) (nL := 2) rfl rfl (MW_ok hN) (Nat.le_of_ble_eq_true rfl) [(0, .ref (ad 0)), (1, .int (ii (k)))] rfl (fun p e s m args below meth c A Q E RET => ?_)
  have k1 := hI.1
  have k2 := hI.2.1
  have k3 := hI.2.2.1
  have k4 := hI.2.2.2.1
  have k5 := hI.2.2.2.2.1
  have k6 := hI.2.2.2.2.2.1
  have k7 := hI.2.2.2.2.2.2.1
  have k8 := hI.2.2.2.2.2.2.2
  have hn := k7.2.1.1
  have hL := hI.len
  have hf := hI.lf
  have hf6 := hI.let6
  refine x_iload_n (q := 1) E dX6_letter_0 1 rfl rfl ?_
  refine x_i2l (q := 2) E dX6_letter_1 (by omega) rfl ?_
  refine x_lconst (q := 3) (z := 0) E dX6_letter_2 (by decide) rfl ?_
  refine x_aload_n (q := 4) E dX6_letter_3 0 rfl rfl ?_
  refine x_get (q := 7) E iX6_letter_X6 (0) rfl rfl 11 (by decide) (by decide +kernel) rfl dX6_letter_4 rfl ?_
  refine x_iconst (q := 8) E dX6_letter_7 rfl ?_
  refine x_isub (q := 9) E dX6_letter_8 rfl ?_
  refine x_i2l (q := 10) E dX6_letter_9 (by omega) rfl ?_
  refine x_callSi (q := 13) (n := 3) (As := [.long (jj (k)), .long (jj (0)), .long (jj ((st.1 (3)) - (1)))]) (r := []) E (c_X6_in l D T ad hN st (k) (0) ((st.1 (3)) - (1)) (by omega) (by omega) (by omega)) gX6_letter_X6_in rfl rfl rfl (by decide +kernel) ⟨Nat.le_of_ble_eq_true rfl, Nat.le_of_ble_eq_true rfl⟩ rfl rfl (Nat.le_of_ble_eq_true rfl) dX6_letter_10 rfl (fun z1 s2 q3 => ?_)
  obtain ⟨rfl, rfl⟩ := q3
  refine x_if_eq (tgt := 25) (q := 16) E dX6_letter_13 (by decide) rfl (by omega) (fun c13 => ?_) (fun c13 => ?_)
  · refine x_iconst (q := 26) E dX6_letter_25 rfl ?_
    exact RET _ _ _ _ dX6_letter_26 (⟨by rw [if_neg (by omega)], hI⟩)
  · refine x_aload_n (q := 17) E dX6_letter_16 0 rfl rfl ?_
    refine x_get (q := 20) E iX6_letter_X6 (0) rfl rfl 10 (by decide) (by decide +kernel) rfl dX6_letter_17 rfl ?_
    refine x_iload_n (q := 21) E dX6_letter_20 1 rfl rfl ?_
    refine x_iald (q := 22) (f := st.2 (7)) E (8) rfl 0 rfl (by omega) (by omega) (by decide) dX6_letter_21 rfl ?_
    refine x_goto (tgt := 26) E dX6_letter_22 (by decide) ?_
    exact RET _ _ _ _ dX6_letter_26 (⟨by rw [if_pos (by omega)]; exact (hf k (by omega) (by omega)).symm, hI⟩)

theorem iX6_told_X6 : ∀ w ∈ wsX60, w ∈ wsX6_told := by decide +kernel
set_option maxRecDepth 100000 in
set_option maxHeartbeats 4000000 in
theorem c_X6_told (l : Launch) (D : va_G) (T : Nat → ClassId) (ad : Nat → Nat) (hN : ∀ i j, i < 13 → j < 13 → ad i = ad j → i = j) (st : St_) (k : Int) (bk : -2147483648 ≤ k ∧ k < 2147483648) (a : AB_) (hI : MI st a) : CXi l yX6_told wsX6_told (rmX 1 25) [.ref (ad 0), .int (ii (k))] D (tyX T) (MW T ad) (alM ad) st (fun z st2 => z = (if k = 0 then a.1.1 0 else if k = 1 then (a.2.length : Int) else if k = 2 then a.1.1 2 else if k = 3 then a.1.1 3 else if 4 ≤ k ∧ k ≤ 7 then a.1.1 (4 + (k - 4).toNat) else -102) ∧ MI st2 a) := by
  refine mk_i (cc := cX6_told) (nL := 2) rfl rfl (MW_ok hN) (Nat.le_of_ble_eq_true rfl) [(0, .ref (ad 0)), (1, .int (ii (k)))] rfl (fun p e s m args below meth c A Q E RET => ?_)
  have k1 := hI.1
  have k2 := hI.2.1
  have k3 := hI.2.2.1
  have k4 := hI.2.2.2.1
  have k5 := hI.2.2.2.2.1
  have k6 := hI.2.2.2.2.2.1
  have k7 := hI.2.2.2.2.2.2.1
  have k8 := hI.2.2.2.2.2.2.2
  have hn := k7.2.1.1
  have hL := hI.len
  have hf := hI.lf
  have hf6 := hI.let6
  refine x_iload_n (q := 1) E dX6_told_0 1 rfl rfl ?_
  refine x_i2l (q := 2) E dX6_told_1 (by omega) rfl ?_
  refine x_ldc2 (q := 5) (v := 4) (z := 4) E (by decide +kernel) (by decide) dX6_told_2 rfl ?_
  refine x_ldc2 (q := 8) (v := 7) (z := 7) E (by decide +kernel) (by decide) dX6_told_5 rfl ?_
  refine x_callSi (q := 11) (n := 3) (As := [.long (jj (k)), .long (jj (4)), .long (jj (7))]) (r := []) E (c_X6_in l D T ad hN st (k) (4) (7) (by omega) (by omega) (by omega)) gX6_told_X6_in rfl rfl rfl (by decide +kernel) ⟨Nat.le_of_ble_eq_true rfl, Nat.le_of_ble_eq_true rfl⟩ rfl rfl (Nat.le_of_ble_eq_true rfl) dX6_told_8 rfl (fun z1 s2 q3 => ?_)
  obtain ⟨rfl, rfl⟩ := q3
  refine x_if_eq (tgt := 23) (q := 14) E dX6_told_11 (by decide) rfl (by omega) (fun c11 => ?_) (fun c11 => ?_)
  · refine x_iload_n (q := 24) E dX6_told_23 1 rfl rfl ?_
    refine x_if_ne (tgt := 34) (q := 27) E dX6_told_24 (by decide) rfl (by omega) (fun c24 => ?_) (fun c24 => ?_)
    · refine x_iload_n (q := 35) E dX6_told_34 1 rfl rfl ?_
      refine x_iconst (q := 36) E dX6_told_35 rfl ?_
      refine x_icmp_ne (tgt := 46) (q := 39) E dX6_told_36 (by decide) rfl (by omega) (by omega) (fun c36 => ?_) (fun c36 => ?_)
      · refine x_iload_n (q := 47) E dX6_told_46 1 rfl rfl ?_
        refine x_iconst (q := 48) E dX6_told_47 rfl ?_
        refine x_icmp_ne (tgt := 58) (q := 51) E dX6_told_48 (by decide) rfl (by omega) (by omega) (fun c48 => ?_) (fun c48 => ?_)
        · refine x_iload_n (q := 59) E dX6_told_58 1 rfl rfl ?_
          refine x_iconst (q := 60) E dX6_told_59 rfl ?_
          refine x_icmp_ne (tgt := 70) (q := 63) E dX6_told_60 (by decide) rfl (by omega) (by omega) (fun c60 => ?_) (fun c60 => ?_)
          · refine x_bipush (q := 72) E dX6_told_70 (by decide) rfl ?_
            exact RET _ _ _ _ dX6_told_72 (⟨by rw [if_neg (by omega), if_neg (by omega), if_neg (by omega), if_neg (by omega), if_neg (by omega)], hI⟩)
          · refine x_aload_n (q := 64) E dX6_told_63 0 rfl rfl ?_
            refine x_get (q := 67) E iX6_told_X6 (0) rfl rfl 18 (by decide) (by decide +kernel) rfl dX6_told_64 rfl ?_
            refine x_goto (tgt := 72) E dX6_told_67 (by decide) ?_
            exact RET _ _ _ _ dX6_told_72 (⟨by rw [if_neg (by omega), if_neg (by omega), if_neg (by omega), if_pos (by omega)]; exact k3.2, hI⟩)
        · refine x_aload_n (q := 52) E dX6_told_51 0 rfl rfl ?_
          refine x_get (q := 55) E iX6_told_X6 (0) rfl rfl 16 (by decide) (by decide +kernel) rfl dX6_told_52 rfl ?_
          refine x_goto (tgt := 72) E dX6_told_55 (by decide) ?_
          exact RET _ _ _ _ dX6_told_72 (⟨by rw [if_neg (by omega), if_neg (by omega), if_pos (by omega)]; exact k3.1, hI⟩)
      · refine x_aload_n (q := 40) E dX6_told_39 0 rfl rfl ?_
        refine x_get (q := 43) E iX6_told_X6 (0) rfl rfl 11 (by decide) (by decide +kernel) rfl dX6_told_40 rfl ?_
        refine x_goto (tgt := 72) E dX6_told_43 (by decide) ?_
        exact RET _ _ _ _ dX6_told_72 (⟨by rw [if_neg (by omega), if_pos (by omega)]; exact hL.symm, hI⟩)
    · refine x_aload_n (q := 28) E dX6_told_27 0 rfl rfl ?_
      refine x_get (q := 31) E iX6_told_X6 (0) rfl rfl 2 (by decide) (by decide +kernel) rfl dX6_told_28 rfl ?_
      refine x_goto (tgt := 72) E dX6_told_31 (by decide) ?_
      exact RET _ _ _ _ dX6_told_72 (⟨by rw [if_pos (by omega)]; exact k1, hI⟩)
  · refine x_aload_n (q := 15) E dX6_told_14 0 rfl rfl ?_
    refine x_get (q := 18) E iX6_told_X6 (0) rfl rfl 1 (by decide) (by decide +kernel) rfl dX6_told_15 rfl ?_
    refine x_iload_n (q := 19) E dX6_told_18 1 rfl rfl ?_
    refine x_iconst (q := 20) E dX6_told_19 rfl ?_
    refine x_isub (q := 21) E dX6_told_20 rfl ?_
    refine x_iald (q := 22) (f := st.2 (1)) E (2) rfl 0 rfl (by omega) (by omega) (by decide) dX6_told_21 rfl ?_
    exact RET _ _ _ _ dX6_told_22 (⟨by have y := (k4 (k - 4).toNat (by omega)).1; rw [show (((k - 4).toNat : Nat) : Int) = k - 4 from by omega] at y; rw [if_neg (by omega), if_neg (by omega), if_neg (by omega), if_neg (by omega), if_pos (by omega)]; exact y, hI⟩)

