def wat (st : St_) (w : Nat) (k : Int) : Int := if 0 ≤ k ∧ k < st.1 (10 + w) ∧ k < 60 then st.2 (14 + w) k else -1
def nat_ (st : St_) (i : Nat) (k : Int) : Int := if 0 ≤ k ∧ k < st.1 (7 + i) ∧ k < 100001 then st.2 (5 + i) k else -1
theorem iX4_size_X4 : ∀ w ∈ wsX40, w ∈ wsX4_size := by decide +kernel
set_option maxRecDepth 100000 in
set_option maxHeartbeats 4000000 in
theorem c_X4_size (l : Launch) (D : va_G) (T : Nat → ClassId) (ad : Nat → Nat) (hN : ∀ i j, i < 33 → j < 33 → ad i = ad j → i = j) (st : St_) (w : Nat) (hw : w < 3) : CXi l yX4_size wsX4_size (rmX 0 0) [.ref (ad (25 + w))] D (tyX T) (XW T ad) (alX ad) st (fun z st2 => st.1 (10 + w) = z ∧ st = st2) := by
  refine mk_i (cc := cX4_size) (nL := 1) rfl rfl (XW_ok hN) (Nat.le_of_ble_eq_true rfl) [(0, .ref (ad (25 + w)))] rfl (fun p e s m args below meth c A Q E RET => ?_)
  refine x_aload_n (q := 1) E dX4_size_0 0 rfl rfl ?_
  refine x_get (q := 4) E iX4_size_X4 (25 + w) (xg_word hw) rfl 1 (by decide) (by decide +kernel) rfl dX4_size_1 rfl ?_
  exact RET _ _ _ _ dX4_size_4 (⟨rfl, rfl⟩)

theorem iX4_letterAt_X4 : ∀ w ∈ wsX40, w ∈ wsX4_letterAt := by decide +kernel
set_option maxRecDepth 100000 in
set_option maxHeartbeats 4000000 in
theorem c_X4_letterAt (l : Launch) (D : va_G) (T : Nat → ClassId) (ad : Nat → Nat) (hN : ∀ i j, i < 33 → j < 33 → ad i = ad j → i = j) (st : St_) (w : Nat) (hw : w < 3) (k : Int) (bk : -2147483648 ≤ k ∧ k < 2147483648) (hs : 0 ≤ st.1 (10 + w) ∧ st.1 (10 + w) ≤ 60) : CXi l yX4_letterAt wsX4_letterAt (rmX 0 0) [.ref (ad (25 + w)), .int (ii (k))] D (tyX T) (XW T ad) (alX ad) st (fun z st2 => wat st w (k) = z ∧ st = st2) := by
  refine mk_i (cc := cX4_letterAt) (nL := 2) rfl rfl (XW_ok hN) (Nat.le_of_ble_eq_true rfl) [(0, .ref (ad (25 + w))), (1, .int (ii (k)))] rfl (fun p e s m args below meth c A Q E RET => ?_)
  refine x_iload_n (q := 1) E dX4_letterAt_0 1 rfl rfl ?_
  refine x_if_lt (tgt := 30) (q := 4) E dX4_letterAt_1 (by decide) rfl (by omega) (fun c1 => ?_) (fun c1 => ?_)
  · refine x_iconst (q := 31) E dX4_letterAt_30 rfl ?_
    exact RET _ _ _ _ dX4_letterAt_31 (⟨by unfold wat; first | (exfalso; omega) | (rw [if_pos (by omega)]) | (rw [if_neg (by omega)]), rfl⟩)
  · refine x_iload_n (q := 5) E dX4_letterAt_4 1 rfl rfl ?_
    refine x_aload_n (q := 6) E dX4_letterAt_5 0 rfl rfl ?_
    refine x_get (q := 9) E iX4_letterAt_X4 (25 + w) (xg_word hw) rfl 1 (by decide) (by decide +kernel) rfl dX4_letterAt_6 rfl ?_
    refine x_icmp_ge (tgt := 30) (q := 12) E dX4_letterAt_9 (by decide) rfl (by omega) (by omega) (fun c9 => ?_) (fun c9 => ?_)
    · refine x_iconst (q := 31) E dX4_letterAt_30 rfl ?_
      exact RET _ _ _ _ dX4_letterAt_31 (⟨by unfold wat; first | (exfalso; omega) | (rw [if_pos (by omega)]) | (rw [if_neg (by omega)]), rfl⟩)
    · refine x_iload_n (q := 13) E dX4_letterAt_12 1 rfl rfl ?_
      refine x_aload_n (q := 14) E dX4_letterAt_13 0 rfl rfl ?_
      refine x_get (q := 17) E iX4_letterAt_X4 (25 + w) (xg_word hw) rfl 0 (by decide) (by decide +kernel) rfl dX4_letterAt_14 rfl ?_
      refine x_alen (q := 18) E (28 + w) (xg_wl hw) 0 rfl dX4_letterAt_17 rfl ?_
      refine x_ti (show (((60 : Nat) : Int)) = 60 from rfl) ?_
      refine x_icmp_ge (tgt := 30) (q := 21) E dX4_letterAt_18 (by decide) rfl (by omega) (by omega) (fun c18 => ?_) (fun c18 => ?_)
      · refine x_iconst (q := 31) E dX4_letterAt_30 rfl ?_
        exact RET _ _ _ _ dX4_letterAt_31 (⟨by unfold wat; first | (exfalso; omega) | (rw [if_pos (by omega)]) | (rw [if_neg (by omega)]), rfl⟩)
      · refine x_aload_n (q := 22) E dX4_letterAt_21 0 rfl rfl ?_
        refine x_get (q := 25) E iX4_letterAt_X4 (25 + w) (xg_word hw) rfl 0 (by decide) (by decide +kernel) rfl dX4_letterAt_22 rfl ?_
        refine x_iload_n (q := 26) E dX4_letterAt_25 1 rfl rfl ?_
        refine x_iald (q := 27) (f := st.2 (14 + w)) E (28 + w) (xg_wl hw) 0 rfl (by omega) (by omega) (by decide) dX4_letterAt_26 rfl ?_
        refine x_goto (tgt := 31) E dX4_letterAt_27 (by decide) ?_
        exact RET _ _ _ _ dX4_letterAt_31 (⟨by unfold wat; first | (exfalso; omega) | (rw [if_pos (by omega)]) | (rw [if_neg (by omega)]), rfl⟩)

theorem iX4_empty_X4 : ∀ w ∈ wsX40, w ∈ wsX4_empty := by decide +kernel
set_option maxRecDepth 100000 in
set_option maxHeartbeats 4000000 in
theorem c_X4_empty (l : Launch) (D : va_G) (T : Nat → ClassId) (ad : Nat → Nat) (hN : ∀ i j, i < 33 → j < 33 → ad i = ad j → i = j) (st : St_) (w : Nat) (hw : w < 3) : CXv l yX4_empty wsX4_empty (rmX 0 0) [.ref (ad (25 + w))] D (tyX T) (XW T ad) (alX ad) st (fun st2 => st2 = sG st (10 + w) 0) := by
  refine mk_v (cc := cX4_empty) (nL := 1) rfl rfl (XW_ok hN) (Nat.le_of_ble_eq_true rfl) [(0, .ref (ad (25 + w)))] rfl (fun p e s m args below meth c A Q E RET => ?_)
  refine x_aload_n (q := 1) E dX4_empty_0 0 rfl rfl ?_
  refine x_iconst (q := 2) E dX4_empty_1 rfl ?_
  refine x_put (q := 5) (st' := (sG st (10 + w) (0))) (v := .int (ii (0))) (ty := .int) E iX4_empty_X4 tyX4 tyX4_ok nmX4 (25 + w) (xg_word hw) rfl 1 (by decide) (by decide +kernel) rfl (by decide +kernel) rfl rfl (Nat.le_of_ble_eq_true rfl) dX4_empty_2 (xs_word hw _) rfl ?_
  exact RET _ _ _ dX4_empty_5 (rfl)

theorem iX4_put_X4 : ∀ w ∈ wsX40, w ∈ wsX4_put := by decide +kernel
set_option maxRecDepth 100000 in
set_option maxHeartbeats 4000000 in
theorem c_X4_put (l : Launch) (D : va_G) (T : Nat → ClassId) (ad : Nat → Nat) (hN : ∀ i j, i < 33 → j < 33 → ad i = ad j → i = j) (st : St_) (w : Nat) (hw : w < 3) (v : Int) (bv : -2147483648 ≤ v ∧ v < 2147483648) (hs : 0 ≤ st.1 (10 + w) ∧ st.1 (10 + w) < 60) : CXi l yX4_put wsX4_put (rmX 0 0) [.ref (ad (25 + w)), .int (ii (v))] D (tyX T) (XW T ad) (alX ad) st (fun z st2 => z = 1 ∧ st2 = sG (sA st (14 + w) (st.1 (10 + w)) v) (10 + w) (st.1 (10 + w) + 1)) := by
  refine mk_z (cc := cX4_put) (nL := 2) rfl rfl (XW_ok hN) (Nat.le_of_ble_eq_true rfl) [(0, .ref (ad (25 + w))), (1, .int (ii (v)))] rfl (fun p e s m args below meth c A Q E RET => ?_)
  refine x_aload_n (q := 1) E dX4_put_0 0 rfl rfl ?_
  refine x_get (q := 4) E iX4_put_X4 (25 + w) (xg_word hw) rfl 1 (by decide) (by decide +kernel) rfl dX4_put_1 rfl ?_
  refine x_if_lt (tgt := 19) (q := 7) E dX4_put_4 (by decide) rfl (by omega) (fun c4 => ?_) (fun c4 => ?_)
  · refine x_iconst (q := 20) E dX4_put_19 rfl ?_
    exact RET _ _ _ _ dX4_put_20 (by omega) (by first | (exfalso; omega) | exact ⟨rfl, rfl⟩)
  · refine x_aload_n (q := 8) E dX4_put_7 0 rfl rfl ?_
    refine x_get (q := 11) E iX4_put_X4 (25 + w) (xg_word hw) rfl 1 (by decide) (by decide +kernel) rfl dX4_put_8 rfl ?_
    refine x_aload_n (q := 12) E dX4_put_11 0 rfl rfl ?_
    refine x_get (q := 15) E iX4_put_X4 (25 + w) (xg_word hw) rfl 0 (by decide) (by decide +kernel) rfl dX4_put_12 rfl ?_
    refine x_alen (q := 16) E (28 + w) (xg_wl hw) 0 rfl dX4_put_15 rfl ?_
    refine x_ti (show (((60 : Nat) : Int)) = 60 from rfl) ?_
    refine x_icmp_lt (tgt := 21) (q := 19) E dX4_put_16 (by decide) rfl (by omega) (by omega) (fun c16 => ?_) (fun c16 => ?_)
    · refine x_aload_n (q := 22) E dX4_put_21 0 rfl rfl ?_
      refine x_get (q := 25) E iX4_put_X4 (25 + w) (xg_word hw) rfl 0 (by decide) (by decide +kernel) rfl dX4_put_22 rfl ?_
      refine x_aload_n (q := 26) E dX4_put_25 0 rfl rfl ?_
      refine x_get (q := 29) E iX4_put_X4 (25 + w) (xg_word hw) rfl 1 (by decide) (by decide +kernel) rfl dX4_put_26 rfl ?_
      refine x_iload_n (q := 30) E dX4_put_29 1 rfl rfl ?_
      refine x_iast (q := 31) (st' := (sA st (14 + w) (st.1 (10 + w)) (v))) (f := st.2 (14 + w)) E (28 + w) (xg_wl hw) 0 rfl (by omega) (by omega) (by decide) dX4_put_30 (xs_wl hw _ _) rfl ?_
      refine x_aload_n (q := 32) E dX4_put_31 0 rfl rfl ?_
      refine x_dup (q := 33) E dX4_put_32 rfl rfl ?_
      refine x_get (q := 36) E iX4_put_X4 (25 + w) (xg_word hw) rfl 1 (by decide) (by decide +kernel) rfl dX4_put_33 rfl ?_
      refine x_ti (show (sA st (14 + w) (st.1 (10 + w)) (v)).1 (10 + w) = st.1 (10 + w) by rw [sA_1]) ?_
      refine x_iconst (q := 37) E dX4_put_36 rfl ?_
      refine x_iadd (q := 38) E dX4_put_37 rfl ?_
      refine x_put (q := 41) (st' := (sG (sA st (14 + w) (st.1 (10 + w)) (v)) (10 + w) ((st.1 (10 + w)) + (1)))) (v := .int (ii ((st.1 (10 + w)) + (1)))) (ty := .int) E iX4_put_X4 tyX4 tyX4_ok nmX4 (25 + w) (xg_word hw) rfl 1 (by decide) (by decide +kernel) rfl (by decide +kernel) rfl rfl (Nat.le_of_ble_eq_true rfl) dX4_put_38 (xs_word hw _) rfl ?_
      refine x_iconst (q := 42) E dX4_put_41 rfl ?_
      exact RET _ _ _ _ dX4_put_42 (by omega) (by first | (exfalso; omega) | exact ⟨rfl, rfl⟩)
    · refine x_iconst (q := 20) E dX4_put_19 rfl ?_
      exact RET _ _ _ _ dX4_put_20 (by omega) (by first | (exfalso; omega) | exact ⟨rfl, rfl⟩)

theorem iX4_put_f_X4 : ∀ w ∈ wsX40, w ∈ wsX4_put := by decide +kernel
set_option maxRecDepth 100000 in
set_option maxHeartbeats 4000000 in
theorem c_X4_put_f (l : Launch) (D : va_G) (T : Nat → ClassId) (ad : Nat → Nat) (hN : ∀ i j, i < 33 → j < 33 → ad i = ad j → i = j) (st : St_) (w : Nat) (hw : w < 3) (v : Int) (bv : -2147483648 ≤ v ∧ v < 2147483648) (hs : st.1 (10 + w) = 60) : CXi l yX4_put wsX4_put (rmX 0 0) [.ref (ad (25 + w)), .int (ii (v))] D (tyX T) (XW T ad) (alX ad) st (fun z st2 => z = 0 ∧ st2 = st) := by
  refine mk_z (cc := cX4_put) (nL := 2) rfl rfl (XW_ok hN) (Nat.le_of_ble_eq_true rfl) [(0, .ref (ad (25 + w))), (1, .int (ii (v)))] rfl (fun p e s m args below meth c A Q E RET => ?_)
  refine x_aload_n (q := 1) E dX4_put_0 0 rfl rfl ?_
  refine x_get (q := 4) E iX4_put_f_X4 (25 + w) (xg_word hw) rfl 1 (by decide) (by decide +kernel) rfl dX4_put_1 rfl ?_
  refine x_if_lt (tgt := 19) (q := 7) E dX4_put_4 (by decide) rfl (by omega) (fun c4 => ?_) (fun c4 => ?_)
  · refine x_iconst (q := 20) E dX4_put_19 rfl ?_
    exact RET _ _ _ _ dX4_put_20 (by omega) (by first | (exfalso; omega) | exact ⟨rfl, rfl⟩)
  · refine x_aload_n (q := 8) E dX4_put_7 0 rfl rfl ?_
    refine x_get (q := 11) E iX4_put_f_X4 (25 + w) (xg_word hw) rfl 1 (by decide) (by decide +kernel) rfl dX4_put_8 rfl ?_
    refine x_aload_n (q := 12) E dX4_put_11 0 rfl rfl ?_
    refine x_get (q := 15) E iX4_put_f_X4 (25 + w) (xg_word hw) rfl 0 (by decide) (by decide +kernel) rfl dX4_put_12 rfl ?_
    refine x_alen (q := 16) E (28 + w) (xg_wl hw) 0 rfl dX4_put_15 rfl ?_
    refine x_ti (show (((60 : Nat) : Int)) = 60 from rfl) ?_
    refine x_icmp_lt (tgt := 21) (q := 19) E dX4_put_16 (by decide) rfl (by omega) (by omega) (fun c16 => ?_) (fun c16 => ?_)
    · refine x_aload_n (q := 22) E dX4_put_21 0 rfl rfl ?_
      refine x_get (q := 25) E iX4_put_f_X4 (25 + w) (xg_word hw) rfl 0 (by decide) (by decide +kernel) rfl dX4_put_22 rfl ?_
      refine x_aload_n (q := 26) E dX4_put_25 0 rfl rfl ?_
      refine x_get (q := 29) E iX4_put_f_X4 (25 + w) (xg_word hw) rfl 1 (by decide) (by decide +kernel) rfl dX4_put_26 rfl ?_
      refine x_iload_n (q := 30) E dX4_put_29 1 rfl rfl ?_
      refine x_iast (q := 31) (st' := (sA st (14 + w) (st.1 (10 + w)) (v))) (f := st.2 (14 + w)) E (28 + w) (xg_wl hw) 0 rfl (by omega) (by omega) (by decide) dX4_put_30 (xs_wl hw _ _) rfl ?_
      refine x_aload_n (q := 32) E dX4_put_31 0 rfl rfl ?_
      refine x_dup (q := 33) E dX4_put_32 rfl rfl ?_
      refine x_get (q := 36) E iX4_put_f_X4 (25 + w) (xg_word hw) rfl 1 (by decide) (by decide +kernel) rfl dX4_put_33 rfl ?_
      refine x_ti (show (sA st (14 + w) (st.1 (10 + w)) (v)).1 (10 + w) = st.1 (10 + w) by rw [sA_1]) ?_
      refine x_iconst (q := 37) E dX4_put_36 rfl ?_
      refine x_iadd (q := 38) E dX4_put_37 rfl ?_
      refine x_put (q := 41) (st' := (sG (sA st (14 + w) (st.1 (10 + w)) (v)) (10 + w) ((st.1 (10 + w)) + (1)))) (v := .int (ii ((st.1 (10 + w)) + (1)))) (ty := .int) E iX4_put_f_X4 tyX4 tyX4_ok nmX4 (25 + w) (xg_word hw) rfl 1 (by decide) (by decide +kernel) rfl (by decide +kernel) rfl rfl (Nat.le_of_ble_eq_true rfl) dX4_put_38 (xs_word hw _) rfl ?_
      refine x_iconst (q := 42) E dX4_put_41 rfl ?_
      exact RET _ _ _ _ dX4_put_42 (by omega) (by first | (exfalso; omega) | exact ⟨rfl, rfl⟩)
    · refine x_iconst (q := 20) E dX4_put_19 rfl ?_
      exact RET _ _ _ _ dX4_put_20 (by omega) (by first | (exfalso; omega) | exact ⟨rfl, rfl⟩)

theorem iX4_drop_X4 : ∀ w ∈ wsX40, w ∈ wsX4_drop := by decide +kernel
set_option maxRecDepth 100000 in
set_option maxHeartbeats 4000000 in
theorem c_X4_drop (l : Launch) (D : va_G) (T : Nat → ClassId) (ad : Nat → Nat) (hN : ∀ i j, i < 33 → j < 33 → ad i = ad j → i = j) (st : St_) (w : Nat) (hw : w < 3) (hs : 0 ≤ st.1 (10 + w) ∧ st.1 (10 + w) ≤ 60) : CXv l yX4_drop wsX4_drop (rmX 0 0) [.ref (ad (25 + w))] D (tyX T) (XW T ad) (alX ad) st (fun st2 => (0 < st.1 (10 + w) ∧ st2 = sG st (10 + w) (st.1 (10 + w) - 1)) ∨ (¬ 0 < st.1 (10 + w) ∧ st2 = st)) := by
  refine mk_v (cc := cX4_drop) (nL := 1) rfl rfl (XW_ok hN) (Nat.le_of_ble_eq_true rfl) [(0, .ref (ad (25 + w)))] rfl (fun p e s m args below meth c A Q E RET => ?_)
  refine x_aload_n (q := 1) E dX4_drop_0 0 rfl rfl ?_
  refine x_get (q := 4) E iX4_drop_X4 (25 + w) (xg_word hw) rfl 1 (by decide) (by decide +kernel) rfl dX4_drop_1 rfl ?_
  refine x_if_le (tgt := 17) (q := 7) E dX4_drop_4 (by decide) rfl (by omega) (fun c4 => ?_) (fun c4 => ?_)
  · exact RET _ _ _ dX4_drop_17 (by first | exact Or.inl ⟨by omega, rfl⟩ | exact Or.inr ⟨by omega, rfl⟩)
  · refine x_aload_n (q := 8) E dX4_drop_7 0 rfl rfl ?_
    refine x_dup (q := 9) E dX4_drop_8 rfl rfl ?_
    refine x_get (q := 12) E iX4_drop_X4 (25 + w) (xg_word hw) rfl 1 (by decide) (by decide +kernel) rfl dX4_drop_9 rfl ?_
    refine x_iconst (q := 13) E dX4_drop_12 rfl ?_
    refine x_isub (q := 14) E dX4_drop_13 rfl ?_
    refine x_put (q := 17) (st' := (sG st (10 + w) ((st.1 (10 + w)) - (1)))) (v := .int (ii ((st.1 (10 + w)) - (1)))) (ty := .int) E iX4_drop_X4 tyX4 tyX4_ok nmX4 (25 + w) (xg_word hw) rfl 1 (by decide) (by decide +kernel) rfl (by decide +kernel) rfl rfl (Nat.le_of_ble_eq_true rfl) dX4_drop_14 (xs_word hw _) rfl ?_
    exact RET _ _ _ dX4_drop_17 (by first | exact Or.inl ⟨by omega, rfl⟩ | exact Or.inr ⟨by omega, rfl⟩)

set_option maxRecDepth 100000 in
set_option maxHeartbeats 4000000 in
theorem c_X4_isEndOfRun (l : Launch) (D : va_G) (T : Nat → ClassId) (ad : Nat → Nat) (hN : ∀ i j, i < 33 → j < 33 → ad i = ad j → i = j) (st : St_) (w : Nat) (hw : w < 3) (k : Int) (bk : -2147483648 ≤ k ∧ k < 2147483648) (hs : 0 ≤ st.1 (10 + w) ∧ st.1 (10 + w) ≤ 60) (hk : k < 100 ∧ -1 ≤ k) (hb : ∀ j, 0 ≤ j → j < 60 → -1 ≤ st.2 (14 + w) j ∧ st.2 (14 + w) j ≤ 100) : CXi l yX4_isEndOfRun wsX4_isEndOfRun (rmX 1 21) [.ref (ad (25 + w)), .int (ii (k))] D (tyX T) (XW T ad) (alX ad) st (fun z st2 => (if wat st w (k) = wat st w (k + 1) then 0 else 1) = z ∧ st = st2) := by
  refine mk_z (cc := cX4_isEndOfRun) (nL := 2) rfl rfl (XW_ok hN) (Nat.le_of_ble_eq_true rfl) [(0, .ref (ad (25 + w))), (1, .int (ii (k)))] rfl (fun p e s m args below meth c A Q E RET => ?_)
  have hwt : ∀ j, -1 ≤ wat st w j ∧ wat st w j ≤ 100 := by
    intro j; unfold wat; split
    · exact hb j (by omega) (by omega)
    · omega
  have hw0 := hwt k
  have hw1 := hwt (k + 1)
  refine x_aload_n (q := 1) E dX4_isEndOfRun_0 0 rfl rfl ?_
  refine x_iload_n (q := 2) E dX4_isEndOfRun_1 1 rfl rfl ?_
  refine x_callVi (q := 5) (n := 1) (As := [.int (ii (k))]) (r := []) E (c_X4_letterAt l D T ad hN st (w) hw (k) (by omega) (by omega)) gX4_isEndOfRun_X4_letterAt rfl rfl rfl (by decide +kernel) ⟨Nat.le_of_ble_eq_true rfl, Nat.le_of_ble_eq_true rfl⟩ (25 + w) (xg_word hw) rfl rfl rfl (Nat.le_of_ble_eq_true rfl) dX4_isEndOfRun_2 rfl (fun z1 s2 q3 => ?_)
  obtain ⟨rfl, rfl⟩ := q3
  refine x_aload_n (q := 6) E dX4_isEndOfRun_5 0 rfl rfl ?_
  refine x_iload_n (q := 7) E dX4_isEndOfRun_6 1 rfl rfl ?_
  refine x_iconst (q := 8) E dX4_isEndOfRun_7 rfl ?_
  refine x_iadd (q := 9) E dX4_isEndOfRun_8 rfl ?_
  refine x_callVi (q := 12) (n := 1) (As := [.int (ii ((k) + (1)))]) (r := [.int (ii (wat st w (k)))]) E (c_X4_letterAt l D T ad hN st (w) hw ((k) + (1)) (by omega) (by omega)) gX4_isEndOfRun_X4_letterAt rfl rfl rfl (by decide +kernel) ⟨Nat.le_of_ble_eq_true rfl, Nat.le_of_ble_eq_true rfl⟩ (25 + w) (xg_word hw) rfl rfl rfl (Nat.le_of_ble_eq_true rfl) dX4_isEndOfRun_9 rfl (fun z4 s5 q6 => ?_)
  obtain ⟨rfl, rfl⟩ := q6
  refine x_icmp_eq (tgt := 19) (q := 15) E dX4_isEndOfRun_12 (by decide) rfl (by omega) (by omega) (fun c12 => ?_) (fun c12 => ?_)
  · refine x_iconst (q := 20) E dX4_isEndOfRun_19 rfl ?_
    exact RET _ _ _ _ dX4_isEndOfRun_20 (by omega) (⟨by first | (exfalso; omega) | (rw [if_pos (by omega)]) | (rw [if_neg (by omega)]), rfl⟩)
  · refine x_iconst (q := 16) E dX4_isEndOfRun_15 rfl ?_
    refine x_goto (tgt := 20) E dX4_isEndOfRun_16 (by decide) ?_
    exact RET _ _ _ _ dX4_isEndOfRun_20 (by omega) (⟨by first | (exfalso; omega) | (rw [if_pos (by omega)]) | (rw [if_neg (by omega)]), rfl⟩)

theorem iX2_number_X2 : ∀ w ∈ wsX20, w ∈ wsX2_number := by decide +kernel
set_option maxRecDepth 100000 in
set_option maxHeartbeats 4000000 in
theorem c_X2_number (l : Launch) (D : va_G) (T : Nat → ClassId) (ad : Nat → Nat) (hN : ∀ i j, i < 33 → j < 33 → ad i = ad j → i = j) (st : St_) (i : Nat) (hi : i < 3) (k : Int) (bk : -2147483648 ≤ k ∧ k < 2147483648) (hm : 0 ≤ st.1 (7 + i) ∧ st.1 (7 + i) ≤ 100001) : CXi l yX2_number wsX2_number (rmX 0 0) [.ref (ad (13 + i)), .int (ii (k))] D (tyX T) (XW T ad) (alX ad) st (fun z st2 => nat_ st i (k) = z ∧ st = st2) := by
  refine mk_i (cc := cX2_number) (nL := 2) rfl rfl (XW_ok hN) (Nat.le_of_ble_eq_true rfl) [(0, .ref (ad (13 + i))), (1, .int (ii (k)))] rfl (fun p e s m args below meth c A Q E RET => ?_)
  refine x_iload_n (q := 1) E dX2_number_0 1 rfl rfl ?_
  refine x_if_lt (tgt := 30) (q := 4) E dX2_number_1 (by decide) rfl (by omega) (fun c1 => ?_) (fun c1 => ?_)
  · refine x_iconst (q := 31) E dX2_number_30 rfl ?_
    exact RET _ _ _ _ dX2_number_31 (⟨by unfold nat_; first | (exfalso; omega) | (rw [if_pos (by omega)]) | (rw [if_neg (by omega)]), rfl⟩)
  · refine x_iload_n (q := 5) E dX2_number_4 1 rfl rfl ?_
    refine x_aload_n (q := 6) E dX2_number_5 0 rfl rfl ?_
    refine x_get (q := 9) E iX2_number_X2 (13 + i) (xg_row hi) rfl 3 (by decide) (by decide +kernel) rfl dX2_number_6 rfl ?_
    refine x_icmp_ge (tgt := 30) (q := 12) E dX2_number_9 (by decide) rfl (by omega) (by omega) (fun c9 => ?_) (fun c9 => ?_)
    · refine x_iconst (q := 31) E dX2_number_30 rfl ?_
      exact RET _ _ _ _ dX2_number_31 (⟨by unfold nat_; first | (exfalso; omega) | (rw [if_pos (by omega)]) | (rw [if_neg (by omega)]), rfl⟩)
    · refine x_iload_n (q := 13) E dX2_number_12 1 rfl rfl ?_
      refine x_aload_n (q := 14) E dX2_number_13 0 rfl rfl ?_
      refine x_get (q := 17) E iX2_number_X2 (13 + i) (xg_row hi) rfl 0 (by decide) (by decide +kernel) rfl dX2_number_14 rfl ?_
      refine x_alen (q := 18) E (16 + i) (xg_num hi) 1 rfl dX2_number_17 rfl ?_
      refine x_ti (show (((100001 : Nat) : Int)) = 100001 from rfl) ?_
      refine x_icmp_ge (tgt := 30) (q := 21) E dX2_number_18 (by decide) rfl (by omega) (by omega) (fun c18 => ?_) (fun c18 => ?_)
      · refine x_iconst (q := 31) E dX2_number_30 rfl ?_
        exact RET _ _ _ _ dX2_number_31 (⟨by unfold nat_; first | (exfalso; omega) | (rw [if_pos (by omega)]) | (rw [if_neg (by omega)]), rfl⟩)
      · refine x_aload_n (q := 22) E dX2_number_21 0 rfl rfl ?_
        refine x_get (q := 25) E iX2_number_X2 (13 + i) (xg_row hi) rfl 0 (by decide) (by decide +kernel) rfl dX2_number_22 rfl ?_
        refine x_iload_n (q := 26) E dX2_number_25 1 rfl rfl ?_
        refine x_bald (q := 27) (f := st.2 (5 + i)) E (16 + i) (xg_num hi) 1 rfl (by omega) (by omega) (by decide) dX2_number_26 rfl ?_
        refine x_goto (tgt := 31) E dX2_number_27 (by decide) ?_
        exact RET _ _ _ _ dX2_number_31 (⟨by unfold nat_; first | (exfalso; omega) | (rw [if_pos (by omega)]) | (rw [if_neg (by omega)]), rfl⟩)

theorem iX4_total_X4 : ∀ w ∈ wsX40, w ∈ wsX4_total := by decide +kernel
set_option maxRecDepth 100000 in
set_option maxHeartbeats 4000000 in
theorem c_X4_total (l : Launch) (D : va_G) (T : Nat → ClassId) (ad : Nat → Nat) (hN : ∀ i j, i < 33 → j < 33 → ad i = ad j → i = j) (st : St_) (w : Nat) (hw : w < 3) (hs : 0 ≤ st.1 (10 + w) ∧ st.1 (10 + w) ≤ 60) (hb : ∀ j : Int, 0 ≤ j → j < 60 → 0 ≤ st.2 (14 + w) j ∧ st.2 (14 + w) j ≤ 60) : CXi l yX4_total wsX4_total (rmX 1 21) [.ref (ad (25 + w))] D (tyX T) (XW T ad) (alX ad) st (fun z st2 => isum (st.2 (14 + w)) (st.1 (10 + w)) = z ∧ st = st2) := by
  refine mk_i (cc := cX4_total) (nL := 3) rfl rfl (XW_ok hN) (Nat.le_of_ble_eq_true rfl) [(0, .ref (ad (25 + w)))] rfl (fun p e s m args below meth c A Q E RET => ?_)
  refine x_iconst (q := 1) E dX4_total_0 rfl ?_
  refine x_istore_n (q := 2) (lv' := [(1, .int (ii (0))), (0, .ref (ad (25 + w)))]) E dX4_total_1 (by decide) rfl rfl ?_
  refine x_iconst (q := 3) E dX4_total_2 rfl ?_
  refine x_istore_n (q := 4) (lv' := [(2, .int (ii (0))), (1, .int (ii (0))), (0, .ref (ad (25 + w)))]) E dX4_total_3 (by decide) rfl rfl ?_
  have L4 : ∀ (n : Nat) (t : Int) (j : Int), (st.1 (10 + w) - j).toNat < n → (0 ≤ j ∧ j ≤ st.1 (10 + w)) → (t = isum (st.2 (14 + w)) j) → (0 ≤ t ∧ t ≤ 60 * j) → XJ p l e (rmX 1 21) s m args below meth c D (XW T ad) A 3 Q 0 0 st 4 [(0, .ref (ad (25 + w))), (1, .int (ii (t))), (2, .int (ii (j)))] [] := by
    intro n
    induction n with
    | zero => intro t j hn; exact absurd hn (Nat.not_lt_zero _)
    | succ n ih4 =>
      intro t j hn4 h0 h1 h2
      refine x_iload_n (q := 5) E dX4_total_4 2 rfl rfl ?_
      refine x_aload_n (q := 6) E dX4_total_5 0 rfl rfl ?_
      refine x_get (q := 9) E iX4_total_X4 (25 + w) (xg_word hw) rfl 1 (by decide) (by decide +kernel) rfl dX4_total_6 rfl ?_
      refine x_icmp_ge (tgt := 26) (q := 12) E dX4_total_9 (by decide) rfl (by omega) (by omega) (fun c9 => ?_) (fun c9 => ?_)
      · refine x_iload_n (q := 27) E dX4_total_26 1 rfl rfl ?_
        exact RET _ _ _ _ dX4_total_27 (⟨by rw [h1]; exact congrArg _ (by omega), rfl⟩)
      · have hwt : wat st w j = st.2 (14 + w) j := by unfold wat; rw [if_pos (by omega)]
        refine x_iload_n (q := 13) E dX4_total_12 1 rfl rfl ?_
        refine x_aload_n (q := 14) E dX4_total_13 0 rfl rfl ?_
        refine x_iload_n (q := 15) E dX4_total_14 2 rfl rfl ?_
        refine x_callVi (q := 18) (n := 1) (As := [.int (ii (j))]) (r := [.int (ii (t))]) E (c_X4_letterAt l D T ad hN st (w) hw (j) (by omega) (by omega)) gX4_total_X4_letterAt rfl rfl rfl (by decide +kernel) ⟨Nat.le_of_ble_eq_true rfl, Nat.le_of_ble_eq_true rfl⟩ (25 + w) (xg_word hw) rfl rfl rfl (Nat.le_of_ble_eq_true rfl) dX4_total_15 rfl (fun z1 s2 q3 => ?_)
        obtain ⟨rfl, rfl⟩ := q3
        refine x_iadd (q := 19) E dX4_total_18 rfl ?_
        refine x_istore_n (q := 20) (lv' := [(1, .int (ii ((t) + (wat st w (j))))), (0, .ref (ad (25 + w))), (2, .int (ii (j)))]) E dX4_total_19 (by decide) rfl rfl ?_
        refine x_iinc (q := 23) (k := 2) (lv' := [(2, .int (ii (j + 1))), (1, .int (ii ((t) + (wat st w (j))))), (0, .ref (ad (25 + w)))]) E dX4_total_20 rfl (by decide) rfl rfl ?_
        refine x_goto (tgt := 4) E dX4_total_23 (by decide) ?_
        refine x_lv E (lv' := [(0, .ref (ad (25 + w))), (1, .int (ii ((t) + (wat st w (j))))), (2, .int (ii (j + 1)))]) [2, 1, 0] rfl ?_
        exact ih4 ((t) + (wat st w (j))) (j + 1) (by omega) (by omega) (by rw [hwt, h1, isum_s _ (by omega)]) (by rw [hwt]; have := hb j (by omega) (by omega); omega)
  refine x_lv E (lv' := [(0, .ref (ad (25 + w))), (1, .int (ii (0))), (2, .int (ii (0)))]) [2, 1, 0] rfl ?_
  exact L4 _ (0) (0) (Nat.lt_succ_self _) (by omega) ((isum_0 _).symm) (by omega)

theorem wat_in {st : St_} {w : Nat} {k : Int} (h0 : 0 ≤ k) (h1 : k < st.1 (10 + w)) (h2 : st.1 (10 + w) ≤ 60) : wat st w k = st.2 (14 + w) k := by unfold wat; rw [if_pos (by omega)]
theorem wat_out {st : St_} {w : Nat} {k : Int} (h : k < 0 ∨ st.1 (10 + w) ≤ k) : wat st w k = -1 := by unfold wat; rw [if_neg (by omega)]
theorem zup_b {f : Int → Int} {z v lo hi : Int} (h : ∀ j : Int, 0 ≤ j → j < 60 → lo ≤ f j ∧ f j ≤ hi) (h1 : lo ≤ v) (h2 : v ≤ hi) : ∀ j : Int, 0 ≤ j → j < 60 → lo ≤ zup f z v j ∧ zup f z v j ≤ hi := by
  intro j h3 h4
  by_cases hj : j = z
  · rw [hj, zup_eq]; exact ⟨h1, h2⟩
  · rw [zup_ne f v hj]; exact h j h3 h4
set_option maxRecDepth 100000 in
set_option maxHeartbeats 4000000 in
theorem c_X4_putTimes (l : Launch) (D : va_G) (T : Nat → ClassId) (ad : Nat → Nat) (hN : ∀ i j, i < 33 → j < 33 → ad i = ad j → i = j) (st : St_) (w : Nat) (hw : w < 3) (v : Int) (bv : -2147483648 ≤ v ∧ v < 2147483648) (t : Int) (bt : -2147483648 ≤ t ∧ t < 2147483648) (hs : 0 ≤ st.1 (10 + w) ∧ st.1 (10 + w) ≤ 60) (hv : 0 ≤ v ∧ v ≤ 60) (ht : 0 ≤ t ∧ st.1 (10 + w) + t ≤ 60) (hb : ∀ j : Int, 0 ≤ j → j < 60 → 0 ≤ st.2 (14 + w) j ∧ st.2 (14 + w) j ≤ 60) : CXv l yX4_putTimes wsX4_putTimes (rmX 1 21) [.ref (ad (25 + w)), .int (ii (v)), .int (ii (t))] D (tyX T) (XW T ad) (alX ad) st (fun st2 => ∃ f : Int → Int, st2 = sF (sG st (10 + w) (st.1 (10 + w) + t)) (14 + w) f ∧ wl f (st.1 (10 + w) + t) = wl (st.2 (14 + w)) (st.1 (10 + w)) ++ List.replicate t.toNat v ∧ ∀ j : Int, 0 ≤ j → j < 60 → 0 ≤ f j ∧ f j ≤ 60) := by
  refine mk_v (cc := cX4_putTimes) (nL := 4) rfl rfl (XW_ok hN) (Nat.le_of_ble_eq_true rfl) [(0, .ref (ad (25 + w))), (1, .int (ii (v))), (2, .int (ii (t)))] rfl (fun p e s m args below meth c A Q E RET => ?_)
  refine x_iconst (q := 1) E dX4_putTimes_0 rfl ?_
  refine x_istore_n (q := 2) (lv' := [(3, .int (ii (0))), (0, .ref (ad (25 + w))), (1, .int (ii (v))), (2, .int (ii (t)))]) E dX4_putTimes_1 (by decide) rfl rfl ?_
  have L2 : ∀ (n : Nat) (i : Int) (n1 : Int) (f : Int → Int), (t - i).toNat < n → (0 ≤ i ∧ i ≤ t) → (n1 = st.1 (10 + w) + i) → (wl f n1 = wl (st.2 (14 + w)) (st.1 (10 + w)) ++ List.replicate i.toNat v) → (∀ j : Int, 0 ≤ j → j < 60 → 0 ≤ f j ∧ f j ≤ 60) → XJ p l e (rmX 1 21) s m args below meth c D (XW T ad) A 4 Q 0 0 (sF (sG st (10 + w) (n1)) (14 + w) (f)) 2 [(0, .ref (ad (25 + w))), (1, .int (ii (v))), (2, .int (ii (t))), (3, .int (ii (i)))] [] := by
    intro n
    induction n with
    | zero => intro i n1 f hn; exact absurd hn (Nat.not_lt_zero _)
    | succ n ih2 =>
      intro i n1 f hn2 a1 a2 a3 a4
      refine x_iload_n (q := 3) E dX4_putTimes_2 3 rfl rfl ?_
      refine x_iload_n (q := 4) E dX4_putTimes_3 2 rfl rfl ?_
      refine x_icmp_ge (tgt := 19) (q := 7) E dX4_putTimes_4 (by decide) rfl (by omega) (by omega) (fun c4 => ?_) (fun c4 => ?_)
      · exact RET _ _ _ dX4_putTimes_19 (⟨f, by rw [show st.1 (10 + w) + t = n1 from by omega], by rw [show st.1 (10 + w) + t = n1 from by omega, a3, show i = t from by omega], a4⟩)
      · refine x_aload_n (q := 8) E dX4_putTimes_7 0 rfl rfl ?_
        refine x_iload_n (q := 9) E dX4_putTimes_8 1 rfl rfl ?_
        refine x_callVi (q := 12) (n := 1) (As := [.int (ii (v))]) (r := []) E (c_X4_put l D T ad hN (sF (sG st (10 + w) (n1)) (14 + w) (f)) (w) hw (v) (by omega) (by rw [sF_1, sG_s]; omega)) gX4_putTimes_X4_put rfl rfl rfl (by decide +kernel) ⟨Nat.le_of_ble_eq_true rfl, Nat.le_of_ble_eq_true rfl⟩ (25 + w) (xg_word hw) rfl rfl rfl (Nat.le_of_ble_eq_true rfl) dX4_putTimes_9 rfl (fun z1 s2 q3 => ?_)
        obtain ⟨rfl, rfl⟩ := q3
        refine x_pop (q := 13) E dX4_putTimes_12 rfl rfl ?_
        refine x_iinc (q := 16) (k := 3) (lv' := [(3, .int (ii (i + 1))), (0, .ref (ad (25 + w))), (1, .int (ii (v))), (2, .int (ii (t)))]) E dX4_putTimes_13 rfl (by decide) rfl rfl ?_
        refine x_goto (tgt := 2) E dX4_putTimes_16 (by decide) ?_
        refine x_st E (st' := (sF (sG st (10 + w) ((n1) + 1)) (14 + w) (zup (f) (n1) (v)))) (by refine Prod.ext (funext fun k9 => ?_) (funext fun q9 => ?_) <;> simp only [sG_1, sG_2, sA_1, sA_2, sF_1, sF_2, reduceIte] <;> (repeat' split) <;> first | rfl | omega | (subst_vars; first | rfl | omega) | simp_all) ?_
        refine x_lv E (lv' := [(0, .ref (ad (25 + w))), (1, .int (ii (v))), (2, .int (ii (t))), (3, .int (ii (i + 1)))]) [1, 2, 3, 0] rfl ?_
        exact ih2 (i + 1) ((n1) + 1) (zup (f) (n1) (v)) (by omega) (by omega) (by omega) (by rw [wl_put _ _ (by omega), a3, show (i + 1).toNat = i.toNat + 1 from by omega, List.replicate_succ', List.append_assoc]) (zup_b a4 (by omega) (by omega))
  refine x_lv E (lv' := [(0, .ref (ad (25 + w))), (1, .int (ii (v))), (2, .int (ii (t))), (3, .int (ii (0)))]) [1, 2, 3, 0] rfl ?_
  refine x_st E (st' := (sF (sG st (10 + w) (st.1 (10 + w))) (14 + w) (st.2 (14 + w)))) (by refine Prod.ext (funext fun k9 => ?_) (funext fun q9 => ?_) <;> simp only [sG_1, sG_2, sA_1, sA_2, sF_1, sF_2, reduceIte] <;> (repeat' split) <;> first | rfl | omega | (subst_vars; first | rfl | omega) | simp_all) ?_
  exact L2 _ (0) (st.1 (10 + w)) (st.2 (14 + w)) (Nat.lt_succ_self _) (by omega) (by omega) (by simp) (hb)

set_option maxRecDepth 100000 in
set_option maxHeartbeats 4000000 in
theorem c_X4_become (l : Launch) (D : va_G) (T : Nat → ClassId) (ad : Nat → Nat) (hN : ∀ i j, i < 33 → j < 33 → ad i = ad j → i = j) (st : St_) (w : Nat) (hw : w < 3) (o : Nat) (ho : o < 3) (hne : w ≠ o) (hs : 0 ≤ st.1 (10 + w) ∧ st.1 (10 + w) ≤ 60) (hb : ∀ j : Int, 0 ≤ j → j < 60 → 0 ≤ st.2 (14 + w) j ∧ st.2 (14 + w) j ≤ 60) (hso : 0 ≤ st.1 (10 + o) ∧ st.1 (10 + o) ≤ 60) (hbo : ∀ j : Int, 0 ≤ j → j < 60 → 0 ≤ st.2 (14 + o) j ∧ st.2 (14 + o) j ≤ 60) : CXv l yX4_become wsX4_become (rmX 1 21) [.ref (ad (25 + w)), .ref (ad (25 + o))] D (tyX T) (XW T ad) (alX ad) st (fun st2 => ∃ f : Int → Int, st2 = sF (sG st (10 + w) (st.1 (10 + o))) (14 + w) f ∧ (∀ j : Int, 0 ≤ j → j < st.1 (10 + o) → f j = st.2 (14 + o) j) ∧ ∀ j : Int, 0 ≤ j → j < 60 → 0 ≤ f j ∧ f j ≤ 60) := by
  refine mk_v (cc := cX4_become) (nL := 3) rfl rfl (XW_ok hN) (Nat.le_of_ble_eq_true rfl) [(0, .ref (ad (25 + w))), (1, .ref (ad (25 + o)))] rfl (fun p e s m args below meth c A Q E RET => ?_)
  refine x_aload_n (q := 1) E dX4_become_0 0 rfl rfl ?_
  refine x_callVv (q := 4) (n := 0) (As := []) (r := []) E (c_X4_empty l D T ad hN st (w) hw) gX4_become_X4_empty rfl rfl rfl (by decide +kernel) ⟨Nat.le_of_ble_eq_true rfl, Nat.le_of_ble_eq_true rfl⟩ (25 + w) (xg_word hw) rfl rfl rfl (Nat.le_of_ble_eq_true rfl) dX4_become_1 rfl (fun s2 q3 => ?_)
  subst q3
  refine x_iconst (q := 5) E dX4_become_4 rfl ?_
  refine x_istore_n (q := 6) (lv' := [(2, .int (ii (0))), (0, .ref (ad (25 + w))), (1, .ref (ad (25 + o)))]) E dX4_become_5 (by decide) rfl rfl ?_
  have L6 : ∀ (n : Nat) (i : Int) (n1 : Int) (f : Int → Int), (st.1 (10 + o) - i).toNat < n → (0 ≤ i ∧ i ≤ st.1 (10 + o)) → (n1 = i) → (∀ j : Int, 0 ≤ j → j < i → f j = st.2 (14 + o) j) → (∀ j : Int, 0 ≤ j → j < 60 → 0 ≤ f j ∧ f j ≤ 60) → XJ p l e (rmX 1 21) s m args below meth c D (XW T ad) A 3 Q 0 0 (sF (sG st (10 + w) (n1)) (14 + w) (f)) 6 [(0, .ref (ad (25 + w))), (1, .ref (ad (25 + o))), (2, .int (ii (i)))] [] := by
    intro n
    induction n with
    | zero => intro i n1 f hn; exact absurd hn (Nat.not_lt_zero _)
    | succ n ih6 =>
      intro i n1 f hn6 a1 a2 a3 a4
      refine x_iload_n (q := 7) E dX4_become_6 2 rfl rfl ?_
      refine x_aload_n (q := 8) E dX4_become_7 1 rfl rfl ?_
      refine x_callVi (q := 11) (n := 0) (As := []) (r := [.int (ii (i))]) E (c_X4_size l D T ad hN (sF (sG st (10 + w) (n1)) (14 + w) (f)) (o) ho) gX4_become_X4_size rfl rfl rfl (by decide +kernel) ⟨Nat.le_of_ble_eq_true rfl, Nat.le_of_ble_eq_true rfl⟩ (25 + o) (xg_word ho) rfl rfl rfl (Nat.le_of_ble_eq_true rfl) dX4_become_8 rfl (fun z4 s5 q6 => ?_)
      obtain ⟨rfl, rfl⟩ := q6
      refine x_ti (show (sF (sG st (10 + w) (n1)) (14 + w) (f)).1 (10 + o) = st.1 (10 + o) by rw [sF_1, sG_n _ _ (by omega)]) ?_
      refine x_icmp_ge (tgt := 30) (q := 14) E dX4_become_11 (by decide) rfl (by omega) (by omega) (fun c11 => ?_) (fun c11 => ?_)
      · exact RET _ _ _ dX4_become_30 (⟨f, by rw [show st.1 (10 + o) = n1 from by omega], fun j h0 h1 => a3 j h0 (by omega), a4⟩)
      · have e1 : (sF (sG st (10 + w) n1) (14 + w) f).1 (10 + o) = st.1 (10 + o) := by rw [sF_1, sG_n _ _ (by omega)]
        have e2 : (sF (sG st (10 + w) n1) (14 + w) f).2 (14 + o) = st.2 (14 + o) := by rw [sF_n _ _ (by omega), sG_2]
        have e3 : wat (sF (sG st (10 + w) n1) (14 + w) f) o i = st.2 (14 + o) i := by rw [wat_in (by omega) (by omega) (by omega), e2]
        have e4 := hbo i (by omega) (by omega)
        refine x_aload_n (q := 15) E dX4_become_14 0 rfl rfl ?_
        refine x_aload_n (q := 16) E dX4_become_15 1 rfl rfl ?_
        refine x_iload_n (q := 17) E dX4_become_16 2 rfl rfl ?_
        refine x_callVi (q := 20) (n := 1) (As := [.int (ii (i))]) (r := [.ref (ad (25 + w))]) E (c_X4_letterAt l D T ad hN (sF (sG st (10 + w) (n1)) (14 + w) (f)) (o) ho (i) (by omega) (by rw [e1]; omega)) gX4_become_X4_letterAt rfl rfl rfl (by decide +kernel) ⟨Nat.le_of_ble_eq_true rfl, Nat.le_of_ble_eq_true rfl⟩ (25 + o) (xg_word ho) rfl rfl rfl (Nat.le_of_ble_eq_true rfl) dX4_become_17 rfl (fun z7 s8 q9 => ?_)
        obtain ⟨rfl, rfl⟩ := q9
        refine x_ti e3 ?_
        refine x_callVi (q := 23) (n := 1) (As := [.int (ii (st.2 (14 + o) i))]) (r := []) E (c_X4_put l D T ad hN (sF (sG st (10 + w) (n1)) (14 + w) (f)) (w) hw (st.2 (14 + o) i) (by omega) (by rw [sF_1, sG_s]; omega)) gX4_become_X4_put rfl rfl rfl (by decide +kernel) ⟨Nat.le_of_ble_eq_true rfl, Nat.le_of_ble_eq_true rfl⟩ (25 + w) (xg_word hw) rfl rfl rfl (Nat.le_of_ble_eq_true rfl) dX4_become_20 rfl (fun z10 s11 q12 => ?_)
        obtain ⟨rfl, rfl⟩ := q12
        refine x_pop (q := 24) E dX4_become_23 rfl rfl ?_
        refine x_iinc (q := 27) (k := 2) (lv' := [(2, .int (ii (i + 1))), (0, .ref (ad (25 + w))), (1, .ref (ad (25 + o)))]) E dX4_become_24 rfl (by decide) rfl rfl ?_
        refine x_goto (tgt := 6) E dX4_become_27 (by decide) ?_
        refine x_st E (st' := (sF (sG st (10 + w) ((n1) + 1)) (14 + w) (zup (f) (n1) (st.2 (14 + o) i)))) (by refine Prod.ext (funext fun k9 => ?_) (funext fun q9 => ?_) <;> simp only [sG_1, sG_2, sA_1, sA_2, sF_1, sF_2, reduceIte] <;> (repeat' split) <;> first | rfl | omega | (subst_vars; first | rfl | omega) | simp_all) ?_
        refine x_lv E (lv' := [(0, .ref (ad (25 + w))), (1, .ref (ad (25 + o))), (2, .int (ii (i + 1)))]) [1, 2, 0] rfl ?_
        exact ih6 (i + 1) ((n1) + 1) (zup (f) (n1) (st.2 (14 + o) i)) (by omega) (by omega) (by omega) (fun j h0 h1 => if hj : j = i then (by rw [hj, a2, zup_eq]) else (by rw [zup_ne _ _ (by omega)]; exact a3 j h0 (by omega))) (zup_b a4 (by have := hbo i (by omega) (by omega); omega) (by have := hbo i (by omega) (by omega); omega))
  refine x_lv E (lv' := [(0, .ref (ad (25 + w))), (1, .ref (ad (25 + o))), (2, .int (ii (0)))]) [1, 2, 0] rfl ?_
  refine x_st E (st' := (sF (sG st (10 + w) (0)) (14 + w) (st.2 (14 + w)))) (by refine Prod.ext (funext fun k9 => ?_) (funext fun q9 => ?_) <;> simp only [sG_1, sG_2, sA_1, sA_2, sF_1, sF_2, reduceIte] <;> (repeat' split) <;> first | rfl | omega | (subst_vars; first | rfl | omega) | simp_all) ?_
  exact L6 _ (0) (0) (st.2 (14 + w)) (Nat.lt_succ_self _) (by omega) (rfl) (fun j h0 h1 => absurd h1 (by omega)) (hb)

theorem iX4_greatestLetter_X4 : ∀ w ∈ wsX40, w ∈ wsX4_greatestLetter := by decide +kernel
set_option maxRecDepth 100000 in
set_option maxHeartbeats 4000000 in
theorem c_X4_greatestLetter (l : Launch) (D : va_G) (T : Nat → ClassId) (ad : Nat → Nat) (hN : ∀ i j, i < 33 → j < 33 → ad i = ad j → i = j) (st : St_) (w : Nat) (hw : w < 3) (hs : 0 ≤ st.1 (10 + w) ∧ st.1 (10 + w) ≤ 60) (hb : ∀ j : Int, 0 ≤ j → j < 60 → 0 ≤ st.2 (14 + w) j ∧ st.2 (14 + w) j ≤ 60) : CXi l yX4_greatestLetter wsX4_greatestLetter (rmX 1 21) [.ref (ad (25 + w))] D (tyX T) (XW T ad) (alX ad) st (fun z st2 => gm (st.2 (14 + w)) (st.1 (10 + w)) = z ∧ st = st2) := by
  refine mk_i (cc := cX4_greatestLetter) (nL := 3) rfl rfl (XW_ok hN) (Nat.le_of_ble_eq_true rfl) [(0, .ref (ad (25 + w)))] rfl (fun p e s m args below meth c A Q E RET => ?_)
  refine x_iconst (q := 1) E dX4_greatestLetter_0 rfl ?_
  refine x_istore_n (q := 2) (lv' := [(1, .int (ii (0))), (0, .ref (ad (25 + w)))]) E dX4_greatestLetter_1 (by decide) rfl rfl ?_
  refine x_iconst (q := 3) E dX4_greatestLetter_2 rfl ?_
  refine x_istore_n (q := 4) (lv' := [(2, .int (ii (0))), (1, .int (ii (0))), (0, .ref (ad (25 + w)))]) E dX4_greatestLetter_3 (by decide) rfl rfl ?_
  have L4 : ∀ (n : Nat) (t : Int) (i : Int), (st.1 (10 + w) - i).toNat < n → (0 ≤ i ∧ i ≤ st.1 (10 + w)) → (t = gm (st.2 (14 + w)) i) → (0 ≤ t ∧ t ≤ 60) → XJ p l e (rmX 1 21) s m args below meth c D (XW T ad) A 3 Q 0 0 st 4 [(0, .ref (ad (25 + w))), (1, .int (ii (t))), (2, .int (ii (i)))] [] := by
    intro n
    induction n with
    | zero => intro t i hn; exact absurd hn (Nat.not_lt_zero _)
    | succ n ih4 =>
      intro t i hn4 a1 a2 a3
      refine x_iload_n (q := 5) E dX4_greatestLetter_4 2 rfl rfl ?_
      refine x_aload_n (q := 6) E dX4_greatestLetter_5 0 rfl rfl ?_
      refine x_get (q := 9) E iX4_greatestLetter_X4 (25 + w) (xg_word hw) rfl 1 (by decide) (by decide +kernel) rfl dX4_greatestLetter_6 rfl ?_
      refine x_icmp_ge (tgt := 28) (q := 12) E dX4_greatestLetter_9 (by decide) rfl (by omega) (by omega) (fun c9 => ?_) (fun c9 => ?_)
      · refine x_iload_n (q := 29) E dX4_greatestLetter_28 1 rfl rfl ?_
        exact RET _ _ _ _ dX4_greatestLetter_29 (⟨by rw [a2]; exact congrArg _ (by omega), rfl⟩)
      · have e1 : wat st w i = st.2 (14 + w) i := wat_in (by omega) (by omega) (by omega)
        have e2 := hb i (by omega) (by omega)
        refine x_iload_n (q := 13) E dX4_greatestLetter_12 1 rfl rfl ?_
        refine x_aload_n (q := 14) E dX4_greatestLetter_13 0 rfl rfl ?_
        refine x_iload_n (q := 15) E dX4_greatestLetter_14 2 rfl rfl ?_
        refine x_callVi (q := 18) (n := 1) (As := [.int (ii (i))]) (r := [.int (ii (t))]) E (c_X4_letterAt l D T ad hN st (w) hw (i) (by omega) (by omega)) gX4_greatestLetter_X4_letterAt rfl rfl rfl (by decide +kernel) ⟨Nat.le_of_ble_eq_true rfl, Nat.le_of_ble_eq_true rfl⟩ (25 + w) (xg_word hw) rfl rfl rfl (Nat.le_of_ble_eq_true rfl) dX4_greatestLetter_15 rfl (fun z1 s2 q3 => ?_)
        obtain ⟨rfl, rfl⟩ := q3
        refine x_max (q := 21) E (by decide +kernel) (by decide +kernel) (by decide +kernel) (by decide +kernel) (Nat.le_of_ble_eq_true rfl) (Nat.le_of_ble_eq_true rfl) (by omega) (by omega) dX4_greatestLetter_18 rfl ?_
        refine x_istore_n (q := 22) (lv' := [(1, .int (ii (if t < wat st w (i) then wat st w (i) else t))), (0, .ref (ad (25 + w))), (2, .int (ii (i)))]) E dX4_greatestLetter_21 (by decide) rfl rfl ?_
        refine x_iinc (q := 25) (k := 2) (lv' := [(2, .int (ii (i + 1))), (1, .int (ii (if t < wat st w (i) then wat st w (i) else t))), (0, .ref (ad (25 + w)))]) E dX4_greatestLetter_22 rfl (by decide) rfl rfl ?_
        refine x_goto (tgt := 4) E dX4_greatestLetter_25 (by decide) ?_
        refine x_lv E (lv' := [(0, .ref (ad (25 + w))), (1, .int (ii (if t < wat st w (i) then wat st w (i) else t))), (2, .int (ii (i + 1)))]) [2, 1, 0] rfl ?_
        exact ih4 (if t < wat st w (i) then wat st w (i) else t) (i + 1) (by omega) (by omega) (by rw [gm_s _ (by omega), ← a2, ← e1]; rfl) (by rw [e1]; split <;> omega)
  refine x_lv E (lv' := [(0, .ref (ad (25 + w))), (1, .int (ii (0))), (2, .int (ii (0)))]) [2, 1, 0] rfl ?_
  exact L4 _ (0) (0) (Nat.lt_succ_self _) (by omega) ((gm_0 _).symm) (by omega)

theorem wat_b {st : St_} {w : Nat} (hb : ∀ j : Int, 0 ≤ j → j < 60 → 0 ≤ st.2 (14 + w) j ∧ st.2 (14 + w) j ≤ 60) : ∀ j : Int, 0 ≤ j → j < 60 → -1 ≤ st.2 (14 + w) j ∧ st.2 (14 + w) j ≤ 100 := fun j h0 h1 => by have := hb j h0 h1; omega
/-- is letter k the last of its run: as numbers -/
def eor (f : Int → Int) (n k : Int) : Prop := k + 1 = n ∨ f k ≠ f (k + 1)
theorem wat_eor {st : St_} {w : Nat} {k : Int} (h0 : 0 ≤ k) (h1 : k < st.1 (10 + w)) (h2 : st.1 (10 + w) ≤ 60) (hb : ∀ j : Int, 0 ≤ j → j < 60 → 0 ≤ st.2 (14 + w) j ∧ st.2 (14 + w) j ≤ 60) : wat st w k = wat st w (k + 1) ↔ ¬ eor (st.2 (14 + w)) (st.1 (10 + w)) k := by
  rw [wat_in h0 h1 h2]
  unfold eor
  by_cases hk : k + 1 = st.1 (10 + w)
  · rw [wat_out (Or.inr (by omega))]
    have := hb k h0 (by omega)
    constructor
    · intro q; omega
    · intro q; exact absurd (Or.inl hk) q
  · rw [wat_in (by omega) (by omega) h2]
    constructor
    · intro q z
      exact z.elim hk (fun y => y q)
    · intro q
      exact Classical.byContradiction (fun z => q (Or.inr z))
theorem iX4_runsInIt_X4 : ∀ w ∈ wsX40, w ∈ wsX4_runsInIt := by decide +kernel
set_option maxRecDepth 100000 in
set_option maxHeartbeats 4000000 in
theorem c_X4_runsInIt (l : Launch) (D : va_G) (T : Nat → ClassId) (ad : Nat → Nat) (hN : ∀ i j, i < 33 → j < 33 → ad i = ad j → i = j) (st : St_) (w : Nat) (hw : w < 3) (hs : 0 ≤ st.1 (10 + w) ∧ st.1 (10 + w) ≤ 60) (hb : ∀ j : Int, 0 ≤ j → j < 60 → 0 ≤ st.2 (14 + w) j ∧ st.2 (14 + w) j ≤ 60) : CXi l yX4_runsInIt wsX4_runsInIt (rmX 2 42) [.ref (ad (25 + w))] D (tyX T) (XW T ad) (alX ad) st (fun z st2 => chg (st.2 (14 + w)) (st.1 (10 + w)) = z ∧ st = st2) := by
  refine mk_i (cc := cX4_runsInIt) (nL := 3) rfl rfl (XW_ok hN) (Nat.le_of_ble_eq_true rfl) [(0, .ref (ad (25 + w)))] rfl (fun p e s m args below meth c A Q E RET => ?_)
  refine x_iconst (q := 1) E dX4_runsInIt_0 rfl ?_
  refine x_istore_n (q := 2) (lv' := [(1, .int (ii (0))), (0, .ref (ad (25 + w)))]) E dX4_runsInIt_1 (by decide) rfl rfl ?_
  refine x_iconst (q := 3) E dX4_runsInIt_2 rfl ?_
  refine x_istore_n (q := 4) (lv' := [(2, .int (ii (0))), (1, .int (ii (0))), (0, .ref (ad (25 + w)))]) E dX4_runsInIt_3 (by decide) rfl rfl ?_
  have L4 : ∀ (n : Nat) (t : Int) (i : Int), (st.1 (10 + w) - i).toNat < n → (0 ≤ i ∧ i ≤ st.1 (10 + w)) → (i < st.1 (10 + w) → t = chg (st.2 (14 + w)) (i + 1) - 1) → (i = st.1 (10 + w) → t = chg (st.2 (14 + w)) i) → XJ p l e (rmX 2 42) s m args below meth c D (XW T ad) A 3 Q 0 0 st 4 [(0, .ref (ad (25 + w))), (1, .int (ii (t))), (2, .int (ii (i)))] [] := by
    intro n
    induction n with
    | zero => intro t i hn; exact absurd hn (Nat.not_lt_zero _)
    | succ n ih4 =>
      intro t i hn4 a1 a2 a3
      refine x_iload_n (q := 5) E dX4_runsInIt_4 2 rfl rfl ?_
      refine x_aload_n (q := 6) E dX4_runsInIt_5 0 rfl rfl ?_
      refine x_get (q := 9) E iX4_runsInIt_X4 (25 + w) (xg_word hw) rfl 1 (by decide) (by decide +kernel) rfl dX4_runsInIt_6 rfl ?_
      refine x_icmp_ge (tgt := 29) (q := 12) E dX4_runsInIt_9 (by decide) rfl (by omega) (by omega) (fun c9 => ?_) (fun c9 => ?_)
      · refine x_iload_n (q := 30) E dX4_runsInIt_29 1 rfl rfl ?_
        exact RET _ _ _ _ dX4_runsInIt_30 (⟨by rw [a3 (by omega)]; exact congrArg _ (by omega), rfl⟩)
      · have e1 := wat_eor (st := st) (w := w) (k := i) (by omega) (by omega) (by omega) hb
        refine x_aload_n (q := 13) E dX4_runsInIt_12 0 rfl rfl ?_
        refine x_iload_n (q := 14) E dX4_runsInIt_13 2 rfl rfl ?_
        refine x_callVi (q := 17) (n := 1) (As := [.int (ii (i))]) (r := []) E (c_X4_isEndOfRun l D T ad hN st (w) hw (i) (by omega) (by omega) (by omega) (wat_b hb)) gX4_runsInIt_X4_isEndOfRun rfl rfl rfl (by decide +kernel) ⟨Nat.le_of_ble_eq_true rfl, Nat.le_of_ble_eq_true rfl⟩ (25 + w) (xg_word hw) rfl rfl rfl (Nat.le_of_ble_eq_true rfl) dX4_runsInIt_14 rfl (fun z1 s2 q3 => ?_)
        obtain ⟨rfl, rfl⟩ := q3
        refine x_if_eq (tgt := 23) (q := 20) E dX4_runsInIt_17 (by decide) rfl (by omega) (fun c17 => ?_) (fun c17 => ?_)
        · have e9 : wat st w i = wat st w (i + 1) := Classical.byContradiction (fun z => by rw [if_neg z] at c17; omega)
          refine x_iinc (q := 26) (k := 2) (lv' := [(2, .int (ii (i + 1))), (0, .ref (ad (25 + w))), (1, .int (ii (t)))]) E dX4_runsInIt_23 rfl (by decide) rfl rfl ?_
          refine x_goto (tgt := 4) E dX4_runsInIt_26 (by decide) ?_
          refine x_lv E (lv' := [(0, .ref (ad (25 + w))), (1, .int (ii (t))), (2, .int (ii (i + 1)))]) [1, 2, 0] rfl ?_
          exact ih4 (t) (i + 1) (by omega) (by omega) (fun h => by rw [if_pos e9] at c17; have := a2 (by omega); rw [chg_s _ (by omega), if_neg (fun q => q.elim (by omega) (fun q => e1.mp e9 (Or.inr (fun z => q (by rw [show i + 1 - 1 = i from by omega]; exact z.symm))))) ]; omega) (fun h => absurd (Or.inl h) (e1.mp e9))
        · have e9 : ¬ wat st w i = wat st w (i + 1) := fun z => c17 (by rw [if_pos z])
          refine x_iinc (q := 23) (k := 1) (lv' := [(1, .int (ii (t + 1))), (0, .ref (ad (25 + w))), (2, .int (ii (i)))]) E dX4_runsInIt_20 rfl (by decide) rfl rfl ?_
          refine x_iinc (q := 26) (k := 2) (lv' := [(2, .int (ii (i + 1))), (1, .int (ii (t + 1))), (0, .ref (ad (25 + w)))]) E dX4_runsInIt_23 rfl (by decide) rfl rfl ?_
          refine x_goto (tgt := 4) E dX4_runsInIt_26 (by decide) ?_
          refine x_lv E (lv' := [(0, .ref (ad (25 + w))), (1, .int (ii (t + 1))), (2, .int (ii (i + 1)))]) [2, 1, 0] rfl ?_
          exact ih4 (t + 1) (i + 1) (by omega) (by omega) (fun h => by have := a2 (by omega); rw [chg_s _ (by omega), if_pos (Or.inr (by rw [show i + 1 - 1 = i from by omega]; exact fun z => e9 (e1.mpr (fun y => y.elim (by omega) (fun x => x z.symm)))))]; omega) (fun h => by have := a2 (by omega); omega)
  refine x_lv E (lv' := [(0, .ref (ad (25 + w))), (1, .int (ii (0))), (2, .int (ii (0)))]) [2, 1, 0] rfl ?_
  exact L4 _ (0) (0) (Nat.lt_succ_self _) (by omega) (fun _ => by rw [chg_s _ (by omega), if_pos (Or.inl rfl)]; show (0 : Int) = chg _ 0 + 1 - 1; show (0 : Int) = 0 + 1 - 1; omega) (fun _ => rfl)

theorem iX4_longestRun_X4 : ∀ w ∈ wsX40, w ∈ wsX4_longestRun := by decide +kernel
set_option maxRecDepth 100000 in
set_option maxHeartbeats 4000000 in
theorem c_X4_longestRun (l : Launch) (D : va_G) (T : Nat → ClassId) (ad : Nat → Nat) (hN : ∀ i j, i < 33 → j < 33 → ad i = ad j → i = j) (st : St_) (w : Nat) (hw : w < 3) (hs : 0 ≤ st.1 (10 + w) ∧ st.1 (10 + w) ≤ 60) (hb : ∀ j : Int, 0 ≤ j → j < 60 → 0 ≤ st.2 (14 + w) j ∧ st.2 (14 + w) j ≤ 60) : CXi l yX4_longestRun wsX4_longestRun (rmX 2 42) [.ref (ad (25 + w))] D (tyX T) (XW T ad) (alX ad) st (fun z st2 => lg (st.2 (14 + w)) (st.1 (10 + w)) = z ∧ st = st2) := by
  refine mk_i (cc := cX4_longestRun) (nL := 4) rfl rfl (XW_ok hN) (Nat.le_of_ble_eq_true rfl) [(0, .ref (ad (25 + w)))] rfl (fun p e s m args below meth c A Q E RET => ?_)
  refine x_iconst (q := 1) E dX4_longestRun_0 rfl ?_
  refine x_istore_n (q := 2) (lv' := [(1, .int (ii (0))), (0, .ref (ad (25 + w)))]) E dX4_longestRun_1 (by decide) rfl rfl ?_
  refine x_iconst (q := 3) E dX4_longestRun_2 rfl ?_
  refine x_istore_n (q := 4) (lv' := [(2, .int (ii (0))), (1, .int (ii (0))), (0, .ref (ad (25 + w)))]) E dX4_longestRun_3 (by decide) rfl rfl ?_
  refine x_iconst (q := 5) E dX4_longestRun_4 rfl ?_
  refine x_istore_n (q := 6) (lv' := [(3, .int (ii (0))), (2, .int (ii (0))), (1, .int (ii (0))), (0, .ref (ad (25 + w)))]) E dX4_longestRun_5 (by decide) rfl rfl ?_
  have L6 : ∀ (n : Nat) (t : Int) (u : Int) (i : Int), (st.1 (10 + w) - i).toNat < n → (0 ≤ i ∧ i ≤ st.1 (10 + w)) → (t = lg (st.2 (14 + w)) i) → (i < st.1 (10 + w) → u + 1 = cl (st.2 (14 + w)) (i + 1)) → (0 ≤ t ∧ t ≤ 60 ∧ 0 ≤ u ∧ u ≤ i) → XJ p l e (rmX 2 42) s m args below meth c D (XW T ad) A 4 Q 0 0 st 6 [(0, .ref (ad (25 + w))), (1, .int (ii (t))), (2, .int (ii (u))), (3, .int (ii (i)))] [] := by
    intro n
    induction n with
    | zero => intro t u i hn; exact absurd hn (Nat.not_lt_zero _)
    | succ n ih6 =>
      intro t u i hn6 a1 a2 a3 a4
      refine x_iload_n (q := 7) E dX4_longestRun_6 3 rfl rfl ?_
      refine x_aload_n (q := 8) E dX4_longestRun_7 0 rfl rfl ?_
      refine x_get (q := 11) E iX4_longestRun_X4 (25 + w) (xg_word hw) rfl 1 (by decide) (by decide +kernel) rfl dX4_longestRun_8 rfl ?_
      refine x_icmp_ge (tgt := 39) (q := 14) E dX4_longestRun_11 (by decide) rfl (by omega) (by omega) (fun c11 => ?_) (fun c11 => ?_)
      · refine x_iload_n (q := 40) E dX4_longestRun_39 1 rfl rfl ?_
        exact RET _ _ _ _ dX4_longestRun_40 (⟨by rw [a2]; exact congrArg _ (by omega), rfl⟩)
      · have e1 := wat_eor (st := st) (w := w) (k := i) (by omega) (by omega) (by omega) hb
        refine x_iinc (q := 17) (k := 2) (lv' := [(2, .int (ii (u + 1))), (0, .ref (ad (25 + w))), (1, .int (ii (t))), (3, .int (ii (i)))]) E dX4_longestRun_14 rfl (by decide) rfl rfl ?_
        refine x_iload_n (q := 18) E dX4_longestRun_17 2 rfl rfl ?_
        refine x_iload_n (q := 19) E dX4_longestRun_18 0 rfl rfl ?_
        refine x_max (q := 22) E (by decide +kernel) (by decide +kernel) (by decide +kernel) (by decide +kernel) (Nat.le_of_ble_eq_true rfl) (Nat.le_of_ble_eq_true rfl) (by omega) (by omega) dX4_longestRun_19 rfl ?_
        refine x_istore_n (q := 23) (lv' := [(1, .int (ii (if t < u + 1 then u + 1 else t))), (2, .int (ii (u + 1))), (0, .ref (ad (25 + w))), (3, .int (ii (i)))]) E dX4_longestRun_22 (by decide) rfl rfl ?_
        refine x_aload_n (q := 24) E dX4_longestRun_23 2 rfl rfl ?_
        refine x_iload_n (q := 25) E dX4_longestRun_24 3 rfl rfl ?_
        refine x_callVi (q := 28) (n := 1) (As := [.int (ii (i))]) (r := []) E (c_X4_isEndOfRun l D T ad hN st (w) hw (i) (by omega) (by omega) (by omega) (wat_b hb)) gX4_longestRun_X4_isEndOfRun rfl rfl rfl (by decide +kernel) ⟨Nat.le_of_ble_eq_true rfl, Nat.le_of_ble_eq_true rfl⟩ (25 + w) (xg_word hw) rfl rfl rfl (Nat.le_of_ble_eq_true rfl) dX4_longestRun_25 rfl (fun z1 s2 q3 => ?_)
        obtain ⟨rfl, rfl⟩ := q3
        refine x_if_eq (tgt := 33) (q := 31) E dX4_longestRun_28 (by decide) rfl (by omega) (fun c28 => ?_) (fun c28 => ?_)
        · have e9 : wat st w i = wat st w (i + 1) := Classical.byContradiction (fun z => by rw [if_neg z] at c28; omega)
          refine x_iinc (q := 36) (k := 3) (lv' := [(3, .int (ii (i + 1))), (1, .int (ii (if t < u + 1 then u + 1 else t))), (2, .int (ii (u + 1))), (0, .ref (ad (25 + w)))]) E dX4_longestRun_33 rfl (by decide) rfl rfl ?_
          refine x_goto (tgt := 6) E dX4_longestRun_36 (by decide) ?_
          refine x_lv E (lv' := [(0, .ref (ad (25 + w))), (1, .int (ii (if t < u + 1 then u + 1 else t))), (2, .int (ii (u + 1))), (3, .int (ii (i + 1)))]) [3, 1, 2, 0] rfl ?_
          exact ih6 (if t < u + 1 then u + 1 else t) (u + 1) (i + 1) (by omega) (by omega) (by rw [lg_s _ (by omega), ← a2, ← a3 (by omega)]; rfl) (fun h => by rw [cl_s _ (by omega), if_neg (fun q => q.elim (by omega) (fun q => e1.mp e9 (Or.inr (fun z => q (by rw [show i + 1 - 1 = i from by omega]; exact z.symm))))) , a3 (by omega)]) (by split <;> omega)
        · have e9 : ¬ wat st w i = wat st w (i + 1) := fun z => c28 (by rw [if_pos z])
          refine x_iconst (q := 32) E dX4_longestRun_31 rfl ?_
          refine x_istore_n (q := 33) (lv' := [(2, .int (ii (0))), (1, .int (ii (if t < u + 1 then u + 1 else t))), (0, .ref (ad (25 + w))), (3, .int (ii (i)))]) E dX4_longestRun_32 (by decide) rfl rfl ?_
          refine x_iinc (q := 36) (k := 3) (lv' := [(3, .int (ii (i + 1))), (2, .int (ii (0))), (1, .int (ii (if t < u + 1 then u + 1 else t))), (0, .ref (ad (25 + w)))]) E dX4_longestRun_33 rfl (by decide) rfl rfl ?_
          refine x_goto (tgt := 6) E dX4_longestRun_36 (by decide) ?_
          refine x_lv E (lv' := [(0, .ref (ad (25 + w))), (1, .int (ii (if t < u + 1 then u + 1 else t))), (2, .int (ii (0))), (3, .int (ii (i + 1)))]) [3, 2, 1, 0] rfl ?_
          exact ih6 (if t < u + 1 then u + 1 else t) (0) (i + 1) (by omega) (by omega) (by rw [lg_s _ (by omega), ← a2, ← a3 (by omega)]; rfl) (fun h => by rw [cl_s _ (by omega), if_pos (Or.inr (by rw [show i + 1 - 1 = i from by omega]; exact fun z => e9 (e1.mpr (fun y => y.elim (by omega) (fun x => x z.symm)))))]; rfl) (by split <;> omega)
  refine x_lv E (lv' := [(0, .ref (ad (25 + w))), (1, .int (ii (0))), (2, .int (ii (0))), (3, .int (ii (0)))]) [3, 2, 1, 0] rfl ?_
  exact L6 _ (0) (0) (0) (Nat.lt_succ_self _) (by omega) ((lg_0 _).symm) (fun _ => by rw [cl_s _ (by omega), if_pos (Or.inl rfl)]; rfl) (by omega)

theorem iX4_isSameMirrored_X4 : ∀ w ∈ wsX40, w ∈ wsX4_isSameMirrored := by decide +kernel
set_option maxRecDepth 100000 in
set_option maxHeartbeats 4000000 in
theorem c_X4_isSameMirrored (l : Launch) (D : va_G) (T : Nat → ClassId) (ad : Nat → Nat) (hN : ∀ i j, i < 33 → j < 33 → ad i = ad j → i = j) (st : St_) (w : Nat) (hw : w < 3) (hs : 0 ≤ st.1 (10 + w) ∧ st.1 (10 + w) ≤ 60) (hb : ∀ j : Int, 0 ≤ j → j < 60 → 0 ≤ st.2 (14 + w) j ∧ st.2 (14 + w) j ≤ 60) : CXi l yX4_isSameMirrored wsX4_isSameMirrored (rmX 1 21) [.ref (ad (25 + w))] D (tyX T) (XW T ad) (alX ad) st (fun z st2 => st = st2 ∧ (z = 0 ∨ z = 1) ∧ (z = 1 ↔ ∀ k : Int, 0 ≤ k → k < st.1 (10 + w) → st.2 (14 + w) k = st.2 (14 + w) (st.1 (10 + w) - 1 - k))) := by
  refine mk_z (cc := cX4_isSameMirrored) (nL := 3) rfl rfl (XW_ok hN) (Nat.le_of_ble_eq_true rfl) [(0, .ref (ad (25 + w)))] rfl (fun p e s m args below meth c A Q E RET => ?_)
  refine x_iconst (q := 1) E dX4_isSameMirrored_0 rfl ?_
  refine x_istore_n (q := 2) (lv' := [(1, .int (ii (0))), (0, .ref (ad (25 + w)))]) E dX4_isSameMirrored_1 (by decide) rfl rfl ?_
  refine x_aload_n (q := 3) E dX4_isSameMirrored_2 1 rfl rfl ?_
  refine x_get (q := 6) E iX4_isSameMirrored_X4 (25 + w) (xg_word hw) rfl 1 (by decide) (by decide +kernel) rfl dX4_isSameMirrored_3 rfl ?_
  refine x_iconst (q := 7) E dX4_isSameMirrored_6 rfl ?_
  refine x_isub (q := 8) E dX4_isSameMirrored_7 rfl ?_
  refine x_istore_n (q := 9) (lv' := [(2, .int (ii ((st.1 (10 + w)) - (1)))), (1, .int (ii (0))), (0, .ref (ad (25 + w)))]) E dX4_isSameMirrored_8 (by decide) rfl rfl ?_
  have L9 : ∀ (n : Nat) (i : Int) (v : Int), (v - i + 2).toNat < n → (0 ≤ i ∧ i + v = st.1 (10 + w) - 1 ∧ i ≤ v + 2) → (∀ k : Int, 0 ≤ k → k < i → st.2 (14 + w) k = st.2 (14 + w) (st.1 (10 + w) - 1 - k)) → XJ p l e (rmX 1 21) s m args below meth c D (XW T ad) A 3 Q 0 0 st 9 [(0, .ref (ad (25 + w))), (1, .int (ii (i))), (2, .int (ii (v)))] [] := by
    intro n
    induction n with
    | zero => intro i v hn; exact absurd hn (Nat.not_lt_zero _)
    | succ n ih9 =>
      intro i v hn9 a1 a2
      refine x_iload_n (q := 10) E dX4_isSameMirrored_9 1 rfl rfl ?_
      refine x_iload_n (q := 11) E dX4_isSameMirrored_10 2 rfl rfl ?_
      refine x_icmp_ge (tgt := 38) (q := 14) E dX4_isSameMirrored_11 (by decide) rfl (by omega) (by omega) (fun c11 => ?_) (fun c11 => ?_)
      · refine x_iconst (q := 39) E dX4_isSameMirrored_38 rfl ?_
        exact RET _ _ _ _ dX4_isSameMirrored_39 (by omega) (⟨rfl, Or.inr rfl, ⟨fun _ k h0 h1 => if hk : k < i then a2 k h0 hk else if hk2 : st.1 (10 + w) - 1 - k < i then (by rw [a2 (st.1 (10 + w) - 1 - k) (by omega) hk2]; exact congrArg _ (by omega)) else congrArg _ (by omega), fun _ => rfl⟩⟩)
      · have e1 : wat st w i = st.2 (14 + w) i := wat_in (by omega) (by omega) (by omega)
        have e2 : wat st w v = st.2 (14 + w) v := wat_in (by omega) (by omega) (by omega)
        have e3 := hb i (by omega) (by omega)
        have e4 := hb v (by omega) (by omega)
        refine x_aload_n (q := 15) E dX4_isSameMirrored_14 0 rfl rfl ?_
        refine x_iload_n (q := 16) E dX4_isSameMirrored_15 1 rfl rfl ?_
        refine x_callVi (q := 19) (n := 1) (As := [.int (ii (i))]) (r := []) E (c_X4_letterAt l D T ad hN st (w) hw (i) (by omega) (by omega)) gX4_isSameMirrored_X4_letterAt rfl rfl rfl (by decide +kernel) ⟨Nat.le_of_ble_eq_true rfl, Nat.le_of_ble_eq_true rfl⟩ (25 + w) (xg_word hw) rfl rfl rfl (Nat.le_of_ble_eq_true rfl) dX4_isSameMirrored_16 rfl (fun z1 s2 q3 => ?_)
        obtain ⟨rfl, rfl⟩ := q3
        refine x_aload_n (q := 20) E dX4_isSameMirrored_19 0 rfl rfl ?_
        refine x_iload_n (q := 21) E dX4_isSameMirrored_20 2 rfl rfl ?_
        refine x_callVi (q := 24) (n := 1) (As := [.int (ii (v))]) (r := [.int (ii (wat st w (i)))]) E (c_X4_letterAt l D T ad hN st (w) hw (v) (by omega) (by omega)) gX4_isSameMirrored_X4_letterAt rfl rfl rfl (by decide +kernel) ⟨Nat.le_of_ble_eq_true rfl, Nat.le_of_ble_eq_true rfl⟩ (25 + w) (xg_word hw) rfl rfl rfl (Nat.le_of_ble_eq_true rfl) dX4_isSameMirrored_21 rfl (fun z4 s5 q6 => ?_)
        obtain ⟨rfl, rfl⟩ := q6
        refine x_icmp_eq (tgt := 29) (q := 27) E dX4_isSameMirrored_24 (by decide) rfl (by omega) (by omega) (fun c24 => ?_) (fun c24 => ?_)
        · refine x_iinc (q := 32) (k := 1) (lv' := [(1, .int (ii (i + 1))), (0, .ref (ad (25 + w))), (2, .int (ii (v)))]) E dX4_isSameMirrored_29 rfl (by decide) rfl rfl ?_
          refine x_iinc (q := 35) (k := 2) (lv' := [(2, .int (ii (v + (-1)))), (1, .int (ii (i + 1))), (0, .ref (ad (25 + w)))]) E dX4_isSameMirrored_32 rfl (by decide) rfl rfl ?_
          refine x_goto (tgt := 9) E dX4_isSameMirrored_35 (by decide) ?_
          refine x_lv E (lv' := [(0, .ref (ad (25 + w))), (1, .int (ii (i + 1))), (2, .int (ii (v + (-1))))]) [2, 1, 0] rfl ?_
          exact ih9 (i + 1) (v + (-1)) (by omega) (by omega) (fun k h0 h1 => if hk : k = i then (by rw [hk, ← e1, c24, e2]; exact congrArg _ (by omega)) else a2 k h0 (by omega))
        · refine x_iconst (q := 28) E dX4_isSameMirrored_27 rfl ?_
          exact RET _ _ _ _ dX4_isSameMirrored_28 (by omega) (⟨rfl, Or.inl rfl, ⟨fun q => absurd q (by omega), fun q => absurd (by rw [e1, e2, q i (by omega) (by omega)]; exact congrArg _ (by omega)) c24⟩⟩)
  refine x_lv E (lv' := [(0, .ref (ad (25 + w))), (1, .int (ii (0))), (2, .int (ii ((st.1 (10 + w)) - (1))))]) [2, 1, 0] rfl ?_
  exact L9 _ (0) ((st.1 (10 + w)) - (1)) (Nat.lt_succ_self _) (by omega) (fun k h0 h1 => absurd h1 (by omega))

