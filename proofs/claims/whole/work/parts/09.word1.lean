def nsum (f : Int → Int) : Nat → Int
  | 0 => 0
  | n + 1 => nsum f n + f (n : Int)
def isum (f : Int → Int) (k : Int) : Int := nsum f k.toNat
theorem isum_0 (f : Int → Int) : isum f 0 = 0 := rfl
theorem isum_s (f : Int → Int) {k : Int} (h : 0 ≤ k) : isum f (k + 1) = isum f k + f k := by
  obtain ⟨n, rfl⟩ := Int.eq_ofNat_of_zero_le h
  show nsum f ((n : Int) + 1).toNat = nsum f ((n : Int)).toNat + f n
  rw [show ((n : Int) + 1).toNat = n + 1 from by omega, show ((n : Int)).toNat = n from by omega]
  rfl
def wat (st : St_) (w : Nat) (k : Int) : Int := if 0 ≤ k ∧ k < st.1 (10 + w) ∧ k < 60 then st.2 (14 + w) k else -1
def nat_ (st : St_) (i : Nat) (k : Int) : Int := if 0 ≤ k ∧ k < st.1 (7 + i) ∧ k < 100001 then st.2 (5 + i) k else -1
theorem iX4_size_X4 : ∀ w ∈ wsX40, w ∈ wsX4_size := by decide +kernel
set_option maxRecDepth 100000 in
set_option maxHeartbeats 4000000 in
theorem c_X4_size (l : Launch) (D : va_G) (T : Nat → ClassId) (ad : Nat → Nat) (hN : ∀ i j, i < 33 → j < 33 → ad i = ad j → i = j) (st : St_) (w : Nat) (hw : w < 3) : CXi l yX4_size wsX4_size (rmX 0 0) [.ref (ad (25 + w))] D (tyX T) (XW T ad) (alX ad) st (fun z st2 => st.1 (10 + w) = z ∧ st = st2) := by
  refine mk_i (cc := cX4_size) (nL := 1) rfl rfl (XW_ok hN) (Nat.le_of_ble_eq_true rfl) [(0, .ref (ad (25 + w)))] rfl (fun p e s m args below meth c A Q E RET => ?_)
  refine x_aload_n (q := 1) E dX4_size_0 0 rfl rfl ?_
  refine x_get (q := 4) E iX4_size_X4 (25 + w) (xg_word hw) rfl 1 (by decide) (by decide +kernel) rfl dX4_size_1 rfl ?_
  exact RET _ _ _ _ dX4_size_4 (⟨rfl, rfl⟩)

theorem iX4_letterAt_X4 : ∀ w ∈ wsX40, w ∈ wsX4_letterAt := by decide +kernel
set_option maxRecDepth 100000 in
set_option maxHeartbeats 4000000 in
theorem c_X4_letterAt (l : Launch) (D : va_G) (T : Nat → ClassId) (ad : Nat → Nat) (hN : ∀ i j, i < 33 → j < 33 → ad i = ad j → i = j) (st : St_) (w : Nat) (hw : w < 3) (k : Int) (bk : -2147483648 ≤ k ∧ k < 2147483648) (hs : 0 ≤ st.1 (10 + w) ∧ st.1 (10 + w) ≤ 60) : CXi l yX4_letterAt wsX4_letterAt (rmX 0 0) [.ref (ad (25 + w)), .int (ii (k))] D (tyX T) (XW T ad) (alX ad) st (fun z st2 => wat st w (k) = z ∧ st = st2) := by
  refine mk_i (cc := cX4_letterAt) (nL := 2) rfl rfl (XW_ok hN) (Nat.le_of_ble_eq_true rfl) [(0, .ref (ad (25 + w))), (1, .int (ii (k)))] rfl (fun p e s m args below meth c A Q E RET => ?_)
  refine x_iload_n (q := 1) E dX4_letterAt_0 1 rfl rfl ?_
  refine x_if_lt (tgt := 30) (q := 4) E dX4_letterAt_1 (by decide) rfl (by omega) (fun c1 => ?_) (fun c1 => ?_)
  · refine x_iconst (q := 31) E dX4_letterAt_30 rfl ?_
    exact RET _ _ _ _ dX4_letterAt_31 (⟨by unfold wat; first | (exfalso; omega) | (rw [if_pos (by omega)]) | (rw [if_neg (by omega)]), rfl⟩)
  · refine x_iload_n (q := 5) E dX4_letterAt_4 1 rfl rfl ?_
    refine x_aload_n (q := 6) E dX4_letterAt_5 0 rfl rfl ?_
    refine x_get (q := 9) E iX4_letterAt_X4 (25 + w) (xg_word hw) rfl 1 (by decide) (by decide +kernel) rfl dX4_letterAt_6 rfl ?_
    refine x_icmp_ge (tgt := 30) (q := 12) E dX4_letterAt_9 (by decide) rfl (by omega) (by omega) (fun c9 => ?_) (fun c9 => ?_)
    · refine x_iconst (q := 31) E dX4_letterAt_30 rfl ?_
      exact RET _ _ _ _ dX4_letterAt_31 (⟨by unfold wat; first | (exfalso; omega) | (rw [if_pos (by omega)]) | (rw [if_neg (by omega)]), rfl⟩)
    · refine x_iload_n (q := 13) E dX4_letterAt_12 1 rfl rfl ?_
      refine x_aload_n (q := 14) E dX4_letterAt_13 0 rfl rfl ?_
      refine x_get (q := 17) E iX4_letterAt_X4 (25 + w) (xg_word hw) rfl 0 (by decide) (by decide +kernel) rfl dX4_letterAt_14 rfl ?_
      refine x_alen (q := 18) E (28 + w) (xg_wl hw) 0 rfl dX4_letterAt_17 rfl ?_
      refine x_ti (show (((60 : Nat) : Int)) = 60 from rfl) ?_
      refine x_icmp_ge (tgt := 30) (q := 21) E dX4_letterAt_18 (by decide) rfl (by omega) (by omega) (fun c18 => ?_) (fun c18 => ?_)
      · refine x_iconst (q := 31) E dX4_letterAt_30 rfl ?_
        exact RET _ _ _ _ dX4_letterAt_31 (⟨by unfold wat; first | (exfalso; omega) | (rw [if_pos (by omega)]) | (rw [if_neg (by omega)]), rfl⟩)
      · refine x_aload_n (q := 22) E dX4_letterAt_21 0 rfl rfl ?_
        refine x_get (q := 25) E iX4_letterAt_X4 (25 + w) (xg_word hw) rfl 0 (by decide) (by decide +kernel) rfl dX4_letterAt_22 rfl ?_
        refine x_iload_n (q := 26) E dX4_letterAt_25 1 rfl rfl ?_
        refine x_iald (q := 27) (f := st.2 (14 + w)) E (28 + w) (xg_wl hw) 0 rfl (by omega) (by omega) (by decide) dX4_letterAt_26 rfl ?_
        refine x_goto (tgt := 31) E dX4_letterAt_27 (by decide) ?_
        exact RET _ _ _ _ dX4_letterAt_31 (⟨by unfold wat; first | (exfalso; omega) | (rw [if_pos (by omega)]) | (rw [if_neg (by omega)]), rfl⟩)

theorem iX4_empty_X4 : ∀ w ∈ wsX40, w ∈ wsX4_empty := by decide +kernel
set_option maxRecDepth 100000 in
set_option maxHeartbeats 4000000 in
theorem c_X4_empty (l : Launch) (D : va_G) (T : Nat → ClassId) (ad : Nat → Nat) (hN : ∀ i j, i < 33 → j < 33 → ad i = ad j → i = j) (st : St_) (w : Nat) (hw : w < 3) : CXv l yX4_empty wsX4_empty (rmX 0 0) [.ref (ad (25 + w))] D (tyX T) (XW T ad) (alX ad) st (fun st2 => st2 = sG st (10 + w) 0) := by
  refine mk_v (cc := cX4_empty) (nL := 1) rfl rfl (XW_ok hN) (Nat.le_of_ble_eq_true rfl) [(0, .ref (ad (25 + w)))] rfl (fun p e s m args below meth c A Q E RET => ?_)
  refine x_aload_n (q := 1) E dX4_empty_0 0 rfl rfl ?_
  refine x_iconst (q := 2) E dX4_empty_1 rfl ?_
  refine x_put (q := 5) (st' := (sG st (10 + w) (0))) (v := .int (ii (0))) (ty := .int) E iX4_empty_X4 tyX4 tyX4_ok nmX4 (25 + w) (xg_word hw) rfl 1 (by decide) (by decide +kernel) rfl (by decide +kernel) rfl rfl (Nat.le_of_ble_eq_true rfl) dX4_empty_2 (xs_word hw _) rfl ?_
  exact RET _ _ _ dX4_empty_5 (rfl)

theorem iX4_put_X4 : ∀ w ∈ wsX40, w ∈ wsX4_put := by decide +kernel
set_option maxRecDepth 100000 in
set_option maxHeartbeats 4000000 in
theorem c_X4_put (l : Launch) (D : va_G) (T : Nat → ClassId) (ad : Nat → Nat) (hN : ∀ i j, i < 33 → j < 33 → ad i = ad j → i = j) (st : St_) (w : Nat) (hw : w < 3) (v : Int) (bv : -2147483648 ≤ v ∧ v < 2147483648) (hs : 0 ≤ st.1 (10 + w) ∧ st.1 (10 + w) ≤ 60) : CXi l yX4_put wsX4_put (rmX 0 0) [.ref (ad (25 + w)), .int (ii (v))] D (tyX T) (XW T ad) (alX ad) st (fun z st2 => (st.1 (10 + w) < 60 ∧ z = 1 ∧ st2 = sG (sA st (14 + w) (st.1 (10 + w)) v) (10 + w) (st.1 (10 + w) + 1)) ∨ (60 ≤ st.1 (10 + w) ∧ z = 0 ∧ st2 = st)) := by
  refine mk_z (cc := cX4_put) (nL := 2) rfl rfl (XW_ok hN) (Nat.le_of_ble_eq_true rfl) [(0, .ref (ad (25 + w))), (1, .int (ii (v)))] rfl (fun p e s m args below meth c A Q E RET => ?_)
  refine x_aload_n (q := 1) E dX4_put_0 0 rfl rfl ?_
  refine x_get (q := 4) E iX4_put_X4 (25 + w) (xg_word hw) rfl 1 (by decide) (by decide +kernel) rfl dX4_put_1 rfl ?_
  refine x_if_lt (tgt := 19) (q := 7) E dX4_put_4 (by decide) rfl (by omega) (fun c4 => ?_) (fun c4 => ?_)
  · refine x_iconst (q := 20) E dX4_put_19 rfl ?_
    exact RET _ _ _ _ dX4_put_20 (by omega) (by first | exact Or.inl ⟨by omega, rfl, rfl⟩ | exact Or.inr ⟨by omega, rfl, rfl⟩)
  · refine x_aload_n (q := 8) E dX4_put_7 0 rfl rfl ?_
    refine x_get (q := 11) E iX4_put_X4 (25 + w) (xg_word hw) rfl 1 (by decide) (by decide +kernel) rfl dX4_put_8 rfl ?_
    refine x_aload_n (q := 12) E dX4_put_11 0 rfl rfl ?_
    refine x_get (q := 15) E iX4_put_X4 (25 + w) (xg_word hw) rfl 0 (by decide) (by decide +kernel) rfl dX4_put_12 rfl ?_
    refine x_alen (q := 16) E (28 + w) (xg_wl hw) 0 rfl dX4_put_15 rfl ?_
    refine x_ti (show (((60 : Nat) : Int)) = 60 from rfl) ?_
    refine x_icmp_lt (tgt := 21) (q := 19) E dX4_put_16 (by decide) rfl (by omega) (by omega) (fun c16 => ?_) (fun c16 => ?_)
    · refine x_aload_n (q := 22) E dX4_put_21 0 rfl rfl ?_
      refine x_get (q := 25) E iX4_put_X4 (25 + w) (xg_word hw) rfl 0 (by decide) (by decide +kernel) rfl dX4_put_22 rfl ?_
      refine x_aload_n (q := 26) E dX4_put_25 0 rfl rfl ?_
      refine x_get (q := 29) E iX4_put_X4 (25 + w) (xg_word hw) rfl 1 (by decide) (by decide +kernel) rfl dX4_put_26 rfl ?_
      refine x_iload_n (q := 30) E dX4_put_29 1 rfl rfl ?_
      refine x_iast (q := 31) (st' := (sA st (14 + w) (st.1 (10 + w)) (v))) (f := st.2 (14 + w)) E (28 + w) (xg_wl hw) 0 rfl (by omega) (by omega) (by decide) dX4_put_30 (xs_wl hw _ _) rfl ?_
      refine x_aload_n (q := 32) E dX4_put_31 0 rfl rfl ?_
      refine x_dup (q := 33) E dX4_put_32 rfl rfl ?_
      refine x_get (q := 36) E iX4_put_X4 (25 + w) (xg_word hw) rfl 1 (by decide) (by decide +kernel) rfl dX4_put_33 rfl ?_
      refine x_ti (show (sA st (14 + w) (st.1 (10 + w)) (v)).1 (10 + w) = st.1 (10 + w) by rw [sA_1]) ?_
      refine x_iconst (q := 37) E dX4_put_36 rfl ?_
      refine x_iadd (q := 38) E dX4_put_37 rfl ?_
      refine x_put (q := 41) (st' := (sG (sA st (14 + w) (st.1 (10 + w)) (v)) (10 + w) ((st.1 (10 + w)) + (1)))) (v := .int (ii ((st.1 (10 + w)) + (1)))) (ty := .int) E iX4_put_X4 tyX4 tyX4_ok nmX4 (25 + w) (xg_word hw) rfl 1 (by decide) (by decide +kernel) rfl (by decide +kernel) rfl rfl (Nat.le_of_ble_eq_true rfl) dX4_put_38 (xs_word hw _) rfl ?_
      refine x_iconst (q := 42) E dX4_put_41 rfl ?_
      exact RET _ _ _ _ dX4_put_42 (by omega) (by first | exact Or.inl ⟨by omega, rfl, rfl⟩ | exact Or.inr ⟨by omega, rfl, rfl⟩)
    · refine x_iconst (q := 20) E dX4_put_19 rfl ?_
      exact RET _ _ _ _ dX4_put_20 (by omega) (by first | exact Or.inl ⟨by omega, rfl, rfl⟩ | exact Or.inr ⟨by omega, rfl, rfl⟩)

theorem iX4_drop_X4 : ∀ w ∈ wsX40, w ∈ wsX4_drop := by decide +kernel
set_option maxRecDepth 100000 in
set_option maxHeartbeats 4000000 in
theorem c_X4_drop (l : Launch) (D : va_G) (T : Nat → ClassId) (ad : Nat → Nat) (hN : ∀ i j, i < 33 → j < 33 → ad i = ad j → i = j) (st : St_) (w : Nat) (hw : w < 3) (hs : 0 ≤ st.1 (10 + w) ∧ st.1 (10 + w) ≤ 60) : CXv l yX4_drop wsX4_drop (rmX 0 0) [.ref (ad (25 + w))] D (tyX T) (XW T ad) (alX ad) st (fun st2 => (0 < st.1 (10 + w) ∧ st2 = sG st (10 + w) (st.1 (10 + w) - 1)) ∨ (¬ 0 < st.1 (10 + w) ∧ st2 = st)) := by
  refine mk_v (cc := cX4_drop) (nL := 1) rfl rfl (XW_ok hN) (Nat.le_of_ble_eq_true rfl) [(0, .ref (ad (25 + w)))] rfl (fun p e s m args below meth c A Q E RET => ?_)
  refine x_aload_n (q := 1) E dX4_drop_0 0 rfl rfl ?_
  refine x_get (q := 4) E iX4_drop_X4 (25 + w) (xg_word hw) rfl 1 (by decide) (by decide +kernel) rfl dX4_drop_1 rfl ?_
  refine x_if_le (tgt := 17) (q := 7) E dX4_drop_4 (by decide) rfl (by omega) (fun c4 => ?_) (fun c4 => ?_)
  · exact RET _ _ _ dX4_drop_17 (by first | exact Or.inl ⟨by omega, rfl⟩ | exact Or.inr ⟨by omega, rfl⟩)
  · refine x_aload_n (q := 8) E dX4_drop_7 0 rfl rfl ?_
    refine x_dup (q := 9) E dX4_drop_8 rfl rfl ?_
    refine x_get (q := 12) E iX4_drop_X4 (25 + w) (xg_word hw) rfl 1 (by decide) (by decide +kernel) rfl dX4_drop_9 rfl ?_
    refine x_iconst (q := 13) E dX4_drop_12 rfl ?_
    refine x_isub (q := 14) E dX4_drop_13 rfl ?_
    refine x_put (q := 17) (st' := (sG st (10 + w) ((st.1 (10 + w)) - (1)))) (v := .int (ii ((st.1 (10 + w)) - (1)))) (ty := .int) E iX4_drop_X4 tyX4 tyX4_ok nmX4 (25 + w) (xg_word hw) rfl 1 (by decide) (by decide +kernel) rfl (by decide +kernel) rfl rfl (Nat.le_of_ble_eq_true rfl) dX4_drop_14 (xs_word hw _) rfl ?_
    exact RET _ _ _ dX4_drop_17 (by first | exact Or.inl ⟨by omega, rfl⟩ | exact Or.inr ⟨by omega, rfl⟩)

theorem iX4_change_X4 : ∀ w ∈ wsX40, w ∈ wsX4_change := by decide +kernel
set_option maxRecDepth 100000 in
set_option maxHeartbeats 4000000 in
theorem c_X4_change (l : Launch) (D : va_G) (T : Nat → ClassId) (ad : Nat → Nat) (hN : ∀ i j, i < 33 → j < 33 → ad i = ad j → i = j) (st : St_) (w : Nat) (hw : w < 3) (k : Int) (bk : -2147483648 ≤ k ∧ k < 2147483648) (v : Int) (bv : -2147483648 ≤ v ∧ v < 2147483648) : CXv l yX4_change wsX4_change (rmX 0 0) [.ref (ad (25 + w)), .int (ii (k)), .int (ii (v))] D (tyX T) (XW T ad) (alX ad) st (fun st2 => st2 = if 0 ≤ k ∧ k < 60 then sA st (14 + w) k v else st) := by
  refine mk_v (cc := cX4_change) (nL := 3) rfl rfl (XW_ok hN) (Nat.le_of_ble_eq_true rfl) [(0, .ref (ad (25 + w))), (1, .int (ii (k))), (2, .int (ii (v)))] rfl (fun p e s m args below meth c A Q E RET => ?_)
  refine x_iload_n (q := 1) E dX4_change_0 1 rfl rfl ?_
  refine x_if_lt (tgt := 20) (q := 4) E dX4_change_1 (by decide) rfl (by omega) (fun c1 => ?_) (fun c1 => ?_)
  · exact RET _ _ _ dX4_change_20 (by first | (rw [if_pos (by omega)]) | (rw [if_neg (by omega)]))
  · refine x_iload_n (q := 5) E dX4_change_4 1 rfl rfl ?_
    refine x_aload_n (q := 6) E dX4_change_5 0 rfl rfl ?_
    refine x_get (q := 9) E iX4_change_X4 (25 + w) (xg_word hw) rfl 0 (by decide) (by decide +kernel) rfl dX4_change_6 rfl ?_
    refine x_alen (q := 10) E (28 + w) (xg_wl hw) 0 rfl dX4_change_9 rfl ?_
    refine x_ti (show (((60 : Nat) : Int)) = 60 from rfl) ?_
    refine x_icmp_ge (tgt := 20) (q := 13) E dX4_change_10 (by decide) rfl (by omega) (by omega) (fun c10 => ?_) (fun c10 => ?_)
    · exact RET _ _ _ dX4_change_20 (by first | (rw [if_pos (by omega)]) | (rw [if_neg (by omega)]))
    · refine x_aload_n (q := 14) E dX4_change_13 0 rfl rfl ?_
      refine x_get (q := 17) E iX4_change_X4 (25 + w) (xg_word hw) rfl 0 (by decide) (by decide +kernel) rfl dX4_change_14 rfl ?_
      refine x_iload_n (q := 18) E dX4_change_17 1 rfl rfl ?_
      refine x_iload_n (q := 19) E dX4_change_18 2 rfl rfl ?_
      refine x_iast (q := 20) (st' := (sA st (14 + w) (k) (v))) (f := st.2 (14 + w)) E (28 + w) (xg_wl hw) 0 rfl (by omega) (by omega) (by decide) dX4_change_19 (xs_wl hw _ _) rfl ?_
      exact RET _ _ _ dX4_change_20 (by first | (rw [if_pos (by omega)]) | (rw [if_neg (by omega)]))

set_option maxRecDepth 100000 in
set_option maxHeartbeats 4000000 in
theorem c_X4_isEndOfRun (l : Launch) (D : va_G) (T : Nat → ClassId) (ad : Nat → Nat) (hN : ∀ i j, i < 33 → j < 33 → ad i = ad j → i = j) (st : St_) (w : Nat) (hw : w < 3) (k : Int) (bk : -2147483648 ≤ k ∧ k < 2147483648) (hs : 0 ≤ st.1 (10 + w) ∧ st.1 (10 + w) ≤ 60) (hk : k < 100 ∧ -1 ≤ k) (hb : ∀ j, 0 ≤ j → j < 60 → -1 ≤ st.2 (14 + w) j ∧ st.2 (14 + w) j ≤ 100) : CXi l yX4_isEndOfRun wsX4_isEndOfRun (rmX 1 21) [.ref (ad (25 + w)), .int (ii (k))] D (tyX T) (XW T ad) (alX ad) st (fun z st2 => (if wat st w (k) = wat st w (k + 1) then 0 else 1) = z ∧ st = st2) := by
  refine mk_z (cc := cX4_isEndOfRun) (nL := 2) rfl rfl (XW_ok hN) (Nat.le_of_ble_eq_true rfl) [(0, .ref (ad (25 + w))), (1, .int (ii (k)))] rfl (fun p e s m args below meth c A Q E RET => ?_)
  have hwt : ∀ j, -1 ≤ wat st w j ∧ wat st w j ≤ 100 := by
    intro j; unfold wat; split
    · exact hb j (by omega) (by omega)
    · omega
  have hw0 := hwt k
  have hw1 := hwt (k + 1)
  refine x_aload_n (q := 1) E dX4_isEndOfRun_0 0 rfl rfl ?_
  refine x_iload_n (q := 2) E dX4_isEndOfRun_1 1 rfl rfl ?_
  refine x_callVi (q := 5) (n := 1) (As := [.int (ii (k))]) (r := []) E (c_X4_letterAt l D T ad hN st (w) hw (k) (by omega) (by omega)) gX4_isEndOfRun_X4_letterAt rfl rfl rfl (by decide +kernel) ⟨Nat.le_of_ble_eq_true rfl, Nat.le_of_ble_eq_true rfl⟩ (25 + w) (xg_word hw) rfl rfl rfl (Nat.le_of_ble_eq_true rfl) dX4_isEndOfRun_2 rfl (fun z1 s2 q3 => ?_)
  obtain ⟨rfl, rfl⟩ := q3
  refine x_aload_n (q := 6) E dX4_isEndOfRun_5 0 rfl rfl ?_
  refine x_iload_n (q := 7) E dX4_isEndOfRun_6 1 rfl rfl ?_
  refine x_iconst (q := 8) E dX4_isEndOfRun_7 rfl ?_
  refine x_iadd (q := 9) E dX4_isEndOfRun_8 rfl ?_
  refine x_callVi (q := 12) (n := 1) (As := [.int (ii ((k) + (1)))]) (r := [.int (ii (wat st w (k)))]) E (c_X4_letterAt l D T ad hN st (w) hw ((k) + (1)) (by omega) (by omega)) gX4_isEndOfRun_X4_letterAt rfl rfl rfl (by decide +kernel) ⟨Nat.le_of_ble_eq_true rfl, Nat.le_of_ble_eq_true rfl⟩ (25 + w) (xg_word hw) rfl rfl rfl (Nat.le_of_ble_eq_true rfl) dX4_isEndOfRun_9 rfl (fun z4 s5 q6 => ?_)
  obtain ⟨rfl, rfl⟩ := q6
  refine x_icmp_eq (tgt := 19) (q := 15) E dX4_isEndOfRun_12 (by decide) rfl (by omega) (by omega) (fun c12 => ?_) (fun c12 => ?_)
  · refine x_iconst (q := 20) E dX4_isEndOfRun_19 rfl ?_
    exact RET _ _ _ _ dX4_isEndOfRun_20 (by omega) (⟨by first | (exfalso; omega) | (rw [if_pos (by omega)]) | (rw [if_neg (by omega)]), rfl⟩)
  · refine x_iconst (q := 16) E dX4_isEndOfRun_15 rfl ?_
    refine x_goto (tgt := 20) E dX4_isEndOfRun_16 (by decide) ?_
    exact RET _ _ _ _ dX4_isEndOfRun_20 (by omega) (⟨by first | (exfalso; omega) | (rw [if_pos (by omega)]) | (rw [if_neg (by omega)]), rfl⟩)

theorem iX2_number_X2 : ∀ w ∈ wsX20, w ∈ wsX2_number := by decide +kernel
set_option maxRecDepth 100000 in
set_option maxHeartbeats 4000000 in
theorem c_X2_number (l : Launch) (D : va_G) (T : Nat → ClassId) (ad : Nat → Nat) (hN : ∀ i j, i < 33 → j < 33 → ad i = ad j → i = j) (st : St_) (i : Nat) (hi : i < 3) (k : Int) (bk : -2147483648 ≤ k ∧ k < 2147483648) (hm : 0 ≤ st.1 (7 + i) ∧ st.1 (7 + i) ≤ 100001) : CXi l yX2_number wsX2_number (rmX 0 0) [.ref (ad (13 + i)), .int (ii (k))] D (tyX T) (XW T ad) (alX ad) st (fun z st2 => nat_ st i (k) = z ∧ st = st2) := by
  refine mk_i (cc := cX2_number) (nL := 2) rfl rfl (XW_ok hN) (Nat.le_of_ble_eq_true rfl) [(0, .ref (ad (13 + i))), (1, .int (ii (k)))] rfl (fun p e s m args below meth c A Q E RET => ?_)
  refine x_iload_n (q := 1) E dX2_number_0 1 rfl rfl ?_
  refine x_if_lt (tgt := 30) (q := 4) E dX2_number_1 (by decide) rfl (by omega) (fun c1 => ?_) (fun c1 => ?_)
  · refine x_iconst (q := 31) E dX2_number_30 rfl ?_
    exact RET _ _ _ _ dX2_number_31 (⟨by unfold nat_; first | (exfalso; omega) | (rw [if_pos (by omega)]) | (rw [if_neg (by omega)]), rfl⟩)
  · refine x_iload_n (q := 5) E dX2_number_4 1 rfl rfl ?_
    refine x_aload_n (q := 6) E dX2_number_5 0 rfl rfl ?_
    refine x_get (q := 9) E iX2_number_X2 (13 + i) (xg_row hi) rfl 3 (by decide) (by decide +kernel) rfl dX2_number_6 rfl ?_
    refine x_icmp_ge (tgt := 30) (q := 12) E dX2_number_9 (by decide) rfl (by omega) (by omega) (fun c9 => ?_) (fun c9 => ?_)
    · refine x_iconst (q := 31) E dX2_number_30 rfl ?_
      exact RET _ _ _ _ dX2_number_31 (⟨by unfold nat_; first | (exfalso; omega) | (rw [if_pos (by omega)]) | (rw [if_neg (by omega)]), rfl⟩)
    · refine x_iload_n (q := 13) E dX2_number_12 1 rfl rfl ?_
      refine x_aload_n (q := 14) E dX2_number_13 0 rfl rfl ?_
      refine x_get (q := 17) E iX2_number_X2 (13 + i) (xg_row hi) rfl 0 (by decide) (by decide +kernel) rfl dX2_number_14 rfl ?_
      refine x_alen (q := 18) E (16 + i) (xg_num hi) 1 rfl dX2_number_17 rfl ?_
      refine x_ti (show (((100001 : Nat) : Int)) = 100001 from rfl) ?_
      refine x_icmp_ge (tgt := 30) (q := 21) E dX2_number_18 (by decide) rfl (by omega) (by omega) (fun c18 => ?_) (fun c18 => ?_)
      · refine x_iconst (q := 31) E dX2_number_30 rfl ?_
        exact RET _ _ _ _ dX2_number_31 (⟨by unfold nat_; first | (exfalso; omega) | (rw [if_pos (by omega)]) | (rw [if_neg (by omega)]), rfl⟩)
      · refine x_aload_n (q := 22) E dX2_number_21 0 rfl rfl ?_
        refine x_get (q := 25) E iX2_number_X2 (13 + i) (xg_row hi) rfl 0 (by decide) (by decide +kernel) rfl dX2_number_22 rfl ?_
        refine x_iload_n (q := 26) E dX2_number_25 1 rfl rfl ?_
        refine x_bald (q := 27) (f := st.2 (5 + i)) E (16 + i) (xg_num hi) 1 rfl (by omega) (by omega) (by decide) dX2_number_26 rfl ?_
        refine x_goto (tgt := 31) E dX2_number_27 (by decide) ?_
        exact RET _ _ _ _ dX2_number_31 (⟨by unfold nat_; first | (exfalso; omega) | (rw [if_pos (by omega)]) | (rw [if_neg (by omega)]), rfl⟩)

theorem iX4_total_X4 : ∀ w ∈ wsX40, w ∈ wsX4_total := by decide +kernel
set_option maxRecDepth 100000 in
set_option maxHeartbeats 4000000 in
theorem c_X4_total (l : Launch) (D : va_G) (T : Nat → ClassId) (ad : Nat → Nat) (hN : ∀ i j, i < 33 → j < 33 → ad i = ad j → i = j) (st : St_) (w : Nat) (hw : w < 3) (hs : 0 ≤ st.1 (10 + w) ∧ st.1 (10 + w) ≤ 60) (hb : ∀ j, 0 ≤ j → j < 60 → 0 ≤ st.2 (14 + w) j ∧ st.2 (14 + w) j ≤ 6) : CXi l yX4_total wsX4_total (rmX 1 21) [.ref (ad (25 + w))] D (tyX T) (XW T ad) (alX ad) st (fun z st2 => isum (st.2 (14 + w)) (st.1 (10 + w)) = z ∧ st = st2) := by
  refine mk_i (cc := cX4_total) (nL := 3) rfl rfl (XW_ok hN) (Nat.le_of_ble_eq_true rfl) [(0, .ref (ad (25 + w)))] rfl (fun p e s m args below meth c A Q E RET => ?_)
  refine x_iconst (q := 1) E dX4_total_0 rfl ?_
  refine x_istore_n (q := 2) (lv' := [(1, .int (ii (0))), (0, .ref (ad (25 + w)))]) E dX4_total_1 (by decide) rfl rfl ?_
  refine x_iconst (q := 3) E dX4_total_2 rfl ?_
  refine x_istore_n (q := 4) (lv' := [(2, .int (ii (0))), (1, .int (ii (0))), (0, .ref (ad (25 + w)))]) E dX4_total_3 (by decide) rfl rfl ?_
  have L4 : ∀ (n : Nat) (t : Int) (j : Int), (st.1 (10 + w) - j).toNat < n → (0 ≤ j ∧ j ≤ st.1 (10 + w)) → (t = isum (st.2 (14 + w)) j) → (0 ≤ t ∧ t ≤ 6 * j) → XJ p l e (rmX 1 21) s m args below meth c D (XW T ad) A 3 Q 0 0 st 4 [(0, .ref (ad (25 + w))), (1, .int (ii (t))), (2, .int (ii (j)))] [] := by
    intro n
    induction n with
    | zero => intro t j hn; exact absurd hn (Nat.not_lt_zero _)
    | succ n ih4 =>
      intro t j hn4 h0 h1 h2
      refine x_iload_n (q := 5) E dX4_total_4 2 rfl rfl ?_
      refine x_aload_n (q := 6) E dX4_total_5 0 rfl rfl ?_
      refine x_get (q := 9) E iX4_total_X4 (25 + w) (xg_word hw) rfl 1 (by decide) (by decide +kernel) rfl dX4_total_6 rfl ?_
      refine x_icmp_ge (tgt := 26) (q := 12) E dX4_total_9 (by decide) rfl (by omega) (by omega) (fun c9 => ?_) (fun c9 => ?_)
      · refine x_iload_n (q := 27) E dX4_total_26 1 rfl rfl ?_
        exact RET _ _ _ _ dX4_total_27 (⟨by rw [h1]; exact congrArg _ (by omega), rfl⟩)
      · have hwt : wat st w j = st.2 (14 + w) j := by unfold wat; rw [if_pos (by omega)]
        refine x_iload_n (q := 13) E dX4_total_12 1 rfl rfl ?_
        refine x_aload_n (q := 14) E dX4_total_13 0 rfl rfl ?_
        refine x_iload_n (q := 15) E dX4_total_14 2 rfl rfl ?_
        refine x_callVi (q := 18) (n := 1) (As := [.int (ii (j))]) (r := [.int (ii (t))]) E (c_X4_letterAt l D T ad hN st (w) hw (j) (by omega) (by omega)) gX4_total_X4_letterAt rfl rfl rfl (by decide +kernel) ⟨Nat.le_of_ble_eq_true rfl, Nat.le_of_ble_eq_true rfl⟩ (25 + w) (xg_word hw) rfl rfl rfl (Nat.le_of_ble_eq_true rfl) dX4_total_15 rfl (fun z1 s2 q3 => ?_)
        obtain ⟨rfl, rfl⟩ := q3
        refine x_iadd (q := 19) E dX4_total_18 rfl ?_
        refine x_istore_n (q := 20) (lv' := [(1, .int (ii ((t) + (wat st w (j))))), (0, .ref (ad (25 + w))), (2, .int (ii (j)))]) E dX4_total_19 (by decide) rfl rfl ?_
        refine x_iinc (q := 23) (k := 2) (lv' := [(2, .int (ii (j + 1))), (1, .int (ii ((t) + (wat st w (j))))), (0, .ref (ad (25 + w)))]) E dX4_total_20 rfl (by decide) rfl rfl ?_
        refine x_goto (tgt := 4) E dX4_total_23 (by decide) ?_
        refine x_lv E (lv' := [(0, .ref (ad (25 + w))), (1, .int (ii ((t) + (wat st w (j))))), (2, .int (ii (j + 1)))]) [2, 1, 0] rfl ?_
        exact ih4 ((t) + (wat st w (j))) (j + 1) (by omega) (by omega) (by rw [hwt, h1, isum_s _ (by omega)]) (by rw [hwt]; have := hb j (by omega) (by omega); omega)
  refine x_lv E (lv' := [(0, .ref (ad (25 + w))), (1, .int (ii (0))), (2, .int (ii (0)))]) [2, 1, 0] rfl ?_
  exact L4 _ (0) (0) (Nat.lt_succ_self _) (by omega) ((isum_0 _).symm) (by omega)

