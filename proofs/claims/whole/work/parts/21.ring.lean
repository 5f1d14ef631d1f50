theorem iX1_size_X1 : ∀ w ∈ wsX10, w ∈ wsX1_size := by decide +kernel
set_option maxRecDepth 100000 in
set_option maxHeartbeats 4000000 in
theorem c_X1_size (l : Launch) (D : va_G) (T : Nat → ClassId) (ad : Nat → Nat) (hN : ∀ i j, i < 33 → j < 33 → ad i = ad j → i = j) (st : St_)  : CXi l yX1_size wsX1_size (rmX 0 0) [.ref (ad 1)] D (tyX T) (XW T ad) (alX ad) st (fun z st2 => st.1 2 = z ∧ st = st2) := by
  refine mk_i (cc := cX1_size) (nL := 1) rfl rfl (XW_ok hN) (Nat.le_of_ble_eq_true rfl) [(0, .ref (ad 1))] rfl (fun p e s m args below meth c A Q E RET => ?_)
  refine x_aload_n (q := 1) E dX1_size_0 0 rfl rfl ?_
  refine x_get (q := 4) E iX1_size_X1 (1) rfl rfl 3 (by decide) (by decide +kernel) rfl dX1_size_1 rfl ?_
  exact RET _ _ _ _ dX1_size_4 (⟨rfl, rfl⟩)

theorem iX1_hasAlphabet_X1 : ∀ w ∈ wsX10, w ∈ wsX1_hasAlphabet := by decide +kernel
set_option maxRecDepth 100000 in
set_option maxHeartbeats 4000000 in
theorem c_X1_hasAlphabet (l : Launch) (D : va_G) (T : Nat → ClassId) (ad : Nat → Nat) (hN : ∀ i j, i < 33 → j < 33 → ad i = ad j → i = j) (st : St_) (k : Int) (bk : -2147483648 ≤ k ∧ k < 2147483648) : CXi l yX1_hasAlphabet wsX1_hasAlphabet (rmX 0 0) [.ref (ad 1), .int (ii (k))] D (tyX T) (XW T ad) (alX ad) st (fun z st2 => (if 0 ≤ k ∧ k < 4 then 1 else 0) = z ∧ st = st2) := by
  refine mk_z (cc := cX1_hasAlphabet) (nL := 2) rfl rfl (XW_ok hN) (Nat.le_of_ble_eq_true rfl) [(0, .ref (ad 1)), (1, .int (ii (k)))] rfl (fun p e s m args below meth c A Q E RET => ?_)
  refine x_iload_n (q := 1) E dX1_hasAlphabet_0 1 rfl rfl ?_
  refine x_if_lt (tgt := 17) (q := 4) E dX1_hasAlphabet_1 (by decide) rfl (by omega) (fun c1 => ?_) (fun c1 => ?_)
  · refine x_iconst (q := 18) E dX1_hasAlphabet_17 rfl ?_
    exact RET _ _ _ _ dX1_hasAlphabet_18 (by omega) (⟨by first | (rw [if_pos (by omega)]) | (rw [if_neg (by omega)]), rfl⟩)
  · refine x_iload_n (q := 5) E dX1_hasAlphabet_4 1 rfl rfl ?_
    refine x_aload_n (q := 6) E dX1_hasAlphabet_5 0 rfl rfl ?_
    refine x_get (q := 9) E iX1_hasAlphabet_X1 (1) rfl rfl 0 (by decide) (by decide +kernel) rfl dX1_hasAlphabet_6 rfl ?_
    refine x_alen (q := 10) E (2) rfl 3 rfl dX1_hasAlphabet_9 rfl ?_
    refine x_ti (show (((4 : Nat) : Int)) = 4 from rfl) ?_
    refine x_icmp_ge (tgt := 17) (q := 13) E dX1_hasAlphabet_10 (by decide) rfl (by omega) (by omega) (fun c10 => ?_) (fun c10 => ?_)
    · refine x_iconst (q := 18) E dX1_hasAlphabet_17 rfl ?_
      exact RET _ _ _ _ dX1_hasAlphabet_18 (by omega) (⟨by first | (rw [if_pos (by omega)]) | (rw [if_neg (by omega)]), rfl⟩)
    · refine x_iconst (q := 14) E dX1_hasAlphabet_13 rfl ?_
      refine x_goto (tgt := 18) E dX1_hasAlphabet_14 (by decide) ?_
      exact RET _ _ _ _ dX1_hasAlphabet_18 (by omega) (⟨by first | (rw [if_pos (by omega)]) | (rw [if_neg (by omega)]), rfl⟩)

theorem iX1_hasRow_X1 : ∀ w ∈ wsX10, w ∈ wsX1_hasRow := by decide +kernel
set_option maxRecDepth 100000 in
set_option maxHeartbeats 4000000 in
theorem c_X1_hasRow (l : Launch) (D : va_G) (T : Nat → ClassId) (ad : Nat → Nat) (hN : ∀ i j, i < 33 → j < 33 → ad i = ad j → i = j) (st : St_) (k : Int) (bk : -2147483648 ≤ k ∧ k < 2147483648) (hn : 1 ≤ st.1 2 ∧ st.1 2 ≤ 3) : CXi l yX1_hasRow wsX1_hasRow (rmX 0 0) [.ref (ad 1), .int (ii (k))] D (tyX T) (XW T ad) (alX ad) st (fun z st2 => (if 0 ≤ k ∧ k < st.1 2 then 1 else 0) = z ∧ st = st2) := by
  refine mk_z (cc := cX1_hasRow) (nL := 2) rfl rfl (XW_ok hN) (Nat.le_of_ble_eq_true rfl) [(0, .ref (ad 1)), (1, .int (ii (k)))] rfl (fun p e s m args below meth c A Q E RET => ?_)
  refine x_iload_n (q := 1) E dX1_hasRow_0 1 rfl rfl ?_
  refine x_if_lt (tgt := 25) (q := 4) E dX1_hasRow_1 (by decide) rfl (by omega) (fun c1 => ?_) (fun c1 => ?_)
  · refine x_iconst (q := 26) E dX1_hasRow_25 rfl ?_
    exact RET _ _ _ _ dX1_hasRow_26 (by omega) (by first | (exfalso; omega) | exact ⟨by first | (rw [if_pos (by omega)]) | (rw [if_neg (by omega)]), rfl⟩)
  · refine x_iload_n (q := 5) E dX1_hasRow_4 1 rfl rfl ?_
    refine x_aload_n (q := 6) E dX1_hasRow_5 0 rfl rfl ?_
    refine x_get (q := 9) E iX1_hasRow_X1 (1) rfl rfl 3 (by decide) (by decide +kernel) rfl dX1_hasRow_6 rfl ?_
    refine x_icmp_ge (tgt := 25) (q := 12) E dX1_hasRow_9 (by decide) rfl (by omega) (by omega) (fun c9 => ?_) (fun c9 => ?_)
    · refine x_iconst (q := 26) E dX1_hasRow_25 rfl ?_
      exact RET _ _ _ _ dX1_hasRow_26 (by omega) (by first | (exfalso; omega) | exact ⟨by first | (rw [if_pos (by omega)]) | (rw [if_neg (by omega)]), rfl⟩)
    · refine x_iload_n (q := 13) E dX1_hasRow_12 1 rfl rfl ?_
      refine x_aload_n (q := 14) E dX1_hasRow_13 0 rfl rfl ?_
      refine x_get (q := 17) E iX1_hasRow_X1 (1) rfl rfl 1 (by decide) (by decide +kernel) rfl dX1_hasRow_14 rfl ?_
      refine x_alen (q := 18) E (3) rfl 4 rfl dX1_hasRow_17 rfl ?_
      refine x_ti (show (((3 : Nat) : Int)) = 3 from rfl) ?_
      refine x_icmp_ge (tgt := 25) (q := 21) E dX1_hasRow_18 (by decide) rfl (by omega) (by omega) (fun c18 => ?_) (fun c18 => ?_)
      · refine x_iconst (q := 26) E dX1_hasRow_25 rfl ?_
        exact RET _ _ _ _ dX1_hasRow_26 (by omega) (by first | (exfalso; omega) | exact ⟨by first | (rw [if_pos (by omega)]) | (rw [if_neg (by omega)]), rfl⟩)
      · refine x_iconst (q := 22) E dX1_hasRow_21 rfl ?_
        refine x_goto (tgt := 26) E dX1_hasRow_22 (by decide) ?_
        exact RET _ _ _ _ dX1_hasRow_26 (by omega) (by first | (exfalso; omega) | exact ⟨by first | (rw [if_pos (by omega)]) | (rw [if_neg (by omega)]), rfl⟩)

theorem iX1_nextOf_X1 : ∀ w ∈ wsX10, w ∈ wsX1_nextOf := by decide +kernel
set_option maxRecDepth 100000 in
set_option maxHeartbeats 4000000 in
theorem c_X1_nextOf (l : Launch) (D : va_G) (T : Nat → ClassId) (ad : Nat → Nat) (hN : ∀ i j, i < 33 → j < 33 → ad i = ad j → i = j) (st : St_) (r : Nat) (hr : r < 3) (hn : 1 ≤ st.1 2 ∧ st.1 2 ≤ 3) : CXi l yX1_nextOf wsX1_nextOf (rmX 0 0) [.ref (ad 1), .int (ii ((r : Int)))] D (tyX T) (XW T ad) (alX ad) st (fun z st2 => ((nxn (st.1 2) r : Nat) : Int) = z ∧ st = st2) := by
  refine mk_i (cc := cX1_nextOf) (nL := 2) rfl rfl (XW_ok hN) (Nat.le_of_ble_eq_true rfl) [(0, .ref (ad 1)), (1, .int (ii ((r : Int))))] rfl (fun p e s m args below meth c A Q E RET => ?_)
  refine x_iload_n (q := 1) E dX1_nextOf_0 1 rfl rfl ?_
  refine x_iconst (q := 2) E dX1_nextOf_1 rfl ?_
  refine x_iadd (q := 3) E dX1_nextOf_2 rfl ?_
  refine x_aload_n (q := 4) E dX1_nextOf_3 0 rfl rfl ?_
  refine x_get (q := 7) E iX1_nextOf_X1 (1) rfl rfl 3 (by decide) (by decide +kernel) rfl dX1_nextOf_4 rfl ?_
  refine x_icmp_ge (tgt := 16) (q := 10) E dX1_nextOf_7 (by decide) rfl (by omega) (by omega) (fun c7 => ?_) (fun c7 => ?_)
  · refine x_iconst (q := 17) E dX1_nextOf_16 rfl ?_
    exact RET _ _ _ _ dX1_nextOf_17 (⟨by unfold nxn; split <;> omega, rfl⟩)
  · refine x_iload_n (q := 11) E dX1_nextOf_10 1 rfl rfl ?_
    refine x_iconst (q := 12) E dX1_nextOf_11 rfl ?_
    refine x_iadd (q := 13) E dX1_nextOf_12 rfl ?_
    refine x_goto (tgt := 17) E dX1_nextOf_13 (by decide) ?_
    exact RET _ _ _ _ dX1_nextOf_17 (⟨by unfold nxn; split <;> omega, rfl⟩)

theorem iX1_waits_X1 : ∀ w ∈ wsX10, w ∈ wsX1_waits := by decide +kernel
set_option maxRecDepth 100000 in
set_option maxHeartbeats 4000000 in
theorem c_X1_waits (l : Launch) (D : va_G) (T : Nat → ClassId) (ad : Nat → Nat) (hN : ∀ i j, i < 33 → j < 33 → ad i = ad j → i = j) (st : St_) (r : Nat) (hr : r < 3) (hrn : (r : Int) < st.1 2) (lt : Nat → Int → Int) (hH : RH lt st) : CXi l yX1_waits wsX1_waits (rmX 1 21) [.ref (ad 1), .int (ii ((r : Int)))] D (tyX T) (XW T ad) (alX ad) st (fun z st2 => (if st.1 (7 + nxn (st.1 2) r) < st.2 (11 + r) 0 then 1 else 0) = z ∧ st = st2) := by
  refine mk_z (cc := cX1_waits) (nL := 3) rfl rfl (XW_ok hN) (Nat.le_of_ble_eq_true rfl) [(0, .ref (ad 1)), (1, .int (ii ((r : Int))))] rfl (fun p e s m args below meth c A Q E RET => ?_)
  have hL := hH.1
  have hn := hH.2.1.1
  have hao := hH.2.1.2.1
  have hlt := hH.2.2.1
  have hri := hH.2.2.2.1
  have hkz := hH.2.2.2.2
  have hx := nxn_lt (n := st.1 2) (r := r) hn.1
  have d1 := RI.b hL hri hrn
  have d2 := RI.b hL hri hx
  have d3 := d1.1
  have d4 := d2.1
  have d5 := d1.2.2
  have d6 := d2.2.2
  refine x_aload_n (q := 1) E dX1_waits_0 0 rfl rfl ?_
  refine x_iload_n (q := 2) E dX1_waits_1 1 rfl rfl ?_
  refine x_callVi (q := 5) (n := 1) (As := [.int (ii ((r : Int)))]) (r := []) E (c_X1_nextOf l D T ad hN st r hr (by omega)) gX1_waits_X1_nextOf rfl rfl rfl (by decide +kernel) ⟨Nat.le_of_ble_eq_true rfl, Nat.le_of_ble_eq_true rfl⟩ (1) rfl rfl rfl rfl (Nat.le_of_ble_eq_true rfl) dX1_waits_2 rfl (fun z1 s2 q3 => ?_)
  obtain ⟨rfl, rfl⟩ := q3
  refine x_istore_n (q := 6) (lv' := [(2, .int (ii (((nxn (st.1 2) r : Nat) : Int)))), (0, .ref (ad 1)), (1, .int (ii ((r : Int))))]) E dX1_waits_5 (by decide) rfl rfl ?_
  refine x_aload_n (q := 7) E dX1_waits_6 1 rfl rfl ?_
  refine x_iload_n (q := 8) E dX1_waits_7 2 rfl rfl ?_
  refine x_callVi (q := 11) (n := 1) (As := [.int (ii ((r : Int)))]) (r := []) E (c_X1_hasRow l D T ad hN st ((r : Int)) (by omega) (by omega)) gX1_waits_X1_hasRow rfl rfl rfl (by decide +kernel) ⟨Nat.le_of_ble_eq_true rfl, Nat.le_of_ble_eq_true rfl⟩ (1) rfl rfl rfl rfl (Nat.le_of_ble_eq_true rfl) dX1_waits_8 rfl (fun z4 s5 q6 => ?_)
  obtain ⟨rfl, rfl⟩ := q6
  refine x_if_eq (tgt := 47) (q := 14) E dX1_waits_11 (by decide) rfl (by omega) (fun c11 => ?_) (fun c11 => ?_)
  · exfalso; omega
  · refine x_aload_n (q := 15) E dX1_waits_14 1 rfl rfl ?_
    refine x_iload_n (q := 16) E dX1_waits_15 0 rfl rfl ?_
    refine x_callVi (q := 19) (n := 1) (As := [.int (ii (((nxn (st.1 2) r : Nat) : Int)))]) (r := []) E (c_X1_hasRow l D T ad hN st (((nxn (st.1 2) r : Nat) : Int)) (by omega) (by omega)) gX1_waits_X1_hasRow rfl rfl rfl (by decide +kernel) ⟨Nat.le_of_ble_eq_true rfl, Nat.le_of_ble_eq_true rfl⟩ (1) rfl rfl rfl rfl (Nat.le_of_ble_eq_true rfl) dX1_waits_16 rfl (fun z7 s8 q9 => ?_)
    obtain ⟨rfl, rfl⟩ := q9
    refine x_if_eq (tgt := 47) (q := 22) E dX1_waits_19 (by decide) rfl (by omega) (fun c19 => ?_) (fun c19 => ?_)
    · exfalso; omega
    · refine x_aload_n (q := 23) E dX1_waits_22 1 rfl rfl ?_
      refine x_get (q := 26) E iX1_waits_X1 (1) rfl rfl 1 (by decide) (by decide +kernel) rfl dX1_waits_23 rfl ?_
      refine x_iload_n (q := 27) E dX1_waits_26 2 rfl rfl ?_
      refine x_aald (q := 28) E 3 rfl 4 rfl (r) hr (by decide) rfl dX1_waits_27 rfl ?_
      refine x_callVi (q := 31) (n := 0) (As := []) (r := []) E (c_X2_runsMade l D T ad hN st (r) hr) gX1_waits_X2_runsMade rfl rfl rfl (by decide +kernel) ⟨Nat.le_of_ble_eq_true rfl, Nat.le_of_ble_eq_true rfl⟩ (13 + r) (xg_row hr) rfl rfl rfl (Nat.le_of_ble_eq_true rfl) dX1_waits_28 rfl (fun z10 s11 q12 => ?_)
      obtain ⟨rfl, rfl⟩ := q12
      refine x_aload_n (q := 32) E dX1_waits_31 1 rfl rfl ?_
      refine x_get (q := 35) E iX1_waits_X1 (1) rfl rfl 1 (by decide) (by decide +kernel) rfl dX1_waits_32 rfl ?_
      refine x_iload_n (q := 36) E dX1_waits_35 0 rfl rfl ?_
      refine x_aald (q := 37) E 3 rfl 4 rfl (nxn (st.1 2) r) (by omega) (by decide) rfl dX1_waits_36 rfl ?_
      refine x_callVi (q := 40) (n := 0) (As := []) (r := [.int (ii (st.2 (11 + r) 0))]) E (c_X2_made l D T ad hN st (nxn (st.1 2) r) (by omega)) gX1_waits_X2_made rfl rfl rfl (by decide +kernel) ⟨Nat.le_of_ble_eq_true rfl, Nat.le_of_ble_eq_true rfl⟩ (13 + nxn (st.1 2) r) (xg_row (by omega)) rfl rfl rfl (Nat.le_of_ble_eq_true rfl) dX1_waits_37 rfl (fun z13 s14 q15 => ?_)
      obtain ⟨rfl, rfl⟩ := q15
      refine x_icmp_le (tgt := 47) (q := 43) E dX1_waits_40 (by decide) rfl (by omega) (by omega) (fun c40 => ?_) (fun c40 => ?_)
      · refine x_iconst (q := 48) E dX1_waits_47 rfl ?_
        exact RET _ _ _ _ dX1_waits_48 (by omega) (⟨by first | (rw [if_pos (by omega)]) | (rw [if_neg (by omega)]), rfl⟩)
      · refine x_iconst (q := 44) E dX1_waits_43 rfl ?_
        refine x_goto (tgt := 48) E dX1_waits_44 (by decide) ?_
        exact RET _ _ _ _ dX1_waits_48 (by omega) (⟨by first | (rw [if_pos (by omega)]) | (rw [if_neg (by omega)]), rfl⟩)

theorem iX1_ripeFrom_X1 : ∀ w ∈ wsX10, w ∈ wsX1_ripeFrom := by decide +kernel
set_option maxRecDepth 100000 in
set_option maxHeartbeats 4000000 in
theorem c_X1_ripeFrom (l : Launch) (D : va_G) (T : Nat → ClassId) (ad : Nat → Nat) (hN : ∀ i j, i < 33 → j < 33 → ad i = ad j → i = j) (st : St_) (r : Nat) (hr : r < 3) (hrn : (r : Int) < st.1 2) (lt : Nat → Int → Int) (hH : RH lt st) : CXi l yX1_ripeFrom wsX1_ripeFrom (rmX 2 43) [.ref (ad 1), .int (ii ((r : Int)))] D (tyX T) (XW T ad) (alX ad) st (fun z st2 => st = st2 ∧ ∃ w : Nat, z = (w : Int) ∧ (w : Int) < st.1 2 ∧ ¬ st.1 (7 + nxn (st.1 2) w) < st.2 (11 + w) 0 ∧ st.1 (7 + w) ≤ st.1 (7 + r)) := by
  refine mk_i (cc := cX1_ripeFrom) (nL := 4) rfl rfl (XW_ok hN) (Nat.le_of_ble_eq_true rfl) [(0, .ref (ad 1)), (1, .int (ii ((r : Int))))] rfl (fun p e s m args below meth c A Q E RET => ?_)
  have hL := hH.1
  have hn := hH.2.1.1
  have hao := hH.2.1.2.1
  have hlt := hH.2.2.1
  have hri := hH.2.2.2.1
  have hkz := hH.2.2.2.2
  refine x_iload_n (q := 1) E dX1_ripeFrom_0 1 rfl rfl ?_
  refine x_istore_n (q := 2) (lv' := [(2, .int (ii ((r : Int)))), (0, .ref (ad 1)), (1, .int (ii ((r : Int))))]) E dX1_ripeFrom_1 (by decide) rfl rfl ?_
  refine x_iconst (q := 3) E dX1_ripeFrom_2 rfl ?_
  refine x_istore_n (q := 4) (lv' := [(3, .int (ii (1))), (2, .int (ii ((r : Int)))), (0, .ref (ad 1)), (1, .int (ii ((r : Int))))]) E dX1_ripeFrom_3 (by decide) rfl rfl ?_
  have L4 : ∀ (n : Nat) (w : Nat) (i : Int), (st.1 2 - i).toNat < n → (1 ≤ i ∧ i ≤ st.1 2) → ((w : Int) < st.1 2) → ((i = 1 ∧ w = r) ∨ (i = 2 ∧ w = nxn (st.1 2) r ∧ st.1 (7 + w) < st.1 (7 + r)) ∨ (i = 3 ∧ w = nxn (st.1 2) (nxn (st.1 2) r) ∧ st.1 (7 + nxn (st.1 2) r) < st.1 (7 + r) ∧ st.1 (7 + w) < st.1 (7 + nxn (st.1 2) r))) → XJ p l e (rmX 2 43) s m args below meth c D (XW T ad) A 4 Q 0 0 st 4 [(0, .ref (ad 1)), (1, .int (ii ((r : Int)))), (2, .int (ii ((w : Int)))), (3, .int (ii (i)))] [] := by
    intro n
    induction n with
    | zero => intro w i hn; exact absurd hn (Nat.not_lt_zero _)
    | succ n ih4 =>
      intro w i hn4 a1 a3 a2
      have hw : w < 3 := by omega
      have hx := nxn_lt (n := st.1 2) (r := w) hn.1
      have d1 := RI.b hL hri a3
      have d5 := d1.2.2
      refine x_iload_n (q := 5) E dX1_ripeFrom_4 3 rfl rfl ?_
      refine x_aload_n (q := 6) E dX1_ripeFrom_5 0 rfl rfl ?_
      refine x_get (q := 9) E iX1_ripeFrom_X1 (1) rfl rfl 3 (by decide) (by decide +kernel) rfl dX1_ripeFrom_6 rfl ?_
      refine x_icmp_ge (tgt := 32) (q := 12) E dX1_ripeFrom_9 (by decide) rfl (by omega) (by omega) (fun c9 => ?_) (fun c9 => ?_)
      · refine x_iload_n (q := 33) E dX1_ripeFrom_32 2 rfl rfl ?_
        exact RET _ _ _ _ dX1_ripeFrom_33 (⟨rfl, w, rfl, a3, by rcases a2 with ⟨q1, q2⟩ | ⟨q1, q2, q3⟩ | ⟨q1, q2, q3, q4⟩; rw [nxn_1 (by omega) a3]; omega; rw [q2, nxn_2 (by omega) hrn, ← q2]; omega; rw [q2, nxn_3 (by omega) hrn, ← q2]; omega, by rcases a2 with ⟨q1, q2⟩ | ⟨q1, q2, q3⟩ | ⟨q1, q2, q3, q4⟩; rw [q2]; exact Int.le_refl _; omega; omega⟩)
      · refine x_aload_n (q := 13) E dX1_ripeFrom_12 0 rfl rfl ?_
        refine x_iload_n (q := 14) E dX1_ripeFrom_13 2 rfl rfl ?_
        refine x_callVi (q := 17) (n := 1) (As := [.int (ii ((w : Int)))]) (r := []) E (c_X1_waits l D T ad hN st w hw (by omega) lt hH) gX1_ripeFrom_X1_waits rfl rfl rfl (by decide +kernel) ⟨Nat.le_of_ble_eq_true rfl, Nat.le_of_ble_eq_true rfl⟩ (1) rfl rfl rfl rfl (Nat.le_of_ble_eq_true rfl) dX1_ripeFrom_14 rfl (fun z1 s2 q3 => ?_)
        obtain ⟨rfl, rfl⟩ := q3
        refine x_if_eq (tgt := 32) (q := 20) E dX1_ripeFrom_17 (by decide) rfl (by omega) (fun c17 => ?_) (fun c17 => ?_)
        · refine x_iload_n (q := 33) E dX1_ripeFrom_32 2 rfl rfl ?_
          exact RET _ _ _ _ dX1_ripeFrom_33 (⟨rfl, w, rfl, a3, by omega, by rcases a2 with ⟨q1, q2⟩ | ⟨q1, q2, q3⟩ | ⟨q1, q2, q3, q4⟩; rw [q2]; exact Int.le_refl _; omega; omega⟩)
        · refine x_aload_n (q := 21) E dX1_ripeFrom_20 0 rfl rfl ?_
          refine x_iload_n (q := 22) E dX1_ripeFrom_21 2 rfl rfl ?_
          refine x_callVi (q := 25) (n := 1) (As := [.int (ii ((w : Int)))]) (r := []) E (c_X1_nextOf l D T ad hN st w hw (by omega)) gX1_ripeFrom_X1_nextOf rfl rfl rfl (by decide +kernel) ⟨Nat.le_of_ble_eq_true rfl, Nat.le_of_ble_eq_true rfl⟩ (1) rfl rfl rfl rfl (Nat.le_of_ble_eq_true rfl) dX1_ripeFrom_22 rfl (fun z4 s5 q6 => ?_)
          obtain ⟨rfl, rfl⟩ := q6
          refine x_istore_n (q := 26) (lv' := [(2, .int (ii (((nxn (st.1 2) w : Nat) : Int)))), (0, .ref (ad 1)), (1, .int (ii ((r : Int)))), (3, .int (ii (i)))]) E dX1_ripeFrom_25 (by decide) rfl rfl ?_
          refine x_iinc (q := 29) (k := 3) (lv' := [(3, .int (ii (i + 1))), (2, .int (ii (((nxn (st.1 2) w : Nat) : Int)))), (0, .ref (ad 1)), (1, .int (ii ((r : Int))))]) E dX1_ripeFrom_26 rfl (by decide) rfl rfl ?_
          refine x_goto (tgt := 4) E dX1_ripeFrom_29 (by decide) ?_
          refine x_lv E (lv' := [(0, .ref (ad 1)), (1, .int (ii ((r : Int)))), (2, .int (ii (((nxn (st.1 2) w : Nat) : Int)))), (3, .int (ii (i + 1)))]) [2, 3, 1, 0] rfl ?_
          exact ih4 (nxn (st.1 2) w) (i + 1) (by omega) (by omega) (hx) (by rcases a2 with ⟨q1, q2⟩ | ⟨q1, q2, q3⟩ | ⟨q1, q2, q3, q4⟩; exact Or.inr (Or.inl ⟨by omega, by rw [q2], by rw [← q2]; omega⟩); exact Or.inr (Or.inr ⟨by omega, by rw [q2], by rw [← q2]; exact q3, by rw [← q2]; omega⟩); exact absurd q1 (by omega))
  refine x_lv E (lv' := [(0, .ref (ad 1)), (1, .int (ii ((r : Int)))), (2, .int (ii ((r : Int)))), (3, .int (ii (1)))]) [2, 3, 1, 0] rfl ?_
  exact L4 _ (r) (1) (Nat.lt_succ_self _) (by omega) (hrn) (Or.inl ⟨rfl, rfl⟩)

theorem iX1_lettersOf_X1 : ∀ w ∈ wsX10, w ∈ wsX1_lettersOf := by decide +kernel
set_option maxRecDepth 100000 in
set_option maxHeartbeats 4000000 in
theorem c_X1_lettersOf (l : Launch) (D : va_G) (T : Nat → ClassId) (ad : Nat → Nat) (hN : ∀ i j, i < 33 → j < 33 → ad i = ad j → i = j) (st : St_) (r : Nat) (hr : r < 3) (hn : 1 ≤ st.1 2 ∧ st.1 2 ≤ 3) (hrn : (r : Int) < st.1 2) (har : 0 ≤ st.2 0 (r : Int) ∧ st.2 0 (r : Int) ≤ 3) : CXr l yX1_lettersOf wsX1_lettersOf (rmX 1 21) [.ref (ad 1), .int (ii ((r : Int)))] D (tyX T) (XW T ad) (alX ad) st (fun b st2 => some (ad (5 + (st.2 0 (r : Int)).toNat)) = b ∧ st = st2) := by
  refine mk_r (cc := cX1_lettersOf) (nL := 3) rfl rfl (XW_ok hN) (Nat.le_of_ble_eq_true rfl) [(0, .ref (ad 1)), (1, .int (ii ((r : Int))))] rfl (fun p e s m args below meth c A Q E RET => ?_)
  refine x_aload_n (q := 1) E dX1_lettersOf_0 0 rfl rfl ?_
  refine x_iload_n (q := 2) E dX1_lettersOf_1 1 rfl rfl ?_
  refine x_callVi (q := 5) (n := 1) (As := [.int (ii ((r : Int)))]) (r := []) E (c_X1_hasRow l D T ad hN st ((r : Int)) (by omega) (by omega)) gX1_lettersOf_X1_hasRow rfl rfl rfl (by decide +kernel) ⟨Nat.le_of_ble_eq_true rfl, Nat.le_of_ble_eq_true rfl⟩ (1) rfl rfl rfl rfl (Nat.le_of_ble_eq_true rfl) dX1_lettersOf_2 rfl (fun z1 s2 q3 => ?_)
  obtain ⟨rfl, rfl⟩ := q3
  refine x_if_eq (tgt := 17) (q := 8) E dX1_lettersOf_5 (by decide) rfl (by omega) (fun c5 => ?_) (fun c5 => ?_)
  · exfalso; omega
  · refine x_aload_n (q := 9) E dX1_lettersOf_8 0 rfl rfl ?_
    refine x_get (q := 12) E iX1_lettersOf_X1 (1) rfl rfl 2 (by decide) (by decide +kernel) rfl dX1_lettersOf_9 rfl ?_
    refine x_iload_n (q := 13) E dX1_lettersOf_12 1 rfl rfl ?_
    refine x_iald (q := 14) (f := st.2 (0)) E (4) rfl 0 rfl (by omega) (by omega) (by decide) dX1_lettersOf_13 rfl ?_
    refine x_goto (tgt := 18) E dX1_lettersOf_14 (by decide) ?_
    refine x_istore_n (q := 19) (lv' := [(2, .int (ii (st.2 (0) ((r : Int))))), (0, .ref (ad 1)), (1, .int (ii ((r : Int))))]) E dX1_lettersOf_18 (by decide) rfl rfl ?_
    refine x_aload_n (q := 20) E dX1_lettersOf_19 1 rfl rfl ?_
    refine x_get (q := 23) E iX1_lettersOf_X1 (1) rfl rfl 0 (by decide) (by decide +kernel) rfl dX1_lettersOf_20 rfl ?_
    refine x_aload_n (q := 24) E dX1_lettersOf_23 1 rfl rfl ?_
    refine x_iload_n (q := 25) E dX1_lettersOf_24 0 rfl rfl ?_
    refine x_callVi (q := 28) (n := 1) (As := [.int (ii (st.2 (0) ((r : Int))))]) (r := [.ref (ad 2)]) E (c_X1_hasAlphabet l D T ad hN st (st.2 (0) ((r : Int))) (by omega)) gX1_lettersOf_X1_hasAlphabet rfl rfl rfl (by decide +kernel) ⟨Nat.le_of_ble_eq_true rfl, Nat.le_of_ble_eq_true rfl⟩ (1) rfl rfl rfl rfl (Nat.le_of_ble_eq_true rfl) dX1_lettersOf_25 rfl (fun z4 s5 q6 => ?_)
    obtain ⟨rfl, rfl⟩ := q6
    refine x_if_eq (tgt := 35) (q := 31) E dX1_lettersOf_28 (by decide) rfl (by omega) (fun c28 => ?_) (fun c28 => ?_)
    · exfalso; omega
    · refine x_iload_n (q := 32) E dX1_lettersOf_31 0 rfl rfl ?_
      refine x_goto (tgt := 36) E dX1_lettersOf_32 (by decide) ?_
      refine x_ti (show st.2 0 ((r : Int)) = (((st.2 0 (r : Int)).toNat : Nat) : Int) from by omega) ?_
      refine x_aald (q := 37) E 2 rfl 3 rfl ((st.2 0 (r : Int)).toNat) (by omega) (by decide) rfl dX1_lettersOf_36 rfl ?_
      exact RET _ _ _ _ dX1_lettersOf_37 (⟨rfl, rfl⟩)

theorem iX1_lengthTold_X1 : ∀ w ∈ wsX10, w ∈ wsX1_lengthTold := by decide +kernel
set_option maxRecDepth 100000 in
set_option maxHeartbeats 4000000 in
theorem c_X1_lengthTold (l : Launch) (D : va_G) (T : Nat → ClassId) (ad : Nat → Nat) (hN : ∀ i j, i < 33 → j < 33 → ad i = ad j → i = j) (st : St_) (t : Nat) (ht : t < 3) (k : Int) (bk : -2147483648 ≤ k ∧ k < 2147483648) (htn : (t : Int) < st.1 2) (hk : 0 ≤ k ∧ k ≤ st.1 (7 + t) ∧ k < 100001) (lt : Nat → Int → Int) (hH : RH lt st) : CXi l yX1_lengthTold wsX1_lengthTold (rmX 2 43) [.ref (ad 1), .int (ii ((t : Int))), .int (ii (k))] D (tyX T) (XW T ad) (alX ad) st (fun z st2 => SQ lt (nxn (st.1 2)) t (k) = z ∧ st = st2) := by
  refine mk_i (cc := cX1_lengthTold) (nL := 4) rfl rfl (XW_ok hN) (Nat.le_of_ble_eq_true rfl) [(0, .ref (ad 1)), (1, .int (ii ((t : Int)))), (2, .int (ii (k)))] rfl (fun p e s m args below meth c A Q E RET => ?_)
  have hL := hH.1
  have hn := hH.2.1.1
  have hao := hH.2.1.2.1
  have hlt := hH.2.2.1
  have hri := hH.2.2.2.1
  have hkz := hH.2.2.2.2
  have d1 := RI.b hL hri htn
  have d3 := d1.1
  have d5 := d1.2.2
  have d6 := hao t htn
  have hsz := hH.2.1.2.2.1 (st.2 0 (t : Int)).toNat (by omega)
  refine x_aload_n (q := 1) E dX1_lengthTold_0 0 rfl rfl ?_
  refine x_get (q := 4) E iX1_lengthTold_X1 (1) rfl rfl 1 (by decide) (by decide +kernel) rfl dX1_lengthTold_1 rfl ?_
  refine x_aload_n (q := 5) E dX1_lengthTold_4 0 rfl rfl ?_
  refine x_iload_n (q := 6) E dX1_lengthTold_5 1 rfl rfl ?_
  refine x_callVi (q := 9) (n := 1) (As := [.int (ii ((t : Int)))]) (r := [.ref (ad 3)]) E (c_X1_hasRow l D T ad hN st ((t : Int)) (by omega) (by omega)) gX1_lengthTold_X1_hasRow rfl rfl rfl (by decide +kernel) ⟨Nat.le_of_ble_eq_true rfl, Nat.le_of_ble_eq_true rfl⟩ (1) rfl rfl rfl rfl (Nat.le_of_ble_eq_true rfl) dX1_lengthTold_6 rfl (fun z1 s2 q3 => ?_)
  obtain ⟨rfl, rfl⟩ := q3
  refine x_if_eq (tgt := 16) (q := 12) E dX1_lengthTold_9 (by decide) rfl (by omega) (fun c9 => ?_) (fun c9 => ?_)
  · exfalso; omega
  · refine x_iload_n (q := 13) E dX1_lengthTold_12 1 rfl rfl ?_
    refine x_goto (tgt := 17) E dX1_lengthTold_13 (by decide) ?_
    refine x_aald (q := 18) E 3 rfl 4 rfl (t) ht (by decide) rfl dX1_lengthTold_17 rfl ?_
    refine x_astore_n (q := 19) (lv' := [(3, .ref (ad (13 + t))), (0, .ref (ad 1)), (1, .int (ii ((t : Int)))), (2, .int (ii (k)))]) E dX1_lengthTold_18 (by decide) rfl rfl ?_
    refine x_iload_n (q := 20) E dX1_lengthTold_19 3 rfl rfl ?_
    refine x_aload_n (q := 21) E dX1_lengthTold_20 0 rfl rfl ?_
    refine x_callVi (q := 24) (n := 0) (As := []) (r := [.int (ii (k))]) E (c_X2_made l D T ad hN st (t) ht) gX1_lengthTold_X2_made rfl rfl rfl (by decide +kernel) ⟨Nat.le_of_ble_eq_true rfl, Nat.le_of_ble_eq_true rfl⟩ (13 + t) (xg_row ht) rfl rfl rfl (Nat.le_of_ble_eq_true rfl) dX1_lengthTold_21 rfl (fun z4 s5 q6 => ?_)
    obtain ⟨rfl, rfl⟩ := q6
    refine x_icmp_ge (tgt := 35) (q := 27) E dX1_lengthTold_24 (by decide) rfl (by omega) (by omega) (fun c24 => ?_) (fun c24 => ?_)
    · refine x_aload_n (q := 36) E dX1_lengthTold_35 1 rfl rfl ?_
      refine x_iload_n (q := 37) E dX1_lengthTold_36 2 rfl rfl ?_
      refine x_callVr (q := 40) (n := 1) (As := [.int (ii ((t : Int)))]) (r := []) E (c_X1_lettersOf l D T ad hN st t ht (hn) (htn) (d6)) gX1_lengthTold_X1_lettersOf rfl rfl rfl (by decide +kernel) ⟨Nat.le_of_ble_eq_true rfl, Nat.le_of_ble_eq_true rfl⟩ (1) rfl rfl rfl rfl (Nat.le_of_ble_eq_true rfl) dX1_lengthTold_37 rfl (fun z7 s8 q9 => ?_)
      obtain ⟨rfl, rfl⟩ := q9
      refine x_aload_n (q := 41) E dX1_lengthTold_40 0 rfl rfl ?_
      refine x_callVi (q := 44) (n := 0) (As := []) (r := [.ref (ad (5 + (st.2 0 (t : Int)).toNat))]) E (c_X2_runsMade l D T ad hN st (t) ht) gX1_lengthTold_X2_runsMade rfl rfl rfl (by decide +kernel) ⟨Nat.le_of_ble_eq_true rfl, Nat.le_of_ble_eq_true rfl⟩ (13 + t) (xg_row ht) rfl rfl rfl (Nat.le_of_ble_eq_true rfl) dX1_lengthTold_41 rfl (fun z10 s11 q12 => ?_)
      obtain ⟨rfl, rfl⟩ := q12
      refine x_callVi (q := 47) (n := 1) (As := [.int (ii (st.2 (11 + t) 0))]) (r := []) E (c_X0_letterOfRun l D T ad hN st ((st.2 0 (t : Int)).toNat) (by omega) (st.2 (11 + t) 0) (by omega) (hsz) (by omega)) gX1_lengthTold_X0_letterOfRun rfl rfl rfl (by decide +kernel) ⟨Nat.le_of_ble_eq_true rfl, Nat.le_of_ble_eq_true rfl⟩ (5 + (st.2 0 (t : Int)).toNat) (xg_alph (by omega)) rfl rfl rfl (Nat.le_of_ble_eq_true rfl) dX1_lengthTold_44 rfl (fun z13 s14 q15 => ?_)
      obtain ⟨rfl, rfl⟩ := q15
      exact RET _ _ _ _ dX1_lengthTold_47 (⟨by have q1 : k = st.1 (7 + t) := (by omega); rw [q1, RI.tell hL hri htn (by omega), ← hlt t _ htn (by omega)]; rfl, rfl⟩)
    · refine x_aload_n (q := 28) E dX1_lengthTold_27 0 rfl rfl ?_
      refine x_iload_n (q := 29) E dX1_lengthTold_28 3 rfl rfl ?_
      refine x_callVi (q := 32) (n := 1) (As := [.int (ii (k))]) (r := []) E (c_X2_number l D T ad hN st (t) ht (k) (by omega) (by omega)) gX1_lengthTold_X2_number rfl rfl rfl (by decide +kernel) ⟨Nat.le_of_ble_eq_true rfl, Nat.le_of_ble_eq_true rfl⟩ (13 + t) (xg_row ht) rfl rfl rfl (Nat.le_of_ble_eq_true rfl) dX1_lengthTold_29 rfl (fun z16 s17 q18 => ?_)
      obtain ⟨rfl, rfl⟩ := q18
      refine x_goto (tgt := 47) E dX1_lengthTold_32 (by decide) ?_
      exact RET _ _ _ _ dX1_lengthTold_47 (⟨by rw [nat_in (by omega) (by omega) (by omega)]; exact (RI.num hri htn (by omega) (by omega)).symm, rfl⟩)

theorem iX2_putRunsToldBy_X2 : ∀ w ∈ wsX20, w ∈ wsX2_putRunsToldBy := by decide +kernel
set_option maxRecDepth 100000 in
set_option maxHeartbeats 4000000 in
theorem c_X2_putRunsToldBy (l : Launch) (D : va_G) (T : Nat → ClassId) (ad : Nat → Nat) (hN : ∀ i j, i < 33 → j < 33 → ad i = ad j → i = j) (st : St_) (i : Nat) (hi : i < 3) (t : Nat) (ht : t < 3) (a : Nat) (ha : a < 4) (en : Int) (ben : -2147483648 ≤ en ∧ en < 2147483648) (hin : (i : Int) < st.1 2) (htx : t = nxn (st.1 2) i) (hax : a = (st.2 0 (i : Int)).toNat) (lt : Nat → Int → Int) (hH : RH lt st) : CXv l yX2_putRunsToldBy wsX2_putRunsToldBy (rmX 2 45) [.ref (ad (13 + i)), .ref (ad (13 + t)), .ref (ad (5 + a)), .int (ii (en))] D (tyX T) (XW T ad) (alX ad) st (fun st2 => RH lt st2 ∧ grw st st2) := by
  refine mk_v (cc := cX2_putRunsToldBy) (nL := 6) rfl rfl (XW_ok hN) (Nat.le_of_ble_eq_true rfl) [(0, .ref (ad (13 + i))), (1, .ref (ad (13 + t))), (2, .ref (ad (5 + a))), (3, .int (ii (en)))] rfl (fun p e s m args below meth c A Q E RET => ?_)
  have hL := hH.1
  have hn := hH.2.1.1
  have hao := hH.2.1.2.1
  have hlt := hH.2.2.1
  have hri := hH.2.2.2.1
  have hkz := hH.2.2.2.2
  have ht0 : (t : Int) < st.1 2 := by rw [htx]; exact nxn_lt hn.1
  have dt0 := RI.b hL hri ht0
  have dt1 := dt0.1
  refine x_aload_n (q := 1) E dX2_putRunsToldBy_0 1 rfl rfl ?_
  refine x_callVi (q := 4) (n := 0) (As := []) (r := []) E (c_X2_made l D T ad hN st (t) ht) gX2_putRunsToldBy_X2_made rfl rfl rfl (by decide +kernel) ⟨Nat.le_of_ble_eq_true rfl, Nat.le_of_ble_eq_true rfl⟩ (13 + t) (xg_row ht) rfl rfl rfl (Nat.le_of_ble_eq_true rfl) dX2_putRunsToldBy_1 rfl (fun z1 s2 q3 => ?_)
  obtain ⟨rfl, rfl⟩ := q3
  refine x_istore (q := 6) (lv' := [(4, .int (ii (st.1 (7 + t)))), (0, .ref (ad (13 + i))), (1, .ref (ad (13 + t))), (2, .ref (ad (5 + a))), (3, .int (ii (en)))]) E dX2_putRunsToldBy_4 (by decide) rfl rfl ?_
  refine x_aload_n (q := 7) E dX2_putRunsToldBy_6 1 rfl rfl ?_
  refine x_callVi (q := 10) (n := 0) (As := []) (r := []) E (c_X2_runsMade l D T ad hN st (i) hi) gX2_putRunsToldBy_X2_runsMade rfl rfl rfl (by decide +kernel) ⟨Nat.le_of_ble_eq_true rfl, Nat.le_of_ble_eq_true rfl⟩ (13 + i) (xg_row hi) rfl rfl rfl (Nat.le_of_ble_eq_true rfl) dX2_putRunsToldBy_7 rfl (fun z4 s5 q6 => ?_)
  obtain ⟨rfl, rfl⟩ := q6
  refine x_istore (q := 12) (lv' := [(5, .int (ii (st.2 (11 + i) 0))), (4, .int (ii (st.1 (7 + t)))), (0, .ref (ad (13 + i))), (1, .ref (ad (13 + t))), (2, .ref (ad (5 + a))), (3, .int (ii (en)))]) E dX2_putRunsToldBy_10 (by decide) rfl rfl ?_
  have L12 : ∀ (n : Nat) (k : Int) (st1 : St_), (100001 - st1.1 (7 + i)).toNat < n → (RH lt st1) → (grw st st1) → (k = st1.2 (11 + i) 0) → XJ p l e (rmX 2 45) s m args below meth c D (XW T ad) A 6 Q 0 0 st1 12 [(0, .ref (ad (13 + i))), (1, .ref (ad (13 + t))), (2, .ref (ad (5 + a))), (3, .int (ii (en))), (4, .int (ii (st.1 (7 + t)))), (5, .int (ii (k)))] [] := by
    intro n
    induction n with
    | zero => intro k st1 hn; exact absurd hn (Nat.not_lt_zero _)
    | succ n ih12 =>
      intro k st1 hn12 b1 b2 b3
      have f1 : st1.1 2 = st.1 2 := b2.1.1 2 (by omega)
      have f0 : st1.2 0 = st.2 0 := b2.1.2 0 (by omega)
      have hi1 : (i : Int) < st1.1 2 := by omega
      have ht1 : (t : Int) < st1.1 2 := by rw [htx, f1]; exact nxn_lt hn.1
      have fm := b2.2 t (by omega)
      have bi := RI.b b1.1 b1.2.2.2.1 hi1
      have bt := RI.b b1.1 b1.2.2.2.1 ht1
      have bi1 := bi.1
      have bt1 := bt.1
      have bi2 := bi.2.2
      have bt2 := bt.2.2
      have hsz := b1.2.1.2.2.1 a ha
      have e1 : st1.2 (1 + a) (k % (st1.1 (3 + a))) = lt i k := by rw [← b1.2.2.1 i k hi1 (by omega)]; unfold ltx; rw [f0, ← hax]
      refine x_iload (q := 14) E dX2_putRunsToldBy_12 5 rfl rfl ?_
      refine x_iload (q := 16) E dX2_putRunsToldBy_14 4 rfl rfl ?_
      refine x_icmp_ge (tgt := 61) (q := 19) E dX2_putRunsToldBy_16 (by decide) rfl (by omega) (by omega) (fun c16 => ?_) (fun c16 => ?_)
      · exact RET _ _ _ dX2_putRunsToldBy_61 (⟨b1, b2⟩)
      · refine x_aload_n (q := 20) E dX2_putRunsToldBy_19 0 rfl rfl ?_
        refine x_get (q := 23) E iX2_putRunsToldBy_X2 (13 + i) (xg_row hi) rfl 3 (by decide) (by decide +kernel) rfl dX2_putRunsToldBy_20 rfl ?_
        refine x_iload_n (q := 24) E dX2_putRunsToldBy_23 3 rfl rfl ?_
        refine x_icmp_ge (tgt := 61) (q := 27) E dX2_putRunsToldBy_24 (by decide) rfl (by omega) (by omega) (fun c24 => ?_) (fun c24 => ?_)
        · exact RET _ _ _ dX2_putRunsToldBy_61 (⟨b1, b2⟩)
        · refine x_aload_n (q := 28) E dX2_putRunsToldBy_27 0 rfl rfl ?_
          refine x_get (q := 31) E iX2_putRunsToldBy_X2 (13 + i) (xg_row hi) rfl 3 (by decide) (by decide +kernel) rfl dX2_putRunsToldBy_28 rfl ?_
          refine x_aload_n (q := 32) E dX2_putRunsToldBy_31 0 rfl rfl ?_
          refine x_get (q := 35) E iX2_putRunsToldBy_X2 (13 + i) (xg_row hi) rfl 0 (by decide) (by decide +kernel) rfl dX2_putRunsToldBy_32 rfl ?_
          refine x_alen (q := 36) E (16 + i) (xg_num hi) 1 rfl dX2_putRunsToldBy_35 rfl ?_
          refine x_ti (show (((100001 : Nat) : Int)) = 100001 from rfl) ?_
          refine x_icmp_ge (tgt := 61) (q := 39) E dX2_putRunsToldBy_36 (by decide) rfl (by omega) (by omega) (fun c36 => ?_) (fun c36 => ?_)
          · exact RET _ _ _ dX2_putRunsToldBy_61 (⟨b1, b2⟩)
          · have e3 : nat_ st1 t k = st1.2 (5 + t) k := nat_in (by omega) (by omega) (by omega)
            have e2 : nat_ st1 t k = SQ lt (nxn (st1.1 2)) (nxn (st1.1 2) i) k := by rw [e3, RI.num b1.2.2.2.1 ht1 (by omega) (by omega), htx, f1]
            have e5 := b1.1.1 i k (by omega)
            have e6 := SQ_pos (nx := nxn (st1.1 2)) b1.1.pos (nxn (st1.1 2) i) k (by omega)
            have e7 := SQ_le (nx := nxn (st1.1 2)) (fun r j hj => (b1.1.1 r j hj).2) (nxn (st1.1 2) i) k (by omega)
            refine x_aload_n (q := 40) E dX2_putRunsToldBy_39 0 rfl rfl ?_
            refine x_aload_n (q := 41) E dX2_putRunsToldBy_40 2 rfl rfl ?_
            refine x_iload (q := 43) E dX2_putRunsToldBy_41 5 rfl rfl ?_
            refine x_callVi (q := 46) (n := 1) (As := [.int (ii (k))]) (r := [.ref (ad (13 + i))]) E (c_X0_letterOfRun l D T ad hN st1 (a) ha (k) (by omega) (hsz) (by omega)) gX2_putRunsToldBy_X0_letterOfRun rfl rfl rfl (by decide +kernel) ⟨Nat.le_of_ble_eq_true rfl, Nat.le_of_ble_eq_true rfl⟩ (5 + a) (xg_alph ha) rfl rfl rfl (Nat.le_of_ble_eq_true rfl) dX2_putRunsToldBy_43 rfl (fun z7 s8 q9 => ?_)
            obtain ⟨rfl, rfl⟩ := q9
            refine x_ti e1 ?_
            refine x_aload_n (q := 47) E dX2_putRunsToldBy_46 1 rfl rfl ?_
            refine x_iload (q := 49) E dX2_putRunsToldBy_47 5 rfl rfl ?_
            refine x_callVi (q := 52) (n := 1) (As := [.int (ii (k))]) (r := [.int (ii (lt i k)), .ref (ad (13 + i))]) E (c_X2_number l D T ad hN st1 (t) ht (k) (by omega) (by omega)) gX2_putRunsToldBy_X2_number rfl rfl rfl (by decide +kernel) ⟨Nat.le_of_ble_eq_true rfl, Nat.le_of_ble_eq_true rfl⟩ (13 + t) (xg_row ht) rfl rfl rfl (Nat.le_of_ble_eq_true rfl) dX2_putRunsToldBy_49 rfl (fun z10 s11 q12 => ?_)
            obtain ⟨rfl, rfl⟩ := q12
            refine x_ti e2 ?_
            refine x_callVv (q := 55) (n := 2) (As := [.int (ii (lt i k)), .int (ii (SQ lt (nxn (st1.1 2)) (nxn (st1.1 2) i) k))]) (r := []) E (c_X2_putRun l D T ad hN st1 (i) hi (lt i k) (by omega) (SQ lt (nxn (st1.1 2)) (nxn (st1.1 2) i) k) (by omega) (by omega) (by have := b1.1.1 i k (by omega); omega) (by rw [← e2, e3, RI.num b1.2.2.2.1 ht1 (by omega) (by omega)]; have := SQ_pos (nx := nxn (st1.1 2)) b1.1.pos t k (by omega); have := SQ_le (nx := nxn (st1.1 2)) (fun r j hj => (b1.1.1 r j hj).2) t k (by omega); omega) (SQ lt (nxn (st1.1 2)) i) (st1.2 (11 + i) 0) (b1.2.2.2.1 i hi1).1 (by rw [b3]; exact (RI.next b1.1 b1.2.2.2.1 hi1 (by omega)).1) (by rw [b3]; exact (RI.next b1.1 b1.2.2.2.1 hi1 (by omega)).2)) gX2_putRunsToldBy_X2_putRun rfl rfl rfl (by decide +kernel) ⟨Nat.le_of_ble_eq_true rfl, Nat.le_of_ble_eq_true rfl⟩ (13 + i) (xg_row hi) rfl rfl rfl (Nat.le_of_ble_eq_true rfl) dX2_putRunsToldBy_52 rfl (fun s14 q15 => ?_)
            obtain ⟨m116, f17, k118, h19, rfl, h120, h221⟩ := q15
            have g1 := h120
            have g2 := h221
            rw [b3] at g2
            have g3 := SQ_pos (nx := nxn (st1.1 2)) b1.1.pos (nxn (st1.1 2) i) _ bi.2.2.1
            have g4 : st1.1 (7 + i) < m116 ∧ m116 ≤ 100001 := by split at g2 <;> omega
            refine x_iinc (q := 58) (k := 5) (lv' := [(5, .int (ii (k + 1))), (0, .ref (ad (13 + i))), (1, .ref (ad (13 + t))), (2, .ref (ad (5 + a))), (3, .int (ii (en))), (4, .int (ii (st.1 (7 + t))))]) E dX2_putRunsToldBy_55 rfl (by decide) rfl rfl ?_
            refine x_goto (tgt := 12) E dX2_putRunsToldBy_58 (by decide) ?_
            refine x_lv E (lv' := [(0, .ref (ad (13 + i))), (1, .ref (ad (13 + t))), (2, .ref (ad (5 + a))), (3, .int (ii (en))), (4, .int (ii (st.1 (7 + t)))), (5, .int (ii (k + 1)))]) [1, 2, 3, 4, 5, 0] rfl ?_
            exact ih12 (k + 1) (sF (sF (sF (sG st1 (7 + i) (m116)) (11 + i) (h19)) (5 + i) (f17)) (8 + i) (k118)) (by rw [sF_1, sF_1, sF_1, sG_s]; omega) (RH.put b1 hi1 (by omega) g1 g2) (grw_tr b2 (grw_put st1 hi _ _ _ (by omega))) (by rw [sF_n _ _ (by omega), sF_n _ _ (by omega), sF_s, g1.2.1, b3])
  refine x_lv E (lv' := [(0, .ref (ad (13 + i))), (1, .ref (ad (13 + t))), (2, .ref (ad (5 + a))), (3, .int (ii (en))), (4, .int (ii (st.1 (7 + t)))), (5, .int (ii (st.2 (11 + i) 0)))]) [2, 3, 4, 5, 1, 0] rfl ?_
  exact L12 _ (st.2 (11 + i) 0) st (Nat.lt_succ_self _) (hH) (grw_rf st) (rfl)

theorem iX1_grow_X1 : ∀ w ∈ wsX10, w ∈ wsX1_grow := by decide +kernel
set_option maxRecDepth 100000 in
set_option maxHeartbeats 4000000 in
theorem c_X1_grow (l : Launch) (D : va_G) (T : Nat → ClassId) (ad : Nat → Nat) (hN : ∀ i j, i < 33 → j < 33 → ad i = ad j → i = j) (st : St_) (r : Nat) (hr : r < 3) (en : Int) (ben : -2147483648 ≤ en ∧ en < 2147483648) (hrn : (r : Int) < st.1 2) (hwt : ¬ st.1 (7 + nxn (st.1 2) r) < st.2 (11 + r) 0) (hm : st.1 (7 + r) < 100001) (lt : Nat → Int → Int) (hH : RH lt st) : CXv l yX1_grow wsX1_grow (rmX 3 70) [.ref (ad 1), .int (ii ((r : Int))), .int (ii (en))] D (tyX T) (XW T ad) (alX ad) st (fun st2 => RH lt st2 ∧ grw st st2 ∧ st.1 (7 + r) < st2.1 (7 + r)) := by
  refine mk_v (cc := cX1_grow) (nL := 6) rfl rfl (XW_ok hN) (Nat.le_of_ble_eq_true rfl) [(0, .ref (ad 1)), (1, .int (ii ((r : Int)))), (2, .int (ii (en)))] rfl (fun p e s m args below meth c A Q E RET => ?_)
  have hL := hH.1
  have hn := hH.2.1.1
  have hao := hH.2.1.2.1
  have hlt := hH.2.2.1
  have hri := hH.2.2.2.1
  have hkz := hH.2.2.2.2
  have hx := nxn_lt (n := st.1 2) (r := r) hn.1
  have d1 := RI.b hL hri hrn
  have d2 := RI.b hL hri hx
  have d3 := d1.1
  have d4 := d2.1
  have d5 := d1.2.2
  have d6 := d2.2.2
  have d7 := hao r hrn
  have hsz := hH.2.1.2.2.1 (st.2 0 (r : Int)).toNat (by omega)
  have e1 : st.2 (1 + (st.2 0 (r : Int)).toNat) ((st.2 (11 + r) 0) % (st.1 (3 + (st.2 0 (r : Int)).toNat))) = lt r (st.2 (11 + r) 0) := by rw [← hlt r _ hrn (by omega)]; rfl
  have e5 := hL.1 r (st.2 (11 + r) 0) d5.1
  have e6 := SQ_pos (nx := nxn (st.1 2)) hL.pos (nxn (st.1 2) r) (st.2 (11 + r) 0) d5.1
  have e7 := SQ_le (nx := nxn (st.1 2)) (fun r j hj => (hL.1 r j hj).2) (nxn (st.1 2) r) (st.2 (11 + r) 0) d5.1
  refine x_aload_n (q := 1) E dX1_grow_0 0 rfl rfl ?_
  refine x_iload_n (q := 2) E dX1_grow_1 1 rfl rfl ?_
  refine x_callVi (q := 5) (n := 1) (As := [.int (ii ((r : Int)))]) (r := []) E (c_X1_nextOf l D T ad hN st r hr (by omega)) gX1_grow_X1_nextOf rfl rfl rfl (by decide +kernel) ⟨Nat.le_of_ble_eq_true rfl, Nat.le_of_ble_eq_true rfl⟩ (1) rfl rfl rfl rfl (Nat.le_of_ble_eq_true rfl) dX1_grow_2 rfl (fun z1 s2 q3 => ?_)
  obtain ⟨rfl, rfl⟩ := q3
  refine x_istore_n (q := 6) (lv' := [(3, .int (ii (((nxn (st.1 2) r : Nat) : Int)))), (0, .ref (ad 1)), (1, .int (ii ((r : Int)))), (2, .int (ii (en)))]) E dX1_grow_5 (by decide) rfl rfl ?_
  refine x_aload_n (q := 7) E dX1_grow_6 1 rfl rfl ?_
  refine x_iload_n (q := 8) E dX1_grow_7 2 rfl rfl ?_
  refine x_callVi (q := 11) (n := 1) (As := [.int (ii ((r : Int)))]) (r := []) E (c_X1_hasRow l D T ad hN st ((r : Int)) (by omega) (by omega)) gX1_grow_X1_hasRow rfl rfl rfl (by decide +kernel) ⟨Nat.le_of_ble_eq_true rfl, Nat.le_of_ble_eq_true rfl⟩ (1) rfl rfl rfl rfl (Nat.le_of_ble_eq_true rfl) dX1_grow_8 rfl (fun z4 s5 q6 => ?_)
  obtain ⟨rfl, rfl⟩ := q6
  refine x_if_eq (tgt := 22) (q := 14) E dX1_grow_11 (by decide) rfl (by omega) (fun c11 => ?_) (fun c11 => ?_)
  · exfalso; omega
  · refine x_aload_n (q := 15) E dX1_grow_14 1 rfl rfl ?_
    refine x_iload_n (q := 16) E dX1_grow_15 0 rfl rfl ?_
    refine x_callVi (q := 19) (n := 1) (As := [.int (ii (((nxn (st.1 2) r : Nat) : Int)))]) (r := []) E (c_X1_hasRow l D T ad hN st (((nxn (st.1 2) r : Nat) : Int)) (by omega) (by omega)) gX1_grow_X1_hasRow rfl rfl rfl (by decide +kernel) ⟨Nat.le_of_ble_eq_true rfl, Nat.le_of_ble_eq_true rfl⟩ (1) rfl rfl rfl rfl (Nat.le_of_ble_eq_true rfl) dX1_grow_16 rfl (fun z7 s8 q9 => ?_)
    obtain ⟨rfl, rfl⟩ := q9
    refine x_if_ne (tgt := 23) (q := 22) E dX1_grow_19 (by decide) rfl (by omega) (fun c19 => ?_) (fun c19 => ?_)
    · refine x_aload_n (q := 24) E dX1_grow_23 1 rfl rfl ?_
      refine x_get (q := 27) E iX1_grow_X1 (1) rfl rfl 1 (by decide) (by decide +kernel) rfl dX1_grow_24 rfl ?_
      refine x_iload_n (q := 28) E dX1_grow_27 2 rfl rfl ?_
      refine x_aald (q := 29) E 3 rfl 4 rfl (r) hr (by decide) rfl dX1_grow_28 rfl ?_
      refine x_astore (q := 31) (lv' := [(4, .ref (ad (13 + r))), (3, .int (ii (((nxn (st.1 2) r : Nat) : Int)))), (0, .ref (ad 1)), (1, .int (ii ((r : Int)))), (2, .int (ii (en)))]) E dX1_grow_29 (by decide) rfl rfl ?_
      refine x_aload (q := 33) E dX1_grow_31 0 rfl rfl ?_
      refine x_callVi (q := 36) (n := 0) (As := []) (r := []) E (c_X2_runsMade l D T ad hN st (r) hr) gX1_grow_X2_runsMade rfl rfl rfl (by decide +kernel) ⟨Nat.le_of_ble_eq_true rfl, Nat.le_of_ble_eq_true rfl⟩ (13 + r) (xg_row hr) rfl rfl rfl (Nat.le_of_ble_eq_true rfl) dX1_grow_33 rfl (fun z10 s11 q12 => ?_)
      obtain ⟨rfl, rfl⟩ := q12
      refine x_istore (q := 38) (lv' := [(5, .int (ii (st.2 (11 + r) 0))), (4, .ref (ad (13 + r))), (3, .int (ii (((nxn (st.1 2) r : Nat) : Int)))), (0, .ref (ad 1)), (1, .int (ii ((r : Int)))), (2, .int (ii (en)))]) E dX1_grow_36 (by decide) rfl rfl ?_
      refine x_aload (q := 40) E dX1_grow_38 1 rfl rfl ?_
      refine x_aload_n (q := 41) E dX1_grow_40 3 rfl rfl ?_
      refine x_iload_n (q := 42) E dX1_grow_41 4 rfl rfl ?_
      refine x_callVr (q := 45) (n := 1) (As := [.int (ii ((r : Int)))]) (r := [.ref (ad (13 + r))]) E (c_X1_lettersOf l D T ad hN st r hr (hn) (hrn) (d7)) gX1_grow_X1_lettersOf rfl rfl rfl (by decide +kernel) ⟨Nat.le_of_ble_eq_true rfl, Nat.le_of_ble_eq_true rfl⟩ (1) rfl rfl rfl rfl (Nat.le_of_ble_eq_true rfl) dX1_grow_42 rfl (fun z13 s14 q15 => ?_)
      obtain ⟨rfl, rfl⟩ := q15
      refine x_iload (q := 47) E dX1_grow_45 0 rfl rfl ?_
      refine x_callVi (q := 50) (n := 1) (As := [.int (ii (st.2 (11 + r) 0))]) (r := [.ref (ad (13 + r))]) E (c_X0_letterOfRun l D T ad hN st ((st.2 0 (r : Int)).toNat) (by omega) (st.2 (11 + r) 0) (by omega) (hsz) (by omega)) gX1_grow_X0_letterOfRun rfl rfl rfl (by decide +kernel) ⟨Nat.le_of_ble_eq_true rfl, Nat.le_of_ble_eq_true rfl⟩ (5 + (st.2 0 (r : Int)).toNat) (xg_alph (by omega)) rfl rfl rfl (Nat.le_of_ble_eq_true rfl) dX1_grow_47 rfl (fun z16 s17 q18 => ?_)
      obtain ⟨rfl, rfl⟩ := q18
      refine x_ti e1 ?_
      refine x_aload_n (q := 51) E dX1_grow_50 3 rfl rfl ?_
      refine x_iload_n (q := 52) E dX1_grow_51 2 rfl rfl ?_
      refine x_iload (q := 54) E dX1_grow_52 0 rfl rfl ?_
      refine x_callVi (q := 57) (n := 2) (As := [.int (ii (((nxn (st.1 2) r : Nat) : Int))), .int (ii (st.2 (11 + r) 0))]) (r := [.int (ii (lt r (st.2 (11 + r) 0))), .ref (ad (13 + r))]) E (c_X1_lengthTold l D T ad hN st (nxn (st.1 2) r) (by omega) (st.2 (11 + r) 0) (by omega) (hx) (by omega) lt hH) gX1_grow_X1_lengthTold rfl rfl rfl (by decide +kernel) ⟨Nat.le_of_ble_eq_true rfl, Nat.le_of_ble_eq_true rfl⟩ (1) rfl rfl rfl rfl (Nat.le_of_ble_eq_true rfl) dX1_grow_54 rfl (fun z19 s20 q21 => ?_)
      obtain ⟨rfl, rfl⟩ := q21
      refine x_callVv (q := 60) (n := 2) (As := [.int (ii (lt r (st.2 (11 + r) 0))), .int (ii (SQ lt (nxn (st.1 2)) (nxn (st.1 2) r) (st.2 (11 + r) 0)))]) (r := []) E (c_X2_putRun l D T ad hN st (r) hr (lt r (st.2 (11 + r) 0)) (by omega) (SQ lt (nxn (st.1 2)) (nxn (st.1 2) r) (st.2 (11 + r) 0)) (by omega) (by omega) (by have := hL.1 r _ d5.1; omega) (by have := SQ_pos (nx := nxn (st.1 2)) hL.pos (nxn (st.1 2) r) _ d5.1; have := SQ_le (nx := nxn (st.1 2)) (fun r j hj => (hL.1 r j hj).2) (nxn (st.1 2) r) _ d5.1; omega) (SQ lt (nxn (st.1 2)) r) (st.2 (11 + r) 0) (hri r hrn).1 (RI.next hL hri hrn hm).1 (RI.next hL hri hrn hm).2) gX1_grow_X2_putRun rfl rfl rfl (by decide +kernel) ⟨Nat.le_of_ble_eq_true rfl, Nat.le_of_ble_eq_true rfl⟩ (13 + r) (xg_row hr) rfl rfl rfl (Nat.le_of_ble_eq_true rfl) dX1_grow_57 rfl (fun s23 q24 => ?_)
      obtain ⟨m125, f26, k127, h28, rfl, h129, h230⟩ := q24
      have g1 := h129
      have g2 := h230
      have g3 := SQ_pos (nx := nxn (st.1 2)) hL.pos (nxn (st.1 2) r) _ d1.2.2.1
      have g4 : st.1 (7 + r) < m125 ∧ m125 ≤ 100001 := by split at g2 <;> omega
      have hH1 := RH.put hH hrn (by omega) g1 g2
      have hg1 := grw_put st hr f26 k127 h28 (show st.1 (7 + r) ≤ m125 by omega)
      obtain ⟨st1, hst1⟩ : ∃ y, y = (sF (sF (sF (sG st (7 + r) (m125)) (11 + r) (h28)) (5 + r) (f26)) (8 + r) (k127)) := ⟨_, rfl⟩
      have g5 : st1.1 (7 + r) = m125 := by rw [hst1, sF_1, sF_1, sF_1, sG_s]
      rw [← hst1] at hH1 hg1
      refine x_st E hst1.symm ?_
      have f1 : st1.1 2 = st.1 2 := hg1.1.1 2 (by omega)
      have f0 : st1.2 0 = st.2 0 := hg1.1.2 0 (by omega)
      have har1 : 0 ≤ st1.2 0 (r : Int) ∧ st1.2 0 (r : Int) ≤ 3 := by rw [f0]; exact hao r hrn
      refine x_aload (q := 62) E dX1_grow_60 1 rfl rfl ?_
      refine x_aload_n (q := 63) E dX1_grow_62 3 rfl rfl ?_
      refine x_get (q := 66) E iX1_grow_X1 (1) rfl rfl 1 (by decide) (by decide +kernel) rfl dX1_grow_63 rfl ?_
      refine x_iload_n (q := 67) E dX1_grow_66 2 rfl rfl ?_
      refine x_aald (q := 68) E 3 rfl 4 rfl (nxn (st.1 2) r) (by omega) (by decide) rfl dX1_grow_67 rfl ?_
      refine x_aload_n (q := 69) E dX1_grow_68 3 rfl rfl ?_
      refine x_iload_n (q := 70) E dX1_grow_69 4 rfl rfl ?_
      refine x_callVr (q := 73) (n := 1) (As := [.int (ii ((r : Int)))]) (r := [.ref (ad (13 + nxn (st.1 2) r)), .ref (ad (13 + r))]) E (c_X1_lettersOf l D T ad hN st1 r hr (hH1.2.1.1) (by omega) (har1)) gX1_grow_X1_lettersOf rfl rfl rfl (by decide +kernel) ⟨Nat.le_of_ble_eq_true rfl, Nat.le_of_ble_eq_true rfl⟩ (1) rfl rfl rfl rfl (Nat.le_of_ble_eq_true rfl) dX1_grow_70 rfl (fun z31 s32 q33 => ?_)
      obtain ⟨rfl, rfl⟩ := q33
      refine x_iload_n (q := 74) E dX1_grow_73 5 rfl rfl ?_
      refine x_callVv (q := 77) (n := 3) (As := [.ref (ad (13 + nxn (st.1 2) r)), .ref (ad (5 + (st1.2 0 (r : Int)).toNat)), .int (ii (en))]) (r := []) E (c_X2_putRunsToldBy l D T ad hN st1 (r) hr (nxn (st.1 2) r) (by omega) ((st1.2 0 (r : Int)).toNat) (by omega) (en) (by omega) (by omega) (by rw [f1]) (rfl) lt hH1) gX1_grow_X2_putRunsToldBy rfl rfl rfl (by decide +kernel) ⟨Nat.le_of_ble_eq_true rfl, Nat.le_of_ble_eq_true rfl⟩ (13 + r) (xg_row hr) rfl rfl rfl (Nat.le_of_ble_eq_true rfl) dX1_grow_74 rfl (fun s35 q36 => ?_)
      obtain ⟨h137, h238⟩ := q36
      exact RET _ _ _ dX1_grow_77 (by have g6 := h137; have g7 := h238; exact ⟨g6, grw_tr hg1 g7, by have := g7.2 r hr; omega⟩)
    · exfalso; omega

def pot (st : St_) : Int := st.1 (7 + 0) + (if 1 < st.1 2 then st.1 (7 + 1) else 0) + (if 2 < st.1 2 then st.1 (7 + 2) else 0)
theorem pot_s {a b : St_} (h : grw a b) (hn : 1 ≤ a.1 2 ∧ a.1 2 ≤ 3) {w : Nat} (hw : (w : Int) < a.1 2) (h1 : a.1 (7 + w) < b.1 (7 + w)) : pot a + 1 ≤ pot b := by
  have e1 : b.1 2 = a.1 2 := h.1.1 2 (by omega)
  have q0 := h.2 0 (by omega)
  have q1 := h.2 1 (by omega)
  have q2 := h.2 2 (by omega)
  unfold pot
  rw [e1]
  rcases (show w = 0 ∨ w = 1 ∨ w = 2 by omega) with q | q | q <;> subst q
  · by_cases c1 : 1 < a.1 2
    · rw [if_pos c1, if_pos c1]
      by_cases c2 : 2 < a.1 2
      · rw [if_pos c2, if_pos c2]; omega
      · rw [if_neg c2, if_neg c2]; omega
    · have c2 : ¬ 2 < a.1 2 := by omega
      rw [if_neg c1, if_neg c1, if_neg c2, if_neg c2]; omega
  · have c1 : 1 < a.1 2 := by omega
    rw [if_pos c1, if_pos c1]
    by_cases c2 : 2 < a.1 2
    · rw [if_pos c2, if_pos c2]; omega
    · rw [if_neg c2, if_neg c2]; omega
  · have c1 : 1 < a.1 2 := by omega
    have c2 : 2 < a.1 2 := by omega
    rw [if_pos c1, if_pos c1, if_pos c2, if_pos c2]; omega
theorem iX1_rowOf_X1 : ∀ w ∈ wsX10, w ∈ wsX1_rowOf := by decide +kernel
set_option maxRecDepth 100000 in
set_option maxHeartbeats 4000000 in
theorem c_X1_rowOf (l : Launch) (D : va_G) (T : Nat → ClassId) (ad : Nat → Nat) (hN : ∀ i j, i < 33 → j < 33 → ad i = ad j → i = j) (st : St_) (r : Nat) (hr : r < 3) (k : Int) (bk : -2147483648 ≤ k ∧ k < 2147483648) (hrn : (r : Int) < st.1 2) (hk : 0 ≤ k ∧ k ≤ 100001) (lt : Nat → Int → Int) (hH : RH lt st) : CXr l yX1_rowOf wsX1_rowOf (rmX 4 95) [.ref (ad 1), .int (ii ((r : Int))), .int (ii (k))] D (tyX T) (XW T ad) (alX ad) st (fun b st2 => some (ad (13 + r)) = b ∧ RH lt st2 ∧ grw st st2 ∧ k ≤ st2.1 (7 + r)) := by
  refine mk_r (cc := cX1_rowOf) (nL := 5) rfl rfl (XW_ok hN) (Nat.le_of_ble_eq_true rfl) [(0, .ref (ad 1)), (1, .int (ii ((r : Int)))), (2, .int (ii (k)))] rfl (fun p e s m args below meth c A Q E RET => ?_)
  have hL := hH.1
  have hn := hH.2.1.1
  have hao := hH.2.1.2.1
  have hlt := hH.2.2.1
  have hri := hH.2.2.2.1
  have hkz := hH.2.2.2.2
  refine x_aload_n (q := 1) E dX1_rowOf_0 0 rfl rfl ?_
  refine x_get (q := 4) E iX1_rowOf_X1 (1) rfl rfl 1 (by decide) (by decide +kernel) rfl dX1_rowOf_1 rfl ?_
  refine x_aload_n (q := 5) E dX1_rowOf_4 0 rfl rfl ?_
  refine x_iload_n (q := 6) E dX1_rowOf_5 1 rfl rfl ?_
  refine x_callVi (q := 9) (n := 1) (As := [.int (ii ((r : Int)))]) (r := [.ref (ad 3)]) E (c_X1_hasRow l D T ad hN st ((r : Int)) (by omega) (hn)) gX1_rowOf_X1_hasRow rfl rfl rfl (by decide +kernel) ⟨Nat.le_of_ble_eq_true rfl, Nat.le_of_ble_eq_true rfl⟩ (1) rfl rfl rfl rfl (Nat.le_of_ble_eq_true rfl) dX1_rowOf_6 rfl (fun z1 s2 q3 => ?_)
  obtain ⟨rfl, rfl⟩ := q3
  refine x_if_eq (tgt := 16) (q := 12) E dX1_rowOf_9 (by decide) rfl (by omega) (fun c9 => ?_) (fun c9 => ?_)
  · exfalso; omega
  · refine x_iload_n (q := 13) E dX1_rowOf_12 1 rfl rfl ?_
    refine x_goto (tgt := 17) E dX1_rowOf_13 (by decide) ?_
    refine x_aald (q := 18) E 3 rfl 4 rfl (r) hr (by decide) rfl dX1_rowOf_17 rfl ?_
    refine x_astore_n (q := 19) (lv' := [(3, .ref (ad (13 + r))), (0, .ref (ad 1)), (1, .int (ii ((r : Int)))), (2, .int (ii (k)))]) E dX1_rowOf_18 (by decide) rfl rfl ?_
    refine x_iconst (q := 20) E dX1_rowOf_19 rfl ?_
    refine x_istore (q := 22) (lv' := [(4, .int (ii (0))), (3, .ref (ad (13 + r))), (0, .ref (ad 1)), (1, .int (ii ((r : Int)))), (2, .int (ii (k)))]) E dX1_rowOf_20 (by decide) rfl rfl ?_
    have L22 : ∀ (n : Nat) (j : Int) (st1 : St_), (300003 - j).toNat < n → (RH lt st1) → (grw st st1) → (0 ≤ j ∧ j ≤ pot st1 ∧ j ≤ 300003) → XJ p l e (rmX 4 95) s m args below meth c D (XW T ad) A 5 Q 0 0 st1 22 [(0, .ref (ad 1)), (1, .int (ii ((r : Int)))), (2, .int (ii (k))), (3, .ref (ad (13 + r))), (4, .int (ii (j)))] [] := by
      intro n
      induction n with
      | zero => intro j st1 hn; exact absurd hn (Nat.not_lt_zero _)
      | succ n ih22 =>
        intro j st1 hn22 b1 b2 b3
        have f1 : st1.1 2 = st.1 2 := b2.1.1 2 (by omega)
        have hr1 : (r : Int) < st1.1 2 := by omega
        have hn1 := b1.2.1.1
        have bi := RI.b b1.1 b1.2.2.2.1 hr1
        have bi1 := bi.1
        have hpt : 300003 ≤ j → k ≤ st1.1 (7 + r) := by
          intro hj
          have q0 := (RI.b b1.1 b1.2.2.2.1 (r := 0) (by omega)).1
          have hp := b3.2.1
          unfold pot at hp
          by_cases q1 : 1 < st1.1 2
          · have q2 := (RI.b b1.1 b1.2.2.2.1 (r := 1) (by omega)).1
            rw [if_pos q1] at hp
            by_cases q3 : 2 < st1.1 2
            · have q4 := (RI.b b1.1 b1.2.2.2.1 (r := 2) (by omega)).1
              rw [if_pos q3] at hp
              rcases (show r = 0 ∨ r = 1 ∨ r = 2 by omega) with q | q | q <;> subst q <;> omega
            · rw [if_neg q3] at hp; omega
          · rw [if_neg q1, if_neg (by omega)] at hp; omega
        refine x_iload (q := 24) E dX1_rowOf_22 4 rfl rfl ?_
        refine x_ldc (q := 26) (v := 300003) (z := 300003) E (by decide +kernel) (by decide) dX1_rowOf_24 rfl ?_
        refine x_icmp_ge (tgt := 53) (q := 29) E dX1_rowOf_26 (by decide) rfl (by omega) (by omega) (fun c26 => ?_) (fun c26 => ?_)
        · refine x_aload_n (q := 54) E dX1_rowOf_53 3 rfl rfl ?_
          exact RET _ _ _ _ dX1_rowOf_54 (⟨rfl, b1, b2, hpt c26⟩)
        · refine x_aload_n (q := 30) E dX1_rowOf_29 3 rfl rfl ?_
          refine x_callVi (q := 33) (n := 0) (As := []) (r := []) E (c_X2_made l D T ad hN st1 (r) hr) gX1_rowOf_X2_made rfl rfl rfl (by decide +kernel) ⟨Nat.le_of_ble_eq_true rfl, Nat.le_of_ble_eq_true rfl⟩ (13 + r) (xg_row hr) rfl rfl rfl (Nat.le_of_ble_eq_true rfl) dX1_rowOf_30 rfl (fun z4 s5 q6 => ?_)
          obtain ⟨rfl, rfl⟩ := q6
          refine x_iload_n (q := 34) E dX1_rowOf_33 2 rfl rfl ?_
          refine x_icmp_ge (tgt := 53) (q := 37) E dX1_rowOf_34 (by decide) rfl (by omega) (by omega) (fun c34 => ?_) (fun c34 => ?_)
          · refine x_aload_n (q := 54) E dX1_rowOf_53 3 rfl rfl ?_
            exact RET _ _ _ _ dX1_rowOf_54 (⟨rfl, b1, b2, by omega⟩)
          · refine x_aload_n (q := 38) E dX1_rowOf_37 0 rfl rfl ?_
            refine x_aload_n (q := 39) E dX1_rowOf_38 0 rfl rfl ?_
            refine x_iload_n (q := 40) E dX1_rowOf_39 1 rfl rfl ?_
            refine x_callVi (q := 43) (n := 1) (As := [.int (ii ((r : Int)))]) (r := [.ref (ad 1)]) E (c_X1_ripeFrom l D T ad hN st1 r hr (by omega) lt b1) gX1_rowOf_X1_ripeFrom rfl rfl rfl (by decide +kernel) ⟨Nat.le_of_ble_eq_true rfl, Nat.le_of_ble_eq_true rfl⟩ (1) rfl rfl rfl rfl (Nat.le_of_ble_eq_true rfl) dX1_rowOf_40 rfl (fun z7 s8 q9 => ?_)
            obtain ⟨rfl, w10, rfl, h111, h212, h313⟩ := q9
            have hw10 : w10 < 3 := by omega
            have g10 := h111
            have g11 := h212
            have g12 := h313
            refine x_iload_n (q := 44) E dX1_rowOf_43 2 rfl rfl ?_
            refine x_callVv (q := 47) (n := 2) (As := [.int (ii ((w10 : Int))), .int (ii (k))]) (r := []) E (c_X1_grow l D T ad hN st1 w10 hw10 (k) (by omega) (g10) (g11) (by omega) lt b1) gX1_rowOf_X1_grow rfl rfl rfl (by decide +kernel) ⟨Nat.le_of_ble_eq_true rfl, Nat.le_of_ble_eq_true rfl⟩ (1) rfl rfl rfl rfl (Nat.le_of_ble_eq_true rfl) dX1_rowOf_44 rfl (fun s15 q16 => ?_)
            obtain ⟨h117, h218, h319⟩ := q16
            have g6 := h117
            have g7 := h218
            have g8 := h319
            refine x_iinc (q := 50) (k := 4) (lv' := [(4, .int (ii (j + 1))), (0, .ref (ad 1)), (1, .int (ii ((r : Int)))), (2, .int (ii (k))), (3, .ref (ad (13 + r)))]) E dX1_rowOf_47 rfl (by decide) rfl rfl ?_
            refine x_goto (tgt := 22) E dX1_rowOf_50 (by decide) ?_
            refine x_lv E (lv' := [(0, .ref (ad 1)), (1, .int (ii ((r : Int)))), (2, .int (ii (k))), (3, .ref (ad (13 + r))), (4, .int (ii (j + 1)))]) [1, 2, 3, 4, 0] rfl ?_
            exact ih22 (j + 1) s15 (by omega) (g6) (grw_tr b2 g7) (by have := pot_s g7 hn1 g10 g8; omega)
    refine x_lv E (lv' := [(0, .ref (ad 1)), (1, .int (ii ((r : Int)))), (2, .int (ii (k))), (3, .ref (ad (13 + r))), (4, .int (ii (0)))]) [2, 3, 4, 1, 0] rfl ?_
    exact L22 _ (0) st (Nat.lt_succ_self _) (hH) (grw_rf st) (by have q0 := (RI.b hL hri (r := 0) (by omega)).1; unfold pot; refine ⟨by omega, ?_, by omega⟩; by_cases q1 : 1 < st.1 2; (have q2 := (RI.b hL hri (r := 1) (by omega)).1; rw [if_pos q1]; by_cases q3 : 2 < st.1 2; (have q4 := (RI.b hL hri (r := 2) (by omega)).1; rw [if_pos q3]; omega); (rw [if_neg q3]; omega)); (rw [if_neg q1, if_neg (by omega)]; omega))

