/-- the seat that a key asks first -/
def HH (x : Int) : Int := hsh (x * (-7046029254386353131))
theorem HH_b (x : Int) : 0 ≤ HH x ∧ HH x < 4096 := hsh_b _
theorem sF_id (st : St_) (q : Nat) : sF st q (st.2 q) = st := by
  refine Prod.ext rfl (funext fun r => ?_)
  show (if r = q then st.2 q else st.2 r) = st.2 r
  by_cases h : r = q
  · rw [if_pos h, h]
  · rw [if_neg h]
/-- nothing is made any more -/
def FG (st st2 : St_) : Prop := (∀ j, (j < 7 ∨ 9 < j) → st2.1 j = st.1 j) ∧ (∀ q, (q < 11 ∨ 13 < q) → st2.2 q = st.2 q) ∧ (∀ r : Nat, r < 3 → st2.1 (7 + r) = 0) ∧ ∀ (r : Nat) (c : Int), r < 3 → 0 ≤ c → c < 7 → st2.2 (11 + r) c = 0
theorem iX1_forgetNumbers_X1 : ∀ w ∈ wsX10, w ∈ wsX1_forgetNumbers := by decide +kernel
set_option maxRecDepth 100000 in
set_option maxHeartbeats 4000000 in
theorem c_X1_forgetNumbers (l : Launch) (D : va_G) (T : Nat → ClassId) (ad : Nat → Nat) (hN : ∀ i j, i < 33 → j < 33 → ad i = ad j → i = j) (st : St_)  : CXv l yX1_forgetNumbers wsX1_forgetNumbers (rmX 1 21) [.ref (ad 1)] D (tyX T) (XW T ad) (alX ad) st (fun st2 => FG st st2) := by
  refine mk_v (cc := cX1_forgetNumbers) (nL := 2) rfl rfl (XW_ok hN) (Nat.le_of_ble_eq_true rfl) [(0, .ref (ad 1))] rfl (fun p e s m args below meth c A Q E RET => ?_)
  refine x_iconst (q := 1) E dX1_forgetNumbers_0 rfl ?_
  refine x_istore_n (q := 2) (lv' := [(1, .int (ii (0))), (0, .ref (ad 1))]) E dX1_forgetNumbers_1 (by decide) rfl rfl ?_
  refine x_iload_n (q := 3) E dX1_forgetNumbers_2 0 rfl rfl ?_
  refine x_aload_n (q := 4) E dX1_forgetNumbers_3 1 rfl rfl ?_
  refine x_get (q := 7) E iX1_forgetNumbers_X1 (1) rfl rfl 1 (by decide) (by decide +kernel) rfl dX1_forgetNumbers_4 rfl ?_
  refine x_alen (q := 8) E (3) rfl 4 rfl dX1_forgetNumbers_7 rfl ?_
  refine x_ti (show (((3 : Nat) : Int)) = 3 from rfl) ?_
  refine x_icmp_ge (tgt := 26) (q := 11) E dX1_forgetNumbers_8 (by decide) rfl (by omega) (by omega) (fun h9 => absurd h9 (by decide)) (fun _ => ?_)
  refine x_aload_n (q := 12) E dX1_forgetNumbers_11 1 rfl rfl ?_
  refine x_get (q := 15) E iX1_forgetNumbers_X1 (1) rfl rfl 1 (by decide) (by decide +kernel) rfl dX1_forgetNumbers_12 rfl ?_
  refine x_iload_n (q := 16) E dX1_forgetNumbers_15 0 rfl rfl ?_
  refine x_aald (q := 17) E 3 rfl 4 rfl (0) (by decide) (by decide) rfl dX1_forgetNumbers_16 rfl ?_
  refine x_callVv (q := 20) (n := 0) (As := []) (r := []) E (c_X2_forget l D T ad hN st (0) (by decide)) gX1_forgetNumbers_X2_forget rfl rfl rfl (by decide +kernel) ⟨Nat.le_of_ble_eq_true rfl, Nat.le_of_ble_eq_true rfl⟩ (13 + 0) (xg_row (by decide)) rfl rfl rfl (Nat.le_of_ble_eq_true rfl) dX1_forgetNumbers_17 rfl (fun s2 q3 => ?_)
  obtain ⟨f4, rfl, h15⟩ := q3
  refine x_iinc (q := 23) (k := 0) (lv' := [(1, .int (ii (1))), (0, .ref (ad 1))]) E dX1_forgetNumbers_20 rfl (by decide) rfl rfl ?_
  refine x_goto (tgt := 2) E dX1_forgetNumbers_23 (by decide) ?_
  refine x_iload_n (q := 3) E dX1_forgetNumbers_2 0 rfl rfl ?_
  refine x_aload_n (q := 4) E dX1_forgetNumbers_3 1 rfl rfl ?_
  refine x_get (q := 7) E iX1_forgetNumbers_X1 (1) rfl rfl 1 (by decide) (by decide +kernel) rfl dX1_forgetNumbers_4 rfl ?_
  refine x_alen (q := 8) E (3) rfl 4 rfl dX1_forgetNumbers_7 rfl ?_
  refine x_ti (show (((3 : Nat) : Int)) = 3 from rfl) ?_
  refine x_icmp_ge (tgt := 26) (q := 11) E dX1_forgetNumbers_8 (by decide) rfl (by omega) (by omega) (fun h9 => absurd h9 (by decide)) (fun _ => ?_)
  refine x_aload_n (q := 12) E dX1_forgetNumbers_11 1 rfl rfl ?_
  refine x_get (q := 15) E iX1_forgetNumbers_X1 (1) rfl rfl 1 (by decide) (by decide +kernel) rfl dX1_forgetNumbers_12 rfl ?_
  refine x_iload_n (q := 16) E dX1_forgetNumbers_15 0 rfl rfl ?_
  refine x_aald (q := 17) E 3 rfl 4 rfl (1) (by decide) (by decide) rfl dX1_forgetNumbers_16 rfl ?_
  refine x_callVv (q := 20) (n := 0) (As := []) (r := []) E (c_X2_forget l D T ad hN (sF (sG st (7 + 0) (0)) (11 + 0) (f4)) (1) (by decide)) gX1_forgetNumbers_X2_forget rfl rfl rfl (by decide +kernel) ⟨Nat.le_of_ble_eq_true rfl, Nat.le_of_ble_eq_true rfl⟩ (13 + 1) (xg_row (by decide)) rfl rfl rfl (Nat.le_of_ble_eq_true rfl) dX1_forgetNumbers_17 rfl (fun s7 q8 => ?_)
  obtain ⟨f9, rfl, h110⟩ := q8
  refine x_iinc (q := 23) (k := 0) (lv' := [(1, .int (ii (2))), (0, .ref (ad 1))]) E dX1_forgetNumbers_20 rfl (by decide) rfl rfl ?_
  refine x_goto (tgt := 2) E dX1_forgetNumbers_23 (by decide) ?_
  refine x_iload_n (q := 3) E dX1_forgetNumbers_2 0 rfl rfl ?_
  refine x_aload_n (q := 4) E dX1_forgetNumbers_3 1 rfl rfl ?_
  refine x_get (q := 7) E iX1_forgetNumbers_X1 (1) rfl rfl 1 (by decide) (by decide +kernel) rfl dX1_forgetNumbers_4 rfl ?_
  refine x_alen (q := 8) E (3) rfl 4 rfl dX1_forgetNumbers_7 rfl ?_
  refine x_ti (show (((3 : Nat) : Int)) = 3 from rfl) ?_
  refine x_icmp_ge (tgt := 26) (q := 11) E dX1_forgetNumbers_8 (by decide) rfl (by omega) (by omega) (fun h9 => absurd h9 (by decide)) (fun _ => ?_)
  refine x_aload_n (q := 12) E dX1_forgetNumbers_11 1 rfl rfl ?_
  refine x_get (q := 15) E iX1_forgetNumbers_X1 (1) rfl rfl 1 (by decide) (by decide +kernel) rfl dX1_forgetNumbers_12 rfl ?_
  refine x_iload_n (q := 16) E dX1_forgetNumbers_15 0 rfl rfl ?_
  refine x_aald (q := 17) E 3 rfl 4 rfl (2) (by decide) (by decide) rfl dX1_forgetNumbers_16 rfl ?_
  refine x_callVv (q := 20) (n := 0) (As := []) (r := []) E (c_X2_forget l D T ad hN (sF (sG (sF (sG st (7 + 0) (0)) (11 + 0) (f4)) (7 + 1) (0)) (11 + 1) (f9)) (2) (by decide)) gX1_forgetNumbers_X2_forget rfl rfl rfl (by decide +kernel) ⟨Nat.le_of_ble_eq_true rfl, Nat.le_of_ble_eq_true rfl⟩ (13 + 2) (xg_row (by decide)) rfl rfl rfl (Nat.le_of_ble_eq_true rfl) dX1_forgetNumbers_17 rfl (fun s12 q13 => ?_)
  obtain ⟨f14, rfl, h115⟩ := q13
  refine x_iinc (q := 23) (k := 0) (lv' := [(1, .int (ii (3))), (0, .ref (ad 1))]) E dX1_forgetNumbers_20 rfl (by decide) rfl rfl ?_
  refine x_goto (tgt := 2) E dX1_forgetNumbers_23 (by decide) ?_
  refine x_iload_n (q := 3) E dX1_forgetNumbers_2 0 rfl rfl ?_
  refine x_aload_n (q := 4) E dX1_forgetNumbers_3 1 rfl rfl ?_
  refine x_get (q := 7) E iX1_forgetNumbers_X1 (1) rfl rfl 1 (by decide) (by decide +kernel) rfl dX1_forgetNumbers_4 rfl ?_
  refine x_alen (q := 8) E (3) rfl 4 rfl dX1_forgetNumbers_7 rfl ?_
  refine x_ti (show (((3 : Nat) : Int)) = 3 from rfl) ?_
  refine x_icmp_ge (tgt := 26) (q := 11) E dX1_forgetNumbers_8 (by decide) rfl (by omega) (by omega) (fun _ => ?_) (fun h9 => absurd h9 (by decide))
  exact RET _ _ _ dX1_forgetNumbers_26 (⟨fun j hj => by rw [sF_1, sG_n _ _ (by omega), sF_1, sG_n _ _ (by omega), sF_1, sG_n _ _ (by omega)], fun q hq => by rw [sF_n _ _ (by omega), sG_2, sF_n _ _ (by omega), sG_2, sF_n _ _ (by omega), sG_2], fun r hr => by rcases (show r = 0 ∨ r = 1 ∨ r = 2 by omega) with q | q | q <;> subst q <;> rfl, fun r c hr h0 h1 => by rcases (show r = 0 ∨ r = 1 ∨ r = 2 by omega) with q | q | q <;> subst q; exact h15 c h0 h1; exact h110 c h0 h1; exact h115 c h0 h1⟩)

theorem iX1_join_X1 : ∀ w ∈ wsX10, w ∈ wsX1_join := by decide +kernel
set_option maxRecDepth 100000 in
set_option maxHeartbeats 4000000 in
theorem c_X1_join (l : Launch) (D : va_G) (T : Nat → ClassId) (ad : Nat → Nat) (hN : ∀ i j, i < 33 → j < 33 → ad i = ad j → i = j) (st : St_) (n0 : Int) (bn0 : -2147483648 ≤ n0 ∧ n0 < 2147483648) (b0 : Int) (bb0 : -2147483648 ≤ b0 ∧ b0 < 2147483648) (b1 : Int) (bb1 : -2147483648 ≤ b1 ∧ b1 < 2147483648) (b2 : Int) (bb2 : -2147483648 ≤ b2 ∧ b2 < 2147483648) : CXv l yX1_join wsX1_join (rmX 2 42) [.ref (ad 1), .int (ii (n0)), .int (ii (b0)), .int (ii (b1)), .int (ii (b2))] D (tyX T) (XW T ad) (alX ad) st (fun st2 => FG (sA (sA (sA (sG st 2 n0) 0 0 b0) 0 1 b1) 0 2 b2) st2) := by
  refine mk_v (cc := cX1_join) (nL := 5) rfl rfl (XW_ok hN) (Nat.le_of_ble_eq_true rfl) [(0, .ref (ad 1)), (1, .int (ii (n0))), (2, .int (ii (b0))), (3, .int (ii (b1))), (4, .int (ii (b2)))] rfl (fun p e s m args below meth c A Q E RET => ?_)
  refine x_aload_n (q := 1) E dX1_join_0 0 rfl rfl ?_
  refine x_iload_n (q := 2) E dX1_join_1 1 rfl rfl ?_
  refine x_put (q := 5) (st' := (sG st (2) (n0))) (v := .int (ii (n0))) (ty := .int) E iX1_join_X1 tyX1 tyX1_ok nmX1 (1) rfl rfl 3 (by decide) (by decide +kernel) rfl (by decide +kernel) rfl rfl (Nat.le_of_ble_eq_true rfl) dX1_join_2 (xs_s2 _) rfl ?_
  refine x_aload_n (q := 6) E dX1_join_5 0 rfl rfl ?_
  refine x_get (q := 9) E iX1_join_X1 (1) rfl rfl 2 (by decide) (by decide +kernel) rfl dX1_join_6 rfl ?_
  refine x_iconst (q := 10) E dX1_join_9 rfl ?_
  refine x_iload_n (q := 11) E dX1_join_10 2 rfl rfl ?_
  refine x_iast (q := 12) (st' := (sA (sG st (2) (n0)) (0) (0) (b0))) (f := (sG st (2) (n0)).2 (0)) E (4) rfl 0 rfl (by omega) (by omega) (by decide) dX1_join_11 (xs_aor _ _) rfl ?_
  refine x_aload_n (q := 13) E dX1_join_12 0 rfl rfl ?_
  refine x_get (q := 16) E iX1_join_X1 (1) rfl rfl 2 (by decide) (by decide +kernel) rfl dX1_join_13 rfl ?_
  refine x_iconst (q := 17) E dX1_join_16 rfl ?_
  refine x_iload_n (q := 18) E dX1_join_17 3 rfl rfl ?_
  refine x_iast (q := 19) (st' := (sA (sA (sG st (2) (n0)) (0) (0) (b0)) (0) (1) (b1))) (f := (sA (sG st (2) (n0)) (0) (0) (b0)).2 (0)) E (4) rfl 0 rfl (by omega) (by omega) (by decide) dX1_join_18 (xs_aor _ _) rfl ?_
  refine x_aload_n (q := 20) E dX1_join_19 0 rfl rfl ?_
  refine x_get (q := 23) E iX1_join_X1 (1) rfl rfl 2 (by decide) (by decide +kernel) rfl dX1_join_20 rfl ?_
  refine x_iconst (q := 24) E dX1_join_23 rfl ?_
  refine x_iload (q := 26) E dX1_join_24 4 rfl rfl ?_
  refine x_iast (q := 27) (st' := (sA (sA (sA (sG st (2) (n0)) (0) (0) (b0)) (0) (1) (b1)) (0) (2) (b2))) (f := (sA (sA (sG st (2) (n0)) (0) (0) (b0)) (0) (1) (b1)).2 (0)) E (4) rfl 0 rfl (by omega) (by omega) (by decide) dX1_join_26 (xs_aor _ _) rfl ?_
  refine x_aload_n (q := 28) E dX1_join_27 0 rfl rfl ?_
  refine x_callVv (q := 31) (n := 0) (As := []) (r := []) E (c_X1_forgetNumbers l D T ad hN (sA (sA (sA (sG st (2) (n0)) (0) (0) (b0)) (0) (1) (b1)) (0) (2) (b2))) gX1_join_X1_forgetNumbers rfl rfl rfl (by decide +kernel) ⟨Nat.le_of_ble_eq_true rfl, Nat.le_of_ble_eq_true rfl⟩ (1) rfl rfl rfl rfl (Nat.le_of_ble_eq_true rfl) dX1_join_28 rfl (fun s2 q3 => ?_)
  have h4 := q3
  exact RET _ _ _ dX1_join_31 (h4)

theorem iX1_alphabetNamed_X1 : ∀ w ∈ wsX10, w ∈ wsX1_alphabetNamed := by decide +kernel
set_option maxRecDepth 100000 in
set_option maxHeartbeats 4000000 in
theorem c_X1_alphabetNamed (l : Launch) (D : va_G) (T : Nat → ClassId) (ad : Nat → Nat) (hN : ∀ i j, i < 33 → j < 33 → ad i = ad j → i = j) (st : St_) (a : Nat) (ha : a < 4) : CXr l yX1_alphabetNamed wsX1_alphabetNamed (rmX 0 0) [.ref (ad 1), .long (jj ((a : Int)))] D (tyX T) (XW T ad) (alX ad) st (fun b st2 => some (ad (5 + a)) = b ∧ st = st2) := by
  refine mk_q (cc := cX1_alphabetNamed) (nL := 3) rfl rfl (XW_ok hN) (Nat.le_of_ble_eq_true rfl) [(0, .ref (ad 1)), (1, .long (jj ((a : Int))))] rfl (fun p e s m args below meth c A Q E RET => ?_)
  refine x_lload_n (q := 1) E dX1_alphabetNamed_0 1 rfl rfl ?_
  refine x_lconst (q := 2) (z := 0) E dX1_alphabetNamed_1 (by decide) rfl ?_
  refine x_lcmp (q := 3) E dX1_alphabetNamed_2 (by omega) (by omega) rfl ?_
  refine x_if_lt (tgt := 27) (q := 6) E dX1_alphabetNamed_3 (by decide) rfl (by omega) (fun c3 => ?_) (fun c3 => ?_)
  · exfalso; omega
  · refine x_lload_n (q := 7) E dX1_alphabetNamed_6 1 rfl rfl ?_
    refine x_aload_n (q := 8) E dX1_alphabetNamed_7 0 rfl rfl ?_
    refine x_get (q := 11) E iX1_alphabetNamed_X1 (1) rfl rfl 0 (by decide) (by decide +kernel) rfl dX1_alphabetNamed_8 rfl ?_
    refine x_alen (q := 12) E (2) rfl 3 rfl dX1_alphabetNamed_11 rfl ?_
    refine x_ti (show (((4 : Nat) : Int)) = 4 from rfl) ?_
    refine x_i2l (q := 13) E dX1_alphabetNamed_12 (by omega) rfl ?_
    refine x_lcmp (q := 14) E dX1_alphabetNamed_13 (by omega) (by omega) rfl ?_
    refine x_if_ge (tgt := 27) (q := 17) E dX1_alphabetNamed_14 (by decide) rfl (by omega) (fun c14 => ?_) (fun c14 => ?_)
    · exfalso; omega
    · refine x_aload_n (q := 18) E dX1_alphabetNamed_17 0 rfl rfl ?_
      refine x_get (q := 21) E iX1_alphabetNamed_X1 (1) rfl rfl 0 (by decide) (by decide +kernel) rfl dX1_alphabetNamed_18 rfl ?_
      refine x_lload_n (q := 22) E dX1_alphabetNamed_21 1 rfl rfl ?_
      refine x_l2i (q := 23) E dX1_alphabetNamed_22 (by omega) rfl ?_
      refine x_aald (q := 24) E 2 rfl 3 rfl (a) ha (by decide) rfl dX1_alphabetNamed_23 rfl ?_
      refine x_goto (tgt := 28) E dX1_alphabetNamed_24 (by decide) ?_
      exact RET (some (ad (5 + a))) _ _ _ dX1_alphabetNamed_28 (⟨rfl, rfl⟩)

theorem iX1_alphabetNamed_n_X1 : ∀ w ∈ wsX10, w ∈ wsX1_alphabetNamed := by decide +kernel
set_option maxRecDepth 100000 in
set_option maxHeartbeats 4000000 in
theorem c_X1_alphabetNamed_n (l : Launch) (D : va_G) (T : Nat → ClassId) (ad : Nat → Nat) (hN : ∀ i j, i < 33 → j < 33 → ad i = ad j → i = j) (st : St_) (k : Int) (hk : k < 0 ∨ 4 ≤ k) (hk2 : -3000000000 ≤ k ∧ k ≤ 3000000000) : CXr l yX1_alphabetNamed wsX1_alphabetNamed (rmX 0 0) [.ref (ad 1), .long (jj (k))] D (tyX T) (XW T ad) (alX ad) st (fun b st2 => b = none ∧ st = st2) := by
  refine mk_q (cc := cX1_alphabetNamed) (nL := 3) rfl rfl (XW_ok hN) (Nat.le_of_ble_eq_true rfl) [(0, .ref (ad 1)), (1, .long (jj (k)))] rfl (fun p e s m args below meth c A Q E RET => ?_)
  refine x_lload_n (q := 1) E dX1_alphabetNamed_0 1 rfl rfl ?_
  refine x_lconst (q := 2) (z := 0) E dX1_alphabetNamed_1 (by decide) rfl ?_
  refine x_lcmp (q := 3) E dX1_alphabetNamed_2 (by omega) (by omega) rfl ?_
  refine x_if_lt (tgt := 27) (q := 6) E dX1_alphabetNamed_3 (by decide) rfl (by omega) (fun c3 => ?_) (fun c3 => ?_)
  · refine x_null (q := 28) E dX1_alphabetNamed_27 rfl ?_
    exact RET none _ _ _ dX1_alphabetNamed_28 (⟨rfl, rfl⟩)
  · refine x_lload_n (q := 7) E dX1_alphabetNamed_6 1 rfl rfl ?_
    refine x_aload_n (q := 8) E dX1_alphabetNamed_7 0 rfl rfl ?_
    refine x_get (q := 11) E iX1_alphabetNamed_n_X1 (1) rfl rfl 0 (by decide) (by decide +kernel) rfl dX1_alphabetNamed_8 rfl ?_
    refine x_alen (q := 12) E (2) rfl 3 rfl dX1_alphabetNamed_11 rfl ?_
    refine x_ti (show (((4 : Nat) : Int)) = 4 from rfl) ?_
    refine x_i2l (q := 13) E dX1_alphabetNamed_12 (by omega) rfl ?_
    refine x_lcmp (q := 14) E dX1_alphabetNamed_13 (by omega) (by omega) rfl ?_
    refine x_if_ge (tgt := 27) (q := 17) E dX1_alphabetNamed_14 (by decide) rfl (by omega) (fun c14 => ?_) (fun c14 => ?_)
    · refine x_null (q := 28) E dX1_alphabetNamed_27 rfl ?_
      exact RET none _ _ _ dX1_alphabetNamed_28 (⟨rfl, rfl⟩)
    · exfalso; omega

theorem iX1_mixInto_X1 : ∀ w ∈ wsX10, w ∈ wsX1_mixInto := by decide +kernel
set_option maxRecDepth 100000 in
set_option maxHeartbeats 4000000 in
theorem c_X1_mixInto (l : Launch) (D : va_G) (T : Nat → ClassId) (ad : Nat → Nat) (hN : ∀ i j, i < 33 → j < 33 → ad i = ad j → i = j) (st : St_) (h : Int) (hA : AH st) : CXl l yX1_mixInto wsX1_mixInto (rmX 2 47) [.ref (ad 1), .long (jj (h))] D (tyX T) (XW T ad) (alX ad) st (fun z st2 => mix (st.2 0) (mix (st.2 (1 + 3)) (mix (st.2 (1 + 2)) (mix (st.2 (1 + 1)) (mix (st.2 (1 + 0)) (h) (st.1 (3 + 0))) (st.1 (3 + 1))) (st.1 (3 + 2))) (st.1 (3 + 3))) (st.1 2) = z ∧ st = st2) := by
  refine mk_l (cc := cX1_mixInto) (nL := 6) rfl rfl (XW_ok hN) (Nat.le_of_ble_eq_true rfl) [(0, .ref (ad 1)), (1, .long (jj (h)))] rfl (fun p e s m args below meth c A Q E RET => ?_)
  have hn := hA.1
  have z0 := hA.2.2.1 0 (by omega)
  have z1 := hA.2.2.1 1 (by omega)
  have z2 := hA.2.2.1 2 (by omega)
  have z3 := hA.2.2.1 3 (by omega)
  refine x_lload_n (q := 1) E dX1_mixInto_0 1 rfl rfl ?_
  refine x_lstore_n (q := 2) (lv' := [(3, .long (jj (h))), (0, .ref (ad 1)), (1, .long (jj (h)))]) E dX1_mixInto_1 (by decide) rfl rfl ?_
  refine x_iconst (q := 3) E dX1_mixInto_2 rfl ?_
  refine x_istore (q := 5) (lv' := [(5, .int (ii (0))), (3, .long (jj (h))), (0, .ref (ad 1)), (1, .long (jj (h)))]) E dX1_mixInto_3 (by decide) rfl rfl ?_
  refine x_iload (q := 7) E dX1_mixInto_5 0 rfl rfl ?_
  refine x_aload_n (q := 8) E dX1_mixInto_7 2 rfl rfl ?_
  refine x_get (q := 11) E iX1_mixInto_X1 (1) rfl rfl 0 (by decide) (by decide +kernel) rfl dX1_mixInto_8 rfl ?_
  refine x_alen (q := 12) E (2) rfl 3 rfl dX1_mixInto_11 rfl ?_
  refine x_ti (show (((4 : Nat) : Int)) = 4 from rfl) ?_
  refine x_icmp_ge (tgt := 33) (q := 15) E dX1_mixInto_12 (by decide) rfl (by omega) (by omega) (fun h9 => absurd h9 (by decide)) (fun _ => ?_)
  refine x_aload_n (q := 16) E dX1_mixInto_15 2 rfl rfl ?_
  refine x_get (q := 19) E iX1_mixInto_X1 (1) rfl rfl 0 (by decide) (by decide +kernel) rfl dX1_mixInto_16 rfl ?_
  refine x_iload (q := 21) E dX1_mixInto_19 0 rfl rfl ?_
  refine x_aald (q := 22) E 2 rfl 3 rfl (0) (by decide) (by decide) rfl dX1_mixInto_21 rfl ?_
  refine x_lload_n (q := 23) E dX1_mixInto_22 1 rfl rfl ?_
  refine x_callVl (q := 26) (n := 1) (As := [.long (jj (h))]) (r := []) E (c_X0_mixInto l D T ad hN st (0) (by decide) (h) (hA.2.2.1 _ (by decide)) (hA.2.2.2 _ (by decide))) gX1_mixInto_X0_mixInto rfl rfl rfl (by decide +kernel) ⟨Nat.le_of_ble_eq_true rfl, Nat.le_of_ble_eq_true rfl⟩ (5 + 0) (xg_alph (by decide)) rfl rfl rfl (Nat.le_of_ble_eq_true rfl) dX1_mixInto_23 rfl (fun z1 s2 q3 => ?_)
  obtain ⟨rfl, rfl⟩ := q3
  refine x_lstore_n (q := 27) (lv' := [(3, .long (jj (mix (st.2 (1 + 0)) (h) (st.1 (3 + 0))))), (5, .int (ii (0))), (0, .ref (ad 1)), (1, .long (jj (h)))]) E dX1_mixInto_26 (by decide) rfl rfl ?_
  refine x_iinc (q := 30) (k := 1) (lv' := [(5, .int (ii (1))), (3, .long (jj (mix (st.2 (1 + 0)) (h) (st.1 (3 + 0))))), (0, .ref (ad 1)), (1, .long (jj (h)))]) E dX1_mixInto_27 rfl (by decide) rfl rfl ?_
  refine x_goto (tgt := 5) E dX1_mixInto_30 (by decide) ?_
  refine x_iload (q := 7) E dX1_mixInto_5 0 rfl rfl ?_
  refine x_aload_n (q := 8) E dX1_mixInto_7 2 rfl rfl ?_
  refine x_get (q := 11) E iX1_mixInto_X1 (1) rfl rfl 0 (by decide) (by decide +kernel) rfl dX1_mixInto_8 rfl ?_
  refine x_alen (q := 12) E (2) rfl 3 rfl dX1_mixInto_11 rfl ?_
  refine x_ti (show (((4 : Nat) : Int)) = 4 from rfl) ?_
  refine x_icmp_ge (tgt := 33) (q := 15) E dX1_mixInto_12 (by decide) rfl (by omega) (by omega) (fun h9 => absurd h9 (by decide)) (fun _ => ?_)
  refine x_aload_n (q := 16) E dX1_mixInto_15 2 rfl rfl ?_
  refine x_get (q := 19) E iX1_mixInto_X1 (1) rfl rfl 0 (by decide) (by decide +kernel) rfl dX1_mixInto_16 rfl ?_
  refine x_iload (q := 21) E dX1_mixInto_19 0 rfl rfl ?_
  refine x_aald (q := 22) E 2 rfl 3 rfl (1) (by decide) (by decide) rfl dX1_mixInto_21 rfl ?_
  refine x_lload_n (q := 23) E dX1_mixInto_22 1 rfl rfl ?_
  refine x_callVl (q := 26) (n := 1) (As := [.long (jj (mix (st.2 (1 + 0)) (h) (st.1 (3 + 0))))]) (r := []) E (c_X0_mixInto l D T ad hN st (1) (by decide) (mix (st.2 (1 + 0)) (h) (st.1 (3 + 0))) (hA.2.2.1 _ (by decide)) (hA.2.2.2 _ (by decide))) gX1_mixInto_X0_mixInto rfl rfl rfl (by decide +kernel) ⟨Nat.le_of_ble_eq_true rfl, Nat.le_of_ble_eq_true rfl⟩ (5 + 1) (xg_alph (by decide)) rfl rfl rfl (Nat.le_of_ble_eq_true rfl) dX1_mixInto_23 rfl (fun z4 s5 q6 => ?_)
  obtain ⟨rfl, rfl⟩ := q6
  refine x_lstore_n (q := 27) (lv' := [(3, .long (jj (mix (st.2 (1 + 1)) (mix (st.2 (1 + 0)) (h) (st.1 (3 + 0))) (st.1 (3 + 1))))), (5, .int (ii (1))), (0, .ref (ad 1)), (1, .long (jj (h)))]) E dX1_mixInto_26 (by decide) rfl rfl ?_
  refine x_iinc (q := 30) (k := 1) (lv' := [(5, .int (ii (2))), (3, .long (jj (mix (st.2 (1 + 1)) (mix (st.2 (1 + 0)) (h) (st.1 (3 + 0))) (st.1 (3 + 1))))), (0, .ref (ad 1)), (1, .long (jj (h)))]) E dX1_mixInto_27 rfl (by decide) rfl rfl ?_
  refine x_goto (tgt := 5) E dX1_mixInto_30 (by decide) ?_
  refine x_iload (q := 7) E dX1_mixInto_5 0 rfl rfl ?_
  refine x_aload_n (q := 8) E dX1_mixInto_7 2 rfl rfl ?_
  refine x_get (q := 11) E iX1_mixInto_X1 (1) rfl rfl 0 (by decide) (by decide +kernel) rfl dX1_mixInto_8 rfl ?_
  refine x_alen (q := 12) E (2) rfl 3 rfl dX1_mixInto_11 rfl ?_
  refine x_ti (show (((4 : Nat) : Int)) = 4 from rfl) ?_
  refine x_icmp_ge (tgt := 33) (q := 15) E dX1_mixInto_12 (by decide) rfl (by omega) (by omega) (fun h9 => absurd h9 (by decide)) (fun _ => ?_)
  refine x_aload_n (q := 16) E dX1_mixInto_15 2 rfl rfl ?_
  refine x_get (q := 19) E iX1_mixInto_X1 (1) rfl rfl 0 (by decide) (by decide +kernel) rfl dX1_mixInto_16 rfl ?_
  refine x_iload (q := 21) E dX1_mixInto_19 0 rfl rfl ?_
  refine x_aald (q := 22) E 2 rfl 3 rfl (2) (by decide) (by decide) rfl dX1_mixInto_21 rfl ?_
  refine x_lload_n (q := 23) E dX1_mixInto_22 1 rfl rfl ?_
  refine x_callVl (q := 26) (n := 1) (As := [.long (jj (mix (st.2 (1 + 1)) (mix (st.2 (1 + 0)) (h) (st.1 (3 + 0))) (st.1 (3 + 1))))]) (r := []) E (c_X0_mixInto l D T ad hN st (2) (by decide) (mix (st.2 (1 + 1)) (mix (st.2 (1 + 0)) (h) (st.1 (3 + 0))) (st.1 (3 + 1))) (hA.2.2.1 _ (by decide)) (hA.2.2.2 _ (by decide))) gX1_mixInto_X0_mixInto rfl rfl rfl (by decide +kernel) ⟨Nat.le_of_ble_eq_true rfl, Nat.le_of_ble_eq_true rfl⟩ (5 + 2) (xg_alph (by decide)) rfl rfl rfl (Nat.le_of_ble_eq_true rfl) dX1_mixInto_23 rfl (fun z7 s8 q9 => ?_)
  obtain ⟨rfl, rfl⟩ := q9
  refine x_lstore_n (q := 27) (lv' := [(3, .long (jj (mix (st.2 (1 + 2)) (mix (st.2 (1 + 1)) (mix (st.2 (1 + 0)) (h) (st.1 (3 + 0))) (st.1 (3 + 1))) (st.1 (3 + 2))))), (5, .int (ii (2))), (0, .ref (ad 1)), (1, .long (jj (h)))]) E dX1_mixInto_26 (by decide) rfl rfl ?_
  refine x_iinc (q := 30) (k := 1) (lv' := [(5, .int (ii (3))), (3, .long (jj (mix (st.2 (1 + 2)) (mix (st.2 (1 + 1)) (mix (st.2 (1 + 0)) (h) (st.1 (3 + 0))) (st.1 (3 + 1))) (st.1 (3 + 2))))), (0, .ref (ad 1)), (1, .long (jj (h)))]) E dX1_mixInto_27 rfl (by decide) rfl rfl ?_
  refine x_goto (tgt := 5) E dX1_mixInto_30 (by decide) ?_
  refine x_iload (q := 7) E dX1_mixInto_5 0 rfl rfl ?_
  refine x_aload_n (q := 8) E dX1_mixInto_7 2 rfl rfl ?_
  refine x_get (q := 11) E iX1_mixInto_X1 (1) rfl rfl 0 (by decide) (by decide +kernel) rfl dX1_mixInto_8 rfl ?_
  refine x_alen (q := 12) E (2) rfl 3 rfl dX1_mixInto_11 rfl ?_
  refine x_ti (show (((4 : Nat) : Int)) = 4 from rfl) ?_
  refine x_icmp_ge (tgt := 33) (q := 15) E dX1_mixInto_12 (by decide) rfl (by omega) (by omega) (fun h9 => absurd h9 (by decide)) (fun _ => ?_)
  refine x_aload_n (q := 16) E dX1_mixInto_15 2 rfl rfl ?_
  refine x_get (q := 19) E iX1_mixInto_X1 (1) rfl rfl 0 (by decide) (by decide +kernel) rfl dX1_mixInto_16 rfl ?_
  refine x_iload (q := 21) E dX1_mixInto_19 0 rfl rfl ?_
  refine x_aald (q := 22) E 2 rfl 3 rfl (3) (by decide) (by decide) rfl dX1_mixInto_21 rfl ?_
  refine x_lload_n (q := 23) E dX1_mixInto_22 1 rfl rfl ?_
  refine x_callVl (q := 26) (n := 1) (As := [.long (jj (mix (st.2 (1 + 2)) (mix (st.2 (1 + 1)) (mix (st.2 (1 + 0)) (h) (st.1 (3 + 0))) (st.1 (3 + 1))) (st.1 (3 + 2))))]) (r := []) E (c_X0_mixInto l D T ad hN st (3) (by decide) (mix (st.2 (1 + 2)) (mix (st.2 (1 + 1)) (mix (st.2 (1 + 0)) (h) (st.1 (3 + 0))) (st.1 (3 + 1))) (st.1 (3 + 2))) (hA.2.2.1 _ (by decide)) (hA.2.2.2 _ (by decide))) gX1_mixInto_X0_mixInto rfl rfl rfl (by decide +kernel) ⟨Nat.le_of_ble_eq_true rfl, Nat.le_of_ble_eq_true rfl⟩ (5 + 3) (xg_alph (by decide)) rfl rfl rfl (Nat.le_of_ble_eq_true rfl) dX1_mixInto_23 rfl (fun z10 s11 q12 => ?_)
  obtain ⟨rfl, rfl⟩ := q12
  refine x_lstore_n (q := 27) (lv' := [(3, .long (jj (mix (st.2 (1 + 3)) (mix (st.2 (1 + 2)) (mix (st.2 (1 + 1)) (mix (st.2 (1 + 0)) (h) (st.1 (3 + 0))) (st.1 (3 + 1))) (st.1 (3 + 2))) (st.1 (3 + 3))))), (5, .int (ii (3))), (0, .ref (ad 1)), (1, .long (jj (h)))]) E dX1_mixInto_26 (by decide) rfl rfl ?_
  refine x_iinc (q := 30) (k := 1) (lv' := [(5, .int (ii (4))), (3, .long (jj (mix (st.2 (1 + 3)) (mix (st.2 (1 + 2)) (mix (st.2 (1 + 1)) (mix (st.2 (1 + 0)) (h) (st.1 (3 + 0))) (st.1 (3 + 1))) (st.1 (3 + 2))) (st.1 (3 + 3))))), (0, .ref (ad 1)), (1, .long (jj (h)))]) E dX1_mixInto_27 rfl (by decide) rfl rfl ?_
  refine x_goto (tgt := 5) E dX1_mixInto_30 (by decide) ?_
  refine x_iload (q := 7) E dX1_mixInto_5 0 rfl rfl ?_
  refine x_aload_n (q := 8) E dX1_mixInto_7 2 rfl rfl ?_
  refine x_get (q := 11) E iX1_mixInto_X1 (1) rfl rfl 0 (by decide) (by decide +kernel) rfl dX1_mixInto_8 rfl ?_
  refine x_alen (q := 12) E (2) rfl 3 rfl dX1_mixInto_11 rfl ?_
  refine x_ti (show (((4 : Nat) : Int)) = 4 from rfl) ?_
  refine x_icmp_ge (tgt := 33) (q := 15) E dX1_mixInto_12 (by decide) rfl (by omega) (by omega) (fun _ => ?_) (fun h9 => absurd h9 (by decide))
  refine x_iconst (q := 34) E dX1_mixInto_33 rfl ?_
  refine x_istore (q := 36) (lv' := [(5, .int (ii (0))), (3, .long (jj (mix (st.2 (1 + 3)) (mix (st.2 (1 + 2)) (mix (st.2 (1 + 1)) (mix (st.2 (1 + 0)) (h) (st.1 (3 + 0))) (st.1 (3 + 1))) (st.1 (3 + 2))) (st.1 (3 + 3))))), (0, .ref (ad 1)), (1, .long (jj (h)))]) E dX1_mixInto_34 (by decide) rfl rfl ?_
  have L36 : ∀ (n : Nat) (t : Int) (i : Int), (st.1 2 - i).toNat < n → (0 ≤ i ∧ i ≤ st.1 2) → (t = mix (st.2 0) (mix (st.2 (1 + 3)) (mix (st.2 (1 + 2)) (mix (st.2 (1 + 1)) (mix (st.2 (1 + 0)) (h) (st.1 (3 + 0))) (st.1 (3 + 1))) (st.1 (3 + 2))) (st.1 (3 + 3))) i) → XJ p l e (rmX 2 47) s m args below meth c D (XW T ad) A 6 Q 0 0 st 36 [(0, .ref (ad 1)), (3, .long (jj (t))), (5, .int (ii (i)))] [] := by
    intro n
    induction n with
    | zero => intro t i hn; exact absurd hn (Nat.not_lt_zero _)
    | succ n ih36 =>
      intro t i hn36 a1 a2
      have e1 : i < st.1 2 → 0 ≤ st.2 0 i ∧ st.2 0 i ≤ 3 := by
        intro hi
        have := hA.2.1 i.toNat (by omega)
        rw [show ((i.toNat : Nat) : Int) = i from by omega] at this
        exact this
      refine x_iload (q := 38) E dX1_mixInto_36 2 rfl rfl ?_
      refine x_aload_n (q := 39) E dX1_mixInto_38 0 rfl rfl ?_
      refine x_get (q := 42) E iX1_mixInto_X1 (1) rfl rfl 3 (by decide) (by decide +kernel) rfl dX1_mixInto_39 rfl ?_
      refine x_icmp_ge (tgt := 76) (q := 45) E dX1_mixInto_42 (by decide) rfl (by omega) (by omega) (fun c42 => ?_) (fun c42 => ?_)
      · refine x_lload_n (q := 77) E dX1_mixInto_76 1 rfl rfl ?_
        exact RET _ _ _ _ dX1_mixInto_77 (⟨by rw [a2]; exact congrArg _ (by omega), rfl⟩)
      · refine x_iload (q := 47) E dX1_mixInto_45 2 rfl rfl ?_
        refine x_aload_n (q := 48) E dX1_mixInto_47 0 rfl rfl ?_
        refine x_get (q := 51) E iX1_mixInto_X1 (1) rfl rfl 2 (by decide) (by decide +kernel) rfl dX1_mixInto_48 rfl ?_
        refine x_alen (q := 52) E (4) rfl 0 rfl dX1_mixInto_51 rfl ?_
        refine x_ti (show (((3 : Nat) : Int)) = 3 from rfl) ?_
        refine x_icmp_ge (tgt := 76) (q := 55) E dX1_mixInto_52 (by decide) rfl (by omega) (by omega) (fun c52 => ?_) (fun c52 => ?_)
        · exfalso; omega
        · have e2 := e1 (by omega)
          refine x_ldc2 (q := 58) (v := 31) (z := 31) E (by decide +kernel) (by decide) dX1_mixInto_55 rfl ?_
          refine x_lload_n (q := 59) E dX1_mixInto_58 1 rfl rfl ?_
          refine x_lmul (q := 60) E dX1_mixInto_59 rfl ?_
          refine x_aload_n (q := 61) E dX1_mixInto_60 0 rfl rfl ?_
          refine x_get (q := 64) E iX1_mixInto_X1 (1) rfl rfl 2 (by decide) (by decide +kernel) rfl dX1_mixInto_61 rfl ?_
          refine x_iload (q := 66) E dX1_mixInto_64 2 rfl rfl ?_
          refine x_iald (q := 67) (f := st.2 (0)) E (4) rfl 0 rfl (by omega) (by omega) (by decide) dX1_mixInto_66 rfl ?_
          refine x_i2l (q := 68) E dX1_mixInto_67 (by omega) rfl ?_
          refine x_ladd (q := 69) E dX1_mixInto_68 rfl ?_
          refine x_lstore_n (q := 70) (lv' := [(3, .long (jj (((31) * (t)) + (st.2 (0) (i))))), (0, .ref (ad 1)), (5, .int (ii (i)))]) E dX1_mixInto_69 (by decide) rfl rfl ?_
          refine x_iinc (q := 73) (k := 2) (lv' := [(5, .int (ii (i + 1))), (3, .long (jj (((31) * (t)) + (st.2 (0) (i))))), (0, .ref (ad 1))]) E dX1_mixInto_70 rfl (by decide) rfl rfl ?_
          refine x_goto (tgt := 36) E dX1_mixInto_73 (by decide) ?_
          refine x_lv E (lv' := [(0, .ref (ad 1)), (3, .long (jj (((31) * (t)) + (st.2 (0) (i))))), (5, .int (ii (i + 1)))]) [2, 1, 0] rfl ?_
          exact ih36 (((31) * (t)) + (st.2 (0) (i))) (i + 1) (by omega) (by omega) (by rw [mix_s _ _ (by omega), a2])
  refine x_lv E (lv' := [(0, .ref (ad 1)), (3, .long (jj (mix (st.2 (1 + 3)) (mix (st.2 (1 + 2)) (mix (st.2 (1 + 1)) (mix (st.2 (1 + 0)) (h) (st.1 (3 + 0))) (st.1 (3 + 1))) (st.1 (3 + 2))) (st.1 (3 + 3))))), (5, .int (ii (0)))]) [2, 1, 0] rfl ?_
  exact L36 _ (mix (st.2 (1 + 3)) (mix (st.2 (1 + 2)) (mix (st.2 (1 + 1)) (mix (st.2 (1 + 0)) (h) (st.1 (3 + 0))) (st.1 (3 + 1))) (st.1 (3 + 2))) (st.1 (3 + 3))) (0) (Nat.lt_succ_self _) (by omega) ((mix_0 _ _).symm)

theorem iX4_becomeShorter_X4 : ∀ w ∈ wsX40, w ∈ wsX4_becomeShorter := by decide +kernel
set_option maxRecDepth 100000 in
set_option maxHeartbeats 4000000 in
theorem c_X4_becomeShorter (l : Launch) (D : va_G) (T : Nat → ClassId) (ad : Nat → Nat) (hN : ∀ i j, i < 33 → j < 33 → ad i = ad j → i = j) (st : St_) (w : Nat) (hw : w < 3) (g0 : Int) (bg0 : -2147483648 ≤ g0 ∧ g0 < 2147483648) (hs : 0 ≤ st.1 (10 + w) ∧ st.1 (10 + w) ≤ 60) (hb : ∀ j : Int, 0 ≤ j → j < 60 → 0 ≤ st.2 (14 + w) j ∧ st.2 (14 + w) j ≤ 60) : CXv l yX4_becomeShorter wsX4_becomeShorter (rmX 2 42) [.ref (ad (25 + w)), .int (ii (g0))] D (tyX T) (XW T ad) (alX ad) st (fun st2 => ∃ (k : Int) (f : Int → Int), st2 = sF (sG st (10 + w) k) (14 + w) f ∧ (0 ≤ k ∧ k ≤ st.1 (10 + w)) ∧ wl f k = sh g0 (runs (st.2 (14 + w)) (st.1 (10 + w))) ∧ ∀ j : Int, 0 ≤ j → j < 60 → 0 ≤ f j ∧ f j ≤ 60) := by
  refine mk_v (cc := cX4_becomeShorter) (nL := 7) rfl rfl (XW_ok hN) (Nat.le_of_ble_eq_true rfl) [(0, .ref (ad (25 + w))), (1, .int (ii (g0)))] rfl (fun p e s m args below meth c A Q E RET => ?_)
  refine x_aload_n (q := 1) E dX4_becomeShorter_0 0 rfl rfl ?_
  refine x_get (q := 4) E iX4_becomeShorter_X4 (25 + w) (xg_word hw) rfl 1 (by decide) (by decide +kernel) rfl dX4_becomeShorter_1 rfl ?_
  refine x_istore_n (q := 5) (lv' := [(2, .int (ii (st.1 (10 + w)))), (0, .ref (ad (25 + w))), (1, .int (ii (g0)))]) E dX4_becomeShorter_4 (by decide) rfl rfl ?_
  refine x_iconst (q := 6) E dX4_becomeShorter_5 rfl ?_
  refine x_istore_n (q := 7) (lv' := [(3, .int (ii (0))), (2, .int (ii (st.1 (10 + w)))), (0, .ref (ad (25 + w))), (1, .int (ii (g0)))]) E dX4_becomeShorter_6 (by decide) rfl rfl ?_
  refine x_iconst (q := 8) E dX4_becomeShorter_7 rfl ?_
  refine x_istore (q := 10) (lv' := [(4, .int (ii (0))), (3, .int (ii (0))), (2, .int (ii (st.1 (10 + w)))), (0, .ref (ad (25 + w))), (1, .int (ii (g0)))]) E dX4_becomeShorter_8 (by decide) rfl rfl ?_
  refine x_iconst (q := 11) E dX4_becomeShorter_10 rfl ?_
  refine x_istore (q := 13) (lv' := [(5, .int (ii (0))), (4, .int (ii (0))), (3, .int (ii (0))), (2, .int (ii (st.1 (10 + w)))), (0, .ref (ad (25 + w))), (1, .int (ii (g0)))]) E dX4_becomeShorter_11 (by decide) rfl rfl ?_
  have L13 : ∀ (n : Nat) (k : Int) (u : Int) (i : Int) (f : Int → Int), (st.1 (10 + w) - i).toNat < n → (0 ≤ i ∧ i ≤ st.1 (10 + w)) → (0 ≤ k ∧ k ≤ i) → (0 ≤ u ∧ u ≤ i) → (∀ j : Int, k ≤ j → f j = st.2 (14 + w) j) → (∀ j : Int, 0 ≤ j → j < 60 → 0 ≤ f j ∧ f j ≤ 60) → (i < st.1 (10 + w) → bsI (st.2 (14 + w)) f g0 k u i) → (i = st.1 (10 + w) → wl f k = sh g0 (runs (st.2 (14 + w)) (st.1 (10 + w)))) → XJ p l e (rmX 2 42) s m args below meth c D (XW T ad) A 7 Q 0 0 (sF st (14 + w) (f)) 13 [(0, .ref (ad (25 + w))), (1, .int (ii (g0))), (2, .int (ii (st.1 (10 + w)))), (3, .int (ii (k))), (4, .int (ii (u))), (5, .int (ii (i)))] [] := by
    intro n
    induction n with
    | zero => intro k u i f hn; exact absurd hn (Nat.not_lt_zero _)
    | succ n ih13 =>
      intro k u i f hn13 a1 a2 a3 a4 a5 a6 a7
      refine x_iload (q := 15) E dX4_becomeShorter_13 5 rfl rfl ?_
      refine x_iload_n (q := 16) E dX4_becomeShorter_15 2 rfl rfl ?_
      refine x_icmp_ge (tgt := 88) (q := 19) E dX4_becomeShorter_16 (by decide) rfl (by omega) (by omega) (fun c16 => ?_) (fun c16 => ?_)
      · refine x_aload_n (q := 89) E dX4_becomeShorter_88 0 rfl rfl ?_
        refine x_iload_n (q := 90) E dX4_becomeShorter_89 3 rfl rfl ?_
        refine x_put (q := 93) (st' := (sG (sF st (14 + w) (f)) (10 + w) (k))) (v := .int (ii (k))) (ty := .int) E iX4_becomeShorter_X4 tyX4 tyX4_ok nmX4 (25 + w) (xg_word hw) rfl 1 (by decide) (by decide +kernel) rfl (by decide +kernel) rfl rfl (Nat.le_of_ble_eq_true rfl) dX4_becomeShorter_90 (xs_word hw _) rfl ?_
        exact RET _ _ _ dX4_becomeShorter_93 (⟨k, f, by refine Prod.ext (funext fun k9 => ?_) (funext fun q9 => ?_) <;> simp only [sG_1, sG_2, sA_1, sA_2, sF_1, sF_2, reduceIte] <;> (repeat' split) <;> first | rfl | omega | (subst_vars; first | rfl | omega) | simp_all, by omega, a7 (by omega), a5⟩)
      · refine x_iinc (q := 22) (k := 4) (lv' := [(4, .int (ii (u + 1))), (0, .ref (ad (25 + w))), (1, .int (ii (g0))), (2, .int (ii (st.1 (10 + w)))), (3, .int (ii (k))), (5, .int (ii (i)))]) E dX4_becomeShorter_19 rfl (by decide) rfl rfl ?_
        have e1 := wat_eor (st := (sF st (14 + w) f)) (w := w) (k := i) (by omega) (by rw [sF_1]; omega) (by rw [sF_1]; omega) (by rw [sF_s]; exact a5)
        rw [sF_s, sF_1] at e1
        refine x_aload_n (q := 23) E dX4_becomeShorter_22 1 rfl rfl ?_
        refine x_iload (q := 25) E dX4_becomeShorter_23 5 rfl rfl ?_
        refine x_callVi (q := 28) (n := 1) (As := [.int (ii (i))]) (r := []) E (c_X4_isEndOfRun l D T ad hN (sF st (14 + w) (f)) (w) hw (i) (by omega) (by rw [sF_1]; omega) (by omega) (wat_b (by rw [sF_s]; exact a5))) gX4_becomeShorter_X4_isEndOfRun rfl rfl rfl (by decide +kernel) ⟨Nat.le_of_ble_eq_true rfl, Nat.le_of_ble_eq_true rfl⟩ (25 + w) (xg_word hw) rfl rfl rfl (Nat.le_of_ble_eq_true rfl) dX4_becomeShorter_25 rfl (fun z1 s2 q3 => ?_)
        obtain ⟨rfl, rfl⟩ := q3
        refine x_if_ne (tgt := 34) (q := 31) E dX4_becomeShorter_28 (by decide) rfl (by omega) (fun c28 => ?_) (fun c28 => ?_)
        · have e6 : eor f (st.1 (10 + w)) i := Classical.byContradiction (fun z => by rw [if_pos (e1.mpr z)] at c28; omega)
          have e7 : i + 1 < st.1 (10 + w) → st.2 (14 + w) i ≠ st.2 (14 + w) (i + 1) := fun z y => e6.elim (by omega) (fun x => x (by rw [a4 i (by omega), a4 (i + 1) (by omega)]; exact y))
          refine x_iload (q := 36) E dX4_becomeShorter_34 0 rfl rfl ?_
          refine x_iload (q := 38) E dX4_becomeShorter_36 5 rfl rfl ?_
          refine x_iconst (q := 39) E dX4_becomeShorter_38 rfl ?_
          refine x_iadd (q := 40) E dX4_becomeShorter_39 rfl ?_
          refine x_icmp_eq (tgt := 51) (q := 43) E dX4_becomeShorter_40 (by decide) rfl (by omega) (by omega) (fun c40 => ?_) (fun c40 => ?_)
          · refine x_iconst (q := 52) E dX4_becomeShorter_51 rfl ?_
            refine x_goto (tgt := 56) E dX4_becomeShorter_52 (by decide) ?_
            refine x_istore (q := 58) (lv' := [(6, .int (ii (1))), (4, .int (ii (u + 1))), (0, .ref (ad (25 + w))), (1, .int (ii (g0))), (2, .int (ii (st.1 (10 + w)))), (3, .int (ii (k))), (5, .int (ii (i)))]) E dX4_becomeShorter_56 (by decide) rfl rfl ?_
            refine x_iload (q := 60) E dX4_becomeShorter_58 1 rfl rfl ?_
            refine x_iload_n (q := 61) E dX4_becomeShorter_60 3 rfl rfl ?_
            refine x_icmp_ge (tgt := 69) (q := 64) E dX4_becomeShorter_61 (by decide) rfl (by omega) (by omega) (fun c61 => ?_) (fun c61 => ?_)
            · refine x_aload_n (q := 70) E dX4_becomeShorter_69 2 rfl rfl ?_
              refine x_iload_n (q := 71) E dX4_becomeShorter_70 5 rfl rfl ?_
              refine x_iload (q := 73) E dX4_becomeShorter_71 1 rfl rfl ?_
              refine x_callVv (q := 76) (n := 2) (As := [.int (ii (k)), .int (ii (u + 1))]) (r := []) E (c_X4_change l D T ad hN (sF st (14 + w) (f)) (w) hw (k) (by omega) (u + 1) (by omega) (by omega)) gX4_becomeShorter_X4_change rfl rfl rfl (by decide +kernel) ⟨Nat.le_of_ble_eq_true rfl, Nat.le_of_ble_eq_true rfl⟩ (25 + w) (xg_word hw) rfl rfl rfl (Nat.le_of_ble_eq_true rfl) dX4_becomeShorter_73 rfl (fun s5 q6 => ?_)
              obtain rfl := q6
              refine x_iinc (q := 79) (k := 5) (lv' := [(3, .int (ii (k + 1))), (6, .int (ii (1))), (4, .int (ii (u + 1))), (0, .ref (ad (25 + w))), (1, .int (ii (g0))), (2, .int (ii (st.1 (10 + w)))), (5, .int (ii (i)))]) E dX4_becomeShorter_76 rfl (by decide) rfl rfl ?_
              refine x_iconst (q := 80) E dX4_becomeShorter_79 rfl ?_
              refine x_istore (q := 82) (lv' := [(4, .int (ii (0))), (3, .int (ii (k + 1))), (6, .int (ii (1))), (0, .ref (ad (25 + w))), (1, .int (ii (g0))), (2, .int (ii (st.1 (10 + w)))), (5, .int (ii (i)))]) E dX4_becomeShorter_80 (by decide) rfl rfl ?_
              refine x_iinc (q := 85) (k := 6) (lv' := [(5, .int (ii (i + 1))), (4, .int (ii (0))), (3, .int (ii (k + 1))), (6, .int (ii (1))), (0, .ref (ad (25 + w))), (1, .int (ii (g0))), (2, .int (ii (st.1 (10 + w))))]) E dX4_becomeShorter_82 rfl (by decide) rfl rfl ?_
              refine x_goto (tgt := 13) E dX4_becomeShorter_85 (by decide) ?_
              refine x_st E (st' := (sF st (14 + w) (zup (f) (k) (u + 1)))) (by refine Prod.ext (funext fun k9 => ?_) (funext fun q9 => ?_) <;> simp only [sG_1, sG_2, sA_1, sA_2, sF_1, sF_2, reduceIte] <;> (repeat' split) <;> first | rfl | omega | (subst_vars; first | rfl | omega) | simp_all) ?_
              refine x_lv E (lv' := [(0, .ref (ad (25 + w))), (1, .int (ii (g0))), (2, .int (ii (st.1 (10 + w)))), (3, .int (ii (k + 1))), (4, .int (ii (0))), (5, .int (ii (i + 1)))]) [4, 5, 6, 2, 1, 0] rfl ?_
              exact ih13 (k + 1) (0) (i + 1) (zup (f) (k) (u + 1)) (by omega) (by omega) (by omega) (by omega) (fun j hj => by rw [zup_ne _ _ (by omega)]; exact a4 j (by omega)) (zup_b a5 (by omega) (by omega)) (fun h => bs_k (a6 (by omega)) (by omega) (by omega) (by omega) (e7 (by omega)) (by omega)) (fun h => by rw [← h]; exact bs_ke (a6 (by omega)) (by omega) (by omega))
            · refine x_iload (q := 66) E dX4_becomeShorter_64 0 rfl rfl ?_
              refine x_if_ne (tgt := 79) (q := 69) E dX4_becomeShorter_66 (by decide) rfl (by omega) (fun _ => ?_) (fun h9 => absurd h9 (by decide))
              refine x_iconst (q := 80) E dX4_becomeShorter_79 rfl ?_
              refine x_istore (q := 82) (lv' := [(4, .int (ii (0))), (6, .int (ii (1))), (0, .ref (ad (25 + w))), (1, .int (ii (g0))), (2, .int (ii (st.1 (10 + w)))), (3, .int (ii (k))), (5, .int (ii (i)))]) E dX4_becomeShorter_80 (by decide) rfl rfl ?_
              refine x_iinc (q := 85) (k := 6) (lv' := [(5, .int (ii (i + 1))), (4, .int (ii (0))), (6, .int (ii (1))), (0, .ref (ad (25 + w))), (1, .int (ii (g0))), (2, .int (ii (st.1 (10 + w)))), (3, .int (ii (k)))]) E dX4_becomeShorter_82 rfl (by decide) rfl rfl ?_
              refine x_goto (tgt := 13) E dX4_becomeShorter_85 (by decide) ?_
              refine x_lv E (lv' := [(0, .ref (ad (25 + w))), (1, .int (ii (g0))), (2, .int (ii (st.1 (10 + w)))), (3, .int (ii (k))), (4, .int (ii (0))), (5, .int (ii (i + 1)))]) [3, 4, 5, 6, 1, 0] rfl ?_
              exact ih13 (k) (0) (i + 1) (f) (by omega) (by omega) (by omega) (by omega) (a4) (a5) (fun h => bs_s (a6 (by omega)) (by omega) (by omega) (e7 (by omega)) (by omega) (by omega)) (fun h => by rw [← h]; exact bs_se (a6 (by omega)) (by omega))
          · refine x_iload (q := 45) E dX4_becomeShorter_43 5 rfl rfl ?_
            refine x_iconst (q := 46) E dX4_becomeShorter_45 rfl ?_
            refine x_iadd (q := 47) E dX4_becomeShorter_46 rfl ?_
            refine x_iload_n (q := 48) E dX4_becomeShorter_47 3 rfl rfl ?_
            refine x_icmp_ne (tgt := 55) (q := 51) E dX4_becomeShorter_48 (by decide) rfl (by omega) (by omega) (fun c48 => ?_) (fun c48 => ?_)
            · refine x_iconst (q := 56) E dX4_becomeShorter_55 rfl ?_
              refine x_istore (q := 58) (lv' := [(6, .int (ii (0))), (4, .int (ii (u + 1))), (0, .ref (ad (25 + w))), (1, .int (ii (g0))), (2, .int (ii (st.1 (10 + w)))), (3, .int (ii (k))), (5, .int (ii (i)))]) E dX4_becomeShorter_56 (by decide) rfl rfl ?_
              refine x_iload (q := 60) E dX4_becomeShorter_58 1 rfl rfl ?_
              refine x_iload_n (q := 61) E dX4_becomeShorter_60 3 rfl rfl ?_
              refine x_icmp_ge (tgt := 69) (q := 64) E dX4_becomeShorter_61 (by decide) rfl (by omega) (by omega) (fun c61 => ?_) (fun c61 => ?_)
              · refine x_aload_n (q := 70) E dX4_becomeShorter_69 2 rfl rfl ?_
                refine x_iload_n (q := 71) E dX4_becomeShorter_70 5 rfl rfl ?_
                refine x_iload (q := 73) E dX4_becomeShorter_71 1 rfl rfl ?_
                refine x_callVv (q := 76) (n := 2) (As := [.int (ii (k)), .int (ii (u + 1))]) (r := []) E (c_X4_change l D T ad hN (sF st (14 + w) (f)) (w) hw (k) (by omega) (u + 1) (by omega) (by omega)) gX4_becomeShorter_X4_change rfl rfl rfl (by decide +kernel) ⟨Nat.le_of_ble_eq_true rfl, Nat.le_of_ble_eq_true rfl⟩ (25 + w) (xg_word hw) rfl rfl rfl (Nat.le_of_ble_eq_true rfl) dX4_becomeShorter_73 rfl (fun s8 q9 => ?_)
                obtain rfl := q9
                refine x_iinc (q := 79) (k := 5) (lv' := [(3, .int (ii (k + 1))), (6, .int (ii (0))), (4, .int (ii (u + 1))), (0, .ref (ad (25 + w))), (1, .int (ii (g0))), (2, .int (ii (st.1 (10 + w)))), (5, .int (ii (i)))]) E dX4_becomeShorter_76 rfl (by decide) rfl rfl ?_
                refine x_iconst (q := 80) E dX4_becomeShorter_79 rfl ?_
                refine x_istore (q := 82) (lv' := [(4, .int (ii (0))), (3, .int (ii (k + 1))), (6, .int (ii (0))), (0, .ref (ad (25 + w))), (1, .int (ii (g0))), (2, .int (ii (st.1 (10 + w)))), (5, .int (ii (i)))]) E dX4_becomeShorter_80 (by decide) rfl rfl ?_
                refine x_iinc (q := 85) (k := 6) (lv' := [(5, .int (ii (i + 1))), (4, .int (ii (0))), (3, .int (ii (k + 1))), (6, .int (ii (0))), (0, .ref (ad (25 + w))), (1, .int (ii (g0))), (2, .int (ii (st.1 (10 + w))))]) E dX4_becomeShorter_82 rfl (by decide) rfl rfl ?_
                refine x_goto (tgt := 13) E dX4_becomeShorter_85 (by decide) ?_
                refine x_st E (st' := (sF st (14 + w) (zup (f) (k) (u + 1)))) (by refine Prod.ext (funext fun k9 => ?_) (funext fun q9 => ?_) <;> simp only [sG_1, sG_2, sA_1, sA_2, sF_1, sF_2, reduceIte] <;> (repeat' split) <;> first | rfl | omega | (subst_vars; first | rfl | omega) | simp_all) ?_
                refine x_lv E (lv' := [(0, .ref (ad (25 + w))), (1, .int (ii (g0))), (2, .int (ii (st.1 (10 + w)))), (3, .int (ii (k + 1))), (4, .int (ii (0))), (5, .int (ii (i + 1)))]) [4, 5, 6, 2, 1, 0] rfl ?_
                exact ih13 (k + 1) (0) (i + 1) (zup (f) (k) (u + 1)) (by omega) (by omega) (by omega) (by omega) (fun j hj => by rw [zup_ne _ _ (by omega)]; exact a4 j (by omega)) (zup_b a5 (by omega) (by omega)) (fun h => bs_k (a6 (by omega)) (by omega) (by omega) (by omega) (e7 (by omega)) (by omega)) (fun h => by rw [← h]; exact bs_ke (a6 (by omega)) (by omega) (by omega))
              · refine x_iload (q := 66) E dX4_becomeShorter_64 0 rfl rfl ?_
                refine x_if_ne (tgt := 79) (q := 69) E dX4_becomeShorter_66 (by decide) rfl (by omega) (fun h9 => absurd h9 (by decide)) (fun _ => ?_)
                refine x_aload_n (q := 70) E dX4_becomeShorter_69 2 rfl rfl ?_
                refine x_iload_n (q := 71) E dX4_becomeShorter_70 5 rfl rfl ?_
                refine x_iload (q := 73) E dX4_becomeShorter_71 1 rfl rfl ?_
                refine x_callVv (q := 76) (n := 2) (As := [.int (ii (k)), .int (ii (u + 1))]) (r := []) E (c_X4_change l D T ad hN (sF st (14 + w) (f)) (w) hw (k) (by omega) (u + 1) (by omega) (by omega)) gX4_becomeShorter_X4_change rfl rfl rfl (by decide +kernel) ⟨Nat.le_of_ble_eq_true rfl, Nat.le_of_ble_eq_true rfl⟩ (25 + w) (xg_word hw) rfl rfl rfl (Nat.le_of_ble_eq_true rfl) dX4_becomeShorter_73 rfl (fun s11 q12 => ?_)
                obtain rfl := q12
                refine x_iinc (q := 79) (k := 5) (lv' := [(3, .int (ii (k + 1))), (6, .int (ii (0))), (4, .int (ii (u + 1))), (0, .ref (ad (25 + w))), (1, .int (ii (g0))), (2, .int (ii (st.1 (10 + w)))), (5, .int (ii (i)))]) E dX4_becomeShorter_76 rfl (by decide) rfl rfl ?_
                refine x_iconst (q := 80) E dX4_becomeShorter_79 rfl ?_
                refine x_istore (q := 82) (lv' := [(4, .int (ii (0))), (3, .int (ii (k + 1))), (6, .int (ii (0))), (0, .ref (ad (25 + w))), (1, .int (ii (g0))), (2, .int (ii (st.1 (10 + w)))), (5, .int (ii (i)))]) E dX4_becomeShorter_80 (by decide) rfl rfl ?_
                refine x_iinc (q := 85) (k := 6) (lv' := [(5, .int (ii (i + 1))), (4, .int (ii (0))), (3, .int (ii (k + 1))), (6, .int (ii (0))), (0, .ref (ad (25 + w))), (1, .int (ii (g0))), (2, .int (ii (st.1 (10 + w))))]) E dX4_becomeShorter_82 rfl (by decide) rfl rfl ?_
                refine x_goto (tgt := 13) E dX4_becomeShorter_85 (by decide) ?_
                refine x_st E (st' := (sF st (14 + w) (zup (f) (k) (u + 1)))) (by refine Prod.ext (funext fun k9 => ?_) (funext fun q9 => ?_) <;> simp only [sG_1, sG_2, sA_1, sA_2, sF_1, sF_2, reduceIte] <;> (repeat' split) <;> first | rfl | omega | (subst_vars; first | rfl | omega) | simp_all) ?_
                refine x_lv E (lv' := [(0, .ref (ad (25 + w))), (1, .int (ii (g0))), (2, .int (ii (st.1 (10 + w)))), (3, .int (ii (k + 1))), (4, .int (ii (0))), (5, .int (ii (i + 1)))]) [4, 5, 6, 2, 1, 0] rfl ?_
                exact ih13 (k + 1) (0) (i + 1) (zup (f) (k) (u + 1)) (by omega) (by omega) (by omega) (by omega) (fun j hj => by rw [zup_ne _ _ (by omega)]; exact a4 j (by omega)) (zup_b a5 (by omega) (by omega)) (fun h => bs_k (a6 (by omega)) (by omega) (by omega) (by omega) (e7 (by omega)) (by omega)) (fun h => by rw [← h]; exact bs_ke (a6 (by omega)) (by omega) (by omega))
            · refine x_iconst (q := 52) E dX4_becomeShorter_51 rfl ?_
              refine x_goto (tgt := 56) E dX4_becomeShorter_52 (by decide) ?_
              refine x_istore (q := 58) (lv' := [(6, .int (ii (1))), (4, .int (ii (u + 1))), (0, .ref (ad (25 + w))), (1, .int (ii (g0))), (2, .int (ii (st.1 (10 + w)))), (3, .int (ii (k))), (5, .int (ii (i)))]) E dX4_becomeShorter_56 (by decide) rfl rfl ?_
              refine x_iload (q := 60) E dX4_becomeShorter_58 1 rfl rfl ?_
              refine x_iload_n (q := 61) E dX4_becomeShorter_60 3 rfl rfl ?_
              refine x_icmp_ge (tgt := 69) (q := 64) E dX4_becomeShorter_61 (by decide) rfl (by omega) (by omega) (fun c61 => ?_) (fun c61 => ?_)
              · refine x_aload_n (q := 70) E dX4_becomeShorter_69 2 rfl rfl ?_
                refine x_iload_n (q := 71) E dX4_becomeShorter_70 5 rfl rfl ?_
                refine x_iload (q := 73) E dX4_becomeShorter_71 1 rfl rfl ?_
                refine x_callVv (q := 76) (n := 2) (As := [.int (ii (k)), .int (ii (u + 1))]) (r := []) E (c_X4_change l D T ad hN (sF st (14 + w) (f)) (w) hw (k) (by omega) (u + 1) (by omega) (by omega)) gX4_becomeShorter_X4_change rfl rfl rfl (by decide +kernel) ⟨Nat.le_of_ble_eq_true rfl, Nat.le_of_ble_eq_true rfl⟩ (25 + w) (xg_word hw) rfl rfl rfl (Nat.le_of_ble_eq_true rfl) dX4_becomeShorter_73 rfl (fun s14 q15 => ?_)
                obtain rfl := q15
                refine x_iinc (q := 79) (k := 5) (lv' := [(3, .int (ii (k + 1))), (6, .int (ii (1))), (4, .int (ii (u + 1))), (0, .ref (ad (25 + w))), (1, .int (ii (g0))), (2, .int (ii (st.1 (10 + w)))), (5, .int (ii (i)))]) E dX4_becomeShorter_76 rfl (by decide) rfl rfl ?_
                refine x_iconst (q := 80) E dX4_becomeShorter_79 rfl ?_
                refine x_istore (q := 82) (lv' := [(4, .int (ii (0))), (3, .int (ii (k + 1))), (6, .int (ii (1))), (0, .ref (ad (25 + w))), (1, .int (ii (g0))), (2, .int (ii (st.1 (10 + w)))), (5, .int (ii (i)))]) E dX4_becomeShorter_80 (by decide) rfl rfl ?_
                refine x_iinc (q := 85) (k := 6) (lv' := [(5, .int (ii (i + 1))), (4, .int (ii (0))), (3, .int (ii (k + 1))), (6, .int (ii (1))), (0, .ref (ad (25 + w))), (1, .int (ii (g0))), (2, .int (ii (st.1 (10 + w))))]) E dX4_becomeShorter_82 rfl (by decide) rfl rfl ?_
                refine x_goto (tgt := 13) E dX4_becomeShorter_85 (by decide) ?_
                refine x_st E (st' := (sF st (14 + w) (zup (f) (k) (u + 1)))) (by refine Prod.ext (funext fun k9 => ?_) (funext fun q9 => ?_) <;> simp only [sG_1, sG_2, sA_1, sA_2, sF_1, sF_2, reduceIte] <;> (repeat' split) <;> first | rfl | omega | (subst_vars; first | rfl | omega) | simp_all) ?_
                refine x_lv E (lv' := [(0, .ref (ad (25 + w))), (1, .int (ii (g0))), (2, .int (ii (st.1 (10 + w)))), (3, .int (ii (k + 1))), (4, .int (ii (0))), (5, .int (ii (i + 1)))]) [4, 5, 6, 2, 1, 0] rfl ?_
                exact ih13 (k + 1) (0) (i + 1) (zup (f) (k) (u + 1)) (by omega) (by omega) (by omega) (by omega) (fun j hj => by rw [zup_ne _ _ (by omega)]; exact a4 j (by omega)) (zup_b a5 (by omega) (by omega)) (fun h => bs_k (a6 (by omega)) (by omega) (by omega) (by omega) (e7 (by omega)) (by omega)) (fun h => by rw [← h]; exact bs_ke (a6 (by omega)) (by omega) (by omega))
              · refine x_iload (q := 66) E dX4_becomeShorter_64 0 rfl rfl ?_
                refine x_if_ne (tgt := 79) (q := 69) E dX4_becomeShorter_66 (by decide) rfl (by omega) (fun _ => ?_) (fun h9 => absurd h9 (by decide))
                refine x_iconst (q := 80) E dX4_becomeShorter_79 rfl ?_
                refine x_istore (q := 82) (lv' := [(4, .int (ii (0))), (6, .int (ii (1))), (0, .ref (ad (25 + w))), (1, .int (ii (g0))), (2, .int (ii (st.1 (10 + w)))), (3, .int (ii (k))), (5, .int (ii (i)))]) E dX4_becomeShorter_80 (by decide) rfl rfl ?_
                refine x_iinc (q := 85) (k := 6) (lv' := [(5, .int (ii (i + 1))), (4, .int (ii (0))), (6, .int (ii (1))), (0, .ref (ad (25 + w))), (1, .int (ii (g0))), (2, .int (ii (st.1 (10 + w)))), (3, .int (ii (k)))]) E dX4_becomeShorter_82 rfl (by decide) rfl rfl ?_
                refine x_goto (tgt := 13) E dX4_becomeShorter_85 (by decide) ?_
                refine x_lv E (lv' := [(0, .ref (ad (25 + w))), (1, .int (ii (g0))), (2, .int (ii (st.1 (10 + w)))), (3, .int (ii (k))), (4, .int (ii (0))), (5, .int (ii (i + 1)))]) [3, 4, 5, 6, 1, 0] rfl ?_
                exact ih13 (k) (0) (i + 1) (f) (by omega) (by omega) (by omega) (by omega) (a4) (a5) (fun h => bs_s (a6 (by omega)) (by omega) (by omega) (e7 (by omega)) (by omega) (by omega)) (fun h => by rw [← h]; exact bs_se (a6 (by omega)) (by omega))
        · have e6 : ¬ eor f (st.1 (10 + w)) i := e1.mp (Classical.byContradiction (fun z => by rw [if_neg z] at c28; omega))
          have e8 : ¬ i + 1 = st.1 (10 + w) := fun z => e6 (Or.inl z)
          have e9 : i + 1 < st.1 (10 + w) → st.2 (14 + w) i = st.2 (14 + w) (i + 1) := fun z => by rw [← a4 i (by omega), ← a4 (i + 1) (by omega)]; exact Classical.byContradiction (fun y => e6 (Or.inr y))
          refine x_goto (tgt := 82) E dX4_becomeShorter_31 (by decide) ?_
          refine x_iinc (q := 85) (k := 5) (lv' := [(5, .int (ii (i + 1))), (4, .int (ii (u + 1))), (0, .ref (ad (25 + w))), (1, .int (ii (g0))), (2, .int (ii (st.1 (10 + w)))), (3, .int (ii (k)))]) E dX4_becomeShorter_82 rfl (by decide) rfl rfl ?_
          refine x_goto (tgt := 13) E dX4_becomeShorter_85 (by decide) ?_
          refine x_lv E (lv' := [(0, .ref (ad (25 + w))), (1, .int (ii (g0))), (2, .int (ii (st.1 (10 + w)))), (3, .int (ii (k))), (4, .int (ii (u + 1))), (5, .int (ii (i + 1)))]) [2, 3, 4, 5, 1, 0] rfl ?_
          exact ih13 (k) (u + 1) (i + 1) (f) (by omega) (by omega) (by omega) (by omega) (a4) (a5) (fun h => bs_n (a6 (by omega)) (by omega) (e9 (by omega))) (fun h => absurd h e8)
  refine x_lv E (lv' := [(0, .ref (ad (25 + w))), (1, .int (ii (g0))), (2, .int (ii (st.1 (10 + w)))), (3, .int (ii (0))), (4, .int (ii (0))), (5, .int (ii (0)))]) [4, 5, 3, 2, 1, 0] rfl ?_
  refine x_st E (st' := (sF st (14 + w) (st.2 (14 + w)))) (by refine Prod.ext (funext fun k9 => ?_) (funext fun q9 => ?_) <;> simp only [sG_1, sG_2, sA_1, sA_2, sF_1, sF_2, reduceIte] <;> (repeat' split) <;> first | rfl | omega | (subst_vars; first | rfl | omega) | simp_all) ?_
  exact L13 _ (0) (0) (0) (st.2 (14 + w)) (Nat.lt_succ_self _) (by omega) (by omega) (by omega) (fun _ _ => rfl) (hb) (fun _ => bs_0 g0) (fun h => by rw [← h]; rfl)

theorem iX3_takesSeat_X3 : ∀ w ∈ wsX30, w ∈ wsX3_takesSeat := by decide +kernel
set_option maxRecDepth 100000 in
set_option maxHeartbeats 4000000 in
theorem c_X3_takesSeat (l : Launch) (D : va_G) (T : Nat → ClassId) (ad : Nat → Nat) (hN : ∀ i j, i < 33 → j < 33 → ad i = ad j → i = j) (st : St_) (x : Int) (hx : 0 < x ∧ x < 4611686018427387904) (Kp : Int → Prop) (c0 : Int) (hT : TB HH (st.2 17) Kp c0) (hc : c0 < 4096) (hK : ∀ y, Kp y → y < 4611686018427387904) : CXi l yX3_takesSeat wsX3_takesSeat (rmX 0 0) [.ref (ad 31), .long (jj (x))] D (tyX T) (XW T ad) (alX ad) st (fun z st2 => ∃ g : Int → Int, st2 = sF st 17 g ∧ z = ind (¬ Kp x) ∧ TB HH g (fun y => Kp y ∨ y = x) (c0 + ind (¬ Kp x))) := by
  refine mk_z (cc := cX3_takesSeat) (nL := 5) rfl rfl (XW_ok hN) (Nat.le_of_ble_eq_true rfl) [(0, .ref (ad 31)), (1, .long (jj (x)))] rfl (fun p e s m args below meth c A Q E RET => ?_)
  have hhb := hsh_b ((x) * (-7046029254386353131))
  have hH := HH_b x
  have hTb : ∀ s : Int, 0 ≤ s → s < 4096 → 0 ≤ st.2 17 s ∧ st.2 17 s < 4611686018427387904 := by
    intro s h0 h1
    by_cases hz : st.2 17 s = 0
    · omega
    · have := hT.1 s h0 h1 hz; have h3 := (hT.2.1 _ this).1; have h4 := hK _ this; omega
  refine x_lload_n (q := 1) E dX3_takesSeat_0 1 rfl rfl ?_
  refine x_ldc2 (q := 4) (v := -7046029254386353131) (z := -7046029254386353131) E (by decide +kernel) (by decide) dX3_takesSeat_1 rfl ?_
  refine x_lmul (q := 5) E dX3_takesSeat_4 rfl ?_
  refine x_bipush (q := 7) E dX3_takesSeat_5 (by decide) rfl ?_
  refine x_lushr (q := 8) E dX3_takesSeat_7 rfl ?_
  refine x_l2i (q := 9) E dX3_takesSeat_8 (by omega) rfl ?_
  refine x_istore_n (q := 10) (lv' := [(3, .int (ii (hsh ((x) * (-7046029254386353131))))), (0, .ref (ad 31)), (1, .long (jj (x)))]) E dX3_takesSeat_9 (by decide) rfl rfl ?_
  refine x_iconst (q := 11) E dX3_takesSeat_10 rfl ?_
  refine x_istore (q := 13) (lv' := [(4, .int (ii (0))), (3, .int (ii (hsh ((x) * (-7046029254386353131))))), (0, .ref (ad 31)), (1, .long (jj (x)))]) E dX3_takesSeat_11 (by decide) rfl rfl ?_
  have L13 : ∀ (n : Nat) (v : Int) (t : Int), (4096 - t).toNat < n → (0 ≤ t ∧ t ≤ 4096) → (v = (HH x + t) % 4096) → (∀ e : Int, 0 ≤ e → e < t → st.2 17 ((HH x + e) % 4096) ≠ 0 ∧ st.2 17 ((HH x + e) % 4096) ≠ x) → XJ p l e (rmX 0 0) s m args below meth c D (XW T ad) A 5 Q 0 0 st 13 [(0, .ref (ad 31)), (1, .long (jj (x))), (3, .int (ii (v))), (4, .int (ii (t)))] [] := by
    intro n
    induction n with
    | zero => intro v t hn; exact absurd hn (Nat.not_lt_zero _)
    | succ n ih13 =>
      intro v t hn13 a1 a2 a3
      have e1 : t < 4096 → 0 ≤ st.2 17 v ∧ st.2 17 v < 4611686018427387904 := fun _ => hTb v (by omega) (by omega)
      refine x_iload (q := 15) E dX3_takesSeat_13 3 rfl rfl ?_
      refine x_sipush (q := 18) E dX3_takesSeat_15 (by decide) rfl ?_
      refine x_icmp_ge (tgt := 92) (q := 21) E dX3_takesSeat_18 (by decide) rfl (by omega) (by omega) (fun c18 => ?_) (fun c18 => ?_)
      · refine x_iconst (q := 93) E dX3_takesSeat_92 rfl ?_
        exact RET _ _ _ _ dX3_takesSeat_93 (by omega) ((TB_full hT hc hH (fun e h0 h1 => (a3 e h0 (by omega)).1)).elim)
      · refine x_iload_n (q := 22) E dX3_takesSeat_21 2 rfl rfl ?_
        refine x_if_lt (tgt := 34) (q := 25) E dX3_takesSeat_22 (by decide) rfl (by omega) (fun c22 => ?_) (fun c22 => ?_)
        · exfalso; omega
        · refine x_iload_n (q := 26) E dX3_takesSeat_25 2 rfl rfl ?_
          refine x_aload_n (q := 27) E dX3_takesSeat_26 0 rfl rfl ?_
          refine x_get (q := 30) E iX3_takesSeat_X3 (31) rfl rfl 0 (by decide) (by decide +kernel) rfl dX3_takesSeat_27 rfl ?_
          refine x_alen (q := 31) E (32) rfl 2 rfl dX3_takesSeat_30 rfl ?_
          refine x_ti (show (((4096 : Nat) : Int)) = 4096 from rfl) ?_
          refine x_icmp_lt (tgt := 36) (q := 34) E dX3_takesSeat_31 (by decide) rfl (by omega) (by omega) (fun c31 => ?_) (fun c31 => ?_)
          · have e2 := e1 (by omega)
            refine x_aload_n (q := 37) E dX3_takesSeat_36 0 rfl rfl ?_
            refine x_get (q := 40) E iX3_takesSeat_X3 (31) rfl rfl 0 (by decide) (by decide +kernel) rfl dX3_takesSeat_37 rfl ?_
            refine x_iload_n (q := 41) E dX3_takesSeat_40 2 rfl rfl ?_
            refine x_lald (q := 42) (f := st.2 (17)) E (32) rfl 2 rfl (by omega) (by omega) (by decide) dX3_takesSeat_41 rfl ?_
            refine x_lload_n (q := 43) E dX3_takesSeat_42 1 rfl rfl ?_
            refine x_lcmp (q := 44) E dX3_takesSeat_43 (by omega) (by omega) rfl ?_
            refine x_if_ne (tgt := 49) (q := 47) E dX3_takesSeat_44 (by decide) rfl (by omega) (fun c44 => ?_) (fun c44 => ?_)
            · refine x_aload_n (q := 50) E dX3_takesSeat_49 0 rfl rfl ?_
              refine x_get (q := 53) E iX3_takesSeat_X3 (31) rfl rfl 0 (by decide) (by decide +kernel) rfl dX3_takesSeat_50 rfl ?_
              refine x_iload_n (q := 54) E dX3_takesSeat_53 2 rfl rfl ?_
              refine x_lald (q := 55) (f := st.2 (17)) E (32) rfl 2 rfl (by omega) (by omega) (by decide) dX3_takesSeat_54 rfl ?_
              refine x_lconst (q := 56) (z := 0) E dX3_takesSeat_55 (by decide) rfl ?_
              refine x_lcmp (q := 57) E dX3_takesSeat_56 (by omega) (by omega) rfl ?_
              refine x_if_ne (tgt := 69) (q := 60) E dX3_takesSeat_57 (by decide) rfl (by omega) (fun c57 => ?_) (fun c57 => ?_)
              · refine x_iload_n (q := 70) E dX3_takesSeat_69 2 rfl rfl ?_
                refine x_iconst (q := 71) E dX3_takesSeat_70 rfl ?_
                refine x_iadd (q := 72) E dX3_takesSeat_71 rfl ?_
                refine x_sipush (q := 75) E dX3_takesSeat_72 (by decide) rfl ?_
                refine x_icmp_ge (tgt := 84) (q := 78) E dX3_takesSeat_75 (by decide) rfl (by omega) (by omega) (fun c75 => ?_) (fun c75 => ?_)
                · refine x_iconst (q := 85) E dX3_takesSeat_84 rfl ?_
                  refine x_istore_n (q := 86) (lv' := [(3, .int (ii (0))), (0, .ref (ad 31)), (1, .long (jj (x))), (4, .int (ii (t)))]) E dX3_takesSeat_85 (by decide) rfl rfl ?_
                  refine x_iinc (q := 89) (k := 3) (lv' := [(4, .int (ii (t + 1))), (3, .int (ii (0))), (0, .ref (ad 31)), (1, .long (jj (x)))]) E dX3_takesSeat_86 rfl (by decide) rfl rfl ?_
                  refine x_goto (tgt := 13) E dX3_takesSeat_89 (by decide) ?_
                  refine x_lv E (lv' := [(0, .ref (ad 31)), (1, .long (jj (x))), (3, .int (ii (0))), (4, .int (ii (t + 1)))]) [2, 3, 1, 0] rfl ?_
                  exact ih13 (0) (t + 1) (by omega) (by omega) (by omega) (fun e h0 h1 => if he : e = t then (by rw [he, ← a2]; constructor <;> omega) else a3 e h0 (by omega))
                · refine x_iload_n (q := 79) E dX3_takesSeat_78 2 rfl rfl ?_
                  refine x_iconst (q := 80) E dX3_takesSeat_79 rfl ?_
                  refine x_iadd (q := 81) E dX3_takesSeat_80 rfl ?_
                  refine x_goto (tgt := 85) E dX3_takesSeat_81 (by decide) ?_
                  refine x_istore_n (q := 86) (lv' := [(3, .int (ii ((v) + (1)))), (0, .ref (ad 31)), (1, .long (jj (x))), (4, .int (ii (t)))]) E dX3_takesSeat_85 (by decide) rfl rfl ?_
                  refine x_iinc (q := 89) (k := 3) (lv' := [(4, .int (ii (t + 1))), (3, .int (ii ((v) + (1)))), (0, .ref (ad 31)), (1, .long (jj (x)))]) E dX3_takesSeat_86 rfl (by decide) rfl rfl ?_
                  refine x_goto (tgt := 13) E dX3_takesSeat_89 (by decide) ?_
                  refine x_lv E (lv' := [(0, .ref (ad 31)), (1, .long (jj (x))), (3, .int (ii ((v) + (1)))), (4, .int (ii (t + 1)))]) [2, 3, 1, 0] rfl ?_
                  exact ih13 ((v) + (1)) (t + 1) (by omega) (by omega) (by omega) (fun e h0 h1 => if he : e = t then (by rw [he, ← a2]; constructor <;> omega) else a3 e h0 (by omega))
              · have e3 : st.2 17 v = 0 := by omega
                have e4 : ¬ Kp x := TB_out hT hH (t := t) (by omega) (fun e h0 h1 => (a3 e h0 h1).2) (by rw [← a2]; exact e3)
                refine x_aload_n (q := 61) E dX3_takesSeat_60 0 rfl rfl ?_
                refine x_get (q := 64) E iX3_takesSeat_X3 (31) rfl rfl 0 (by decide) (by decide +kernel) rfl dX3_takesSeat_61 rfl ?_
                refine x_iload_n (q := 65) E dX3_takesSeat_64 2 rfl rfl ?_
                refine x_lload_n (q := 66) E dX3_takesSeat_65 1 rfl rfl ?_
                refine x_last (q := 67) (st' := (sA st (17) (v) (x))) (f := st.2 (17)) E (32) rfl 2 rfl (by omega) (by omega) (by decide) dX3_takesSeat_66 (xs_seat _ _) rfl ?_
                refine x_iconst (q := 68) E dX3_takesSeat_67 rfl ?_
                exact RET _ _ _ _ dX3_takesSeat_68 (by omega) (⟨zup (st.2 17) v x, rfl, (ind_t e4).symm, by rw [ind_t e4]; exact TB_put hT (by omega) (by omega) e3 (by omega) (fun e h0 h1 => by rw [show HH x = HH x from rfl]; exact (a3 e h0 (by omega)).1)⟩)
            · have e3 : st.2 17 v = x := by omega
              have e4 : Kp x := by rw [← e3]; exact hT.1 v (by omega) (by omega) (by omega)
              refine x_iconst (q := 48) E dX3_takesSeat_47 rfl ?_
              exact RET _ _ _ _ dX3_takesSeat_48 (by omega) (⟨st.2 17, (sF_id st 17).symm, (ind_f (fun z => z e4)).symm, TB_iff hT (fun y => ⟨Or.inl, fun z => z.elim (fun w => w) (fun w => by rw [w]; exact e4)⟩) (by rw [ind_f (fun z => z e4)]; omega)⟩)
          · exfalso; omega
  refine x_lv E (lv' := [(0, .ref (ad 31)), (1, .long (jj (x))), (3, .int (ii (hsh ((x) * (-7046029254386353131))))), (4, .int (ii (0)))]) [2, 3, 1, 0] rfl ?_
  exact L13 _ (hsh ((x) * (-7046029254386353131))) (0) (Nat.lt_succ_self _) (by omega) (by rw [show HH x = hsh ((x) * (-7046029254386353131)) from rfl]; omega) (fun e h0 h1 => absurd h1 (by omega))

theorem iX3_unlikeWithin_X3 : ∀ w ∈ wsX30, w ∈ wsX3_unlikeWithin := by decide +kernel
set_option maxRecDepth 100000 in
set_option maxHeartbeats 4000000 in
theorem c_X3_unlikeWithin (l : Launch) (D : va_G) (T : Nat → ClassId) (ad : Nat → Nat) (hN : ∀ i j, i < 33 → j < 33 → ad i = ad j → i = j) (st : St_) (i : Nat) (hi : i < 3) (m0 : Int) (bm0 : -2147483648 ≤ m0 ∧ m0 < 2147483648) (n0 : Int) (bn0 : -2147483648 ≤ n0 ∧ n0 < 2147483648) (hm : 0 ≤ st.1 (7 + i) ∧ st.1 (7 + i) ≤ 100001) (hfb : ∀ k : Int, 0 ≤ k → k < st.1 (7 + i) → 1 ≤ st.2 (5 + i) k ∧ st.2 (5 + i) k ≤ 6) (hn0 : 0 ≤ n0 ∧ n0 ≤ 2000 ∧ n0 ≤ st.1 (7 + i)) (hm0 : 1 ≤ m0 ∧ m0 ≤ 20) : CXi l yX3_unlikeWithin wsX3_unlikeWithin (rmX 1 24) [.ref (ad 31), .ref (ad (13 + i)), .int (ii (m0)), .int (ii (n0))] D (tyX T) (XW T ad) (alX ad) st (fun z st2 => ∃ g : Int → Int, st2 = sF st 17 g ∧ z = unl (st.2 (5 + i)) m0 (n0 - m0 + 1)) := by
  refine mk_i (cc := cX3_unlikeWithin) (nL := 10) rfl rfl (XW_ok hN) (Nat.le_of_ble_eq_true rfl) [(0, .ref (ad 31)), (1, .ref (ad (13 + i))), (2, .int (ii (m0))), (3, .int (ii (n0)))] rfl (fun p e s m args below meth c A Q E RET => ?_)
  have p1 := pw_8 m0.toNat (by omega)
  have p2 := p1.1
  have p3 := p1.2.1
  refine x_iconst (q := 1) E dX3_unlikeWithin_0 rfl ?_
  refine x_istore (q := 3) (lv' := [(4, .int (ii (0))), (0, .ref (ad 31)), (1, .ref (ad (13 + i))), (2, .int (ii (m0))), (3, .int (ii (n0)))]) E dX3_unlikeWithin_1 (by decide) rfl rfl ?_
  have L3 : ∀ (n : Nat) (j : Int) (g : Int → Int), (4096 - j).toNat < n → (0 ≤ j ∧ j ≤ 4096) → (∀ s : Int, 0 ≤ s → s < j → g s = 0) → XJ p l e (rmX 1 24) s m args below meth c D (XW T ad) A 10 Q 0 0 (sF st (17) (g)) 3 [(0, .ref (ad 31)), (1, .ref (ad (13 + i))), (2, .int (ii (m0))), (3, .int (ii (n0))), (4, .int (ii (j)))] [] := by
    intro n
    induction n with
    | zero => intro j g hn; exact absurd hn (Nat.not_lt_zero _)
    | succ n ih3 =>
      intro j g hn3 b1 b2
      refine x_iload (q := 5) E dX3_unlikeWithin_3 4 rfl rfl ?_
      refine x_aload_n (q := 6) E dX3_unlikeWithin_5 0 rfl rfl ?_
      refine x_get (q := 9) E iX3_unlikeWithin_X3 (31) rfl rfl 0 (by decide) (by decide +kernel) rfl dX3_unlikeWithin_6 rfl ?_
      refine x_alen (q := 10) E (32) rfl 2 rfl dX3_unlikeWithin_9 rfl ?_
      refine x_ti (show (((4096 : Nat) : Int)) = 4096 from rfl) ?_
      refine x_icmp_ge (tgt := 27) (q := 13) E dX3_unlikeWithin_10 (by decide) rfl (by omega) (by omega) (fun c10 => ?_) (fun c10 => ?_)
      · refine x_iconst (q := 28) E dX3_unlikeWithin_27 rfl ?_
        refine x_istore (q := 30) (lv' := [(4, .int (ii (0))), (0, .ref (ad 31)), (1, .ref (ad (13 + i))), (2, .int (ii (m0))), (3, .int (ii (n0)))]) E dX3_unlikeWithin_28 (by decide) rfl rfl ?_
        refine x_lconst (q := 31) (z := 0) E dX3_unlikeWithin_30 (by decide) rfl ?_
        refine x_lstore (q := 33) (lv' := [(5, .long (jj (0))), (4, .int (ii (0))), (0, .ref (ad 31)), (1, .ref (ad (13 + i))), (2, .int (ii (m0))), (3, .int (ii (n0)))]) E dX3_unlikeWithin_31 (by decide) rfl rfl ?_
        refine x_lconst (q := 34) (z := 1) E dX3_unlikeWithin_33 (by decide) rfl ?_
        refine x_iconst (q := 35) E dX3_unlikeWithin_34 rfl ?_
        refine x_iload_n (q := 36) E dX3_unlikeWithin_35 4 rfl rfl ?_
        refine x_imul (q := 37) E dX3_unlikeWithin_36 rfl ?_
        refine x_ti (show (3) * (m0) = ((3 * m0.toNat : Nat) : Int) from by omega) ?_
        refine x_lshl (q := 38) (z := pw 8 m0.toNat) E (3 * m0.toNat) (by omega) (by omega) (by rw [p1.2.2, Int.one_mul]) dX3_unlikeWithin_37 rfl ?_
        refine x_lconst (q := 39) (z := 1) E dX3_unlikeWithin_38 (by decide) rfl ?_
        refine x_lsub (q := 40) E dX3_unlikeWithin_39 rfl ?_
        refine x_lstore (q := 42) (lv' := [(7, .long (jj ((pw 8 m0.toNat) - (1)))), (5, .long (jj (0))), (4, .int (ii (0))), (0, .ref (ad 31)), (1, .ref (ad (13 + i))), (2, .int (ii (m0))), (3, .int (ii (n0)))]) E dX3_unlikeWithin_40 (by decide) rfl rfl ?_
        refine x_iconst (q := 43) E dX3_unlikeWithin_42 rfl ?_
        refine x_istore (q := 45) (lv' := [(9, .int (ii (0))), (7, .long (jj ((pw 8 m0.toNat) - (1)))), (5, .long (jj (0))), (4, .int (ii (0))), (0, .ref (ad 31)), (1, .ref (ad (13 + i))), (2, .int (ii (m0))), (3, .int (ii (n0)))]) E dX3_unlikeWithin_43 (by decide) rfl rfl ?_
        have L45 : ∀ (n : Nat) (u : Int) (x : Int) (k : Int) (g2 : Int → Int), (n0 - k).toNat < n → (0 ≤ k ∧ k ≤ n0) → (u = unl (st.2 (5 + i)) m0 (k - m0 + 1)) → (x = if k < m0 then enc 8 (st.2 (5 + i)) 0 k else enc 8 (st.2 (5 + i)) (k - m0) m0) → (TB HH g2 (fun y => ∃ q : Int, 0 ≤ q ∧ q + m0 ≤ k ∧ y = enc 8 (st.2 (5 + i)) q m0) u) → XJ p l e (rmX 1 24) s m args below meth c D (XW T ad) A 10 Q 0 0 (sF st (17) (g2)) 45 [(0, .ref (ad 31)), (1, .ref (ad (13 + i))), (2, .int (ii (m0))), (3, .int (ii (n0))), (4, .int (ii (u))), (5, .long (jj (x))), (7, .long (jj ((pw 8 m0.toNat) - (1)))), (9, .int (ii (k)))] [] := by
          intro n
          induction n with
          | zero => intro u x k g2 hn; exact absurd hn (Nat.not_lt_zero _)
          | succ n ih45 =>
            intro u x k g2 hn45 a1 a2 a3 a4
            refine x_iload (q := 47) E dX3_unlikeWithin_45 7 rfl rfl ?_
            refine x_iload_n (q := 48) E dX3_unlikeWithin_47 3 rfl rfl ?_
            refine x_icmp_ge (tgt := 94) (q := 51) E dX3_unlikeWithin_48 (by decide) rfl (by omega) (by omega) (fun c48 => ?_) (fun c48 => ?_)
            · refine x_iload (q := 96) E dX3_unlikeWithin_94 4 rfl rfl ?_
              exact RET _ _ _ _ dX3_unlikeWithin_96 (⟨g2, rfl, by rw [a2]; exact congrArg _ (by omega)⟩)
            · have e1 : nat_ (sF st 17 g2) i k = st.2 (5 + i) k := by rw [nat_in (by omega) (by rw [sF_1]; omega) (by rw [sF_1]; omega), sF_n _ _ (by omega)]
              have e2 := hfb k (by omega) (by omega)
              have e3 : 0 ≤ x ∧ x < pw 8 m0.toNat := by
                by_cases hk : k < m0
                · rw [a3, if_pos hk]; have q1 := encP_b (b := 8) (Or.inl rfl) (f := (st.2 (5 + i))) (p := 0) k.toNat (fun t h0 h1 => hfb _ (by omega) (by omega)); have q2 := pw_mono m0.toNat (by omega) k.toNat (by omega) (by omega); show 0 ≤ encP 8 (st.2 (5 + i)) 0 k.toNat ∧ encP 8 (st.2 (5 + i)) 0 k.toNat < _; omega
                · rw [a3, if_neg hk]; have q1 := encP_b (b := 8) (Or.inl rfl) (f := (st.2 (5 + i))) (p := k - m0) m0.toNat (fun t h0 h1 => hfb _ (by omega) (by omega)); show 0 ≤ encP 8 (st.2 (5 + i)) (k - m0) m0.toNat ∧ encP 8 (st.2 (5 + i)) (k - m0) m0.toNat < _; omega
              have e5 : ((x) * 8 + (st.2 (5 + i) k)) % (pw 8 m0.toNat) = if k + 1 < m0 then enc 8 (st.2 (5 + i)) 0 (k + 1) else enc 8 (st.2 (5 + i)) (k + 1 - m0) m0 := by
                by_cases hk : k < m0
                · have q0 : (x) * 8 + (st.2 (5 + i) k) = enc 8 (st.2 (5 + i)) 0 (k + 1) := by rw [enc_s _ _ _ (by omega), a3, if_pos hk, Int.zero_add]
                  have q1 := encP_b (b := 8) (Or.inl rfl) (f := (st.2 (5 + i))) (p := 0) (k + 1).toNat (fun t h0 h1 => hfb _ (by omega) (by omega))
                  have q2 := pw_mono m0.toNat (by omega) (k + 1).toNat (by omega) (by omega)
                  have q3 : enc 8 (st.2 (5 + i)) 0 (k + 1) % (pw 8 m0.toNat) = enc 8 (st.2 (5 + i)) 0 (k + 1) := Int.emod_eq_of_lt q1.1 (by show encP 8 (st.2 (5 + i)) 0 (k + 1).toNat < _; omega)
                  rw [q0, q3]
                  by_cases hk2 : k + 1 < m0
                  · rw [if_pos hk2]
                  · rw [if_neg hk2, show k + 1 - m0 = 0 from by omega, show k + 1 = m0 from by omega]
                · have q1 := roll (f := (st.2 (5 + i))) (p := k - m0) (n := m0.toNat) (fun t h0 h1 => hfb _ (by omega) (by omega))
                  rw [show k - m0 + ((m0.toNat : Nat) : Int) = k from by omega] at q1
                  rw [if_neg (by omega), a3, if_neg hk, show k + 1 - m0 = k - m0 + 1 from by omega]
                  exact q1
              have e6 : m0 ≤ k + 1 → 0 < ((x) * 8 + (st.2 (5 + i) k)) % (pw 8 m0.toNat) ∧ ((x) * 8 + (st.2 (5 + i) k)) % (pw 8 m0.toNat) < pw 8 m0.toNat := by
                intro hk
                have q1 := encP_b (b := 8) (Or.inl rfl) (f := (st.2 (5 + i))) (p := k + 1 - m0) m0.toNat (fun t h0 h1 => hfb _ (by omega) (by omega))
                rw [e5, if_neg (by omega)]; show 0 < encP 8 (st.2 (5 + i)) (k + 1 - m0) m0.toNat ∧ encP 8 (st.2 (5 + i)) (k + 1 - m0) m0.toNat < _; omega
              have e8 := unl_b (st.2 (5 + i)) m0 (w := if 0 ≤ k - m0 + 1 then k - m0 + 1 else 0) (by split <;> omega)
              have e9 : 0 ≤ u ∧ u ≤ 2001 := by
                by_cases hk : 0 ≤ k - m0 + 1
                · rw [if_pos hk, ← a2] at e8; omega
                · rw [a2, unl_0 _ _ (by omega)]; omega
              refine x_lload (q := 53) E dX3_unlikeWithin_51 5 rfl rfl ?_
              refine x_iconst (q := 54) E dX3_unlikeWithin_53 rfl ?_
              refine x_lshl (q := 55) (z := (x) * 8) E (3) (by omega) (by omega) (rfl) dX3_unlikeWithin_54 rfl ?_
              refine x_aload_n (q := 56) E dX3_unlikeWithin_55 1 rfl rfl ?_
              refine x_iload (q := 58) E dX3_unlikeWithin_56 7 rfl rfl ?_
              refine x_callVi (q := 61) (n := 1) (As := [.int (ii (k))]) (r := [.long (jj ((x) * 8))]) E (c_X2_number l D T ad hN (sF st (17) (g2)) (i) hi (k) (by omega) (by rw [sF_1]; omega)) gX3_unlikeWithin_X2_number rfl rfl rfl (by decide +kernel) ⟨Nat.le_of_ble_eq_true rfl, Nat.le_of_ble_eq_true rfl⟩ (13 + i) (xg_row hi) rfl rfl rfl (Nat.le_of_ble_eq_true rfl) dX3_unlikeWithin_58 rfl (fun z1 s2 q3 => ?_)
              obtain ⟨rfl, rfl⟩ := q3
              refine x_ti e1 ?_
              refine x_i2l (q := 62) E dX3_unlikeWithin_61 (by omega) rfl ?_
              refine x_lor (q := 63) (a := (x)) E (by omega) (by omega) (by omega) (by omega) dX3_unlikeWithin_62 rfl ?_
              refine x_lload (q := 65) E dX3_unlikeWithin_63 6 rfl rfl ?_
              refine x_land (q := 66) (M := pw 8 m0.toNat) E (3 * m0.toNat) (by omega) (by omega) (by omega) (p1.2.2) dX3_unlikeWithin_65 rfl ?_
              refine x_lstore (q := 68) (lv' := [(5, .long (jj (((x) * 8 + (st.2 (5 + i) k)) % (pw 8 m0.toNat)))), (0, .ref (ad 31)), (1, .ref (ad (13 + i))), (2, .int (ii (m0))), (3, .int (ii (n0))), (4, .int (ii (u))), (7, .long (jj ((pw 8 m0.toNat) - (1)))), (9, .int (ii (k)))]) E dX3_unlikeWithin_66 (by decide) rfl rfl ?_
              refine x_iload (q := 70) E dX3_unlikeWithin_68 7 rfl rfl ?_
              refine x_iconst (q := 71) E dX3_unlikeWithin_70 rfl ?_
              refine x_iadd (q := 72) E dX3_unlikeWithin_71 rfl ?_
              refine x_iload_n (q := 73) E dX3_unlikeWithin_72 3 rfl rfl ?_
              refine x_icmp_lt (tgt := 88) (q := 76) E dX3_unlikeWithin_73 (by decide) rfl (by omega) (by omega) (fun c73 => ?_) (fun c73 => ?_)
              · refine x_iinc (q := 91) (k := 7) (lv' := [(9, .int (ii (k + 1))), (5, .long (jj (((x) * 8 + (st.2 (5 + i) k)) % (pw 8 m0.toNat)))), (0, .ref (ad 31)), (1, .ref (ad (13 + i))), (2, .int (ii (m0))), (3, .int (ii (n0))), (4, .int (ii (u))), (7, .long (jj ((pw 8 m0.toNat) - (1))))]) E dX3_unlikeWithin_88 rfl (by decide) rfl rfl ?_
                refine x_goto (tgt := 45) E dX3_unlikeWithin_91 (by decide) ?_
                refine x_lv E (lv' := [(0, .ref (ad 31)), (1, .ref (ad (13 + i))), (2, .int (ii (m0))), (3, .int (ii (n0))), (4, .int (ii (u))), (5, .long (jj (((x) * 8 + (st.2 (5 + i) k)) % (pw 8 m0.toNat)))), (7, .long (jj ((pw 8 m0.toNat) - (1)))), (9, .int (ii (k + 1)))]) [2, 3, 4, 5, 6, 1, 7, 0] rfl ?_
                exact ih45 (u) (((x) * 8 + (st.2 (5 + i) k)) % (pw 8 m0.toNat)) (k + 1) (g2) (by omega) (by omega) (by rw [a2, unl_0 _ _ (by omega), unl_0 _ _ (by omega)]) (e5) (TB_iff a4 (fun y => ⟨fun ⟨q, q1, q2, q3⟩ => ⟨q, q1, by omega, q3⟩, fun ⟨q, q1, q2, q3⟩ => ⟨q, q1, by omega, q3⟩⟩) rfl)
              · have e7 : ind (¬ ((fun y => ∃ q : Int, 0 ≤ q ∧ q + m0 ≤ k ∧ y = enc 8 (st.2 (5 + i)) q m0) (((x) * 8 + (st.2 (5 + i) k)) % (pw 8 m0.toNat)))) = ind (frsh (st.2 (5 + i)) m0 (k + 1 - m0)) := ind_c (by
                  constructor
                  · intro w q q1 q2 q3; exact w ⟨q, q1, by omega, by rw [e5, if_neg (by omega)]; exact ((enc_alk (Or.inl rfl) (by omega) (fun t h0 h1 => hfb _ (by omega) (by omega)) (fun t h0 h1 => hfb _ (by omega) (by omega))).mpr q3).symm⟩
                  · rintro w ⟨q, q1, q2, q3⟩; rw [e5, if_neg (by omega)] at q3; exact w q q1 (by omega) ((enc_alk (Or.inl rfl) (by omega) (fun t h0 h1 => hfb _ (by omega) (by omega)) (fun t h0 h1 => hfb _ (by omega) (by omega))).mp q3.symm))
                refine x_aload_n (q := 77) E dX3_unlikeWithin_76 1 rfl rfl ?_
                refine x_lload (q := 79) E dX3_unlikeWithin_77 0 rfl rfl ?_
                refine x_callVi (q := 82) (n := 1) (As := [.long (jj (((x) * 8 + (st.2 (5 + i) k)) % (pw 8 m0.toNat)))]) (r := []) E (c_X3_takesSeat l D T ad hN (sF st (17) (g2)) (((x) * 8 + (st.2 (5 + i) k)) % (pw 8 m0.toNat)) (by have := e6 (by omega); omega) (fun y => ∃ q : Int, 0 ≤ q ∧ q + m0 ≤ k ∧ y = enc 8 (st.2 (5 + i)) q m0) u (by rw [sF_s]; exact a4) (by omega) (fun y ⟨q, q1, q2, q3⟩ => by have q4 := encP_b (b := 8) (Or.inl rfl) (f := st.2 (5 + i)) (p := q) m0.toNat (fun t h0 h1 => hfb _ (by omega) (by omega)); rw [q3]; show encP 8 (st.2 (5 + i)) q m0.toNat < _; omega)) gX3_unlikeWithin_X3_takesSeat rfl rfl rfl (by decide +kernel) ⟨Nat.le_of_ble_eq_true rfl, Nat.le_of_ble_eq_true rfl⟩ (31) rfl rfl rfl rfl (Nat.le_of_ble_eq_true rfl) dX3_unlikeWithin_79 rfl (fun z4 s5 q6 => ?_)
                obtain ⟨g7, rfl, h18, h29⟩ := q6
                have g1 := h18
                have g2 := h29
                rw [e7] at g1 g2
                have g3 := ind_b (frsh (st.2 (5 + i)) m0 (k + 1 - m0))
                have g4 : unl (st.2 (5 + i)) m0 (k + 1 - m0 + 1) = u + ind (frsh (st.2 (5 + i)) m0 (k + 1 - m0)) := by rw [unl_s _ _ (by omega), a2, show k - m0 + 1 = k + 1 - m0 from by omega]
                have g5 := TB_iff (Kq := (fun y => ∃ q : Int, 0 ≤ q ∧ q + m0 ≤ k + 1 ∧ y = enc 8 (st.2 (5 + i)) q m0)) (d := u + ind (frsh (st.2 (5 + i)) m0 (k + 1 - m0))) g2 (fun y => ⟨fun w => w.elim (fun ⟨q, q1, q2, q3⟩ => ⟨q, q1, by omega, q3⟩) (fun w => ⟨k + 1 - m0, by omega, by omega, by rw [w, e5, if_neg (by omega)]⟩), fun ⟨q, q1, q2, q3⟩ => if hq : q + m0 ≤ k then Or.inl ⟨q, q1, hq, q3⟩ else Or.inr (by rw [q3, e5, if_neg (by omega), show q = k + 1 - m0 from by omega])⟩) rfl
                refine x_if_eq (tgt := 88) (q := 85) E dX3_unlikeWithin_82 (by decide) rfl (by omega) (fun c82 => ?_) (fun c82 => ?_)
                · refine x_iinc (q := 91) (k := 7) (lv' := [(9, .int (ii (k + 1))), (5, .long (jj (((x) * 8 + (st.2 (5 + i) k)) % (pw 8 m0.toNat)))), (0, .ref (ad 31)), (1, .ref (ad (13 + i))), (2, .int (ii (m0))), (3, .int (ii (n0))), (4, .int (ii (u))), (7, .long (jj ((pw 8 m0.toNat) - (1))))]) E dX3_unlikeWithin_88 rfl (by decide) rfl rfl ?_
                  refine x_goto (tgt := 45) E dX3_unlikeWithin_91 (by decide) ?_
                  refine x_st E (st' := (sF st (17) (g7))) (by refine Prod.ext (funext fun k9 => ?_) (funext fun q9 => ?_) <;> simp only [sG_1, sG_2, sA_1, sA_2, sF_1, sF_2, reduceIte] <;> (repeat' split) <;> first | rfl | omega | (subst_vars; first | rfl | omega) | simp_all) ?_
                  refine x_lv E (lv' := [(0, .ref (ad 31)), (1, .ref (ad (13 + i))), (2, .int (ii (m0))), (3, .int (ii (n0))), (4, .int (ii (u))), (5, .long (jj (((x) * 8 + (st.2 (5 + i) k)) % (pw 8 m0.toNat)))), (7, .long (jj ((pw 8 m0.toNat) - (1)))), (9, .int (ii (k + 1)))]) [2, 3, 4, 5, 6, 1, 7, 0] rfl ?_
                  exact ih45 (u) (((x) * 8 + (st.2 (5 + i) k)) % (pw 8 m0.toNat)) (k + 1) (g7) (by omega) (by omega) (by rw [show k + 1 - m0 + 1 = k + 1 - m0 + 1 from rfl, g4]; omega) (e5) (by have g6 : ind (frsh (st.2 (5 + i)) m0 (k + 1 - m0)) = 0 := (by omega); rw [g6, Int.add_zero] at g5; exact g5)
                · refine x_iinc (q := 88) (k := 5) (lv' := [(4, .int (ii (u + 1))), (5, .long (jj (((x) * 8 + (st.2 (5 + i) k)) % (pw 8 m0.toNat)))), (0, .ref (ad 31)), (1, .ref (ad (13 + i))), (2, .int (ii (m0))), (3, .int (ii (n0))), (7, .long (jj ((pw 8 m0.toNat) - (1)))), (9, .int (ii (k)))]) E dX3_unlikeWithin_85 rfl (by decide) rfl rfl ?_
                  refine x_iinc (q := 91) (k := 7) (lv' := [(9, .int (ii (k + 1))), (4, .int (ii (u + 1))), (5, .long (jj (((x) * 8 + (st.2 (5 + i) k)) % (pw 8 m0.toNat)))), (0, .ref (ad 31)), (1, .ref (ad (13 + i))), (2, .int (ii (m0))), (3, .int (ii (n0))), (7, .long (jj ((pw 8 m0.toNat) - (1))))]) E dX3_unlikeWithin_88 rfl (by decide) rfl rfl ?_
                  refine x_goto (tgt := 45) E dX3_unlikeWithin_91 (by decide) ?_
                  refine x_st E (st' := (sF st (17) (g7))) (by refine Prod.ext (funext fun k9 => ?_) (funext fun q9 => ?_) <;> simp only [sG_1, sG_2, sA_1, sA_2, sF_1, sF_2, reduceIte] <;> (repeat' split) <;> first | rfl | omega | (subst_vars; first | rfl | omega) | simp_all) ?_
                  refine x_lv E (lv' := [(0, .ref (ad 31)), (1, .ref (ad (13 + i))), (2, .int (ii (m0))), (3, .int (ii (n0))), (4, .int (ii (u + 1))), (5, .long (jj (((x) * 8 + (st.2 (5 + i) k)) % (pw 8 m0.toNat)))), (7, .long (jj ((pw 8 m0.toNat) - (1)))), (9, .int (ii (k + 1)))]) [3, 4, 5, 6, 1, 2, 7, 0] rfl ?_
                  exact ih45 (u + 1) (((x) * 8 + (st.2 (5 + i) k)) % (pw 8 m0.toNat)) (k + 1) (g7) (by omega) (by omega) (by rw [g4]; omega) (e5) (by have g6 : ind (frsh (st.2 (5 + i)) m0 (k + 1 - m0)) = 1 := (by omega); rw [g6] at g5; exact g5)
        refine x_lv E (lv' := [(0, .ref (ad 31)), (1, .ref (ad (13 + i))), (2, .int (ii (m0))), (3, .int (ii (n0))), (4, .int (ii (0))), (5, .long (jj (0))), (7, .long (jj ((pw 8 m0.toNat) - (1)))), (9, .int (ii (0)))]) [4, 5, 6, 7, 3, 2, 1, 0] rfl ?_
        exact L45 _ (0) (0) (0) (g) (Nat.lt_succ_self _) (by omega) (by rw [unl_0 _ _ (by omega)]) (by rw [if_pos (by omega)]; exact (enc_0 _ _ _).symm) (TB_iff (TB_0 HH (fun s h0 h1 => b2 s h0 (by omega))) (fun y => ⟨fun z => z.elim, fun ⟨q, q1, q2, q3⟩ => by omega⟩) rfl)
      · refine x_aload_n (q := 14) E dX3_unlikeWithin_13 0 rfl rfl ?_
        refine x_get (q := 17) E iX3_unlikeWithin_X3 (31) rfl rfl 0 (by decide) (by decide +kernel) rfl dX3_unlikeWithin_14 rfl ?_
        refine x_iload (q := 19) E dX3_unlikeWithin_17 4 rfl rfl ?_
        refine x_lconst (q := 20) (z := 0) E dX3_unlikeWithin_19 (by decide) rfl ?_
        refine x_last (q := 21) (st' := (sA (sF st (17) (g)) (17) (j) (0))) (f := (sF st (17) (g)).2 (17)) E (32) rfl 2 rfl (by omega) (by omega) (by decide) dX3_unlikeWithin_20 (xs_seat _ _) rfl ?_
        refine x_iinc (q := 24) (k := 4) (lv' := [(4, .int (ii (j + 1))), (0, .ref (ad 31)), (1, .ref (ad (13 + i))), (2, .int (ii (m0))), (3, .int (ii (n0)))]) E dX3_unlikeWithin_21 rfl (by decide) rfl rfl ?_
        refine x_goto (tgt := 3) E dX3_unlikeWithin_24 (by decide) ?_
        refine x_st E (st' := (sF st (17) (zup (g) (j) (0)))) (by refine Prod.ext (funext fun k9 => ?_) (funext fun q9 => ?_) <;> simp only [sG_1, sG_2, sA_1, sA_2, sF_1, sF_2, reduceIte] <;> (repeat' split) <;> first | rfl | omega | (subst_vars; first | rfl | omega) | simp_all) ?_
        refine x_lv E (lv' := [(0, .ref (ad 31)), (1, .ref (ad (13 + i))), (2, .int (ii (m0))), (3, .int (ii (n0))), (4, .int (ii (j + 1)))]) [1, 2, 3, 4, 0] rfl ?_
        exact ih3 (j + 1) (zup (g) (j) (0)) (by omega) (by omega) (fun s h0 h1 => if hs : s = j then (by rw [hs, zup_eq]) else (by rw [zup_ne _ _ hs]; exact b2 s h0 (by omega)))
  refine x_lv E (lv' := [(0, .ref (ad 31)), (1, .ref (ad (13 + i))), (2, .int (ii (m0))), (3, .int (ii (n0))), (4, .int (ii (0)))]) [1, 2, 3, 4, 0] rfl ?_
  refine x_st E (st' := (sF st (17) (st.2 (17)))) (by refine Prod.ext (funext fun k9 => ?_) (funext fun q9 => ?_) <;> simp only [sG_1, sG_2, sA_1, sA_2, sF_1, sF_2, reduceIte] <;> (repeat' split) <;> first | rfl | omega | (subst_vars; first | rfl | omega) | simp_all) ?_
  exact L3 _ (0) (st.2 (17)) (Nat.lt_succ_self _) (by omega) (fun s h0 h1 => absurd h1 (by omega))

