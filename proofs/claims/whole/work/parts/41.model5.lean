theorem iX6_depthOf_X6 : ∀ w ∈ wsX60, w ∈ wsX6_depthOf := by decide +kernel
set_option maxRecDepth 100000 in
set_option maxHeartbeats 4000000 in
theorem c_X6_depthOf (l : Launch) (D : va_G) (T : Nat → ClassId) (ad : Nat → Nat) (hN : ∀ i j, i < 13 → j < 13 → ad i = ad j → i = j) (st : St_) (g0 : Int) (bg0 : -2147483648 ≤ g0 ∧ g0 < 2147483648) (hs : 0 ≤ st.1 4 ∧ st.1 4 ≤ 60) (hb : ∀ j : Int, 0 ≤ j → j < st.1 4 → 0 ≤ st.2 8 j ∧ st.2 8 j ≤ 60) (hg : 2 ≤ g0 ∧ g0 ≤ 6) : CXi l yX6_depthOf wsX6_depthOf (rmX 1 24) [.ref (ad 0), .int (ii (g0))] D (tyX T) (MW T ad) (alM ad) st (fun z st2 => ∃ (k k5 : Int) (f t : Int → Int), st2 = sF (sF (sG (sG st 4 k) 5 k5) 8 f) 9 t ∧ z = dpt g0 (wl (st.2 8) (st.1 4)) ∧ -1 ≤ z ∧ z ≤ 60) := by
  refine mk_i (cc := cX6_depthOf) (nL := 4) rfl rfl (MW_ok hN) (Nat.le_of_ble_eq_true rfl) [(0, .ref (ad 0)), (1, .int (ii (g0)))] rfl (fun p e s m args below meth c A Q E RET => ?_)
  refine x_iconst (q := 1) E dX6_depthOf_0 rfl ?_
  refine x_istore_n (q := 2) (lv' := [(2, .int (ii (0))), (0, .ref (ad 0)), (1, .int (ii (g0)))]) E dX6_depthOf_1 (by decide) rfl rfl ?_
  have L2 : ∀ (n : Nat) (d : Int) (k : Int) (k5 : Int) (f : Int → Int) (t : Int → Int), (61 - d).toNat < n → (0 ≤ d ∧ 0 ≤ k ∧ k + d ≤ 60) → (∀ j : Int, 0 ≤ j → j < k → 0 ≤ f j ∧ f j ≤ 60) → (dpt g0 (wl (st.2 8) (st.1 4)) = (if dpt g0 (wl f k) = -1 then -1 else d + dpt g0 (wl f k))) → XJ p l e (rmX 1 24) s m args below meth c D (MW T ad) A 4 Q 0 0 (sF (sF (sG (sG st (4) (k)) (5) (k5)) (8) (f)) (9) (t)) 2 [(0, .ref (ad 0)), (1, .int (ii (g0))), (2, .int (ii (d)))] [] := by
    intro n
    induction n with
    | zero => intro d k k5 f t hn; exact absurd hn (Nat.not_lt_zero _)
    | succ n ih2 =>
      intro d k k5 f t hn2 a1 a3 a4
      have e7 : (sF (sF (sG (sG st (4) (k)) (5) (k5)) (8) (f)) (9) (t)).1 4 = k := by rw [sF_1, sF_1, sG_n _ _ (by omega), sG_s]
      have e8 : (sF (sF (sG (sG st (4) (k)) (5) (k5)) (8) (f)) (9) (t)).2 8 = f := by rw [sF_n _ _ (by omega), sF_s]
      refine x_aload_n (q := 3) E dX6_depthOf_2 0 rfl rfl ?_
      refine x_get (q := 6) E iX6_depthOf_X6 (0) rfl rfl 13 (by decide) (by decide +kernel) rfl dX6_depthOf_3 rfl ?_
      refine x_ti (show (sF (sF (sG (sG st (4) (k)) (5) (k5)) (8) (f)) (9) (t)).1 (4) = k by rw [sF_1, sF_1, sG_n _ _ (by omega), sG_s]) ?_
      refine x_if_le (tgt := 58) (q := 9) E dX6_depthOf_6 (by decide) rfl (by omega) (fun c6 => ?_) (fun c6 => ?_)
      · refine x_iload_n (q := 59) E dX6_depthOf_58 2 rfl rfl ?_
        exact RET _ _ _ _ dX6_depthOf_59 (⟨k, k5, f, t, rfl, by rw [a4, show k = 0 from by omega, wl_0, dpt_0, if_neg (by omega)]; omega, by omega, by omega⟩)
      · refine x_iconst (q := 10) E dX6_depthOf_9 rfl ?_
        refine x_istore_n (q := 11) (lv' := [(3, .int (ii (0))), (0, .ref (ad 0)), (1, .int (ii (g0))), (2, .int (ii (d)))]) E dX6_depthOf_10 (by decide) rfl rfl ?_
        have L11 : ∀ (n : Nat) (i : Int), (k - i).toNat < n → (0 ≤ i ∧ i ≤ k) → (∀ j : Int, 0 ≤ j → j < i → f j ≤ g0) → XJ p l e (rmX 1 24) s m args below meth c D (MW T ad) A 4 Q 0 0 (sF (sF (sG (sG st (4) (k)) (5) (k5)) (8) (f)) (9) (t)) 11 [(0, .ref (ad 0)), (1, .int (ii (g0))), (2, .int (ii (d))), (3, .int (ii (i)))] [] := by
          intro n
          induction n with
          | zero => intro i hn; exact absurd hn (Nat.not_lt_zero _)
          | succ n ih11 =>
            intro i hn11 b1 b2
            refine x_iload_n (q := 12) E dX6_depthOf_11 3 rfl rfl ?_
            refine x_aload_n (q := 13) E dX6_depthOf_12 0 rfl rfl ?_
            refine x_get (q := 16) E iX6_depthOf_X6 (0) rfl rfl 13 (by decide) (by decide +kernel) rfl dX6_depthOf_13 rfl ?_
            refine x_ti (show (sF (sF (sG (sG st (4) (k)) (5) (k5)) (8) (f)) (9) (t)).1 (4) = k by rw [sF_1, sF_1, sG_n _ _ (by omega), sG_s]) ?_
            refine x_icmp_ge (tgt := 37) (q := 19) E dX6_depthOf_16 (by decide) rfl (by omega) (by omega) (fun c16 => ?_) (fun c16 => ?_)
            · refine x_aload_n (q := 38) E dX6_depthOf_37 0 rfl rfl ?_
              refine x_callVi (q := 41) (n := 0) (As := []) (r := []) E (c_X6_measure l D T ad hN (sF (sF (sG (sG st (4) (k)) (5) (k5)) (8) (f)) (9) (t)) (by rw [e7]; omega) (by rw [e7, e8]; intro j j0 j1; have := a3 j j0 j1; omega)) gX6_depthOf_X6_measure rfl rfl rfl (by decide +kernel) ⟨Nat.le_of_ble_eq_true rfl, Nat.le_of_ble_eq_true rfl⟩ (0) rfl rfl rfl rfl (Nat.le_of_ble_eq_true rfl) dX6_depthOf_38 rfl (fun z1 s2 q3 => ?_)
              obtain ⟨rfl, k4, t5, rfl, h16, h27, h38⟩ := q3
              have m1 := h16
              have m3 := h38
              rw [e8, e7] at m1
              rw [e7] at m3
              have m4 := lg_b f (k := k) a1.2.1
              have m5 := runs_b (f := f) (k := k) a1.2.1 m1
              refine x_ti (show lg ((sF (sF (sG (sG st (4) (k)) (5) (k5)) (8) (f)) (9) (t)).2 8) ((sF (sF (sG (sG st (4) (k)) (5) (k5)) (8) (f)) (9) (t)).1 4) = lg f k from by rw [e8, e7]) ?_
              refine x_iload_n (q := 42) E dX6_depthOf_41 1 rfl rfl ?_
              refine x_icmp_le (tgt := 47) (q := 45) E dX6_depthOf_42 (by decide) rfl (by omega) (by omega) (fun c42 => ?_) (fun c42 => ?_)
              · refine x_aload_n (q := 48) E dX6_depthOf_47 0 rfl rfl ?_
                refine x_iload_n (q := 49) E dX6_depthOf_48 1 rfl rfl ?_
                refine x_callVv (q := 52) (n := 1) (As := [.int (ii (g0))]) (r := []) E (c_X6_cut l D T ad hN (sF (sG (sF (sF (sG (sG st (4) (k)) (5) (k5)) (8) (f)) (9) (t)) (5) (k4)) (9) (t5)) (g0) (by omega) (by rw [sF_1, sG_s]; omega) (by rw [sF_s, sF_1, sG_s]; intro j j0 j1; have := m5 j j0 j1; omega)) gX6_depthOf_X6_cut rfl rfl rfl (by decide +kernel) ⟨Nat.le_of_ble_eq_true rfl, Nat.le_of_ble_eq_true rfl⟩ (0) rfl rfl rfl rfl (Nat.le_of_ble_eq_true rfl) dX6_depthOf_49 rfl (fun s10 q11 => ?_)
                obtain ⟨k12, t13, rfl, h114, h215⟩ := q11
                have n1 := h114
                have n2 := h215
                rw [sF_s, sF_1, sG_s, m1] at n1
                rw [sF_1, sG_s] at n2
                have n3 := cut_less (f := f) (k := k) (by omega) (by omega) n2.1 n1
                have n4 := cut_b (f := f) (k := k) (by omega) n1
                have n5 := dpt_step (g := g0) (f := f) (k := k) (by omega) (by omega) (fun j j0 j1 => b2 j j0 (by omega)) (by omega) n1
                refine x_iinc (q := 55) (k := 2) (lv' := [(2, .int (ii (d + 1))), (0, .ref (ad 0)), (1, .int (ii (g0))), (3, .int (ii (i)))]) E dX6_depthOf_52 rfl (by decide) rfl rfl ?_
                refine x_goto (tgt := 2) E dX6_depthOf_55 (by decide) ?_
                refine x_st E (st' := (sF (sF (sG (sG st (4) (k12)) (5) (k4)) (8) (t13)) (9) (t5))) (by refine Prod.ext (funext fun k9 => ?_) (funext fun q9 => ?_) <;> simp only [sG_1, sG_2, sA_1, sA_2, sF_1, sF_2, reduceIte] <;> (repeat' split) <;> first | rfl | omega | (subst_vars; first | rfl | omega) | simp_all) ?_
                refine x_lv E (lv' := [(0, .ref (ad 0)), (1, .int (ii (g0))), (2, .int (ii (d + 1)))]) [1, 2, 0] rfl ?_
                exact ih2 (d + 1) (k12) (k4) (t13) (t5) (by omega) (by omega) (fun j j0 j1 => by have := n4 j j0 j1; omega) (dpt_acc a4 n5)
              · refine x_iconst (q := 46) E dX6_depthOf_45 rfl ?_
                exact RET _ _ _ _ dX6_depthOf_46 (⟨k, k4, f, t5, by refine Prod.ext (funext fun k9 => ?_) (funext fun q9 => ?_) <;> simp only [sG_1, sG_2, sA_1, sA_2, sF_1, sF_2, reduceIte] <;> (repeat' split) <;> first | rfl | omega | (subst_vars; first | rfl | omega) | simp_all, by rw [a4, if_pos (dpt_badr (by omega) (by omega) (by omega))], by omega, by omega⟩)
            · have e9 := a3 i (by omega) (by omega)
              refine x_aload_n (q := 20) E dX6_depthOf_19 0 rfl rfl ?_
              refine x_get (q := 23) E iX6_depthOf_X6 (0) rfl rfl 12 (by decide) (by decide +kernel) rfl dX6_depthOf_20 rfl ?_
              refine x_iload_n (q := 24) E dX6_depthOf_23 3 rfl rfl ?_
              refine x_iald (q := 25) (f := (sF (sF (sG (sG st (4) (k)) (5) (k5)) (8) (f)) (9) (t)).2 (8)) E (9) rfl 0 rfl (by omega) (by omega) (by decide) dX6_depthOf_24 rfl ?_
              refine x_ti (show (sF (sF (sG (sG st (4) (k)) (5) (k5)) (8) (f)) (9) (t)).2 (8) (i) = f (i) by rw [sF_n _ _ (by omega), sF_s]) ?_
              refine x_iload_n (q := 26) E dX6_depthOf_25 1 rfl rfl ?_
              refine x_icmp_le (tgt := 31) (q := 29) E dX6_depthOf_26 (by decide) rfl (by omega) (by omega) (fun c26 => ?_) (fun c26 => ?_)
              · refine x_iinc (q := 34) (k := 3) (lv' := [(3, .int (ii (i + 1))), (0, .ref (ad 0)), (1, .int (ii (g0))), (2, .int (ii (d)))]) E dX6_depthOf_31 rfl (by decide) rfl rfl ?_
                refine x_goto (tgt := 11) E dX6_depthOf_34 (by decide) ?_
                refine x_lv E (lv' := [(0, .ref (ad 0)), (1, .int (ii (g0))), (2, .int (ii (d))), (3, .int (ii (i + 1)))]) [1, 2, 3, 0] rfl ?_
                exact ih11 (i + 1) (by omega) (by omega) (fun j j0 j1 => if hj : j = i then (by rw [hj]; omega) else b2 j j0 (by omega))
              · refine x_iconst (q := 30) E dX6_depthOf_29 rfl ?_
                exact RET _ _ _ _ dX6_depthOf_30 (⟨k, k5, f, t, rfl, by rw [a4, if_pos (dpt_badf (i := i) (by omega) (by omega) (by omega))], by omega, by omega⟩)
        refine x_lv E (lv' := [(0, .ref (ad 0)), (1, .int (ii (g0))), (2, .int (ii (d))), (3, .int (ii (0)))]) [1, 2, 3, 0] rfl ?_
        exact L11 _ (0) (Nat.lt_succ_self _) (by omega) (fun j j0 j1 => absurd j1 (by omega))
  refine x_lv E (lv' := [(0, .ref (ad 0)), (1, .int (ii (g0))), (2, .int (ii (0)))]) [1, 2, 0] rfl ?_
  refine x_st E (st' := (sF (sF (sG (sG st (4) (st.1 (4))) (5) (st.1 (5))) (8) (st.2 (8))) (9) (st.2 (9)))) (by refine Prod.ext (funext fun k9 => ?_) (funext fun q9 => ?_) <;> simp only [sG_1, sG_2, sA_1, sA_2, sF_1, sF_2, reduceIte] <;> (repeat' split) <;> first | rfl | omega | (subst_vars; first | rfl | omega) | simp_all) ?_
  exact L2 _ (0) (st.1 (4)) (st.1 (5)) (st.2 (8)) (st.2 (9)) (Nat.lt_succ_self _) (by omega) (hb) (by have := dpt_ge g0 (wl (st.2 8) (st.1 4)); split; assumption; omega)

set_option maxRecDepth 100000 in
set_option maxHeartbeats 4000000 in
theorem c_X6_depth (l : Launch) (D : va_G) (T : Nat → ClassId) (ad : Nat → Nat) (hN : ∀ i j, i < 13 → j < 13 → ad i = ad j → i = j) (st : St_) (g0 : Int) (bg0 : -2147483648 ≤ g0 ∧ g0 < 2147483648) (a : AB_) (hI : MI st a) : CXi l yX6_depth wsX6_depth (rmX 2 47) [.ref (ad 0), .int (ii (g0))] D (tyX T) (MW T ad) (alM ad) st (fun z st2 => z = (if 2 ≤ g0 ∧ g0 ≤ 6 then dpt g0 a.2 else -102) ∧ MI st2 a) := by
  refine mk_i (cc := cX6_depth) (nL := 2) rfl rfl (MW_ok hN) (Nat.le_of_ble_eq_true rfl) [(0, .ref (ad 0)), (1, .int (ii (g0)))] rfl (fun p e s m args below meth c A Q E RET => ?_)
  have k1 := hI.1
  have k2 := hI.2.1
  have k3 := hI.2.2.1
  have k4 := hI.2.2.2.1
  have k5 := hI.2.2.2.2.1
  have k6 := hI.2.2.2.2.2.1
  have k7 := hI.2.2.2.2.2.2.1
  have k8 := hI.2.2.2.2.2.2.2
  have hn := k7.2.1.1
  have hL := hI.len
  have hf := hI.lf
  have hf6 := hI.let6
  refine x_iload_n (q := 1) E dX6_depth_0 1 rfl rfl ?_
  refine x_i2l (q := 2) E dX6_depth_1 (by omega) rfl ?_
  refine x_ldc2 (q := 5) (v := 2) (z := 2) E (by decide +kernel) (by decide) dX6_depth_2 rfl ?_
  refine x_ldc2 (q := 8) (v := 6) (z := 6) E (by decide +kernel) (by decide) dX6_depth_5 rfl ?_
  refine x_callSi (q := 11) (n := 3) (As := [.long (jj (g0)), .long (jj (2)), .long (jj (6))]) (r := []) E (c_X6_in l D T ad hN st (g0) (2) (6) (by omega) (by omega) (by omega)) gX6_depth_X6_in rfl rfl rfl (by decide +kernel) ⟨Nat.le_of_ble_eq_true rfl, Nat.le_of_ble_eq_true rfl⟩ rfl rfl (Nat.le_of_ble_eq_true rfl) dX6_depth_8 rfl (fun z1 s2 q3 => ?_)
  obtain ⟨rfl, rfl⟩ := q3
  refine x_if_ne (tgt := 17) (q := 14) E dX6_depth_11 (by decide) rfl (by omega) (fun c11 => ?_) (fun c11 => ?_)
  · refine x_aload_n (q := 18) E dX6_depth_17 0 rfl rfl ?_
    refine x_callVv (q := 21) (n := 0) (As := []) (r := []) E (c_X6_load l D T ad hN st (k6)) gX6_depth_X6_load rfl rfl rfl (by decide +kernel) ⟨Nat.le_of_ble_eq_true rfl, Nat.le_of_ble_eq_true rfl⟩ (0) rfl rfl rfl rfl (Nat.le_of_ble_eq_true rfl) dX6_depth_18 rfl (fun s5 q6 => ?_)
    obtain ⟨f7, rfl, h18⟩ := q6
    have g1 := h18
    have gb : ∀ j : Int, 0 ≤ j → j < st.1 3 → 1 ≤ f7 j ∧ f7 j ≤ 6 := fun j j0 j1 => by rw [g1 j j0 j1]; exact hf6 j j0 j1
    have gl : ∀ j : Int, 0 ≤ j → j < st.1 3 → f7 j = lf a.2 j := fun j j0 j1 => by rw [g1 j j0 j1, hf j j0 j1]
    refine x_aload_n (q := 22) E dX6_depth_21 0 rfl rfl ?_
    refine x_iload_n (q := 23) E dX6_depth_22 1 rfl rfl ?_
    refine x_callVi (q := 26) (n := 1) (As := [.int (ii (g0))]) (r := []) E (c_X6_depthOf l D T ad hN (sF (sG st (4) (st.1 (3))) (8) (f7)) (g0) (by omega) (by rw [sF_1, sG_s]; exact k6) (by rw [sF_s, sF_1, sG_s]; intro j j0 j1; have := gb j j0 j1; omega) (by omega)) gX6_depth_X6_depthOf rfl rfl rfl (by decide +kernel) ⟨Nat.le_of_ble_eq_true rfl, Nat.le_of_ble_eq_true rfl⟩ (0) rfl rfl rfl rfl (Nat.le_of_ble_eq_true rfl) dX6_depth_23 rfl (fun z9 s10 q11 => ?_)
    obtain ⟨k12, k513, f14, t15, rfl, h116, h217, h318⟩ := q11
    exact RET _ _ _ _ dX6_depth_26 (⟨by rw [if_pos (by omega), h116, sF_s, sF_1, sG_s, wl_congr g1, k2], MI_same hI (fun j hj => by rw [sF_1, sF_1, sG_n _ _ (by omega), sG_n _ _ (by omega), sF_1, sG_n _ _ (by omega)]) ⟨by rw [sF_1, sF_1, sG_n _ _ (by omega), sG_n _ _ (by omega), sF_1, sG_n _ _ (by omega)], by rw [sF_1, sF_1, sG_n _ _ (by omega), sG_n _ _ (by omega), sF_1, sG_n _ _ (by omega)]⟩ (fun q hq => by rw [sF_n _ _ (by omega), sF_n _ _ (by omega), sG_2, sG_2, sF_n _ _ (by omega), sG_2])⟩)
  · refine x_bipush (q := 16) E dX6_depth_14 (by decide) rfl ?_
    exact RET _ _ _ _ dX6_depth_16 (⟨by rw [if_neg (by omega)], hI⟩)

set_option maxRecDepth 100000 in
set_option maxHeartbeats 4000000 in
theorem c_X6_begins (l : Launch) (D : va_G) (T : Nat → ClassId) (ad : Nat → Nat) (hN : ∀ i j, i < 13 → j < 13 → ad i = ad j → i = j) (st : St_) (r : Nat) (hr : r < 3) (k : Int) (bk : -2147483648 ≤ k ∧ k < 2147483648) (hrn : (r : Int) < st.1 0) (a : AB_) (hI : MI st a) : CXi l yX6_begins wsX6_begins (rmX 2 50) [.ref (ad 0), .int (ii ((r : Int))), .int (ii (k))] D (tyX T) (MW T ad) (alM ad) st (fun z st2 => z = (if 0 ≤ k ∧ k ≤ 100000 then (if 100000 < BQ (lta a) (nxn (a.1.1 0)) r k then -1 else BQ (lta a) (nxn (a.1.1 0)) r k) else -102) ∧ MI st2 a) := by
  refine mk_i (cc := cX6_begins) (nL := 5) rfl rfl (MW_ok hN) (Nat.le_of_ble_eq_true rfl) [(0, .ref (ad 0)), (1, .int (ii ((r : Int)))), (2, .int (ii (k)))] rfl (fun p e s m args below meth c A Q E RET => ?_)
  have k1 := hI.1
  have k2 := hI.2.1
  have k3 := hI.2.2.1
  have k4 := hI.2.2.2.1
  have k5 := hI.2.2.2.2.1
  have k6 := hI.2.2.2.2.2.1
  have k7 := hI.2.2.2.2.2.2.1
  have k8 := hI.2.2.2.2.2.2.2
  have hn := k7.2.1.1
  have hL := hI.len
  have hf := hI.lf
  have hf6 := hI.let6
  refine x_aload_n (q := 1) E dX6_begins_0 0 rfl rfl ?_
  refine x_iload_n (q := 2) E dX6_begins_1 1 rfl rfl ?_
  refine x_callVi (q := 5) (n := 1) (As := [.int (ii ((r : Int)))]) (r := []) E (c_X6_isRow l D T ad hN st ((r : Int)) (by omega) (hn)) gX6_begins_X6_isRow rfl rfl rfl (by decide +kernel) ⟨Nat.le_of_ble_eq_true rfl, Nat.le_of_ble_eq_true rfl⟩ (0) rfl rfl rfl rfl (Nat.le_of_ble_eq_true rfl) dX6_begins_2 rfl (fun z1 s2 q3 => ?_)
  obtain ⟨rfl, rfl⟩ := q3
  refine x_if_ne (tgt := 11) (q := 8) E dX6_begins_5 (by decide) rfl (by omega) (fun c5 => ?_) (fun c5 => ?_)
  · refine x_iload_n (q := 12) E dX6_begins_11 2 rfl rfl ?_
    refine x_callSi (q := 15) (n := 1) (As := [.int (ii (k))]) (r := []) E (c_X6_isPlace l D T ad hN st (k) (by omega)) gX6_begins_X6_isPlace rfl rfl rfl (by decide +kernel) ⟨Nat.le_of_ble_eq_true rfl, Nat.le_of_ble_eq_true rfl⟩ rfl rfl (Nat.le_of_ble_eq_true rfl) dX6_begins_12 rfl (fun z4 s5 q6 => ?_)
    obtain ⟨rfl, rfl⟩ := q6
    refine x_if_ne (tgt := 21) (q := 18) E dX6_begins_15 (by decide) rfl (by omega) (fun c15 => ?_) (fun c15 => ?_)
    · refine x_aload_n (q := 22) E dX6_begins_21 0 rfl rfl ?_
      refine x_iload_n (q := 23) E dX6_begins_22 1 rfl rfl ?_
      refine x_iconst (q := 24) E dX6_begins_23 rfl ?_
      refine x_callVv (q := 27) (n := 2) (As := [.int (ii ((r : Int))), .int (ii (0))]) (r := []) E (c_X6_make l D T ad hN st r hr (0) (by omega) (by omega) (by omega) (lta a) k7) gX6_begins_X6_make rfl rfl rfl (by decide +kernel) ⟨Nat.le_of_ble_eq_true rfl, Nat.le_of_ble_eq_true rfl⟩ (0) rfl rfl rfl rfl (Nat.le_of_ble_eq_true rfl) dX6_begins_24 rfl (fun s8 q9 => ?_)
      obtain ⟨h110, h211, h312, h413⟩ := q9
      have g1 := h110
      have g2 := h211
      have g3 := h312
      have g4 := h413
      have hI1 := MI_frm hI g2 g1
      have e0 : s8.1 0 = a.1.1 0 := hI1.1
      have hr1 : (r : Int) < s8.1 0 := by rw [e0, ← k1]; exact hrn
      have hSq : ∀ j : Int, 0 ≤ j → j < s8.2 6 (r : Int) → s8.2 (3 + r) j = SQ (lta a) (nxn (a.1.1 0)) r j := fun j j0 j1 => by rw [MH.rows g1 g3 hr1 j j0 j1, e0]
      have hS6 : ∀ j : Int, 0 ≤ j → 1 ≤ SQ (lta a) (nxn (a.1.1 0)) r j ∧ SQ (lta a) (nxn (a.1.1 0)) r j ≤ 6 := fun j j0 => ⟨SQ_pos g1.1.pos r j j0, SQ_le (fun x y hy => (g1.1.1 x y hy).2) r j j0⟩
      refine x_iconst (q := 28) E dX6_begins_27 rfl ?_
      refine x_istore_n (q := 29) (lv' := [(3, .int (ii (0))), (0, .ref (ad 0)), (1, .int (ii ((r : Int)))), (2, .int (ii (k)))]) E dX6_begins_28 (by decide) rfl rfl ?_
      refine x_iconst (q := 30) E dX6_begins_29 rfl ?_
      refine x_istore (q := 32) (lv' := [(4, .int (ii (0))), (3, .int (ii (0))), (0, .ref (ad 0)), (1, .int (ii ((r : Int)))), (2, .int (ii (k)))]) E dX6_begins_30 (by decide) rfl rfl ?_
      have L32 : ∀ (n : Nat) (t : Int) (i : Int) (st1 : St_), (100002 - i).toNat < n → (MI st1 a) → (0 ≤ t ∧ t ≤ i ∧ i ≤ 100001) → (i ≤ 100000 → t = chg (SQ (lta a) (nxn (a.1.1 0)) r) (i + 1) - 1) → (1 ≤ i → chg (SQ (lta a) (nxn (a.1.1 0)) r) i ≤ k) → XJ p l e (rmX 2 50) s m args below meth c D (MW T ad) A 5 Q 0 0 st1 32 [(0, .ref (ad 0)), (1, .int (ii ((r : Int)))), (2, .int (ii (k))), (3, .int (ii (t))), (4, .int (ii (i)))] [] := by
        intro n
        induction n with
        | zero => intro t i st1 hn; exact absurd hn (Nat.not_lt_zero _)
        | succ n ih32 =>
          intro t i st1 hn32 hI2 a1 a2 a3
          refine x_iload_n (q := 33) E dX6_begins_32 3 rfl rfl ?_
          refine x_iload_n (q := 34) E dX6_begins_33 2 rfl rfl ?_
          refine x_icmp_ge (tgt := 103) (q := 37) E dX6_begins_34 (by decide) rfl (by omega) (by omega) (fun c34 => ?_) (fun c34 => ?_)
          · have e6 := chg_iff (nx := nxn (a.1.1 0)) k7.1.pos (k7.1.2 r) (n := i + 1) (j := k) (by omega) (by omega)
            have e7 : 1 ≤ i → (chg (SQ (lta a) (nxn (a.1.1 0)) r) i ≤ k ↔ i ≤ BQ (lta a) (nxn (a.1.1 0)) r k) := fun y => chg_iff (nx := nxn (a.1.1 0)) k7.1.pos (k7.1.2 r) y (by omega)
            have e8 := BQ_ge (nx := nxn (a.1.1 0)) k7.1.pos r (b := k) (by omega)
            refine x_iload (q := 105) E dX6_begins_103 4 rfl rfl ?_
            refine x_ldc (q := 107) (v := 100000) (z := 100000) E (by decide +kernel) (by decide) dX6_begins_105 rfl ?_
            refine x_icmp_gt (tgt := 115) (q := 110) E dX6_begins_107 (by decide) rfl (by omega) (by omega) (fun c107 => ?_) (fun c107 => ?_)
            · refine x_iconst (q := 116) E dX6_begins_115 rfl ?_
              exact RET _ _ _ _ dX6_begins_116 (⟨by rw [if_pos (by omega), if_pos (by have := a3 (by omega); have := (e7 (by omega)).mp this; omega)], hI2⟩)
            · refine x_iload (q := 112) E dX6_begins_110 4 rfl rfl ?_
              refine x_goto (tgt := 116) E dX6_begins_112 (by decide) ?_
              exact RET _ _ _ _ dX6_begins_116 (⟨by have := a2 (by omega); have y1 : i ≤ BQ (lta a) (nxn (a.1.1 0)) r k := (by by_cases y : 1 ≤ i; exact (e7 y).mp (a3 y); omega); have y2 : ¬ i + 1 ≤ BQ (lta a) (nxn (a.1.1 0)) r k := (fun y => by have := e6.mpr y; omega); rw [if_pos (by omega), if_neg (by omega)]; omega, hI2⟩)
          · have e5 := chg_iff (nx := nxn (a.1.1 0)) k7.1.pos (k7.1.2 r) (n := i + 1) (j := k) (by omega) (by omega)
            refine x_iload (q := 39) E dX6_begins_37 4 rfl rfl ?_
            refine x_ldc (q := 41) (v := 100000) (z := 100000) E (by decide +kernel) (by decide) dX6_begins_39 rfl ?_
            refine x_icmp_gt (tgt := 103) (q := 44) E dX6_begins_41 (by decide) rfl (by omega) (by omega) (fun c41 => ?_) (fun c41 => ?_)
            · have e6 := chg_iff (nx := nxn (a.1.1 0)) k7.1.pos (k7.1.2 r) (n := i + 1) (j := k) (by omega) (by omega)
              have e7 : 1 ≤ i → (chg (SQ (lta a) (nxn (a.1.1 0)) r) i ≤ k ↔ i ≤ BQ (lta a) (nxn (a.1.1 0)) r k) := fun y => chg_iff (nx := nxn (a.1.1 0)) k7.1.pos (k7.1.2 r) y (by omega)
              have e8 := BQ_ge (nx := nxn (a.1.1 0)) k7.1.pos r (b := k) (by omega)
              refine x_iload (q := 105) E dX6_begins_103 4 rfl rfl ?_
              refine x_ldc (q := 107) (v := 100000) (z := 100000) E (by decide +kernel) (by decide) dX6_begins_105 rfl ?_
              refine x_icmp_gt (tgt := 115) (q := 110) E dX6_begins_107 (by decide) rfl (by omega) (by omega) (fun c107 => ?_) (fun c107 => ?_)
              · refine x_iconst (q := 116) E dX6_begins_115 rfl ?_
                exact RET _ _ _ _ dX6_begins_116 (⟨by rw [if_pos (by omega), if_pos (by have := a3 (by omega); have := (e7 (by omega)).mp this; omega)], hI2⟩)
              · refine x_iload (q := 112) E dX6_begins_110 4 rfl rfl ?_
                refine x_goto (tgt := 116) E dX6_begins_112 (by decide) ?_
                exact RET _ _ _ _ dX6_begins_116 (⟨by have := a2 (by omega); have y1 : i ≤ BQ (lta a) (nxn (a.1.1 0)) r k := (by by_cases y : 1 ≤ i; exact (e7 y).mp (a3 y); omega); have y2 : ¬ i + 1 ≤ BQ (lta a) (nxn (a.1.1 0)) r k := (fun y => by have := e6.mpr y; omega); rw [if_pos (by omega), if_neg (by omega)]; omega, hI2⟩)
            · refine x_iinc (q := 47) (k := 4) (lv' := [(4, .int (ii (i + 1))), (0, .ref (ad 0)), (1, .int (ii ((r : Int)))), (2, .int (ii (k))), (3, .int (ii (t)))]) E dX6_begins_44 rfl (by decide) rfl rfl ?_
              refine x_aload_n (q := 48) E dX6_begins_47 1 rfl rfl ?_
              refine x_iload_n (q := 49) E dX6_begins_48 2 rfl rfl ?_
              refine x_iload (q := 51) E dX6_begins_49 0 rfl rfl ?_
              refine x_ldc (q := 53) (v := 100000) (z := 100000) E (by decide +kernel) (by decide) dX6_begins_51 rfl ?_
              refine x_icmp_gt (tgt := 61) (q := 56) E dX6_begins_53 (by decide) rfl (by omega) (by omega) (fun c53 => ?_) (fun c53 => ?_)
              · refine x_ldc (q := 63) (v := 100000) (z := 100000) E (by decide +kernel) (by decide) dX6_begins_61 rfl ?_
                refine x_callVv (q := 66) (n := 2) (As := [.int (ii ((r : Int))), .int (ii (100000))]) (r := []) E (c_X6_make l D T ad hN st1 r hr (100000) (by omega) (by rw [hI2.1, ← k1]; exact hrn) (by omega) (lta a) hI2.2.2.2.2.2.2.1) gX6_begins_X6_make rfl rfl rfl (by decide +kernel) ⟨Nat.le_of_ble_eq_true rfl, Nat.le_of_ble_eq_true rfl⟩ (0) rfl rfl rfl rfl (Nat.le_of_ble_eq_true rfl) dX6_begins_63 rfl (fun s15 q16 => ?_)
                obtain ⟨h117, h218, h319, h420⟩ := q16
                have g1 := h117
                have g2 := h218
                have g3 := h319
                have g4 := h420
                have hI1 := MI_frm hI2 g2 g1
                have e0 : s15.1 0 = a.1.1 0 := hI1.1
                have hr1 : (r : Int) < s15.1 0 := by rw [e0, ← k1]; exact hrn
                have hSq : ∀ j : Int, 0 ≤ j → j < s15.2 6 (r : Int) → s15.2 (3 + r) j = SQ (lta a) (nxn (a.1.1 0)) r j := fun j j0 j1 => by rw [MH.rows g1 g3 hr1 j j0 j1, e0]
                have hS6 : ∀ j : Int, 0 ≤ j → 1 ≤ SQ (lta a) (nxn (a.1.1 0)) r j ∧ SQ (lta a) (nxn (a.1.1 0)) r j ≤ 6 := fun j j0 => ⟨SQ_pos g1.1.pos r j j0, SQ_le (fun x y hy => (g1.1.1 x y hy).2) r j j0⟩
                have e2 : i + 1 ≤ 100000 → 1 ≤ SQ (lta a) (nxn (a.1.1 0)) r (i + 1) ∧ SQ (lta a) (nxn (a.1.1 0)) r (i + 1) ≤ 6 := fun _ => hS6 _ (by omega)
                have e3 := hS6 (i + 1 - 1) (by omega)
                have e4 := chg_s (SQ (lta a) (nxn (a.1.1 0)) r) (n := i + 1) (by omega)
                refine x_iload_n (q := 67) E dX6_begins_66 4 rfl rfl ?_
                refine x_iload (q := 69) E dX6_begins_67 0 rfl rfl ?_
                refine x_ldc (q := 71) (v := 100000) (z := 100000) E (by decide +kernel) (by decide) dX6_begins_69 rfl ?_
                refine x_icmp_gt (tgt := 97) (q := 74) E dX6_begins_71 (by decide) rfl (by omega) (by omega) (fun c71 => ?_) (fun c71 => ?_)
                · refine x_iconst (q := 98) E dX6_begins_97 rfl ?_
                  refine x_iadd (q := 99) E dX6_begins_98 rfl ?_
                  refine x_istore_n (q := 100) (lv' := [(3, .int (ii ((t) + (0)))), (4, .int (ii (i + 1))), (0, .ref (ad 0)), (1, .int (ii ((r : Int)))), (2, .int (ii (k)))]) E dX6_begins_99 (by decide) rfl rfl ?_
                  refine x_goto (tgt := 32) E dX6_begins_100 (by decide) ?_
                  refine x_lv E (lv' := [(0, .ref (ad 0)), (1, .int (ii ((r : Int)))), (2, .int (ii (k))), (3, .int (ii ((t) + (0)))), (4, .int (ii (i + 1)))]) [2, 3, 4, 0, 1] rfl ?_
                  exact ih32 ((t) + (0)) (i + 1) s15 (by omega) (hI1) (by omega) (fun y => absurd y (by omega)) (fun _ => by have := a2 (by omega); omega)
                · exfalso; omega
              · refine x_iload (q := 58) E dX6_begins_56 0 rfl rfl ?_
                refine x_goto (tgt := 63) E dX6_begins_58 (by decide) ?_
                refine x_callVv (q := 66) (n := 2) (As := [.int (ii ((r : Int))), .int (ii (i + 1))]) (r := []) E (c_X6_make l D T ad hN st1 r hr (i + 1) (by omega) (by rw [hI2.1, ← k1]; exact hrn) (by omega) (lta a) hI2.2.2.2.2.2.2.1) gX6_begins_X6_make rfl rfl rfl (by decide +kernel) ⟨Nat.le_of_ble_eq_true rfl, Nat.le_of_ble_eq_true rfl⟩ (0) rfl rfl rfl rfl (Nat.le_of_ble_eq_true rfl) dX6_begins_63 rfl (fun s22 q23 => ?_)
                obtain ⟨h124, h225, h326, h427⟩ := q23
                have g1 := h124
                have g2 := h225
                have g3 := h326
                have g4 := h427
                have hI1 := MI_frm hI2 g2 g1
                have e0 : s22.1 0 = a.1.1 0 := hI1.1
                have hr1 : (r : Int) < s22.1 0 := by rw [e0, ← k1]; exact hrn
                have hSq : ∀ j : Int, 0 ≤ j → j < s22.2 6 (r : Int) → s22.2 (3 + r) j = SQ (lta a) (nxn (a.1.1 0)) r j := fun j j0 j1 => by rw [MH.rows g1 g3 hr1 j j0 j1, e0]
                have hS6 : ∀ j : Int, 0 ≤ j → 1 ≤ SQ (lta a) (nxn (a.1.1 0)) r j ∧ SQ (lta a) (nxn (a.1.1 0)) r j ≤ 6 := fun j j0 => ⟨SQ_pos g1.1.pos r j j0, SQ_le (fun x y hy => (g1.1.1 x y hy).2) r j j0⟩
                have e2 : i + 1 ≤ 100000 → 1 ≤ SQ (lta a) (nxn (a.1.1 0)) r (i + 1) ∧ SQ (lta a) (nxn (a.1.1 0)) r (i + 1) ≤ 6 := fun _ => hS6 _ (by omega)
                have e3 := hS6 (i + 1 - 1) (by omega)
                have e4 := chg_s (SQ (lta a) (nxn (a.1.1 0)) r) (n := i + 1) (by omega)
                refine x_iload_n (q := 67) E dX6_begins_66 4 rfl rfl ?_
                refine x_iload (q := 69) E dX6_begins_67 0 rfl rfl ?_
                refine x_ldc (q := 71) (v := 100000) (z := 100000) E (by decide +kernel) (by decide) dX6_begins_69 rfl ?_
                refine x_icmp_gt (tgt := 97) (q := 74) E dX6_begins_71 (by decide) rfl (by omega) (by omega) (fun c71 => ?_) (fun c71 => ?_)
                · refine x_iconst (q := 98) E dX6_begins_97 rfl ?_
                  refine x_iadd (q := 99) E dX6_begins_98 rfl ?_
                  refine x_istore_n (q := 100) (lv' := [(3, .int (ii ((t) + (0)))), (4, .int (ii (i + 1))), (0, .ref (ad 0)), (1, .int (ii ((r : Int)))), (2, .int (ii (k)))]) E dX6_begins_99 (by decide) rfl rfl ?_
                  refine x_goto (tgt := 32) E dX6_begins_100 (by decide) ?_
                  refine x_lv E (lv' := [(0, .ref (ad 0)), (1, .int (ii ((r : Int)))), (2, .int (ii (k))), (3, .int (ii ((t) + (0)))), (4, .int (ii (i + 1)))]) [2, 3, 4, 0, 1] rfl ?_
                  exact ih32 ((t) + (0)) (i + 1) s22 (by omega) (hI1) (by omega) (fun y => absurd y (by omega)) (fun _ => by have := a2 (by omega); omega)
                · refine x_aload_n (q := 75) E dX6_begins_74 1 rfl rfl ?_
                  refine x_iload_n (q := 76) E dX6_begins_75 2 rfl rfl ?_
                  refine x_iload (q := 78) E dX6_begins_76 0 rfl rfl ?_
                  refine x_callVi (q := 81) (n := 2) (As := [.int (ii ((r : Int))), .int (ii (i + 1))]) (r := [.int (ii (t))]) E (c_X6_number l D T ad hN s22 r hr (i + 1) (by omega) (by omega)) gX6_begins_X6_number rfl rfl rfl (by decide +kernel) ⟨Nat.le_of_ble_eq_true rfl, Nat.le_of_ble_eq_true rfl⟩ (0) rfl rfl rfl rfl (Nat.le_of_ble_eq_true rfl) dX6_begins_78 rfl (fun z28 s29 q30 => ?_)
                  obtain ⟨rfl, rfl⟩ := q30
                  refine x_ti (show s22.2 (3 + r) (i + 1) = SQ (lta a) (nxn (a.1.1 0)) r (i + 1) from hSq _ (by omega) (by omega)) ?_
                  refine x_aload_n (q := 82) E dX6_begins_81 1 rfl rfl ?_
                  refine x_iload_n (q := 83) E dX6_begins_82 2 rfl rfl ?_
                  refine x_iload (q := 85) E dX6_begins_83 0 rfl rfl ?_
                  refine x_iconst (q := 86) E dX6_begins_85 rfl ?_
                  refine x_isub (q := 87) E dX6_begins_86 rfl ?_
                  refine x_callVi (q := 90) (n := 2) (As := [.int (ii ((r : Int))), .int (ii ((i + 1) - (1)))]) (r := [.int (ii (SQ (lta a) (nxn (a.1.1 0)) r (i + 1))), .int (ii (t))]) E (c_X6_number l D T ad hN s22 r hr ((i + 1) - (1)) (by omega) (by omega)) gX6_begins_X6_number rfl rfl rfl (by decide +kernel) ⟨Nat.le_of_ble_eq_true rfl, Nat.le_of_ble_eq_true rfl⟩ (0) rfl rfl rfl rfl (Nat.le_of_ble_eq_true rfl) dX6_begins_87 rfl (fun z31 s32 q33 => ?_)
                  obtain ⟨rfl, rfl⟩ := q33
                  refine x_ti (show s22.2 (3 + r) ((i + 1) - (1)) = SQ (lta a) (nxn (a.1.1 0)) r (i + 1 - 1) from hSq _ (by omega) (by omega)) ?_
                  refine x_icmp_eq (tgt := 97) (q := 93) E dX6_begins_90 (by decide) rfl (by omega) (by omega) (fun c90 => ?_) (fun c90 => ?_)
                  · refine x_iconst (q := 98) E dX6_begins_97 rfl ?_
                    refine x_iadd (q := 99) E dX6_begins_98 rfl ?_
                    refine x_istore_n (q := 100) (lv' := [(3, .int (ii ((t) + (0)))), (4, .int (ii (i + 1))), (0, .ref (ad 0)), (1, .int (ii ((r : Int)))), (2, .int (ii (k)))]) E dX6_begins_99 (by decide) rfl rfl ?_
                    refine x_goto (tgt := 32) E dX6_begins_100 (by decide) ?_
                    refine x_lv E (lv' := [(0, .ref (ad 0)), (1, .int (ii ((r : Int)))), (2, .int (ii (k))), (3, .int (ii ((t) + (0)))), (4, .int (ii (i + 1)))]) [2, 3, 4, 0, 1] rfl ?_
                    exact ih32 ((t) + (0)) (i + 1) s22 (by omega) (hI1) (by omega) (fun _ => by rw [e4, if_neg (fun y => y.elim (fun w => by omega) (fun w => w c90))]; have := a2 (by omega); omega) (fun _ => by have := a2 (by omega); omega)
                  · refine x_iconst (q := 94) E dX6_begins_93 rfl ?_
                    refine x_goto (tgt := 98) E dX6_begins_94 (by decide) ?_
                    refine x_iadd (q := 99) E dX6_begins_98 rfl ?_
                    refine x_istore_n (q := 100) (lv' := [(3, .int (ii ((t) + (1)))), (4, .int (ii (i + 1))), (0, .ref (ad 0)), (1, .int (ii ((r : Int)))), (2, .int (ii (k)))]) E dX6_begins_99 (by decide) rfl rfl ?_
                    refine x_goto (tgt := 32) E dX6_begins_100 (by decide) ?_
                    refine x_lv E (lv' := [(0, .ref (ad 0)), (1, .int (ii ((r : Int)))), (2, .int (ii (k))), (3, .int (ii ((t) + (1)))), (4, .int (ii (i + 1)))]) [2, 3, 4, 0, 1] rfl ?_
                    exact ih32 ((t) + (1)) (i + 1) s22 (by omega) (hI1) (by omega) (fun _ => by rw [e4, if_pos (Or.inr c90)]; have := a2 (by omega); omega) (fun _ => by have := a2 (by omega); omega)
      refine x_lv E (lv' := [(0, .ref (ad 0)), (1, .int (ii ((r : Int)))), (2, .int (ii (k))), (3, .int (ii (0))), (4, .int (ii (0)))]) [2, 3, 4, 1, 0] rfl ?_
      exact L32 _ (0) (0) s8 (Nat.lt_succ_self _) (hI1) (by omega) (fun _ => by rw [chg_s _ (by omega), if_pos (Or.inl rfl)]; rfl) (fun y => absurd y (by decide))
    · refine x_bipush (q := 20) E dX6_begins_18 (by decide) rfl ?_
      exact RET _ _ _ _ dX6_begins_20 (⟨by rw [if_neg (by omega)], hI⟩)
  · exfalso; omega

set_option maxRecDepth 100000 in
set_option maxHeartbeats 4000000 in
theorem c_X6_begins_n (l : Launch) (D : va_G) (T : Nat → ClassId) (ad : Nat → Nat) (hN : ∀ i j, i < 13 → j < 13 → ad i = ad j → i = j) (st : St_) (z0 : Int) (bz0 : -2147483648 ≤ z0 ∧ z0 < 2147483648) (k : Int) (bk : -2147483648 ≤ k ∧ k < 2147483648) (hz : z0 < 0 ∨ st.1 0 ≤ z0) (a : AB_) (hI : MI st a) : CXi l yX6_begins wsX6_begins (rmX 2 46) [.ref (ad 0), .int (ii (z0)), .int (ii (k))] D (tyX T) (MW T ad) (alM ad) st (fun z st2 => z = -101 ∧ MI st2 a) := by
  refine mk_i (cc := cX6_begins) (nL := 5) rfl rfl (MW_ok hN) (Nat.le_of_ble_eq_true rfl) [(0, .ref (ad 0)), (1, .int (ii (z0))), (2, .int (ii (k)))] rfl (fun p e s m args below meth c A Q E RET => ?_)
  have k1 := hI.1
  have k2 := hI.2.1
  have k3 := hI.2.2.1
  have k4 := hI.2.2.2.1
  have k5 := hI.2.2.2.2.1
  have k6 := hI.2.2.2.2.2.1
  have k7 := hI.2.2.2.2.2.2.1
  have k8 := hI.2.2.2.2.2.2.2
  have hn := k7.2.1.1
  have hL := hI.len
  have hf := hI.lf
  have hf6 := hI.let6
  refine x_aload_n (q := 1) E dX6_begins_0 0 rfl rfl ?_
  refine x_iload_n (q := 2) E dX6_begins_1 1 rfl rfl ?_
  refine x_callVi (q := 5) (n := 1) (As := [.int (ii (z0))]) (r := []) E (c_X6_isRow l D T ad hN st (z0) (by omega) (hn)) gX6_begins_X6_isRow rfl rfl rfl (by decide +kernel) ⟨Nat.le_of_ble_eq_true rfl, Nat.le_of_ble_eq_true rfl⟩ (0) rfl rfl rfl rfl (Nat.le_of_ble_eq_true rfl) dX6_begins_2 rfl (fun z1 s2 q3 => ?_)
  obtain ⟨rfl, rfl⟩ := q3
  refine x_if_ne (tgt := 11) (q := 8) E dX6_begins_5 (by decide) rfl (by omega) (fun c5 => ?_) (fun c5 => ?_)
  · exfalso; omega
  · refine x_bipush (q := 10) E dX6_begins_8 (by decide) rfl ?_
    exact RET _ _ _ _ dX6_begins_10 (⟨rfl, hI⟩)

theorem iX6_ring_X6 : ∀ w ∈ wsX60, w ∈ wsX6_ring := by decide +kernel
set_option maxRecDepth 100000 in
set_option maxHeartbeats 4000000 in
theorem c_X6_ring (l : Launch) (D : va_G) (T : Nat → ClassId) (ad : Nat → Nat) (hN : ∀ i j, i < 13 → j < 13 → ad i = ad j → i = j) (st : St_) (n0 : Int) (bn0 : -2147483648 ≤ n0 ∧ n0 < 2147483648) (b0 : Int) (bb0 : -2147483648 ≤ b0 ∧ b0 < 2147483648) (b1 : Int) (bb1 : -2147483648 ≤ b1 ∧ b1 < 2147483648) (b2 : Int) (bb2 : -2147483648 ≤ b2 ∧ b2 < 2147483648) (a : AB_) (hI : MI st a) : CXi l yX6_ring wsX6_ring (rmX 2 45) [.ref (ad 0), .int (ii (n0)), .int (ii (b0)), .int (ii (b1)), .int (ii (b2))] D (tyX T) (MW T ad) (alM ad) st (fun z st2 => z = (if 1 ≤ n0 ∧ n0 ≤ 3 then (if ((0 ≤ b0 ∧ b0 ≤ 3) ∧ (2 ≤ n0 → 0 ≤ b1 ∧ b1 ≤ 3) ∧ (3 ≤ n0 → 0 ≤ b2 ∧ b2 ≤ 3)) then n0 else -101) else -102) ∧ MI st2 (if (1 ≤ n0 ∧ n0 ≤ 3) ∧ ((0 ≤ b0 ∧ b0 ≤ 3) ∧ (2 ≤ n0 → 0 ≤ b1 ∧ b1 ≤ 3) ∧ (3 ≤ n0 → 0 ≤ b2 ∧ b2 ≤ 3)) then aR a n0 b0 b1 b2 else a)) := by
  refine mk_i (cc := cX6_ring) (nL := 5) rfl rfl (MW_ok hN) (Nat.le_of_ble_eq_true rfl) [(0, .ref (ad 0)), (1, .int (ii (n0))), (2, .int (ii (b0))), (3, .int (ii (b1))), (4, .int (ii (b2)))] rfl (fun p e s m args below meth c A Q E RET => ?_)
  have k1 := hI.1
  have k2 := hI.2.1
  have k3 := hI.2.2.1
  have k4 := hI.2.2.2.1
  have k5 := hI.2.2.2.2.1
  have k6 := hI.2.2.2.2.2.1
  have k7 := hI.2.2.2.2.2.2.1
  have k8 := hI.2.2.2.2.2.2.2
  have hn := k7.2.1.1
  have hL := hI.len
  have hf := hI.lf
  have hf6 := hI.let6
  refine x_iload_n (q := 1) E dX6_ring_0 1 rfl rfl ?_
  refine x_i2l (q := 2) E dX6_ring_1 (by omega) rfl ?_
  refine x_lconst (q := 3) (z := 1) E dX6_ring_2 (by decide) rfl ?_
  refine x_ldc2 (q := 6) (v := 3) (z := 3) E (by decide +kernel) (by decide) dX6_ring_3 rfl ?_
  refine x_callSi (q := 9) (n := 3) (As := [.long (jj (n0)), .long (jj (1)), .long (jj (3))]) (r := []) E (c_X6_in l D T ad hN st (n0) (1) (3) (by omega) (by omega) (by omega)) gX6_ring_X6_in rfl rfl rfl (by decide +kernel) ⟨Nat.le_of_ble_eq_true rfl, Nat.le_of_ble_eq_true rfl⟩ rfl rfl (Nat.le_of_ble_eq_true rfl) dX6_ring_6 rfl (fun z1 s2 q3 => ?_)
  obtain ⟨rfl, rfl⟩ := q3
  refine x_if_ne (tgt := 15) (q := 12) E dX6_ring_9 (by decide) rfl (by omega) (fun c9 => ?_) (fun c9 => ?_)
  · refine x_iload_n (q := 16) E dX6_ring_15 2 rfl rfl ?_
    refine x_callSi (q := 19) (n := 1) (As := [.int (ii (b0))]) (r := []) E (c_X6_isAlphabet l D T ad hN st (b0) (by omega)) gX6_ring_X6_isAlphabet rfl rfl rfl (by decide +kernel) ⟨Nat.le_of_ble_eq_true rfl, Nat.le_of_ble_eq_true rfl⟩ rfl rfl (Nat.le_of_ble_eq_true rfl) dX6_ring_16 rfl (fun z4 s5 q6 => ?_)
    obtain ⟨rfl, rfl⟩ := q6
    refine x_if_eq (tgt := 47) (q := 22) E dX6_ring_19 (by decide) rfl (by omega) (fun c19 => ?_) (fun c19 => ?_)
    · refine x_bipush (q := 49) E dX6_ring_47 (by decide) rfl ?_
      exact RET _ _ _ _ dX6_ring_49 (by first | (exfalso; omega) | exact ⟨by rw [if_pos (by omega), if_neg (by omega)], by rw [if_neg (by omega)]; exact hI⟩)
    · refine x_iload_n (q := 23) E dX6_ring_22 1 rfl rfl ?_
      refine x_iconst (q := 24) E dX6_ring_23 rfl ?_
      refine x_icmp_le (tgt := 34) (q := 27) E dX6_ring_24 (by decide) rfl (by omega) (by omega) (fun c24 => ?_) (fun c24 => ?_)
      · refine x_iload_n (q := 35) E dX6_ring_34 1 rfl rfl ?_
        refine x_iconst (q := 36) E dX6_ring_35 rfl ?_
        refine x_icmp_le (tgt := 50) (q := 39) E dX6_ring_36 (by decide) rfl (by omega) (by omega) (fun c36 => ?_) (fun c36 => ?_)
        · refine x_aload_n (q := 51) E dX6_ring_50 0 rfl rfl ?_
          refine x_iload_n (q := 52) E dX6_ring_51 1 rfl rfl ?_
          refine x_put (q := 55) (st' := (sG st (0) (n0))) (v := .int (ii (n0))) (ty := .int) E iX6_ring_X6 tyX6 tyX6_ok nmX6 (0) rfl rfl 2 (by decide) (by decide +kernel) rfl (by decide +kernel) rfl rfl (Nat.le_of_ble_eq_true rfl) dX6_ring_52 (ms_0 _) rfl ?_
          refine x_aload_n (q := 56) E dX6_ring_55 0 rfl rfl ?_
          refine x_get (q := 59) E iX6_ring_X6 (0) rfl rfl 3 (by decide) (by decide +kernel) rfl dX6_ring_56 rfl ?_
          refine x_iconst (q := 60) E dX6_ring_59 rfl ?_
          refine x_iload_n (q := 61) E dX6_ring_60 2 rfl rfl ?_
          refine x_iast (q := 62) (st' := (sA (sG st (0) (n0)) (2) (0) (b0))) (f := (sG st (0) (n0)).2 (2)) E (3) rfl 0 rfl (by omega) (by omega) (by decide) dX6_ring_61 (ma_2 _ _) rfl ?_
          refine x_aload_n (q := 63) E dX6_ring_62 0 rfl rfl ?_
          refine x_get (q := 66) E iX6_ring_X6 (0) rfl rfl 3 (by decide) (by decide +kernel) rfl dX6_ring_63 rfl ?_
          refine x_iconst (q := 67) E dX6_ring_66 rfl ?_
          refine x_iload_n (q := 68) E dX6_ring_67 3 rfl rfl ?_
          refine x_iast (q := 69) (st' := (sA (sA (sG st (0) (n0)) (2) (0) (b0)) (2) (1) (b1))) (f := (sA (sG st (0) (n0)) (2) (0) (b0)).2 (2)) E (3) rfl 0 rfl (by omega) (by omega) (by decide) dX6_ring_68 (ma_2 _ _) rfl ?_
          refine x_aload_n (q := 70) E dX6_ring_69 0 rfl rfl ?_
          refine x_get (q := 73) E iX6_ring_X6 (0) rfl rfl 3 (by decide) (by decide +kernel) rfl dX6_ring_70 rfl ?_
          refine x_iconst (q := 74) E dX6_ring_73 rfl ?_
          refine x_iload (q := 76) E dX6_ring_74 4 rfl rfl ?_
          refine x_iast (q := 77) (st' := (sA (sA (sA (sG st (0) (n0)) (2) (0) (b0)) (2) (1) (b1)) (2) (2) (b2))) (f := (sA (sA (sG st (0) (n0)) (2) (0) (b0)) (2) (1) (b1)).2 (2)) E (3) rfl 0 rfl (by omega) (by omega) (by decide) dX6_ring_76 (ma_2 _ _) rfl ?_
          refine x_aload_n (q := 78) E dX6_ring_77 0 rfl rfl ?_
          refine x_iconst (q := 79) E dX6_ring_78 rfl ?_
          refine x_put (q := 82) (st' := (sG (sA (sA (sA (sG st (0) (n0)) (2) (0) (b0)) (2) (1) (b1)) (2) (2) (b2)) (1) (1))) (v := .int (ii (1))) (ty := .boolean) E iX6_ring_X6 tyX6 tyX6_ok nmX6 (0) rfl rfl 4 (by decide) (by decide +kernel) rfl (by decide +kernel) (by decide) (by decide) (Nat.le_of_ble_eq_true rfl) dX6_ring_79 (ms_1 _) rfl ?_
          refine x_iload_n (q := 83) E dX6_ring_82 1 rfl rfl ?_
          exact RET _ _ _ _ dX6_ring_83 (by first | (exfalso; omega) | exact ⟨by rw [if_pos (by omega), if_pos (by omega)], by rw [if_pos (by omega)]; exact MI_ring hI (by omega) (by omega) (by omega) (by omega)⟩)
        · refine x_iload (q := 41) E dX6_ring_39 4 rfl rfl ?_
          refine x_callSi (q := 44) (n := 1) (As := [.int (ii (b2))]) (r := []) E (c_X6_isAlphabet l D T ad hN st (b2) (by omega)) gX6_ring_X6_isAlphabet rfl rfl rfl (by decide +kernel) ⟨Nat.le_of_ble_eq_true rfl, Nat.le_of_ble_eq_true rfl⟩ rfl rfl (Nat.le_of_ble_eq_true rfl) dX6_ring_41 rfl (fun z7 s8 q9 => ?_)
          obtain ⟨rfl, rfl⟩ := q9
          refine x_if_ne (tgt := 50) (q := 47) E dX6_ring_44 (by decide) rfl (by omega) (fun c44 => ?_) (fun c44 => ?_)
          · refine x_aload_n (q := 51) E dX6_ring_50 0 rfl rfl ?_
            refine x_iload_n (q := 52) E dX6_ring_51 1 rfl rfl ?_
            refine x_put (q := 55) (st' := (sG st (0) (n0))) (v := .int (ii (n0))) (ty := .int) E iX6_ring_X6 tyX6 tyX6_ok nmX6 (0) rfl rfl 2 (by decide) (by decide +kernel) rfl (by decide +kernel) rfl rfl (Nat.le_of_ble_eq_true rfl) dX6_ring_52 (ms_0 _) rfl ?_
            refine x_aload_n (q := 56) E dX6_ring_55 0 rfl rfl ?_
            refine x_get (q := 59) E iX6_ring_X6 (0) rfl rfl 3 (by decide) (by decide +kernel) rfl dX6_ring_56 rfl ?_
            refine x_iconst (q := 60) E dX6_ring_59 rfl ?_
            refine x_iload_n (q := 61) E dX6_ring_60 2 rfl rfl ?_
            refine x_iast (q := 62) (st' := (sA (sG st (0) (n0)) (2) (0) (b0))) (f := (sG st (0) (n0)).2 (2)) E (3) rfl 0 rfl (by omega) (by omega) (by decide) dX6_ring_61 (ma_2 _ _) rfl ?_
            refine x_aload_n (q := 63) E dX6_ring_62 0 rfl rfl ?_
            refine x_get (q := 66) E iX6_ring_X6 (0) rfl rfl 3 (by decide) (by decide +kernel) rfl dX6_ring_63 rfl ?_
            refine x_iconst (q := 67) E dX6_ring_66 rfl ?_
            refine x_iload_n (q := 68) E dX6_ring_67 3 rfl rfl ?_
            refine x_iast (q := 69) (st' := (sA (sA (sG st (0) (n0)) (2) (0) (b0)) (2) (1) (b1))) (f := (sA (sG st (0) (n0)) (2) (0) (b0)).2 (2)) E (3) rfl 0 rfl (by omega) (by omega) (by decide) dX6_ring_68 (ma_2 _ _) rfl ?_
            refine x_aload_n (q := 70) E dX6_ring_69 0 rfl rfl ?_
            refine x_get (q := 73) E iX6_ring_X6 (0) rfl rfl 3 (by decide) (by decide +kernel) rfl dX6_ring_70 rfl ?_
            refine x_iconst (q := 74) E dX6_ring_73 rfl ?_
            refine x_iload (q := 76) E dX6_ring_74 4 rfl rfl ?_
            refine x_iast (q := 77) (st' := (sA (sA (sA (sG st (0) (n0)) (2) (0) (b0)) (2) (1) (b1)) (2) (2) (b2))) (f := (sA (sA (sG st (0) (n0)) (2) (0) (b0)) (2) (1) (b1)).2 (2)) E (3) rfl 0 rfl (by omega) (by omega) (by decide) dX6_ring_76 (ma_2 _ _) rfl ?_
            refine x_aload_n (q := 78) E dX6_ring_77 0 rfl rfl ?_
            refine x_iconst (q := 79) E dX6_ring_78 rfl ?_
            refine x_put (q := 82) (st' := (sG (sA (sA (sA (sG st (0) (n0)) (2) (0) (b0)) (2) (1) (b1)) (2) (2) (b2)) (1) (1))) (v := .int (ii (1))) (ty := .boolean) E iX6_ring_X6 tyX6 tyX6_ok nmX6 (0) rfl rfl 4 (by decide) (by decide +kernel) rfl (by decide +kernel) (by decide) (by decide) (Nat.le_of_ble_eq_true rfl) dX6_ring_79 (ms_1 _) rfl ?_
            refine x_iload_n (q := 83) E dX6_ring_82 1 rfl rfl ?_
            exact RET _ _ _ _ dX6_ring_83 (by first | (exfalso; omega) | exact ⟨by rw [if_pos (by omega), if_pos (by omega)], by rw [if_pos (by omega)]; exact MI_ring hI (by omega) (by omega) (by omega) (by omega)⟩)
          · refine x_bipush (q := 49) E dX6_ring_47 (by decide) rfl ?_
            exact RET _ _ _ _ dX6_ring_49 (by first | (exfalso; omega) | exact ⟨by rw [if_pos (by omega), if_neg (by omega)], by rw [if_neg (by omega)]; exact hI⟩)
      · refine x_iload_n (q := 28) E dX6_ring_27 3 rfl rfl ?_
        refine x_callSi (q := 31) (n := 1) (As := [.int (ii (b1))]) (r := []) E (c_X6_isAlphabet l D T ad hN st (b1) (by omega)) gX6_ring_X6_isAlphabet rfl rfl rfl (by decide +kernel) ⟨Nat.le_of_ble_eq_true rfl, Nat.le_of_ble_eq_true rfl⟩ rfl rfl (Nat.le_of_ble_eq_true rfl) dX6_ring_28 rfl (fun z10 s11 q12 => ?_)
        obtain ⟨rfl, rfl⟩ := q12
        refine x_if_eq (tgt := 47) (q := 34) E dX6_ring_31 (by decide) rfl (by omega) (fun c31 => ?_) (fun c31 => ?_)
        · refine x_bipush (q := 49) E dX6_ring_47 (by decide) rfl ?_
          exact RET _ _ _ _ dX6_ring_49 (by first | (exfalso; omega) | exact ⟨by rw [if_pos (by omega), if_neg (by omega)], by rw [if_neg (by omega)]; exact hI⟩)
        · refine x_iload_n (q := 35) E dX6_ring_34 1 rfl rfl ?_
          refine x_iconst (q := 36) E dX6_ring_35 rfl ?_
          refine x_icmp_le (tgt := 50) (q := 39) E dX6_ring_36 (by decide) rfl (by omega) (by omega) (fun c36 => ?_) (fun c36 => ?_)
          · refine x_aload_n (q := 51) E dX6_ring_50 0 rfl rfl ?_
            refine x_iload_n (q := 52) E dX6_ring_51 1 rfl rfl ?_
            refine x_put (q := 55) (st' := (sG st (0) (n0))) (v := .int (ii (n0))) (ty := .int) E iX6_ring_X6 tyX6 tyX6_ok nmX6 (0) rfl rfl 2 (by decide) (by decide +kernel) rfl (by decide +kernel) rfl rfl (Nat.le_of_ble_eq_true rfl) dX6_ring_52 (ms_0 _) rfl ?_
            refine x_aload_n (q := 56) E dX6_ring_55 0 rfl rfl ?_
            refine x_get (q := 59) E iX6_ring_X6 (0) rfl rfl 3 (by decide) (by decide +kernel) rfl dX6_ring_56 rfl ?_
            refine x_iconst (q := 60) E dX6_ring_59 rfl ?_
            refine x_iload_n (q := 61) E dX6_ring_60 2 rfl rfl ?_
            refine x_iast (q := 62) (st' := (sA (sG st (0) (n0)) (2) (0) (b0))) (f := (sG st (0) (n0)).2 (2)) E (3) rfl 0 rfl (by omega) (by omega) (by decide) dX6_ring_61 (ma_2 _ _) rfl ?_
            refine x_aload_n (q := 63) E dX6_ring_62 0 rfl rfl ?_
            refine x_get (q := 66) E iX6_ring_X6 (0) rfl rfl 3 (by decide) (by decide +kernel) rfl dX6_ring_63 rfl ?_
            refine x_iconst (q := 67) E dX6_ring_66 rfl ?_
            refine x_iload_n (q := 68) E dX6_ring_67 3 rfl rfl ?_
            refine x_iast (q := 69) (st' := (sA (sA (sG st (0) (n0)) (2) (0) (b0)) (2) (1) (b1))) (f := (sA (sG st (0) (n0)) (2) (0) (b0)).2 (2)) E (3) rfl 0 rfl (by omega) (by omega) (by decide) dX6_ring_68 (ma_2 _ _) rfl ?_
            refine x_aload_n (q := 70) E dX6_ring_69 0 rfl rfl ?_
            refine x_get (q := 73) E iX6_ring_X6 (0) rfl rfl 3 (by decide) (by decide +kernel) rfl dX6_ring_70 rfl ?_
            refine x_iconst (q := 74) E dX6_ring_73 rfl ?_
            refine x_iload (q := 76) E dX6_ring_74 4 rfl rfl ?_
            refine x_iast (q := 77) (st' := (sA (sA (sA (sG st (0) (n0)) (2) (0) (b0)) (2) (1) (b1)) (2) (2) (b2))) (f := (sA (sA (sG st (0) (n0)) (2) (0) (b0)) (2) (1) (b1)).2 (2)) E (3) rfl 0 rfl (by omega) (by omega) (by decide) dX6_ring_76 (ma_2 _ _) rfl ?_
            refine x_aload_n (q := 78) E dX6_ring_77 0 rfl rfl ?_
            refine x_iconst (q := 79) E dX6_ring_78 rfl ?_
            refine x_put (q := 82) (st' := (sG (sA (sA (sA (sG st (0) (n0)) (2) (0) (b0)) (2) (1) (b1)) (2) (2) (b2)) (1) (1))) (v := .int (ii (1))) (ty := .boolean) E iX6_ring_X6 tyX6 tyX6_ok nmX6 (0) rfl rfl 4 (by decide) (by decide +kernel) rfl (by decide +kernel) (by decide) (by decide) (Nat.le_of_ble_eq_true rfl) dX6_ring_79 (ms_1 _) rfl ?_
            refine x_iload_n (q := 83) E dX6_ring_82 1 rfl rfl ?_
            exact RET _ _ _ _ dX6_ring_83 (by first | (exfalso; omega) | exact ⟨by rw [if_pos (by omega), if_pos (by omega)], by rw [if_pos (by omega)]; exact MI_ring hI (by omega) (by omega) (by omega) (by omega)⟩)
          · refine x_iload (q := 41) E dX6_ring_39 4 rfl rfl ?_
            refine x_callSi (q := 44) (n := 1) (As := [.int (ii (b2))]) (r := []) E (c_X6_isAlphabet l D T ad hN st (b2) (by omega)) gX6_ring_X6_isAlphabet rfl rfl rfl (by decide +kernel) ⟨Nat.le_of_ble_eq_true rfl, Nat.le_of_ble_eq_true rfl⟩ rfl rfl (Nat.le_of_ble_eq_true rfl) dX6_ring_41 rfl (fun z13 s14 q15 => ?_)
            obtain ⟨rfl, rfl⟩ := q15
            refine x_if_ne (tgt := 50) (q := 47) E dX6_ring_44 (by decide) rfl (by omega) (fun c44 => ?_) (fun c44 => ?_)
            · refine x_aload_n (q := 51) E dX6_ring_50 0 rfl rfl ?_
              refine x_iload_n (q := 52) E dX6_ring_51 1 rfl rfl ?_
              refine x_put (q := 55) (st' := (sG st (0) (n0))) (v := .int (ii (n0))) (ty := .int) E iX6_ring_X6 tyX6 tyX6_ok nmX6 (0) rfl rfl 2 (by decide) (by decide +kernel) rfl (by decide +kernel) rfl rfl (Nat.le_of_ble_eq_true rfl) dX6_ring_52 (ms_0 _) rfl ?_
              refine x_aload_n (q := 56) E dX6_ring_55 0 rfl rfl ?_
              refine x_get (q := 59) E iX6_ring_X6 (0) rfl rfl 3 (by decide) (by decide +kernel) rfl dX6_ring_56 rfl ?_
              refine x_iconst (q := 60) E dX6_ring_59 rfl ?_
              refine x_iload_n (q := 61) E dX6_ring_60 2 rfl rfl ?_
              refine x_iast (q := 62) (st' := (sA (sG st (0) (n0)) (2) (0) (b0))) (f := (sG st (0) (n0)).2 (2)) E (3) rfl 0 rfl (by omega) (by omega) (by decide) dX6_ring_61 (ma_2 _ _) rfl ?_
              refine x_aload_n (q := 63) E dX6_ring_62 0 rfl rfl ?_
              refine x_get (q := 66) E iX6_ring_X6 (0) rfl rfl 3 (by decide) (by decide +kernel) rfl dX6_ring_63 rfl ?_
              refine x_iconst (q := 67) E dX6_ring_66 rfl ?_
              refine x_iload_n (q := 68) E dX6_ring_67 3 rfl rfl ?_
              refine x_iast (q := 69) (st' := (sA (sA (sG st (0) (n0)) (2) (0) (b0)) (2) (1) (b1))) (f := (sA (sG st (0) (n0)) (2) (0) (b0)).2 (2)) E (3) rfl 0 rfl (by omega) (by omega) (by decide) dX6_ring_68 (ma_2 _ _) rfl ?_
              refine x_aload_n (q := 70) E dX6_ring_69 0 rfl rfl ?_
              refine x_get (q := 73) E iX6_ring_X6 (0) rfl rfl 3 (by decide) (by decide +kernel) rfl dX6_ring_70 rfl ?_
              refine x_iconst (q := 74) E dX6_ring_73 rfl ?_
              refine x_iload (q := 76) E dX6_ring_74 4 rfl rfl ?_
              refine x_iast (q := 77) (st' := (sA (sA (sA (sG st (0) (n0)) (2) (0) (b0)) (2) (1) (b1)) (2) (2) (b2))) (f := (sA (sA (sG st (0) (n0)) (2) (0) (b0)) (2) (1) (b1)).2 (2)) E (3) rfl 0 rfl (by omega) (by omega) (by decide) dX6_ring_76 (ma_2 _ _) rfl ?_
              refine x_aload_n (q := 78) E dX6_ring_77 0 rfl rfl ?_
              refine x_iconst (q := 79) E dX6_ring_78 rfl ?_
              refine x_put (q := 82) (st' := (sG (sA (sA (sA (sG st (0) (n0)) (2) (0) (b0)) (2) (1) (b1)) (2) (2) (b2)) (1) (1))) (v := .int (ii (1))) (ty := .boolean) E iX6_ring_X6 tyX6 tyX6_ok nmX6 (0) rfl rfl 4 (by decide) (by decide +kernel) rfl (by decide +kernel) (by decide) (by decide) (Nat.le_of_ble_eq_true rfl) dX6_ring_79 (ms_1 _) rfl ?_
              refine x_iload_n (q := 83) E dX6_ring_82 1 rfl rfl ?_
              exact RET _ _ _ _ dX6_ring_83 (by first | (exfalso; omega) | exact ⟨by rw [if_pos (by omega), if_pos (by omega)], by rw [if_pos (by omega)]; exact MI_ring hI (by omega) (by omega) (by omega) (by omega)⟩)
            · refine x_bipush (q := 49) E dX6_ring_47 (by decide) rfl ?_
              exact RET _ _ _ _ dX6_ring_49 (by first | (exfalso; omega) | exact ⟨by rw [if_pos (by omega), if_neg (by omega)], by rw [if_neg (by omega)]; exact hI⟩)
  · refine x_bipush (q := 14) E dX6_ring_12 (by decide) rfl ?_
    exact RET _ _ _ _ dX6_ring_14 (⟨by rw [if_neg (by omega)], by rw [if_neg (by omega)]; exact hI⟩)

