set_option maxRecDepth 100000 in
set_option maxHeartbeats 4000000 in
theorem c_X5_depthSpent (l : Launch) (D : va_G) (T : Nat → ClassId) (ad : Nat → Nat) (hN : ∀ i j, i < 33 → j < 33 → ad i = ad j → i = j) (st : St_) (v : Nat) (hv : v < 3) (g0 : Int) (bg0 : -2147483648 ≤ g0 ∧ g0 < 2147483648) (hs : 0 ≤ st.1 (10 + v) ∧ st.1 (10 + v) ≤ 60) (hb : ∀ j : Int, 0 ≤ j → j < 60 → 0 ≤ st.2 (14 + v) j ∧ st.2 (14 + v) j ≤ 60) (hg : 2 ≤ g0 ∧ g0 ≤ 6) : CXi l yX5_depthSpent wsX5_depthSpent (rmX 3 68) [.ref (ad (25 + v)), .int (ii (g0))] D (tyX T) (XW T ad) (alX ad) st (fun z st2 => ∃ (k : Int) (f : Int → Int), st2 = sF (sG st (10 + v) k) (14 + v) f ∧ (0 ≤ k ∧ k ≤ 60) ∧ (∀ j : Int, 0 ≤ j → j < 60 → 0 ≤ f j ∧ f j ≤ 60) ∧ z = dpt g0 (wl (st.2 (14 + v)) (st.1 (10 + v))) ∧ -1 ≤ z ∧ z ≤ 60) := by
  refine mk_i (cc := cX5_depthSpent) (nL := 3) rfl rfl (XW_ok hN) (Nat.le_of_ble_eq_true rfl) [(0, .ref (ad (25 + v))), (1, .int (ii (g0)))] rfl (fun p e s m args below meth c A Q E RET => ?_)
  refine x_iconst (q := 1) E dX5_depthSpent_0 rfl ?_
  refine x_istore_n (q := 2) (lv' := [(2, .int (ii (0))), (0, .ref (ad (25 + v))), (1, .int (ii (g0)))]) E dX5_depthSpent_1 (by decide) rfl rfl ?_
  have L2 : ∀ (n : Nat) (d : Int) (k : Int) (f : Int → Int), (61 - d).toNat < n → (0 ≤ d ∧ 0 ≤ k ∧ k + d ≤ 60) → (∀ j : Int, 0 ≤ j → j < 60 → 0 ≤ f j ∧ f j ≤ 60) → (dpt g0 (wl (st.2 (14 + v)) (st.1 (10 + v))) = (if dpt g0 (wl f k) = -1 then -1 else d + dpt g0 (wl f k))) → XJ p l e (rmX 3 68) s m args below meth c D (XW T ad) A 3 Q 0 0 (sF (sG st (10 + v) (k)) (14 + v) (f)) 2 [(0, .ref (ad (25 + v))), (1, .int (ii (g0))), (2, .int (ii (d)))] [] := by
    intro n
    induction n with
    | zero => intro d k f hn; exact absurd hn (Nat.not_lt_zero _)
    | succ n ih2 =>
      intro d k f hn2 a1 a3 a4
      have e1 := gm_lt f (k := k) (g := g0) (by omega) (by omega)
      have e2 := lg_lt f (k := k) (g := g0) (by omega) (by omega)
      have e3 := badW_iff g0 (wl f k)
      rw [RLw_w f (by omega)] at e3
      have e4 := gm_b f (k := k) (b := 60) (by omega) (by omega) (fun j j0 j1 => (a3 j j0 (by omega)).2)
      have e5 := lg_b f (k := k) (by omega)
      have e0 := wl_len f (k := k) (by omega)
      refine x_iload_n (q := 3) E dX5_depthSpent_2 2 rfl rfl ?_
      refine x_bipush (q := 5) E dX5_depthSpent_3 (by decide) rfl ?_
      refine x_icmp_gt (tgt := 46) (q := 8) E dX5_depthSpent_5 (by decide) rfl (by omega) (by omega) (fun c5 => ?_) (fun c5 => ?_)
      · exfalso; omega
      · refine x_aload_n (q := 9) E dX5_depthSpent_8 0 rfl rfl ?_
        refine x_callVi (q := 12) (n := 0) (As := []) (r := []) E (c_X4_size l D T ad hN (sF (sG st (10 + v) (k)) (14 + v) (f)) (v) hv) gX5_depthSpent_X4_size rfl rfl rfl (by decide +kernel) ⟨Nat.le_of_ble_eq_true rfl, Nat.le_of_ble_eq_true rfl⟩ (25 + v) (xg_word hv) rfl rfl rfl (Nat.le_of_ble_eq_true rfl) dX5_depthSpent_9 rfl (fun z1 s2 q3 => ?_)
        obtain ⟨rfl, rfl⟩ := q3
        refine x_ti (show (sF (sG st (10 + v) (k)) (14 + v) (f)).1 (10 + v) = k by rw [sF_1, sG_s]) ?_
        refine x_if_ne (tgt := 17) (q := 15) E dX5_depthSpent_12 (by decide) rfl (by omega) (fun c12 => ?_) (fun c12 => ?_)
        · refine x_aload_n (q := 18) E dX5_depthSpent_17 0 rfl rfl ?_
          refine x_callVi (q := 21) (n := 0) (As := []) (r := []) E (c_X4_greatestLetter l D T ad hN (sF (sG st (10 + v) (k)) (14 + v) (f)) (v) hv (by rw [sF_1, sG_s]; omega) (by rw [sF_s]; exact a3)) gX5_depthSpent_X4_greatestLetter rfl rfl rfl (by decide +kernel) ⟨Nat.le_of_ble_eq_true rfl, Nat.le_of_ble_eq_true rfl⟩ (25 + v) (xg_word hv) rfl rfl rfl (Nat.le_of_ble_eq_true rfl) dX5_depthSpent_18 rfl (fun z4 s5 q6 => ?_)
          obtain ⟨rfl, rfl⟩ := q6
          refine x_ti (show gm ((sF (sG st (10 + v) k) (14 + v) f).2 (14 + v)) ((sF (sG st (10 + v) k) (14 + v) f).1 (10 + v)) = gm f k from by rw [sF_s, sF_1, sG_s]) ?_
          refine x_iload_n (q := 22) E dX5_depthSpent_21 1 rfl rfl ?_
          refine x_icmp_gt (tgt := 33) (q := 25) E dX5_depthSpent_22 (by decide) rfl (by omega) (by omega) (fun c22 => ?_) (fun c22 => ?_)
          · refine x_iconst (q := 34) E dX5_depthSpent_33 rfl ?_
            exact RET _ _ _ _ dX5_depthSpent_34 (⟨k, f, rfl, by omega, a3, by rw [a4, if_pos (dpt_bad (fun y => by rw [y] at e0; exact c12 e0.symm) (e3.mpr (Or.inl (e1.mp c22))))], by omega, by omega⟩)
          · refine x_aload_n (q := 26) E dX5_depthSpent_25 0 rfl rfl ?_
            refine x_callVi (q := 29) (n := 0) (As := []) (r := []) E (c_X4_longestRun l D T ad hN (sF (sG st (10 + v) (k)) (14 + v) (f)) (v) hv (by rw [sF_1, sG_s]; omega) (by rw [sF_s]; exact a3)) gX5_depthSpent_X4_longestRun rfl rfl rfl (by decide +kernel) ⟨Nat.le_of_ble_eq_true rfl, Nat.le_of_ble_eq_true rfl⟩ (25 + v) (xg_word hv) rfl rfl rfl (Nat.le_of_ble_eq_true rfl) dX5_depthSpent_26 rfl (fun z7 s8 q9 => ?_)
            obtain ⟨rfl, rfl⟩ := q9
            refine x_ti (show lg ((sF (sG st (10 + v) k) (14 + v) f).2 (14 + v)) ((sF (sG st (10 + v) k) (14 + v) f).1 (10 + v)) = lg f k from by rw [sF_s, sF_1, sG_s]) ?_
            refine x_iload_n (q := 30) E dX5_depthSpent_29 1 rfl rfl ?_
            refine x_icmp_le (tgt := 35) (q := 33) E dX5_depthSpent_30 (by decide) rfl (by omega) (by omega) (fun c30 => ?_) (fun c30 => ?_)
            · refine x_aload_n (q := 36) E dX5_depthSpent_35 0 rfl rfl ?_
              refine x_iload_n (q := 37) E dX5_depthSpent_36 1 rfl rfl ?_
              refine x_callVv (q := 40) (n := 1) (As := [.int (ii (g0))]) (r := []) E (c_X4_becomeShorter l D T ad hN (sF (sG st (10 + v) (k)) (14 + v) (f)) (v) hv (g0) (by omega) (by rw [sF_1, sG_s]; omega) (by rw [sF_s]; exact a3)) gX5_depthSpent_X4_becomeShorter rfl rfl rfl (by decide +kernel) ⟨Nat.le_of_ble_eq_true rfl, Nat.le_of_ble_eq_true rfl⟩ (25 + v) (xg_word hv) rfl rfl rfl (Nat.le_of_ble_eq_true rfl) dX5_depthSpent_37 rfl (fun s11 q12 => ?_)
              obtain ⟨k13, f14, rfl, h115, h216, h317⟩ := q12
              have g1 := h115
              have g2 := h216
              rw [sF_s, sF_1, sG_s] at g2
              rw [sF_1, sG_s] at g1
              have g3 : wl f k ≠ [] := fun y => by rw [y] at e0; exact c12 e0.symm
              have g4 : badW g0 (wl f k) = false := by
                cases hbw : badW g0 (wl f k) with
                | false => rfl
                | true => rcases e3.mp hbw with y | y
                          · exact absurd (e1.mpr y) c22
                          · have := e2.mpr y; omega
              have g5 := sh_less hg.1 (wl f k) g3
              rw [RLw_w f (by omega), ← g2] at g5
              have g7 := wl_len f14 g1.1
              have g6 : dpt g0 (wl (st.2 (14 + v)) (st.1 (10 + v))) = (if dpt g0 (wl f14 k13) = -1 then -1 else d + 1 + dpt g0 (wl f14 k13)) := by
                rw [a4, dpt_s hg.1 g3 g4, RLw_w f (by omega), ← g2]
                by_cases hq : dpt g0 (wl f14 k13) = -1
                · rw [if_pos hq, if_pos rfl, if_pos hq]
                · have g8 := dpt_ge g0 (wl f14 k13)
                  rw [if_neg hq, if_neg (by omega), if_neg hq]; omega
              clear e1 e2 e3
              refine x_iinc (q := 43) (k := 2) (lv' := [(2, .int (ii (d + 1))), (0, .ref (ad (25 + v))), (1, .int (ii (g0)))]) E dX5_depthSpent_40 rfl (by decide) rfl rfl ?_
              refine x_goto (tgt := 2) E dX5_depthSpent_43 (by decide) ?_
              refine x_st E (st' := (sF (sG st (10 + v) (k13)) (14 + v) (f14))) (by refine Prod.ext (funext fun k9 => ?_) (funext fun q9 => ?_) <;> simp only [sG_1, sG_2, sA_1, sA_2, sF_1, sF_2, reduceIte] <;> (repeat' split) <;> first | rfl | omega | (subst_vars; first | rfl | omega) | simp_all) ?_
              refine x_lv E (lv' := [(0, .ref (ad (25 + v))), (1, .int (ii (g0))), (2, .int (ii (d + 1)))]) [1, 2, 0] rfl ?_
              exact ih2 (d + 1) (k13) (f14) (by omega) (by omega) (h317) (g6)
            · refine x_iconst (q := 34) E dX5_depthSpent_33 rfl ?_
              exact RET _ _ _ _ dX5_depthSpent_34 (⟨k, f, rfl, by omega, a3, by rw [a4, if_pos (dpt_bad (fun y => by rw [y] at e0; exact c12 e0.symm) (e3.mpr (Or.inr (e2.mp (by omega)))))], by omega, by omega⟩)
        · refine x_iload_n (q := 16) E dX5_depthSpent_15 2 rfl rfl ?_
          exact RET _ _ _ _ dX5_depthSpent_16 (⟨k, f, rfl, by omega, a3, by rw [a4, show k = 0 from by omega, wl_0, dpt_0, if_neg (by omega)]; omega, by omega, by omega⟩)
  refine x_lv E (lv' := [(0, .ref (ad (25 + v))), (1, .int (ii (g0))), (2, .int (ii (0)))]) [1, 2, 0] rfl ?_
  refine x_st E (st' := (sF (sG st (10 + v) (st.1 (10 + v))) (14 + v) (st.2 (14 + v)))) (by refine Prod.ext (funext fun k9 => ?_) (funext fun q9 => ?_) <;> simp only [sG_1, sG_2, sA_1, sA_2, sF_1, sF_2, reduceIte] <;> (repeat' split) <;> first | rfl | omega | (subst_vars; first | rfl | omega) | simp_all) ?_
  exact L2 _ (0) (st.1 (10 + v)) (st.2 (14 + v)) (Nat.lt_succ_self _) (by omega) (hb) (by have := dpt_ge g0 (wl (st.2 (14 + v)) (st.1 (10 + v))); split; assumption; omega)

theorem iX5_depth_X5 : ∀ w ∈ wsX50, w ∈ wsX5_depth := by decide +kernel
set_option maxRecDepth 100000 in
set_option maxHeartbeats 4000000 in
theorem c_X5_depth (l : Launch) (D : va_G) (T : Nat → ClassId) (ad : Nat → Nat) (hN : ∀ i j, i < 33 → j < 33 → ad i = ad j → i = j) (st : St_) (g0 : Int) (bg0 : -2147483648 ≤ g0 ∧ g0 < 2147483648) (a : AB_) (hC : CI st a) : CXi l yX5_depth wsX5_depth (rmX 4 90) [.ref (ad 0), .int (ii (g0))] D (tyX T) (XW T ad) (alX ad) st (fun z st2 => z = (if 2 ≤ g0 ∧ g0 ≤ 6 then dpt g0 a.2 else -102) ∧ CI st2 a) := by
  refine mk_i (cc := cX5_depth) (nL := 2) rfl rfl (XW_ok hN) (Nat.le_of_ble_eq_true rfl) [(0, .ref (ad 0)), (1, .int (ii (g0)))] rfl (fun p e s m args below meth c A Q E RET => ?_)
  have k1 := hC.1
  have k2 := hC.2.1
  have k3 := hC.2.2.1
  have k4 := hC.2.2.2.1
  have k5 := hC.2.2.2.2.1
  have k6 := hC.2.2.2.2.2.1
  have k7 := hC.2.2.2.2.2.2.1
  have k8 := hC.2.2.2.2.2.2.2
  have hn := k7.2.1.1
  have w0 := (k6 0 (by omega)).1
  have wb0 := (k6 0 (by omega)).2
  have hL := hC.len
  have hf := hC.lf
  have hf6 := hC.let6
  refine x_iload_n (q := 1) E dX5_depth_0 1 rfl rfl ?_
  refine x_iconst (q := 2) E dX5_depth_1 rfl ?_
  refine x_icmp_lt (tgt := 11) (q := 5) E dX5_depth_2 (by decide) rfl (by omega) (by omega) (fun c2 => ?_) (fun c2 => ?_)
  · refine x_bipush (q := 13) E dX5_depth_11 (by decide) rfl ?_
    exact RET _ _ _ _ dX5_depth_13 (⟨by rw [if_neg (by omega)], hC⟩)
  · refine x_iload_n (q := 6) E dX5_depth_5 1 rfl rfl ?_
    refine x_bipush (q := 8) E dX5_depth_6 (by decide) rfl ?_
    refine x_icmp_le (tgt := 14) (q := 11) E dX5_depth_8 (by decide) rfl (by omega) (by omega) (fun c8 => ?_) (fun c8 => ?_)
    · refine x_aload_n (q := 15) E dX5_depth_14 0 rfl rfl ?_
      refine x_get (q := 18) E iX5_depth_X5 (0) rfl rfl 2 (by decide) (by decide +kernel) rfl dX5_depth_15 rfl ?_
      refine x_aload_n (q := 19) E dX5_depth_18 0 rfl rfl ?_
      refine x_get (q := 22) E iX5_depth_X5 (0) rfl rfl 1 (by decide) (by decide +kernel) rfl dX5_depth_19 rfl ?_
      refine x_callVv (q := 25) (n := 1) (As := [.ref (ad (25 + 0))]) (r := []) E (c_X4_become l D T ad hN st (1) (by decide) (0) (by decide) (by decide) ((k6 1 (by omega)).1) ((k6 1 (by omega)).2) (w0) (wb0)) gX5_depth_X4_become rfl rfl rfl (by decide +kernel) ⟨Nat.le_of_ble_eq_true rfl, Nat.le_of_ble_eq_true rfl⟩ (25 + 1) (xg_word (by decide)) rfl rfl rfl (Nat.le_of_ble_eq_true rfl) dX5_depth_22 rfl (fun s2 q3 => ?_)
      obtain ⟨f4, rfl, h15, h26⟩ := q3
      have g1 := h15
      have g2 := h26
      have hC1 := CI_oth hC (v := 1) (Or.inl rfl) w0 g2
      refine x_aload_n (q := 26) E dX5_depth_25 0 rfl rfl ?_
      refine x_get (q := 29) E iX5_depth_X5 (0) rfl rfl 2 (by decide) (by decide +kernel) rfl dX5_depth_26 rfl ?_
      refine x_iload_n (q := 30) E dX5_depth_29 1 rfl rfl ?_
      refine x_callSi (q := 33) (n := 2) (As := [.ref (ad (25 + 1)), .int (ii (g0))]) (r := []) E (c_X5_depthSpent l D T ad hN (sF (sG st (10 + 1) (st.1 (10 + 0))) (14 + 1) (f4)) (1) (by decide) (g0) (by omega) (by rw [sF_1, sG_s]; exact w0) (by rw [sF_s]; exact g2) (by omega)) gX5_depth_X5_depthSpent rfl rfl rfl (by decide +kernel) ⟨Nat.le_of_ble_eq_true rfl, Nat.le_of_ble_eq_true rfl⟩ rfl rfl (Nat.le_of_ble_eq_true rfl) dX5_depth_30 rfl (fun z7 s8 q9 => ?_)
      obtain ⟨k10, f11, rfl, h112, h213, h314, h415⟩ := q9
      exact RET _ _ _ _ dX5_depth_33 (⟨by rw [if_pos (by omega), h314, sF_s, sF_1, sG_s, wl_congr g1, k2], CI_oth hC1 (v := 1) (Or.inl rfl) h112 h213⟩)
    · refine x_bipush (q := 13) E dX5_depth_11 (by decide) rfl ?_
      exact RET _ _ _ _ dX5_depth_13 (⟨by rw [if_neg (by omega)], hC⟩)

theorem iX5_isMirror_X5 : ∀ w ∈ wsX50, w ∈ wsX5_isMirror := by decide +kernel
set_option maxRecDepth 100000 in
set_option maxHeartbeats 4000000 in
theorem c_X5_isMirror (l : Launch) (D : va_G) (T : Nat → ClassId) (ad : Nat → Nat) (hN : ∀ i j, i < 33 → j < 33 → ad i = ad j → i = j) (st : St_) (a : AB_) (hC : CI st a) : CXi l yX5_isMirror wsX5_isMirror (rmX 2 43) [.ref (ad 0)] D (tyX T) (XW T ad) (alX ad) st (fun z st2 => z = ind (∀ k : Int, 0 ≤ k → k < (a.2.length : Int) → (lf a.2) k = (lf a.2) ((a.2.length : Int) - 1 - k)) ∧ CI st2 a) := by
  refine mk_i (cc := cX5_isMirror) (nL := 1) rfl rfl (XW_ok hN) (Nat.le_of_ble_eq_true rfl) [(0, .ref (ad 0))] rfl (fun p e s m args below meth c A Q E RET => ?_)
  have k1 := hC.1
  have k2 := hC.2.1
  have k3 := hC.2.2.1
  have k4 := hC.2.2.2.1
  have k5 := hC.2.2.2.2.1
  have k6 := hC.2.2.2.2.2.1
  have k7 := hC.2.2.2.2.2.2.1
  have k8 := hC.2.2.2.2.2.2.2
  have hn := k7.2.1.1
  have w0 := (k6 0 (by omega)).1
  have wb0 := (k6 0 (by omega)).2
  have hL := hC.len
  have hf := hC.lf
  have hf6 := hC.let6
  refine x_aload_n (q := 1) E dX5_isMirror_0 0 rfl rfl ?_
  refine x_get (q := 4) E iX5_isMirror_X5 (0) rfl rfl 1 (by decide) (by decide +kernel) rfl dX5_isMirror_1 rfl ?_
  refine x_callVi (q := 7) (n := 0) (As := []) (r := []) E (c_X4_isSameMirrored l D T ad hN st (0) (by decide) (by omega) (wb0)) gX5_isMirror_X4_isSameMirrored rfl rfl rfl (by decide +kernel) ⟨Nat.le_of_ble_eq_true rfl, Nat.le_of_ble_eq_true rfl⟩ (25 + 0) (xg_word (by decide)) rfl rfl rfl (Nat.le_of_ble_eq_true rfl) dX5_isMirror_4 rfl (fun z1 s2 q3 => ?_)
  obtain ⟨rfl, e14, e25⟩ := q3
  have g1 := e14
  have g2 := e25
  have g3 : (∀ k : Int, 0 ≤ k → k < (a.2.length : Int) → lf a.2 k = lf a.2 ((a.2.length : Int) - 1 - k)) ↔ ∀ k : Int, 0 ≤ k → k < st.1 (10 + 0) → st.2 (14 + 0) k = st.2 (14 + 0) (st.1 (10 + 0) - 1 - k) := by
    rw [hL]
    constructor
    · intro y k z0 z1; rw [← hf k z0 z1, ← hf _ (by omega) (by omega)]; exact y k z0 z1
    · intro y k z0 z1; rw [hf k z0 z1, hf _ (by omega) (by omega)]; exact y k z0 z1
  refine x_if_eq (tgt := 14) (q := 10) E dX5_isMirror_7 (by decide) rfl (by omega) (fun c7 => ?_) (fun c7 => ?_)
  · refine x_iconst (q := 15) E dX5_isMirror_14 rfl ?_
    exact RET _ _ _ _ dX5_isMirror_15 (⟨(ind_f (fun y => by have := g2.mpr (g3.mp y); omega)).symm, hC⟩)
  · refine x_iconst (q := 11) E dX5_isMirror_10 rfl ?_
    refine x_goto (tgt := 15) E dX5_isMirror_11 (by decide) ?_
    exact RET _ _ _ _ dX5_isMirror_15 (⟨(ind_t (g3.mpr (g2.mp (by omega)))).symm, hC⟩)

theorem iX5_twice_X5 : ∀ w ∈ wsX50, w ∈ wsX5_twice := by decide +kernel
set_option maxRecDepth 100000 in
set_option maxHeartbeats 4000000 in
theorem c_X5_twice (l : Launch) (D : va_G) (T : Nat → ClassId) (ad : Nat → Nat) (hN : ∀ i j, i < 33 → j < 33 → ad i = ad j → i = j) (st : St_) (a : AB_) (hC : CI st a) : CXi l yX5_twice wsX5_twice (rmX 3 65) [.ref (ad 0)] D (tyX T) (XW T ad) (alX ad) st (fun z st2 => z = epi (TWP (lf a.2) (a.2.length : Int)) ∧ CI st2 a) := by
  refine mk_i (cc := cX5_twice) (nL := 1) rfl rfl (XW_ok hN) (Nat.le_of_ble_eq_true rfl) [(0, .ref (ad 0))] rfl (fun p e s m args below meth c A Q E RET => ?_)
  have k1 := hC.1
  have k2 := hC.2.1
  have k3 := hC.2.2.1
  have k4 := hC.2.2.2.1
  have k5 := hC.2.2.2.2.1
  have k6 := hC.2.2.2.2.2.1
  have k7 := hC.2.2.2.2.2.2.1
  have k8 := hC.2.2.2.2.2.2.2
  have hn := k7.2.1.1
  have w0 := (k6 0 (by omega)).1
  have wb0 := (k6 0 (by omega)).2
  have hL := hC.len
  have hf := hC.lf
  have hf6 := hC.let6
  refine x_aload_n (q := 1) E dX5_twice_0 0 rfl rfl ?_
  refine x_get (q := 4) E iX5_twice_X5 (0) rfl rfl 1 (by decide) (by decide +kernel) rfl dX5_twice_1 rfl ?_
  refine x_callVi (q := 7) (n := 0) (As := []) (r := []) E (c_X4_leastTwice l D T ad hN st (0) (by decide) (by omega) (wb0)) gX5_twice_X4_leastTwice rfl rfl rfl (by decide +kernel) ⟨Nat.le_of_ble_eq_true rfl, Nat.le_of_ble_eq_true rfl⟩ (25 + 0) (xg_word (by decide)) rfl rfl rfl (Nat.le_of_ble_eq_true rfl) dX5_twice_4 rfl (fun z1 s2 q3 => ?_)
  obtain ⟨rfl, h4⟩ := q3
  exact RET _ _ _ _ dX5_twice_7 (by have g1 := h4; exact ⟨(epi_eq (TWP_congr (fun j j0 j1 => (hf j j0 (by omega)).symm) (show TWP (st.2 (14 + 0)) (a.2.length : Int) _ from by rw [hL]; exact ⟨g1.1, g1.2.2.1.elim Or.inl (fun y => Or.inr y.2), g1.2.2.2⟩)) (fun x y => TWP_u)).symm, hC⟩)

theorem iX5_digest_X5 : ∀ w ∈ wsX50, w ∈ wsX5_digest := by decide +kernel
set_option maxRecDepth 100000 in
set_option maxHeartbeats 4000000 in
theorem c_X5_digest (l : Launch) (D : va_G) (T : Nat → ClassId) (ad : Nat → Nat) (hN : ∀ i j, i < 33 → j < 33 → ad i = ad j → i = j) (st : St_) (a : AB_) (hC : CI st a) : CXl l yX5_digest wsX5_digest (rmX 3 72) [.ref (ad 0)] D (tyX T) (XW T ad) (alX ad) st (fun z st2 => z = 31 * (31 * mix (lf a.2) (mix (a.1.2 0) (mix (a.1.2 (1 + 3)) (mix (a.1.2 (1 + 2)) (mix (a.1.2 (1 + 1)) (mix (a.1.2 (1 + 0)) 163 (a.1.1 (4 + 0))) (a.1.1 (4 + 1))) (a.1.1 (4 + 2))) (a.1.1 (4 + 3))) (a.1.1 0)) (a.2.length : Int) + a.1.1 2) + a.1.1 3 ∧ CI st2 a) := by
  refine mk_l (cc := cX5_digest) (nL := 3) rfl rfl (XW_ok hN) (Nat.le_of_ble_eq_true rfl) [(0, .ref (ad 0))] rfl (fun p e s m args below meth c A Q E RET => ?_)
  have k1 := hC.1
  have k2 := hC.2.1
  have k3 := hC.2.2.1
  have k4 := hC.2.2.2.1
  have k5 := hC.2.2.2.2.1
  have k6 := hC.2.2.2.2.2.1
  have k7 := hC.2.2.2.2.2.2.1
  have k8 := hC.2.2.2.2.2.2.2
  have hn := k7.2.1.1
  have w0 := (k6 0 (by omega)).1
  have wb0 := (k6 0 (by omega)).2
  have hL := hC.len
  have hf := hC.lf
  have hf6 := hC.let6
  refine x_aload_n (q := 1) E dX5_digest_0 0 rfl rfl ?_
  refine x_get (q := 4) E iX5_digest_X5 (0) rfl rfl 0 (by decide) (by decide +kernel) rfl dX5_digest_1 rfl ?_
  refine x_ldc2 (q := 7) (v := 163) (z := 163) E (by decide +kernel) (by decide) dX5_digest_4 rfl ?_
  refine x_callVl (q := 10) (n := 1) (As := [.long (jj (163))]) (r := []) E (c_X1_mixInto l D T ad hN st (163) (k7.2.1)) gX5_digest_X1_mixInto rfl rfl rfl (by decide +kernel) ⟨Nat.le_of_ble_eq_true rfl, Nat.le_of_ble_eq_true rfl⟩ (1) rfl rfl rfl rfl (Nat.le_of_ble_eq_true rfl) dX5_digest_7 rfl (fun z1 s2 q3 => ?_)
  obtain ⟨rfl, rfl⟩ := q3
  refine x_lstore_n (q := 11) (lv' := [(1, .long (jj (mix (st.2 0) (mix (st.2 (1 + 3)) (mix (st.2 (1 + 2)) (mix (st.2 (1 + 1)) (mix (st.2 (1 + 0)) (163) (st.1 (3 + 0))) (st.1 (3 + 1))) (st.1 (3 + 2))) (st.1 (3 + 3))) (st.1 2)))), (0, .ref (ad 0))]) E dX5_digest_10 (by decide) rfl rfl ?_
  refine x_aload_n (q := 12) E dX5_digest_11 1 rfl rfl ?_
  refine x_get (q := 15) E iX5_digest_X5 (0) rfl rfl 1 (by decide) (by decide +kernel) rfl dX5_digest_12 rfl ?_
  refine x_lload_n (q := 16) E dX5_digest_15 0 rfl rfl ?_
  refine x_callVl (q := 19) (n := 1) (As := [.long (jj (mix (st.2 0) (mix (st.2 (1 + 3)) (mix (st.2 (1 + 2)) (mix (st.2 (1 + 1)) (mix (st.2 (1 + 0)) (163) (st.1 (3 + 0))) (st.1 (3 + 1))) (st.1 (3 + 2))) (st.1 (3 + 3))) (st.1 2)))]) (r := []) E (c_X4_mixInto l D T ad hN st (0) (by decide) (mix (st.2 0) (mix (st.2 (1 + 3)) (mix (st.2 (1 + 2)) (mix (st.2 (1 + 1)) (mix (st.2 (1 + 0)) (163) (st.1 (3 + 0))) (st.1 (3 + 1))) (st.1 (3 + 2))) (st.1 (3 + 3))) (st.1 2)) (by omega) (wb0)) gX5_digest_X4_mixInto rfl rfl rfl (by decide +kernel) ⟨Nat.le_of_ble_eq_true rfl, Nat.le_of_ble_eq_true rfl⟩ (25 + 0) (xg_word (by decide)) rfl rfl rfl (Nat.le_of_ble_eq_true rfl) dX5_digest_16 rfl (fun z4 s5 q6 => ?_)
  obtain ⟨rfl, rfl⟩ := q6
  refine x_lstore_n (q := 20) (lv' := [(1, .long (jj (mix (st.2 (14 + 0)) (mix (st.2 0) (mix (st.2 (1 + 3)) (mix (st.2 (1 + 2)) (mix (st.2 (1 + 1)) (mix (st.2 (1 + 0)) (163) (st.1 (3 + 0))) (st.1 (3 + 1))) (st.1 (3 + 2))) (st.1 (3 + 3))) (st.1 2)) (st.1 (10 + 0))))), (0, .ref (ad 0))]) E dX5_digest_19 (by decide) rfl rfl ?_
  refine x_ldc2 (q := 23) (v := 31) (z := 31) E (by decide +kernel) (by decide) dX5_digest_20 rfl ?_
  refine x_lload_n (q := 24) E dX5_digest_23 0 rfl rfl ?_
  refine x_lmul (q := 25) E dX5_digest_24 rfl ?_
  refine x_aload_n (q := 26) E dX5_digest_25 1 rfl rfl ?_
  refine x_get (q := 29) E iX5_digest_X5 (0) rfl rfl 5 (by decide) (by decide +kernel) rfl dX5_digest_26 rfl ?_
  have e1 := k8.2.2.2.2.2.1
  refine x_i2l (q := 30) E dX5_digest_29 (by omega) rfl ?_
  refine x_ladd (q := 31) E dX5_digest_30 rfl ?_
  refine x_lstore_n (q := 32) (lv' := [(1, .long (jj (((31) * (mix (st.2 (14 + 0)) (mix (st.2 0) (mix (st.2 (1 + 3)) (mix (st.2 (1 + 2)) (mix (st.2 (1 + 1)) (mix (st.2 (1 + 0)) (163) (st.1 (3 + 0))) (st.1 (3 + 1))) (st.1 (3 + 2))) (st.1 (3 + 3))) (st.1 2)) (st.1 (10 + 0)))) + (st.1 (0))))), (0, .ref (ad 0))]) E dX5_digest_31 (by decide) rfl rfl ?_
  refine x_ldc2 (q := 35) (v := 31) (z := 31) E (by decide +kernel) (by decide) dX5_digest_32 rfl ?_
  refine x_lload_n (q := 36) E dX5_digest_35 0 rfl rfl ?_
  refine x_lmul (q := 37) E dX5_digest_36 rfl ?_
  refine x_aload_n (q := 38) E dX5_digest_37 1 rfl rfl ?_
  refine x_get (q := 41) E iX5_digest_X5 (0) rfl rfl 6 (by decide) (by decide +kernel) rfl dX5_digest_38 rfl ?_
  have e2 := k8.2.2.2.2.2.2
  refine x_i2l (q := 42) E dX5_digest_41 (by omega) rfl ?_
  refine x_ladd (q := 43) E dX5_digest_42 rfl ?_
  exact RET _ _ _ _ dX5_digest_43 (⟨by rw [hL, mix_congr (f := lf a.2) (g := st.2 (14 + 0)) _ (fun j j0 j1 => hf j j0 j1), k3.1, k3.2, k1, (k4 0 (by omega)).1, (k4 1 (by omega)).1, (k4 2 (by omega)).1, (k4 3 (by omega)).1, mix_congr (f := st.2 0) (g := a.1.2 0) _ (fun j j0 j1 => by have := k5 j.toNat (by omega); rw [show ((j.toNat : Nat) : Int) = j from by omega] at this; exact this), mix_congr (f := st.2 (1 + 0)) (g := a.1.2 (1 + 0)) _ (fun j j0 j1 => (k4 0 (by omega)).2 j j0 (by rw [(k4 0 (by omega)).1]; exact j1)), mix_congr (f := st.2 (1 + 1)) (g := a.1.2 (1 + 1)) _ (fun j j0 j1 => (k4 1 (by omega)).2 j j0 (by rw [(k4 1 (by omega)).1]; exact j1)), mix_congr (f := st.2 (1 + 2)) (g := a.1.2 (1 + 2)) _ (fun j j0 j1 => (k4 2 (by omega)).2 j j0 (by rw [(k4 2 (by omega)).1]; exact j1)), mix_congr (f := st.2 (1 + 3)) (g := a.1.2 (1 + 3)) _ (fun j j0 j1 => (k4 3 (by omega)).2 j j0 (by rw [(k4 3 (by omega)).1]; exact j1))], hC⟩)

theorem iX5_told_X5 : ∀ w ∈ wsX50, w ∈ wsX5_told := by decide +kernel
set_option maxRecDepth 100000 in
set_option maxHeartbeats 4000000 in
theorem c_X5_told (l : Launch) (D : va_G) (T : Nat → ClassId) (ad : Nat → Nat) (hN : ∀ i j, i < 33 → j < 33 → ad i = ad j → i = j) (st : St_) (k : Int) (bk : -2147483648 ≤ k ∧ k < 2147483648) (a : AB_) (hC : CI st a) : CXi l yX5_told wsX5_told (rmX 1 22) [.ref (ad 0), .int (ii (k))] D (tyX T) (XW T ad) (alX ad) st (fun z st2 => z = (if k = 0 then a.1.1 0 else if k = 1 then (a.2.length : Int) else if k = 2 then a.1.1 2 else if k = 3 then a.1.1 3 else if 4 ≤ k ∧ k ≤ 7 then a.1.1 (4 + (k - 4).toNat) else -102) ∧ CI st2 a) := by
  refine mk_i (cc := cX5_told) (nL := 3) rfl rfl (XW_ok hN) (Nat.le_of_ble_eq_true rfl) [(0, .ref (ad 0)), (1, .int (ii (k)))] rfl (fun p e s m args below meth c A Q E RET => ?_)
  have k1 := hC.1
  have k2 := hC.2.1
  have k3 := hC.2.2.1
  have k4 := hC.2.2.2.1
  have k5 := hC.2.2.2.2.1
  have k6 := hC.2.2.2.2.2.1
  have k7 := hC.2.2.2.2.2.2.1
  have k8 := hC.2.2.2.2.2.2.2
  have hn := k7.2.1.1
  have w0 := (k6 0 (by omega)).1
  have wb0 := (k6 0 (by omega)).2
  have hL := hC.len
  have hf := hC.lf
  have hf6 := hC.let6
  refine x_iload_n (q := 1) E dX5_told_0 1 rfl rfl ?_
  refine x_if_ne (tgt := 12) (q := 4) E dX5_told_1 (by decide) rfl (by omega) (fun c1 => ?_) (fun c1 => ?_)
  · refine x_iload_n (q := 13) E dX5_told_12 1 rfl rfl ?_
    refine x_iconst (q := 14) E dX5_told_13 rfl ?_
    refine x_icmp_ne (tgt := 25) (q := 17) E dX5_told_14 (by decide) rfl (by omega) (by omega) (fun c14 => ?_) (fun c14 => ?_)
    · refine x_iload_n (q := 26) E dX5_told_25 1 rfl rfl ?_
      refine x_iconst (q := 27) E dX5_told_26 rfl ?_
      refine x_icmp_ne (tgt := 35) (q := 30) E dX5_told_27 (by decide) rfl (by omega) (by omega) (fun c27 => ?_) (fun c27 => ?_)
      · refine x_iload_n (q := 36) E dX5_told_35 1 rfl rfl ?_
        refine x_iconst (q := 37) E dX5_told_36 rfl ?_
        refine x_icmp_ne (tgt := 45) (q := 40) E dX5_told_37 (by decide) rfl (by omega) (by omega) (fun c37 => ?_) (fun c37 => ?_)
        · refine x_aload_n (q := 46) E dX5_told_45 0 rfl rfl ?_
          refine x_get (q := 49) E iX5_told_X5 (0) rfl rfl 0 (by decide) (by decide +kernel) rfl dX5_told_46 rfl ?_
          refine x_iload_n (q := 50) E dX5_told_49 1 rfl rfl ?_
          refine x_i2l (q := 51) E dX5_told_50 (by omega) rfl ?_
          refine x_ldc2 (q := 54) (v := 4) (z := 4) E (by decide +kernel) (by decide) dX5_told_51 rfl ?_
          refine x_lsub (q := 55) E dX5_told_54 rfl ?_
          rcases (show (4 ≤ k ∧ k ≤ 7) ∨ (k < 4 ∨ 7 < k) by omega) with c60 | c60
          · refine x_tl (show (k) - (4) = (((k - 4).toNat : Nat) : Int) from by omega) ?_
            refine x_callVr (q := 58) (n := 1) (As := [.long (jj ((((k - 4).toNat : Nat) : Int)))]) (r := []) E (c_X1_alphabetNamed l D T ad hN st (k - 4).toNat (by omega)) gX5_told_X1_alphabetNamed rfl rfl rfl (by decide +kernel) ⟨Nat.le_of_ble_eq_true rfl, Nat.le_of_ble_eq_true rfl⟩ (1) rfl rfl rfl rfl (Nat.le_of_ble_eq_true rfl) dX5_told_55 rfl (fun z1 s2 q3 => ?_)
            obtain ⟨rfl, rfl⟩ := q3
            refine x_astore_n (q := 59) (lv' := [(2, .ref (ad (5 + (k - 4).toNat))), (0, .ref (ad 0)), (1, .int (ii (k)))]) E dX5_told_58 (by decide) rfl rfl ?_
            refine x_aload_n (q := 60) E dX5_told_59 0 rfl rfl ?_
            refine x_ifnonnull (tgt := 68) E dX5_told_60 (by decide) ?_
            refine x_aload_n (q := 69) E dX5_told_68 0 rfl rfl ?_
            refine x_callVi (q := 72) (n := 0) (As := []) (r := []) E (c_X0_size l D T ad hN st ((k - 4).toNat) (show (k - 4).toNat < 4 by omega)) gX5_told_X0_size rfl rfl rfl (by decide +kernel) ⟨Nat.le_of_ble_eq_true rfl, Nat.le_of_ble_eq_true rfl⟩ (5 + (k - 4).toNat) (xg_alph (show (k - 4).toNat < 4 by omega)) rfl rfl rfl (Nat.le_of_ble_eq_true rfl) dX5_told_69 rfl (fun z4 s5 q6 => ?_)
            obtain ⟨rfl, rfl⟩ := q6
            exact RET _ _ _ _ dX5_told_72 (⟨by rw [if_neg (by omega), if_neg (by omega), if_neg (by omega), if_neg (by omega), if_pos (by omega)]; exact (k4 (k - 4).toNat (by omega)).1, hC⟩)
          · refine x_callVr (q := 58) (n := 1) (As := [.long (jj ((k) - (4)))]) (r := []) E (c_X1_alphabetNamed_n l D T ad hN st ((k) - (4)) (by omega) (by omega)) gX5_told_X1_alphabetNamed rfl rfl rfl (by decide +kernel) ⟨Nat.le_of_ble_eq_true rfl, Nat.le_of_ble_eq_true rfl⟩ (1) rfl rfl rfl rfl (Nat.le_of_ble_eq_true rfl) dX5_told_55 rfl (fun z7 s8 q9 => ?_)
            obtain ⟨rfl, rfl⟩ := q9
            refine x_astore_nN (q := 59) (lv' := [(2, .null), (0, .ref (ad 0)), (1, .int (ii (k)))]) E dX5_told_58 (by decide) rfl rfl ?_
            refine x_aload_nN (q := 60) E dX5_told_59 0 rfl rfl ?_
            refine x_ifnonnullN (q := 63) E dX5_told_60 rfl ?_
            refine x_bipush (q := 65) E dX5_told_63 (by decide) rfl ?_
            refine x_goto (tgt := 72) E dX5_told_65 (by decide) ?_
            exact RET _ _ _ _ dX5_told_72 (⟨by rw [if_neg (by omega), if_neg (by omega), if_neg (by omega), if_neg (by omega), if_neg (by omega)], hC⟩)
        · refine x_aload_n (q := 41) E dX5_told_40 0 rfl rfl ?_
          refine x_get (q := 44) E iX5_told_X5 (0) rfl rfl 6 (by decide) (by decide +kernel) rfl dX5_told_41 rfl ?_
          exact RET _ _ _ _ dX5_told_44 (⟨by rw [if_neg (by omega), if_neg (by omega), if_neg (by omega), if_pos (by omega)]; exact k3.2, hC⟩)
      · refine x_aload_n (q := 31) E dX5_told_30 0 rfl rfl ?_
        refine x_get (q := 34) E iX5_told_X5 (0) rfl rfl 5 (by decide) (by decide +kernel) rfl dX5_told_31 rfl ?_
        exact RET _ _ _ _ dX5_told_34 (⟨by rw [if_neg (by omega), if_neg (by omega), if_pos (by omega)]; exact k3.1, hC⟩)
    · refine x_aload_n (q := 18) E dX5_told_17 0 rfl rfl ?_
      refine x_get (q := 21) E iX5_told_X5 (0) rfl rfl 1 (by decide) (by decide +kernel) rfl dX5_told_18 rfl ?_
      refine x_callVi (q := 24) (n := 0) (As := []) (r := []) E (c_X4_size l D T ad hN st (0) (by decide)) gX5_told_X4_size rfl rfl rfl (by decide +kernel) ⟨Nat.le_of_ble_eq_true rfl, Nat.le_of_ble_eq_true rfl⟩ (25 + 0) (xg_word (by decide)) rfl rfl rfl (Nat.le_of_ble_eq_true rfl) dX5_told_21 rfl (fun z10 s11 q12 => ?_)
      obtain ⟨rfl, rfl⟩ := q12
      exact RET _ _ _ _ dX5_told_24 (⟨by rw [if_neg (by omega), if_pos (by omega)]; exact hL.symm, hC⟩)
  · refine x_aload_n (q := 5) E dX5_told_4 0 rfl rfl ?_
    refine x_get (q := 8) E iX5_told_X5 (0) rfl rfl 0 (by decide) (by decide +kernel) rfl dX5_told_5 rfl ?_
    refine x_callVi (q := 11) (n := 0) (As := []) (r := []) E (c_X1_size l D T ad hN st) gX5_told_X1_size rfl rfl rfl (by decide +kernel) ⟨Nat.le_of_ble_eq_true rfl, Nat.le_of_ble_eq_true rfl⟩ (1) rfl rfl rfl rfl (Nat.le_of_ble_eq_true rfl) dX5_told_8 rfl (fun z13 s14 q15 => ?_)
    obtain ⟨rfl, rfl⟩ := q15
    exact RET _ _ _ _ dX5_told_11 (⟨by rw [if_pos (by omega)]; exact k1, hC⟩)

theorem iX5_alphabet_X5 : ∀ w ∈ wsX50, w ∈ wsX5_alphabet := by decide +kernel
set_option maxRecDepth 100000 in
set_option maxHeartbeats 4000000 in
theorem c_X5_alphabet (l : Launch) (D : va_G) (T : Nat → ClassId) (ad : Nat → Nat) (hN : ∀ i j, i < 33 → j < 33 → ad i = ad j → i = j) (st : St_) (q : Nat) (hq : q < 4) (n0 : Int) (bn0 : -2147483648 ≤ n0 ∧ n0 < 2147483648) (wa : Int) (bwa : -2147483648 ≤ wa ∧ wa < 2147483648) (xa : Int) (bxa : -2147483648 ≤ xa ∧ xa < 2147483648) (ya : Int) (bya : -2147483648 ≤ ya ∧ ya < 2147483648) (za : Int) (bza : -2147483648 ≤ za ∧ za < 2147483648) (a : AB_) (hC : CI st a) : CXi l yX5_alphabet wsX5_alphabet (rmX 2 46) [.ref (ad 0), .int (ii ((q : Int))), .int (ii (n0)), .int (ii (wa)), .int (ii (xa)), .int (ii (ya)), .int (ii (za))] D (tyX T) (XW T ad) (alX ad) st (fun z st2 => z = (@ite Int (okA n0 wa xa ya za) (Classical.propDecidable _) n0 (-102)) ∧ CI st2 (@ite AB_ (okA n0 wa xa ya za) (Classical.propDecidable _) (aA a q n0 wa xa ya za) a)) := by
  refine mk_i (cc := cX5_alphabet) (nL := 8) rfl rfl (XW_ok hN) (Nat.le_of_ble_eq_true rfl) [(0, .ref (ad 0)), (1, .int (ii ((q : Int)))), (2, .int (ii (n0))), (3, .int (ii (wa))), (4, .int (ii (xa))), (5, .int (ii (ya))), (6, .int (ii (za)))] rfl (fun p e s m args below meth c A Q E RET => ?_)
  have k1 := hC.1
  have k2 := hC.2.1
  have k3 := hC.2.2.1
  have k4 := hC.2.2.2.1
  have k5 := hC.2.2.2.2.1
  have k6 := hC.2.2.2.2.2.1
  have k7 := hC.2.2.2.2.2.2.1
  have k8 := hC.2.2.2.2.2.2.2
  have hn := k7.2.1.1
  have w0 := (k6 0 (by omega)).1
  have wb0 := (k6 0 (by omega)).2
  have hL := hC.len
  have hf := hC.lf
  have hf6 := hC.let6
  refine x_aload_n (q := 1) E dX5_alphabet_0 0 rfl rfl ?_
  refine x_get (q := 4) E iX5_alphabet_X5 (0) rfl rfl 0 (by decide) (by decide +kernel) rfl dX5_alphabet_1 rfl ?_
  refine x_iload_n (q := 5) E dX5_alphabet_4 1 rfl rfl ?_
  refine x_i2l (q := 6) E dX5_alphabet_5 (by omega) rfl ?_
  refine x_callVr (q := 9) (n := 1) (As := [.long (jj ((q : Int)))]) (r := []) E (c_X1_alphabetNamed l D T ad hN st q hq) gX5_alphabet_X1_alphabetNamed rfl rfl rfl (by decide +kernel) ⟨Nat.le_of_ble_eq_true rfl, Nat.le_of_ble_eq_true rfl⟩ (1) rfl rfl rfl rfl (Nat.le_of_ble_eq_true rfl) dX5_alphabet_6 rfl (fun z1 s2 q3 => ?_)
  obtain ⟨rfl, rfl⟩ := q3
  refine x_astore (q := 11) (lv' := [(7, .ref (ad (5 + q))), (0, .ref (ad 0)), (1, .int (ii ((q : Int)))), (2, .int (ii (n0))), (3, .int (ii (wa))), (4, .int (ii (xa))), (5, .int (ii (ya))), (6, .int (ii (za)))]) E dX5_alphabet_9 (by decide) rfl rfl ?_
  refine x_aload (q := 13) E dX5_alphabet_11 0 rfl rfl ?_
  refine x_ifnonnull (tgt := 19) E dX5_alphabet_13 (by decide) ?_
  refine x_aload (q := 21) E dX5_alphabet_19 0 rfl rfl ?_
  refine x_iload_n (q := 22) E dX5_alphabet_21 3 rfl rfl ?_
  refine x_iload_n (q := 23) E dX5_alphabet_22 4 rfl rfl ?_
  refine x_iload (q := 25) E dX5_alphabet_23 5 rfl rfl ?_
  refine x_iload (q := 27) E dX5_alphabet_25 6 rfl rfl ?_
  refine x_iload (q := 29) E dX5_alphabet_27 7 rfl rfl ?_
  refine x_callVi (q := 32) (n := 5) (As := [.int (ii (n0)), .int (ii (wa)), .int (ii (xa)), .int (ii (ya)), .int (ii (za))]) (r := []) E (c_X0_change l D T ad hN st (q) hq (n0) (by omega) (wa) (by omega) (xa) (by omega) (ya) (by omega) (za) (by omega)) gX5_alphabet_X0_change rfl rfl rfl (by decide +kernel) ⟨Nat.le_of_ble_eq_true rfl, Nat.le_of_ble_eq_true rfl⟩ (5 + q) (xg_alph hq) rfl rfl rfl (Nat.le_of_ble_eq_true rfl) dX5_alphabet_29 rfl (fun z4 s5 q6 => ?_)
  rcases q6 with ⟨o1, rfl, rfl⟩ | ⟨o1, rfl, e9⟩
  · refine x_if_ne (tgt := 38) (q := 35) E dX5_alphabet_32 (by decide) rfl (by omega) (fun _ => ?_) (fun h9 => absurd h9 (by decide))
    refine x_aload_n (q := 39) E dX5_alphabet_38 1 rfl rfl ?_
    refine x_get (q := 42) E iX5_alphabet_X5 (0) rfl rfl 0 (by decide) (by decide +kernel) rfl dX5_alphabet_39 rfl ?_
    refine x_callVv (q := 45) (n := 0) (As := []) (r := []) E (c_X1_forgetNumbers l D T ad hN (sG (sA (sA (sA (sA st (1 + q) (0) (wa)) (1 + q) (1) (xa)) (1 + q) (2) (ya)) (1 + q) (3) (za)) (3 + q) (n0))) gX5_alphabet_X1_forgetNumbers rfl rfl rfl (by decide +kernel) ⟨Nat.le_of_ble_eq_true rfl, Nat.le_of_ble_eq_true rfl⟩ (1) rfl rfl rfl rfl (Nat.le_of_ble_eq_true rfl) dX5_alphabet_42 rfl (fun s8 q9 => ?_)
    have h10 := q9
    refine x_iload_n (q := 46) E dX5_alphabet_45 3 rfl rfl ?_
    exact RET _ _ _ _ dX5_alphabet_46 (⟨by rw [if_pos (show okA n0 wa xa ya za from o1)], by rw [if_pos (show okA n0 wa xa ya za from o1)]; exact CI_alph hC hq o1 h10⟩)
  · subst e9
    refine x_if_ne (tgt := 38) (q := 35) E dX5_alphabet_32 (by decide) rfl (by omega) (fun h9 => absurd h9 (by decide)) (fun _ => ?_)
    refine x_bipush (q := 37) E dX5_alphabet_35 (by decide) rfl ?_
    exact RET _ _ _ _ dX5_alphabet_37 (⟨by rw [if_neg (show ¬ okA n0 wa xa ya za from o1)], by rw [if_neg (show ¬ okA n0 wa xa ya za from o1)]; exact hC⟩)

theorem iX5_alphabet_n_X5 : ∀ w ∈ wsX50, w ∈ wsX5_alphabet := by decide +kernel
set_option maxRecDepth 100000 in
set_option maxHeartbeats 4000000 in
theorem c_X5_alphabet_n (l : Launch) (D : va_G) (T : Nat → ClassId) (ad : Nat → Nat) (hN : ∀ i j, i < 33 → j < 33 → ad i = ad j → i = j) (st : St_) (k : Int) (bk : -2147483648 ≤ k ∧ k < 2147483648) (n0 : Int) (bn0 : -2147483648 ≤ n0 ∧ n0 < 2147483648) (wa : Int) (bwa : -2147483648 ≤ wa ∧ wa < 2147483648) (xa : Int) (bxa : -2147483648 ≤ xa ∧ xa < 2147483648) (ya : Int) (bya : -2147483648 ≤ ya ∧ ya < 2147483648) (za : Int) (bza : -2147483648 ≤ za ∧ za < 2147483648) (hk : k < 0 ∨ 4 ≤ k) (a : AB_) (hC : CI st a) : CXi l yX5_alphabet wsX5_alphabet (rmX 1 22) [.ref (ad 0), .int (ii (k)), .int (ii (n0)), .int (ii (wa)), .int (ii (xa)), .int (ii (ya)), .int (ii (za))] D (tyX T) (XW T ad) (alX ad) st (fun z st2 => z = -101 ∧ CI st2 a) := by
  refine mk_i (cc := cX5_alphabet) (nL := 8) rfl rfl (XW_ok hN) (Nat.le_of_ble_eq_true rfl) [(0, .ref (ad 0)), (1, .int (ii (k))), (2, .int (ii (n0))), (3, .int (ii (wa))), (4, .int (ii (xa))), (5, .int (ii (ya))), (6, .int (ii (za)))] rfl (fun p e s m args below meth c A Q E RET => ?_)
  have k1 := hC.1
  have k2 := hC.2.1
  have k3 := hC.2.2.1
  have k4 := hC.2.2.2.1
  have k5 := hC.2.2.2.2.1
  have k6 := hC.2.2.2.2.2.1
  have k7 := hC.2.2.2.2.2.2.1
  have k8 := hC.2.2.2.2.2.2.2
  have hn := k7.2.1.1
  have w0 := (k6 0 (by omega)).1
  have wb0 := (k6 0 (by omega)).2
  have hL := hC.len
  have hf := hC.lf
  have hf6 := hC.let6
  refine x_aload_n (q := 1) E dX5_alphabet_0 0 rfl rfl ?_
  refine x_get (q := 4) E iX5_alphabet_n_X5 (0) rfl rfl 0 (by decide) (by decide +kernel) rfl dX5_alphabet_1 rfl ?_
  refine x_iload_n (q := 5) E dX5_alphabet_4 1 rfl rfl ?_
  refine x_i2l (q := 6) E dX5_alphabet_5 (by omega) rfl ?_
  refine x_callVr (q := 9) (n := 1) (As := [.long (jj (k))]) (r := []) E (c_X1_alphabetNamed_n l D T ad hN st (k) (by omega) (by omega)) gX5_alphabet_X1_alphabetNamed rfl rfl rfl (by decide +kernel) ⟨Nat.le_of_ble_eq_true rfl, Nat.le_of_ble_eq_true rfl⟩ (1) rfl rfl rfl rfl (Nat.le_of_ble_eq_true rfl) dX5_alphabet_6 rfl (fun z1 s2 q3 => ?_)
  obtain ⟨rfl, rfl⟩ := q3
  refine x_astoreN (q := 11) (lv' := [(7, .null), (0, .ref (ad 0)), (1, .int (ii (k))), (2, .int (ii (n0))), (3, .int (ii (wa))), (4, .int (ii (xa))), (5, .int (ii (ya))), (6, .int (ii (za)))]) E dX5_alphabet_9 (by decide) rfl rfl ?_
  refine x_aloadN (q := 13) E dX5_alphabet_11 0 rfl rfl ?_
  refine x_ifnonnullN (q := 16) E dX5_alphabet_13 rfl ?_
  refine x_bipush (q := 18) E dX5_alphabet_16 (by decide) rfl ?_
  exact RET _ _ _ _ dX5_alphabet_18 (⟨rfl, hC⟩)

theorem iX5_ring_X5 : ∀ w ∈ wsX50, w ∈ wsX5_ring := by decide +kernel
set_option maxRecDepth 100000 in
set_option maxHeartbeats 4000000 in
theorem c_X5_ring (l : Launch) (D : va_G) (T : Nat → ClassId) (ad : Nat → Nat) (hN : ∀ i j, i < 33 → j < 33 → ad i = ad j → i = j) (st : St_) (n0 : Int) (bn0 : -2147483648 ≤ n0 ∧ n0 < 2147483648) (b0 : Int) (bb0 : -2147483648 ≤ b0 ∧ b0 < 2147483648) (b1 : Int) (bb1 : -2147483648 ≤ b1 ∧ b1 < 2147483648) (b2 : Int) (bb2 : -2147483648 ≤ b2 ∧ b2 < 2147483648) (a : AB_) (hC : CI st a) : CXi l yX5_ring wsX5_ring (rmX 3 66) [.ref (ad 0), .int (ii (n0)), .int (ii (b0)), .int (ii (b1)), .int (ii (b2))] D (tyX T) (XW T ad) (alX ad) st (fun z st2 => z = (if 1 ≤ n0 ∧ n0 ≤ 3 then (if ((0 ≤ b0 ∧ b0 ≤ 3) ∧ (2 ≤ n0 → 0 ≤ b1 ∧ b1 ≤ 3) ∧ (3 ≤ n0 → 0 ≤ b2 ∧ b2 ≤ 3)) then n0 else -101) else -102) ∧ CI st2 (if (1 ≤ n0 ∧ n0 ≤ 3) ∧ ((0 ≤ b0 ∧ b0 ≤ 3) ∧ (2 ≤ n0 → 0 ≤ b1 ∧ b1 ≤ 3) ∧ (3 ≤ n0 → 0 ≤ b2 ∧ b2 ≤ 3)) then aR a n0 b0 b1 b2 else a)) := by
  refine mk_i (cc := cX5_ring) (nL := 6) rfl rfl (XW_ok hN) (Nat.le_of_ble_eq_true rfl) [(0, .ref (ad 0)), (1, .int (ii (n0))), (2, .int (ii (b0))), (3, .int (ii (b1))), (4, .int (ii (b2)))] rfl (fun p e s m args below meth c A Q E RET => ?_)
  have k1 := hC.1
  have k2 := hC.2.1
  have k3 := hC.2.2.1
  have k4 := hC.2.2.2.1
  have k5 := hC.2.2.2.2.1
  have k6 := hC.2.2.2.2.2.1
  have k7 := hC.2.2.2.2.2.2.1
  have k8 := hC.2.2.2.2.2.2.2
  have hn := k7.2.1.1
  have w0 := (k6 0 (by omega)).1
  have wb0 := (k6 0 (by omega)).2
  have hL := hC.len
  have hf := hC.lf
  have hf6 := hC.let6
  refine x_iload_n (q := 1) E dX5_ring_0 1 rfl rfl ?_
  refine x_iconst (q := 2) E dX5_ring_1 rfl ?_
  refine x_icmp_lt (tgt := 10) (q := 5) E dX5_ring_2 (by decide) rfl (by omega) (by omega) (fun c2 => ?_) (fun c2 => ?_)
  · refine x_bipush (q := 12) E dX5_ring_10 (by decide) rfl ?_
    exact RET _ _ _ _ dX5_ring_12 (⟨by rw [if_neg (by omega)], by rw [if_neg (by omega)]; exact hC⟩)
  · refine x_iload_n (q := 6) E dX5_ring_5 1 rfl rfl ?_
    refine x_iconst (q := 7) E dX5_ring_6 rfl ?_
    refine x_icmp_le (tgt := 13) (q := 10) E dX5_ring_7 (by decide) rfl (by omega) (by omega) (fun c7 => ?_) (fun c7 => ?_)
    · refine x_aload_n (q := 14) E dX5_ring_13 0 rfl rfl ?_
      refine x_get (q := 17) E iX5_ring_X5 (0) rfl rfl 0 (by decide) (by decide +kernel) rfl dX5_ring_14 rfl ?_
      refine x_iload_n (q := 18) E dX5_ring_17 2 rfl rfl ?_
      refine x_callVi (q := 21) (n := 1) (As := [.int (ii (b0))]) (r := []) E (c_X1_hasAlphabet l D T ad hN st (b0) (by omega)) gX5_ring_X1_hasAlphabet rfl rfl rfl (by decide +kernel) ⟨Nat.le_of_ble_eq_true rfl, Nat.le_of_ble_eq_true rfl⟩ (1) rfl rfl rfl rfl (Nat.le_of_ble_eq_true rfl) dX5_ring_18 rfl (fun z1 s2 q3 => ?_)
      obtain ⟨rfl, rfl⟩ := q3
      refine x_if_eq (tgt := 61) (q := 24) E dX5_ring_21 (by decide) rfl (by omega) (fun c21 => ?_) (fun c21 => ?_)
      · refine x_iconst (q := 62) E dX5_ring_61 rfl ?_
        refine x_istore (q := 64) (lv' := [(5, .int (ii (0))), (0, .ref (ad 0)), (1, .int (ii (n0))), (2, .int (ii (b0))), (3, .int (ii (b1))), (4, .int (ii (b2)))]) E dX5_ring_62 (by decide) rfl rfl ?_
        refine x_iload (q := 66) E dX5_ring_64 0 rfl rfl ?_
        refine x_if_ne (tgt := 72) (q := 69) E dX5_ring_66 (by decide) rfl (by omega) (fun h9 => absurd h9 (by decide)) (fun _ => ?_)
        refine x_bipush (q := 71) E dX5_ring_69 (by decide) rfl ?_
        exact RET _ _ _ _ dX5_ring_71 (by first | (exfalso; omega) | exact ⟨by rw [if_pos (by omega), if_neg (by omega)], by rw [if_neg (by omega)]; exact hC⟩)
      · refine x_iload_n (q := 25) E dX5_ring_24 1 rfl rfl ?_
        refine x_iconst (q := 26) E dX5_ring_25 rfl ?_
        refine x_icmp_lt (tgt := 40) (q := 29) E dX5_ring_26 (by decide) rfl (by omega) (by omega) (fun c26 => ?_) (fun c26 => ?_)
        · refine x_iload_n (q := 41) E dX5_ring_40 1 rfl rfl ?_
          refine x_iconst (q := 42) E dX5_ring_41 rfl ?_
          refine x_icmp_lt (tgt := 57) (q := 45) E dX5_ring_42 (by decide) rfl (by omega) (by omega) (fun c42 => ?_) (fun c42 => ?_)
          · refine x_iconst (q := 58) E dX5_ring_57 rfl ?_
            refine x_goto (tgt := 62) E dX5_ring_58 (by decide) ?_
            refine x_istore (q := 64) (lv' := [(5, .int (ii (1))), (0, .ref (ad 0)), (1, .int (ii (n0))), (2, .int (ii (b0))), (3, .int (ii (b1))), (4, .int (ii (b2)))]) E dX5_ring_62 (by decide) rfl rfl ?_
            refine x_iload (q := 66) E dX5_ring_64 0 rfl rfl ?_
            refine x_if_ne (tgt := 72) (q := 69) E dX5_ring_66 (by decide) rfl (by omega) (fun _ => ?_) (fun h9 => absurd h9 (by decide))
            refine x_aload_n (q := 73) E dX5_ring_72 1 rfl rfl ?_
            refine x_get (q := 76) E iX5_ring_X5 (0) rfl rfl 0 (by decide) (by decide +kernel) rfl dX5_ring_73 rfl ?_
            refine x_iload_n (q := 77) E dX5_ring_76 2 rfl rfl ?_
            refine x_iload_n (q := 78) E dX5_ring_77 3 rfl rfl ?_
            refine x_iload_n (q := 79) E dX5_ring_78 4 rfl rfl ?_
            refine x_iload (q := 81) E dX5_ring_79 5 rfl rfl ?_
            refine x_callVv (q := 84) (n := 4) (As := [.int (ii (n0)), .int (ii (b0)), .int (ii (b1)), .int (ii (b2))]) (r := []) E (c_X1_join l D T ad hN st (n0) (by omega) (b0) (by omega) (b1) (by omega) (b2) (by omega)) gX5_ring_X1_join rfl rfl rfl (by decide +kernel) ⟨Nat.le_of_ble_eq_true rfl, Nat.le_of_ble_eq_true rfl⟩ (1) rfl rfl rfl rfl (Nat.le_of_ble_eq_true rfl) dX5_ring_81 rfl (fun s5 q6 => ?_)
            have h7 := q6
            refine x_iload_n (q := 85) E dX5_ring_84 2 rfl rfl ?_
            exact RET _ _ _ _ dX5_ring_85 (by first | (exfalso; omega) | exact ⟨by rw [if_pos (by omega), if_pos (by omega)], by rw [if_pos (by omega)]; exact CI_ring hC (by omega) (by omega) (by omega) (by omega) h7⟩)
          · refine x_aload_n (q := 46) E dX5_ring_45 0 rfl rfl ?_
            refine x_get (q := 49) E iX5_ring_X5 (0) rfl rfl 0 (by decide) (by decide +kernel) rfl dX5_ring_46 rfl ?_
            refine x_iload (q := 51) E dX5_ring_49 4 rfl rfl ?_
            refine x_callVi (q := 54) (n := 1) (As := [.int (ii (b2))]) (r := []) E (c_X1_hasAlphabet l D T ad hN st (b2) (by omega)) gX5_ring_X1_hasAlphabet rfl rfl rfl (by decide +kernel) ⟨Nat.le_of_ble_eq_true rfl, Nat.le_of_ble_eq_true rfl⟩ (1) rfl rfl rfl rfl (Nat.le_of_ble_eq_true rfl) dX5_ring_51 rfl (fun z8 s9 q10 => ?_)
            obtain ⟨rfl, rfl⟩ := q10
            refine x_if_eq (tgt := 61) (q := 57) E dX5_ring_54 (by decide) rfl (by omega) (fun c54 => ?_) (fun c54 => ?_)
            · refine x_iconst (q := 62) E dX5_ring_61 rfl ?_
              refine x_istore (q := 64) (lv' := [(5, .int (ii (0))), (0, .ref (ad 0)), (1, .int (ii (n0))), (2, .int (ii (b0))), (3, .int (ii (b1))), (4, .int (ii (b2)))]) E dX5_ring_62 (by decide) rfl rfl ?_
              refine x_iload (q := 66) E dX5_ring_64 0 rfl rfl ?_
              refine x_if_ne (tgt := 72) (q := 69) E dX5_ring_66 (by decide) rfl (by omega) (fun h9 => absurd h9 (by decide)) (fun _ => ?_)
              refine x_bipush (q := 71) E dX5_ring_69 (by decide) rfl ?_
              exact RET _ _ _ _ dX5_ring_71 (by first | (exfalso; omega) | exact ⟨by rw [if_pos (by omega), if_neg (by omega)], by rw [if_neg (by omega)]; exact hC⟩)
            · refine x_iconst (q := 58) E dX5_ring_57 rfl ?_
              refine x_goto (tgt := 62) E dX5_ring_58 (by decide) ?_
              refine x_istore (q := 64) (lv' := [(5, .int (ii (1))), (0, .ref (ad 0)), (1, .int (ii (n0))), (2, .int (ii (b0))), (3, .int (ii (b1))), (4, .int (ii (b2)))]) E dX5_ring_62 (by decide) rfl rfl ?_
              refine x_iload (q := 66) E dX5_ring_64 0 rfl rfl ?_
              refine x_if_ne (tgt := 72) (q := 69) E dX5_ring_66 (by decide) rfl (by omega) (fun _ => ?_) (fun h9 => absurd h9 (by decide))
              refine x_aload_n (q := 73) E dX5_ring_72 1 rfl rfl ?_
              refine x_get (q := 76) E iX5_ring_X5 (0) rfl rfl 0 (by decide) (by decide +kernel) rfl dX5_ring_73 rfl ?_
              refine x_iload_n (q := 77) E dX5_ring_76 2 rfl rfl ?_
              refine x_iload_n (q := 78) E dX5_ring_77 3 rfl rfl ?_
              refine x_iload_n (q := 79) E dX5_ring_78 4 rfl rfl ?_
              refine x_iload (q := 81) E dX5_ring_79 5 rfl rfl ?_
              refine x_callVv (q := 84) (n := 4) (As := [.int (ii (n0)), .int (ii (b0)), .int (ii (b1)), .int (ii (b2))]) (r := []) E (c_X1_join l D T ad hN st (n0) (by omega) (b0) (by omega) (b1) (by omega) (b2) (by omega)) gX5_ring_X1_join rfl rfl rfl (by decide +kernel) ⟨Nat.le_of_ble_eq_true rfl, Nat.le_of_ble_eq_true rfl⟩ (1) rfl rfl rfl rfl (Nat.le_of_ble_eq_true rfl) dX5_ring_81 rfl (fun s12 q13 => ?_)
              have h14 := q13
              refine x_iload_n (q := 85) E dX5_ring_84 2 rfl rfl ?_
              exact RET _ _ _ _ dX5_ring_85 (by first | (exfalso; omega) | exact ⟨by rw [if_pos (by omega), if_pos (by omega)], by rw [if_pos (by omega)]; exact CI_ring hC (by omega) (by omega) (by omega) (by omega) h14⟩)
        · refine x_aload_n (q := 30) E dX5_ring_29 0 rfl rfl ?_
          refine x_get (q := 33) E iX5_ring_X5 (0) rfl rfl 0 (by decide) (by decide +kernel) rfl dX5_ring_30 rfl ?_
          refine x_iload_n (q := 34) E dX5_ring_33 3 rfl rfl ?_
          refine x_callVi (q := 37) (n := 1) (As := [.int (ii (b1))]) (r := []) E (c_X1_hasAlphabet l D T ad hN st (b1) (by omega)) gX5_ring_X1_hasAlphabet rfl rfl rfl (by decide +kernel) ⟨Nat.le_of_ble_eq_true rfl, Nat.le_of_ble_eq_true rfl⟩ (1) rfl rfl rfl rfl (Nat.le_of_ble_eq_true rfl) dX5_ring_34 rfl (fun z15 s16 q17 => ?_)
          obtain ⟨rfl, rfl⟩ := q17
          refine x_if_eq (tgt := 61) (q := 40) E dX5_ring_37 (by decide) rfl (by omega) (fun c37 => ?_) (fun c37 => ?_)
          · refine x_iconst (q := 62) E dX5_ring_61 rfl ?_
            refine x_istore (q := 64) (lv' := [(5, .int (ii (0))), (0, .ref (ad 0)), (1, .int (ii (n0))), (2, .int (ii (b0))), (3, .int (ii (b1))), (4, .int (ii (b2)))]) E dX5_ring_62 (by decide) rfl rfl ?_
            refine x_iload (q := 66) E dX5_ring_64 0 rfl rfl ?_
            refine x_if_ne (tgt := 72) (q := 69) E dX5_ring_66 (by decide) rfl (by omega) (fun h9 => absurd h9 (by decide)) (fun _ => ?_)
            refine x_bipush (q := 71) E dX5_ring_69 (by decide) rfl ?_
            exact RET _ _ _ _ dX5_ring_71 (by first | (exfalso; omega) | exact ⟨by rw [if_pos (by omega), if_neg (by omega)], by rw [if_neg (by omega)]; exact hC⟩)
          · refine x_iload_n (q := 41) E dX5_ring_40 1 rfl rfl ?_
            refine x_iconst (q := 42) E dX5_ring_41 rfl ?_
            refine x_icmp_lt (tgt := 57) (q := 45) E dX5_ring_42 (by decide) rfl (by omega) (by omega) (fun c42 => ?_) (fun c42 => ?_)
            · refine x_iconst (q := 58) E dX5_ring_57 rfl ?_
              refine x_goto (tgt := 62) E dX5_ring_58 (by decide) ?_
              refine x_istore (q := 64) (lv' := [(5, .int (ii (1))), (0, .ref (ad 0)), (1, .int (ii (n0))), (2, .int (ii (b0))), (3, .int (ii (b1))), (4, .int (ii (b2)))]) E dX5_ring_62 (by decide) rfl rfl ?_
              refine x_iload (q := 66) E dX5_ring_64 0 rfl rfl ?_
              refine x_if_ne (tgt := 72) (q := 69) E dX5_ring_66 (by decide) rfl (by omega) (fun _ => ?_) (fun h9 => absurd h9 (by decide))
              refine x_aload_n (q := 73) E dX5_ring_72 1 rfl rfl ?_
              refine x_get (q := 76) E iX5_ring_X5 (0) rfl rfl 0 (by decide) (by decide +kernel) rfl dX5_ring_73 rfl ?_
              refine x_iload_n (q := 77) E dX5_ring_76 2 rfl rfl ?_
              refine x_iload_n (q := 78) E dX5_ring_77 3 rfl rfl ?_
              refine x_iload_n (q := 79) E dX5_ring_78 4 rfl rfl ?_
              refine x_iload (q := 81) E dX5_ring_79 5 rfl rfl ?_
              refine x_callVv (q := 84) (n := 4) (As := [.int (ii (n0)), .int (ii (b0)), .int (ii (b1)), .int (ii (b2))]) (r := []) E (c_X1_join l D T ad hN st (n0) (by omega) (b0) (by omega) (b1) (by omega) (b2) (by omega)) gX5_ring_X1_join rfl rfl rfl (by decide +kernel) ⟨Nat.le_of_ble_eq_true rfl, Nat.le_of_ble_eq_true rfl⟩ (1) rfl rfl rfl rfl (Nat.le_of_ble_eq_true rfl) dX5_ring_81 rfl (fun s19 q20 => ?_)
              have h21 := q20
              refine x_iload_n (q := 85) E dX5_ring_84 2 rfl rfl ?_
              exact RET _ _ _ _ dX5_ring_85 (by first | (exfalso; omega) | exact ⟨by rw [if_pos (by omega), if_pos (by omega)], by rw [if_pos (by omega)]; exact CI_ring hC (by omega) (by omega) (by omega) (by omega) h21⟩)
            · refine x_aload_n (q := 46) E dX5_ring_45 0 rfl rfl ?_
              refine x_get (q := 49) E iX5_ring_X5 (0) rfl rfl 0 (by decide) (by decide +kernel) rfl dX5_ring_46 rfl ?_
              refine x_iload (q := 51) E dX5_ring_49 4 rfl rfl ?_
              refine x_callVi (q := 54) (n := 1) (As := [.int (ii (b2))]) (r := []) E (c_X1_hasAlphabet l D T ad hN st (b2) (by omega)) gX5_ring_X1_hasAlphabet rfl rfl rfl (by decide +kernel) ⟨Nat.le_of_ble_eq_true rfl, Nat.le_of_ble_eq_true rfl⟩ (1) rfl rfl rfl rfl (Nat.le_of_ble_eq_true rfl) dX5_ring_51 rfl (fun z22 s23 q24 => ?_)
              obtain ⟨rfl, rfl⟩ := q24
              refine x_if_eq (tgt := 61) (q := 57) E dX5_ring_54 (by decide) rfl (by omega) (fun c54 => ?_) (fun c54 => ?_)
              · refine x_iconst (q := 62) E dX5_ring_61 rfl ?_
                refine x_istore (q := 64) (lv' := [(5, .int (ii (0))), (0, .ref (ad 0)), (1, .int (ii (n0))), (2, .int (ii (b0))), (3, .int (ii (b1))), (4, .int (ii (b2)))]) E dX5_ring_62 (by decide) rfl rfl ?_
                refine x_iload (q := 66) E dX5_ring_64 0 rfl rfl ?_
                refine x_if_ne (tgt := 72) (q := 69) E dX5_ring_66 (by decide) rfl (by omega) (fun h9 => absurd h9 (by decide)) (fun _ => ?_)
                refine x_bipush (q := 71) E dX5_ring_69 (by decide) rfl ?_
                exact RET _ _ _ _ dX5_ring_71 (by first | (exfalso; omega) | exact ⟨by rw [if_pos (by omega), if_neg (by omega)], by rw [if_neg (by omega)]; exact hC⟩)
              · refine x_iconst (q := 58) E dX5_ring_57 rfl ?_
                refine x_goto (tgt := 62) E dX5_ring_58 (by decide) ?_
                refine x_istore (q := 64) (lv' := [(5, .int (ii (1))), (0, .ref (ad 0)), (1, .int (ii (n0))), (2, .int (ii (b0))), (3, .int (ii (b1))), (4, .int (ii (b2)))]) E dX5_ring_62 (by decide) rfl rfl ?_
                refine x_iload (q := 66) E dX5_ring_64 0 rfl rfl ?_
                refine x_if_ne (tgt := 72) (q := 69) E dX5_ring_66 (by decide) rfl (by omega) (fun _ => ?_) (fun h9 => absurd h9 (by decide))
                refine x_aload_n (q := 73) E dX5_ring_72 1 rfl rfl ?_
                refine x_get (q := 76) E iX5_ring_X5 (0) rfl rfl 0 (by decide) (by decide +kernel) rfl dX5_ring_73 rfl ?_
                refine x_iload_n (q := 77) E dX5_ring_76 2 rfl rfl ?_
                refine x_iload_n (q := 78) E dX5_ring_77 3 rfl rfl ?_
                refine x_iload_n (q := 79) E dX5_ring_78 4 rfl rfl ?_
                refine x_iload (q := 81) E dX5_ring_79 5 rfl rfl ?_
                refine x_callVv (q := 84) (n := 4) (As := [.int (ii (n0)), .int (ii (b0)), .int (ii (b1)), .int (ii (b2))]) (r := []) E (c_X1_join l D T ad hN st (n0) (by omega) (b0) (by omega) (b1) (by omega) (b2) (by omega)) gX5_ring_X1_join rfl rfl rfl (by decide +kernel) ⟨Nat.le_of_ble_eq_true rfl, Nat.le_of_ble_eq_true rfl⟩ (1) rfl rfl rfl rfl (Nat.le_of_ble_eq_true rfl) dX5_ring_81 rfl (fun s26 q27 => ?_)
                have h28 := q27
                refine x_iload_n (q := 85) E dX5_ring_84 2 rfl rfl ?_
                exact RET _ _ _ _ dX5_ring_85 (by first | (exfalso; omega) | exact ⟨by rw [if_pos (by omega), if_pos (by omega)], by rw [if_pos (by omega)]; exact CI_ring hC (by omega) (by omega) (by omega) (by omega) h28⟩)
    · refine x_bipush (q := 12) E dX5_ring_10 (by decide) rfl ?_
      exact RET _ _ _ _ dX5_ring_12 (⟨by rw [if_neg (by omega)], by rw [if_neg (by omega)]; exact hC⟩)

theorem iX5_turn_X5 : ∀ w ∈ wsX50, w ∈ wsX5_turn := by decide +kernel
set_option maxRecDepth 100000 in
set_option maxHeartbeats 4000000 in
theorem c_X5_turn (l : Launch) (D : va_G) (T : Nat → ClassId) (ad : Nat → Nat) (hN : ∀ i j, i < 33 → j < 33 → ad i = ad j → i = j) (st : St_) (q : Nat) (hq : q < 4) (a : AB_) (hC : CI st a) : CXi l yX5_turn wsX5_turn (rmX 3 68) [.ref (ad 0), .int (ii ((q : Int)))] D (tyX T) (XW T ad) (alX ad) st (fun z st2 => z = isum (fun j => if trv (a.1.2 (1 + q)) (a.1.1 (4 + q)) ((lf a.2) j) = (lf a.2) j then 0 else 1) (a.2.length : Int) ∧ CI st2 (a.1, wl (fun j => trv (a.1.2 (1 + q)) (a.1.1 (4 + q)) ((lf a.2) j)) (a.2.length : Int))) := by
  refine mk_i (cc := cX5_turn) (nL := 3) rfl rfl (XW_ok hN) (Nat.le_of_ble_eq_true rfl) [(0, .ref (ad 0)), (1, .int (ii ((q : Int))))] rfl (fun p e s m args below meth c A Q E RET => ?_)
  have k1 := hC.1
  have k2 := hC.2.1
  have k3 := hC.2.2.1
  have k4 := hC.2.2.2.1
  have k5 := hC.2.2.2.2.1
  have k6 := hC.2.2.2.2.2.1
  have k7 := hC.2.2.2.2.2.2.1
  have k8 := hC.2.2.2.2.2.2.2
  have hn := k7.2.1.1
  have w0 := (k6 0 (by omega)).1
  have wb0 := (k6 0 (by omega)).2
  have hL := hC.len
  have hf := hC.lf
  have hf6 := hC.let6
  refine x_aload_n (q := 1) E dX5_turn_0 0 rfl rfl ?_
  refine x_get (q := 4) E iX5_turn_X5 (0) rfl rfl 0 (by decide) (by decide +kernel) rfl dX5_turn_1 rfl ?_
  refine x_iload_n (q := 5) E dX5_turn_4 1 rfl rfl ?_
  refine x_i2l (q := 6) E dX5_turn_5 (by omega) rfl ?_
  refine x_callVr (q := 9) (n := 1) (As := [.long (jj ((q : Int)))]) (r := []) E (c_X1_alphabetNamed l D T ad hN st q hq) gX5_turn_X1_alphabetNamed rfl rfl rfl (by decide +kernel) ⟨Nat.le_of_ble_eq_true rfl, Nat.le_of_ble_eq_true rfl⟩ (1) rfl rfl rfl rfl (Nat.le_of_ble_eq_true rfl) dX5_turn_6 rfl (fun z1 s2 q3 => ?_)
  obtain ⟨rfl, rfl⟩ := q3
  refine x_astore_n (q := 10) (lv' := [(2, .ref (ad (5 + q))), (0, .ref (ad 0)), (1, .int (ii ((q : Int))))]) E dX5_turn_9 (by decide) rfl rfl ?_
  refine x_aload_n (q := 11) E dX5_turn_10 0 rfl rfl ?_
  refine x_ifnonnull (tgt := 17) E dX5_turn_11 (by decide) ?_
  refine x_aload_n (q := 18) E dX5_turn_17 1 rfl rfl ?_
  refine x_get (q := 21) E iX5_turn_X5 (0) rfl rfl 1 (by decide) (by decide +kernel) rfl dX5_turn_18 rfl ?_
  refine x_aload_n (q := 22) E dX5_turn_21 0 rfl rfl ?_
  refine x_callVi (q := 25) (n := 1) (As := [.ref (ad (5 + q))]) (r := []) E (c_X4_replaceBy l D T ad hN st (0) (by decide) (q) hq (by omega) (wb0) (CI_lets hC hq) (k7.2.1.2.2.2 q hq)) gX5_turn_X4_replaceBy rfl rfl rfl (by decide +kernel) ⟨Nat.le_of_ble_eq_true rfl, Nat.le_of_ble_eq_true rfl⟩ (25 + 0) (xg_word (by decide)) rfl rfl rfl (Nat.le_of_ble_eq_true rfl) dX5_turn_22 rfl (fun z4 s5 q6 => ?_)
  obtain ⟨f7, rfl, h18, h29, h310⟩ := q6
  exact RET _ _ _ _ dX5_turn_25 (by have g1 := h18; have g2 := h29; have g3 := h310; have g4 : ∀ j : Int, 0 ≤ j → j < st.1 (10 + 0) → trv (a.1.2 (1 + q)) (a.1.1 (4 + q)) (lf a.2 j) = f7 j := (fun j j0 j1 => by rw [hf j j0 j1]; have := g1 j j0 j1; rw [(k4 q hq).1] at this; exact trv_eq (TR_congr (fun i i0 i1 => (k4 q hq).2 i i0 (by rw [(k4 q hq).1]; exact i1)) this)); exact ⟨by rw [g3, hL]; exact isum_congr (fun j j0 j1 => by rw [g4 j j0 j1, hf j j0 j1]), by rw [show sF st (14 + 0) f7 = sF (sG st (10 + 0) (st.1 (10 + 0))) (14 + 0) f7 from by refine Prod.ext (funext fun k9 => ?_) (funext fun q9 => ?_) <;> simp only [sG_1, sG_2, sA_1, sA_2, sF_1, sF_2, reduceIte] <;> (repeat' split) <;> first | rfl | omega | (subst_vars; first | rfl | omega) | simp_all, hL]; exact CI_word hC (by omega) g2 (wl_congr (fun j j0 j1 => (g4 j j0 j1).symm)) (wl_letters (fun j j0 j1 => by rw [g4 j j0 j1]; exact TR_b (by have := CI_lets hC hq; omega) (k7.2.1.2.2.2 q hq) (hf6 j j0 j1) (g1 j j0 j1)))⟩)

theorem iX5_turn_n_X5 : ∀ w ∈ wsX50, w ∈ wsX5_turn := by decide +kernel
set_option maxRecDepth 100000 in
set_option maxHeartbeats 4000000 in
theorem c_X5_turn_n (l : Launch) (D : va_G) (T : Nat → ClassId) (ad : Nat → Nat) (hN : ∀ i j, i < 33 → j < 33 → ad i = ad j → i = j) (st : St_) (k : Int) (bk : -2147483648 ≤ k ∧ k < 2147483648) (hk : k < 0 ∨ 4 ≤ k) (a : AB_) (hC : CI st a) : CXi l yX5_turn wsX5_turn (rmX 1 22) [.ref (ad 0), .int (ii (k))] D (tyX T) (XW T ad) (alX ad) st (fun z st2 => z = -101 ∧ CI st2 a) := by
  refine mk_i (cc := cX5_turn) (nL := 3) rfl rfl (XW_ok hN) (Nat.le_of_ble_eq_true rfl) [(0, .ref (ad 0)), (1, .int (ii (k)))] rfl (fun p e s m args below meth c A Q E RET => ?_)
  have k1 := hC.1
  have k2 := hC.2.1
  have k3 := hC.2.2.1
  have k4 := hC.2.2.2.1
  have k5 := hC.2.2.2.2.1
  have k6 := hC.2.2.2.2.2.1
  have k7 := hC.2.2.2.2.2.2.1
  have k8 := hC.2.2.2.2.2.2.2
  have hn := k7.2.1.1
  have w0 := (k6 0 (by omega)).1
  have wb0 := (k6 0 (by omega)).2
  have hL := hC.len
  have hf := hC.lf
  have hf6 := hC.let6
  refine x_aload_n (q := 1) E dX5_turn_0 0 rfl rfl ?_
  refine x_get (q := 4) E iX5_turn_n_X5 (0) rfl rfl 0 (by decide) (by decide +kernel) rfl dX5_turn_1 rfl ?_
  refine x_iload_n (q := 5) E dX5_turn_4 1 rfl rfl ?_
  refine x_i2l (q := 6) E dX5_turn_5 (by omega) rfl ?_
  refine x_callVr (q := 9) (n := 1) (As := [.long (jj (k))]) (r := []) E (c_X1_alphabetNamed_n l D T ad hN st (k) (by omega) (by omega)) gX5_turn_X1_alphabetNamed rfl rfl rfl (by decide +kernel) ⟨Nat.le_of_ble_eq_true rfl, Nat.le_of_ble_eq_true rfl⟩ (1) rfl rfl rfl rfl (Nat.le_of_ble_eq_true rfl) dX5_turn_6 rfl (fun z1 s2 q3 => ?_)
  obtain ⟨rfl, rfl⟩ := q3
  refine x_astore_nN (q := 10) (lv' := [(2, .null), (0, .ref (ad 0)), (1, .int (ii (k)))]) E dX5_turn_9 (by decide) rfl rfl ?_
  refine x_aload_nN (q := 11) E dX5_turn_10 0 rfl rfl ?_
  refine x_ifnonnullN (q := 14) E dX5_turn_11 rfl ?_
  refine x_bipush (q := 16) E dX5_turn_14 (by decide) rfl ?_
  exact RET _ _ _ _ dX5_turn_16 (⟨rfl, hC⟩)

