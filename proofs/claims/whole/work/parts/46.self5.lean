/-- what standing leaves: the spare word is another one, the trial is as it was -/
abbrev STP (tr sp : Nat) (g0 n0 al : Int) (st : St_) (z : Int) (st2 : St_) : Prop := ∃ (k : Int) (f f2 : Int → Int), st2 = sF (sF (sG st (10 + sp) k) (14 + sp) f) (14 + tr) f2 ∧ (0 ≤ k ∧ k ≤ 60) ∧ (∀ j : Int, 0 ≤ j → j < 60 → 0 ≤ f j ∧ f j ≤ 60) ∧ (∀ j : Int, 0 ≤ j → j < 60 → 0 ≤ f2 j ∧ f2 j ≤ 60) ∧ (∀ j : Int, 0 ≤ j → j < st.1 (10 + tr) → f2 j = st.2 (14 + tr) j) ∧ z = al * EX g0 n0.toNat (wl (st.2 (14 + tr)) (st.1 (10 + tr)))
def STC (l : Launch) (D : va_G) (T : Nat → ClassId) (ad : Nat → Nat) (tr sp : Nat) (g0 : Int) (d : Nat) : Prop := ∀ (st : St_) (n0 : Int) (bn0 : -2147483648 ≤ n0 ∧ n0 < 2147483648) (lr : Int) (blr : -2147483648 ≤ lr ∧ lr < 2147483648) (al : Int) (hsz : 0 ≤ st.1 (10 + tr) ∧ st.1 (10 + tr) + n0 ≤ 60) (hbt : ∀ j : Int, 0 ≤ j → j < 60 → 0 ≤ st.2 (14 + tr) j ∧ st.2 (14 + tr) j ≤ 60) (hss : 0 ≤ st.1 (10 + sp) ∧ st.1 (10 + sp) ≤ 60) (hbs : ∀ j : Int, 0 ≤ j → j < 60 → 0 ≤ st.2 (14 + sp) j ∧ st.2 (14 + sp) j ≤ 60) (hlt : lts g0 (wl (st.2 (14 + tr)) (st.1 (10 + tr)))) (hrl : (wl (st.2 (14 + tr)) (st.1 (10 + tr))) = [] ∨ ∃ q : List Int, RLw (wl (st.2 (14 + tr)) (st.1 (10 + tr))) = q ++ [lr]) (hd : n0 = (d : Int)), CXi l yX5_standing wsX5_standing (rmX (9 + d) (300 + 40 * d)) [.ref (ad (25 + tr)), .ref (ad (25 + sp)), .int (ii n0), .int (ii lr), .int (ii al), .int (ii g0)] D (tyX T) (XW T ad) (alX ad) st (STP tr sp g0 n0 al st)
set_option maxRecDepth 100000 in
set_option maxHeartbeats 4000000 in
theorem c_X5_standing_z (l : Launch) (D : va_G) (T : Nat → ClassId) (ad : Nat → Nat) (hN : ∀ i j, i < 33 → j < 33 → ad i = ad j → i = j) (st : St_) (tr : Nat) (htr : tr < 3) (sp : Nat) (hsp : sp < 3) (n0 : Int) (bn0 : -2147483648 ≤ n0 ∧ n0 < 2147483648) (lr : Int) (blr : -2147483648 ≤ lr ∧ lr < 2147483648) (al : Int) (g0 : Int) (bg0 : -2147483648 ≤ g0 ∧ g0 < 2147483648) (hne : tr ≠ sp) (hg : g0 = 2 ∨ g0 = 3) (hsz : 0 ≤ st.1 (10 + tr) ∧ st.1 (10 + tr) + n0 ≤ 60) (hbt : ∀ j : Int, 0 ≤ j → j < 60 → 0 ≤ st.2 (14 + tr) j ∧ st.2 (14 + tr) j ≤ 60) (hss : 0 ≤ st.1 (10 + sp) ∧ st.1 (10 + sp) ≤ 60) (hbs : ∀ j : Int, 0 ≤ j → j < 60 → 0 ≤ st.2 (14 + sp) j ∧ st.2 (14 + sp) j ≤ 60) (hlt : lts g0 (wl (st.2 (14 + tr)) (st.1 (10 + tr)))) (hrl : (wl (st.2 (14 + tr)) (st.1 (10 + tr))) = [] ∨ ∃ q : List Int, RLw (wl (st.2 (14 + tr)) (st.1 (10 + tr))) = q ++ [lr]) (hz : n0 = 0) (d : Nat) : CXi l yX5_standing wsX5_standing (rmX (9 + d) (300 + 40 * d)) [.ref (ad (25 + tr)), .ref (ad (25 + sp)), .int (ii (n0)), .int (ii (lr)), .int (ii (al)), .int (ii (g0))] D (tyX T) (XW T ad) (alX ad) st (STP tr sp g0 n0 al st) := by
  refine mk_i (cc := cX5_standing) (nL := 9) rfl rfl (XW_ok hN) (Nat.le_of_ble_eq_true rfl) [(0, .ref (ad (25 + tr))), (1, .ref (ad (25 + sp))), (2, .int (ii (n0))), (3, .int (ii (lr))), (4, .int (ii (al))), (5, .int (ii (g0)))] rfl (fun p e s m args below meth c A Q E RET => ?_)
  refine x_iload_n (q := 1) E dX5_standing_0 2 rfl rfl ?_
  refine x_if_gt (tgt := 26) (q := 4) E dX5_standing_1 (by decide) rfl (by omega) (fun c1 => ?_) (fun c1 => ?_)
  · exfalso; omega
  · refine x_aload_n (q := 5) E dX5_standing_4 1 rfl rfl ?_
    refine x_aload_n (q := 6) E dX5_standing_5 0 rfl rfl ?_
    refine x_callVv (q := 9) (n := 1) (As := [.ref (ad (25 + tr))]) (r := []) E (c_X4_become l D T ad hN st (sp) hsp (tr) htr (fun y => hne y.symm) (hss) (hbs) (by omega) (hbt)) gX5_standing_X4_become rfl rfl rfl (by decide +kernel) ⟨show 1 + 1 ≤ 9 + d from by omega, show 8 + (3 + 11) + (21) ≤ 300 + 40 * d from by omega⟩ (25 + sp) (xg_word hsp) rfl rfl rfl (Nat.le_of_ble_eq_true rfl) dX5_standing_6 rfl (fun s2 q3 => ?_)
    obtain ⟨f4, rfl, h15, h26⟩ := q3
    refine x_aload_n (q := 10) E dX5_standing_9 1 rfl rfl ?_
    refine x_iload (q := 12) E dX5_standing_10 5 rfl rfl ?_
    refine x_callSi (q := 15) (n := 2) (As := [.ref (ad (25 + sp)), .int (ii (g0))]) (r := []) E (c_X5_depthSpent l D T ad hN (sF (sG st (10 + sp) (st.1 (10 + tr))) (14 + sp) (f4)) (sp) hsp (g0) (by omega) (by rw [sF_1, sG_s]; omega) (by rw [sF_s]; exact h26) (by omega)) gX5_standing_X5_depthSpent rfl rfl rfl (by decide +kernel) ⟨show 3 + 1 ≤ 9 + d from by omega, show 8 + (3 + 11) + (68) ≤ 300 + 40 * d from by omega⟩ rfl rfl (Nat.le_of_ble_eq_true rfl) dX5_standing_12 rfl (fun z7 s8 q9 => ?_)
    obtain ⟨k10, f11, rfl, h112, h213, h314, h415⟩ := q9
    have v1 := h314
    rw [sF_s, sF_1, sG_s] at v1
    have v2 : z7 = dpt g0 (wl (st.2 (14 + tr)) (st.1 (10 + tr))) := by rw [v1]; exact congrArg _ (wl_congr (fun j j0 j1 => h15 j j0 j1))
    refine x_iconst (q := 16) E dX5_standing_15 rfl ?_
    refine x_icmp_ne (tgt := 23) (q := 19) E dX5_standing_16 (by decide) rfl (by omega) (by omega) (fun c16 => ?_) (fun c16 => ?_)
    · refine x_iload (q := 25) E dX5_standing_23 4 rfl rfl ?_
      exact RET _ _ _ _ dX5_standing_25 (⟨k10, f11, st.2 (14 + tr), by refine Prod.ext (funext fun k9 => ?_) (funext fun q9 => ?_) <;> simp only [sG_1, sG_2, sA_1, sA_2, sF_1, sF_2, reduceIte] <;> (repeat' split) <;> first | rfl | omega | (subst_vars; first | rfl | omega) | simp_all, h112, h213, hbt, fun _ _ _ => rfl, by rw [show n0.toNat = 0 from by omega, EX_0, if_neg (by rw [← v2]; omega), Int.mul_one]⟩)
    · refine x_iconst (q := 20) E dX5_standing_19 rfl ?_
      refine x_goto (tgt := 25) E dX5_standing_20 (by decide) ?_
      exact RET _ _ _ _ dX5_standing_25 (⟨k10, f11, st.2 (14 + tr), by refine Prod.ext (funext fun k9 => ?_) (funext fun q9 => ?_) <;> simp only [sG_1, sG_2, sA_1, sA_2, sF_1, sF_2, reduceIte] <;> (repeat' split) <;> first | rfl | omega | (subst_vars; first | rfl | omega) | simp_all, h112, h213, hbt, fun _ _ _ => rfl, by rw [show n0.toNat = 0 from by omega, EX_0, if_pos (by rw [← v2]; omega), Int.mul_zero]⟩)

set_option maxRecDepth 100000 in
set_option maxHeartbeats 4000000 in
theorem c_X5_standing_s (l : Launch) (D : va_G) (T : Nat → ClassId) (ad : Nat → Nat) (hN : ∀ i j, i < 33 → j < 33 → ad i = ad j → i = j) (st : St_) (tr : Nat) (htr : tr < 3) (sp : Nat) (hsp : sp < 3) (n0 : Int) (bn0 : -2147483648 ≤ n0 ∧ n0 < 2147483648) (lr : Int) (blr : -2147483648 ≤ lr ∧ lr < 2147483648) (al : Int) (g0 : Int) (bg0 : -2147483648 ≤ g0 ∧ g0 < 2147483648) (hne : tr ≠ sp) (hg : g0 = 2 ∨ g0 = 3) (hsz : 0 ≤ st.1 (10 + tr) ∧ st.1 (10 + tr) + n0 ≤ 60) (hbt : ∀ j : Int, 0 ≤ j → j < 60 → 0 ≤ st.2 (14 + tr) j ∧ st.2 (14 + tr) j ≤ 60) (hss : 0 ≤ st.1 (10 + sp) ∧ st.1 (10 + sp) ≤ 60) (hbs : ∀ j : Int, 0 ≤ j → j < 60 → 0 ≤ st.2 (14 + sp) j ∧ st.2 (14 + sp) j ≤ 60) (hlt : lts g0 (wl (st.2 (14 + tr)) (st.1 (10 + tr)))) (hrl : (wl (st.2 (14 + tr)) (st.1 (10 + tr))) = [] ∨ ∃ q : List Int, RLw (wl (st.2 (14 + tr)) (st.1 (10 + tr))) = q ++ [lr]) (d : Nat) (hd : n0 = (d : Int) + 1) (ih : STC l D T ad tr sp g0 d) : CXi l yX5_standing wsX5_standing (rmX (9 + (d + 1)) (300 + 40 * (d + 1))) [.ref (ad (25 + tr)), .ref (ad (25 + sp)), .int (ii (n0)), .int (ii (lr)), .int (ii (al)), .int (ii (g0))] D (tyX T) (XW T ad) (alX ad) st (STP tr sp g0 n0 al st) := by
  refine mk_i (cc := cX5_standing) (nL := 9) rfl rfl (XW_ok hN) (Nat.le_of_ble_eq_true rfl) [(0, .ref (ad (25 + tr))), (1, .ref (ad (25 + sp))), (2, .int (ii (n0))), (3, .int (ii (lr))), (4, .int (ii (al))), (5, .int (ii (g0)))] rfl (fun p e s m args below meth c A Q E RET => ?_)
  refine x_iload_n (q := 1) E dX5_standing_0 2 rfl rfl ?_
  refine x_if_gt (tgt := 26) (q := 4) E dX5_standing_1 (by decide) rfl (by omega) (fun c1 => ?_) (fun c1 => ?_)
  · refine x_iconst (q := 27) E dX5_standing_26 rfl ?_
    refine x_istore (q := 29) (lv' := [(6, .int (ii (0))), (0, .ref (ad (25 + tr))), (1, .ref (ad (25 + sp))), (2, .int (ii (n0))), (3, .int (ii (lr))), (4, .int (ii (al))), (5, .int (ii (g0)))]) E dX5_standing_27 (by decide) rfl rfl ?_
    refine x_aload_n (q := 30) E dX5_standing_29 1 rfl rfl ?_
    refine x_aload_n (q := 31) E dX5_standing_30 1 rfl rfl ?_
    refine x_callVi (q := 34) (n := 0) (As := []) (r := [.ref (ad (25 + tr))]) E (c_X4_size l D T ad hN st (tr) htr) gX5_standing_X4_size rfl rfl rfl (by decide +kernel) ⟨show 0 + 1 ≤ 9 + (d + 1) from by omega, show 8 + (1 + 11) + (0) ≤ 300 + 40 * (d + 1) from by omega⟩ (25 + tr) (xg_word htr) rfl rfl rfl (Nat.le_of_ble_eq_true rfl) dX5_standing_31 rfl (fun z1 s2 q3 => ?_)
    obtain ⟨rfl, rfl⟩ := q3
    refine x_iconst (q := 35) E dX5_standing_34 rfl ?_
    refine x_isub (q := 36) E dX5_standing_35 rfl ?_
    refine x_callVi (q := 39) (n := 1) (As := [.int (ii ((st.1 (10 + tr)) - (1)))]) (r := []) E (c_X4_letterAt l D T ad hN st (tr) htr ((st.1 (10 + tr)) - (1)) (by omega) (by omega)) gX5_standing_X4_letterAt rfl rfl rfl (by decide +kernel) ⟨show 0 + 1 ≤ 9 + (d + 1) from by omega, show 8 + (2 + 11) + (0) ≤ 300 + 40 * (d + 1) from by omega⟩ (25 + tr) (xg_word htr) rfl rfl rfl (Nat.le_of_ble_eq_true rfl) dX5_standing_36 rfl (fun z4 s5 q6 => ?_)
    obtain ⟨rfl, rfl⟩ := q6
    rcases (show st.1 (10 + tr) = 0 ∨ 0 < st.1 (10 + tr) by omega) with c60 | c60
    · have hW : (wl (st.2 (14 + tr)) (st.1 (10 + tr))) = [] := by rw [c60]; rfl
      refine x_ti (show wat st tr ((st.1 (10 + tr)) - (1)) = -1 from wat_out (by omega)) ?_
      refine x_istore (q := 41) (lv' := [(7, .int (ii (-1))), (6, .int (ii (0))), (0, .ref (ad (25 + tr))), (1, .ref (ad (25 + sp))), (2, .int (ii (n0))), (3, .int (ii (lr))), (4, .int (ii (al))), (5, .int (ii (g0)))]) E dX5_standing_39 (by decide) rfl rfl ?_
      refine x_iload (q := 43) E dX5_standing_41 0 rfl rfl ?_
      refine x_iconst (q := 44) E dX5_standing_43 rfl ?_
      refine x_icmp_eq (tgt := 86) (q := 47) E dX5_standing_44 (by decide) rfl (by omega) (by omega) (fun _ => ?_) (fun h9 => absurd h9 (by decide))
      refine x_iload (q := 88) E dX5_standing_86 0 rfl rfl ?_
      refine x_iconst (q := 89) E dX5_standing_88 rfl ?_
      refine x_icmp_ne (tgt := 97) (q := 92) E dX5_standing_89 (by decide) rfl (by omega) (by omega) (fun h9 => absurd h9 (by decide)) (fun _ => ?_)
      refine x_iload (q := 94) E dX5_standing_92 7 rfl rfl ?_
      refine x_goto (tgt := 101) E dX5_standing_94 (by decide) ?_
      refine x_istore (q := 103) (lv' := [(8, .int (ii (g0))), (7, .int (ii (-1))), (6, .int (ii (0))), (0, .ref (ad (25 + tr))), (1, .ref (ad (25 + sp))), (2, .int (ii (n0))), (3, .int (ii (lr))), (4, .int (ii (al))), (5, .int (ii (g0)))]) E dX5_standing_101 (by decide) rfl rfl ?_
      refine x_aload_n (q := 104) E dX5_standing_103 3 rfl rfl ?_
      refine x_iload (q := 106) E dX5_standing_104 1 rfl rfl ?_
      refine x_iconst (q := 107) E dX5_standing_106 rfl ?_
      refine x_icmp_ne (tgt := 114) (q := 110) E dX5_standing_107 (by decide) rfl (by omega) (by omega) (fun _ => ?_) (fun h9 => absurd h9 (by decide))
      refine x_iconst (q := 115) E dX5_standing_114 rfl ?_
      refine x_callVi (q := 118) (n := 1) (As := [.int (ii (1))]) (r := []) E (c_X4_put l D T ad hN st (tr) htr (1) (by omega) (by omega)) gX5_standing_X4_put rfl rfl rfl (by decide +kernel) ⟨show 0 + 1 ≤ 9 + (d + 1) from by omega, show 8 + (2 + 11) + (0) ≤ 300 + 40 * (d + 1) from by omega⟩ (25 + tr) (xg_word htr) rfl rfl rfl (Nat.le_of_ble_eq_true rfl) dX5_standing_115 rfl (fun z7 s8 q9 => ?_)
      obtain ⟨rfl, rfl⟩ := q9
      refine x_if_eq (tgt := 146) (q := 121) E dX5_standing_118 (by decide) rfl (by omega) (fun h9 => absurd h9 (by decide)) (fun _ => ?_)
      refine x_iload (q := 123) E dX5_standing_121 2 rfl rfl ?_
      refine x_aload_n (q := 124) E dX5_standing_123 3 rfl rfl ?_
      refine x_aload_n (q := 125) E dX5_standing_124 4 rfl rfl ?_
      refine x_iload_n (q := 126) E dX5_standing_125 5 rfl rfl ?_
      refine x_iconst (q := 127) E dX5_standing_126 rfl ?_
      refine x_isub (q := 128) E dX5_standing_127 rfl ?_
      refine x_iconst (q := 129) E dX5_standing_128 rfl ?_
      refine x_iload (q := 131) E dX5_standing_129 7 rfl rfl ?_
      refine x_iload (q := 133) E dX5_standing_131 0 rfl rfl ?_
      refine x_imul (q := 134) E dX5_standing_133 rfl ?_
      refine x_iload (q := 136) E dX5_standing_134 8 rfl rfl ?_
      refine x_callSi (rm := rmX (9 + d) (300 + 40 * d)) (q := 139) (n := 6) (As := [.ref (ad (25 + tr)), .ref (ad (25 + sp)), .int (ii ((n0) - (1))), .int (ii (1)), .int (ii ((al) * (g0))), .int (ii (g0))]) (r := [.int (ii (0))]) E (ih (sG (sA st (14 + tr) (st.1 (10 + tr)) (1)) (10 + tr) ((st.1 (10 + tr)) + 1)) ((n0) - (1)) (by omega) (1) (by omega) ((al) * (g0)) (by rw [sG_s]; omega) (by rw [sG_2, sA_s]; exact zup_b hbt (by omega) (by omega)) (by rw [sG_n _ _ (by omega), sA_1]; exact hss) (by rw [sG_2, sA_n _ _ _ (by omega)]; exact hbs) (by rw [show wl ((sG (sA st (14 + tr) (st.1 (10 + tr)) (1)) (10 + tr) ((st.1 (10 + tr)) + 1)).2 (14 + tr)) ((sG (sA st (14 + tr) (st.1 (10 + tr)) (1)) (10 + tr) ((st.1 (10 + tr)) + 1)).1 (10 + tr)) = (wl (st.2 (14 + tr)) (st.1 (10 + tr))) ++ [1] from (by rw [sG_s, sG_2, sA_s, wl_put _ _ hsz.1])]; exact lts_app hlt (by omega)) (by rw [show wl ((sG (sA st (14 + tr) (st.1 (10 + tr)) (1)) (10 + tr) ((st.1 (10 + tr)) + 1)).2 (14 + tr)) ((sG (sA st (14 + tr) (st.1 (10 + tr)) (1)) (10 + tr) ((st.1 (10 + tr)) + 1)).1 (10 + tr)) = (wl (st.2 (14 + tr)) (st.1 (10 + tr))) ++ [1] from (by rw [sG_s, sG_2, sA_s, wl_put _ _ hsz.1])]; exact Or.inr ⟨[], by rw [hW]; exact RLw_new (Or.inl rfl)⟩) (by omega)) gX5_standing_X5_standing rfl rfl rfl (by decide +kernel) ⟨show 9 + d + 1 ≤ 9 + (d + 1) from by omega, show 8 + (9 + 11) + (300 + 40 * d) ≤ 300 + 40 * (d + 1) from by omega⟩ rfl rfl (Nat.le_of_ble_eq_true rfl) dX5_standing_136 rfl (fun z10 s11 q12 => ?_)
      obtain ⟨k13, f14, f215, rfl, h116, h217, h318, h419, h520⟩ := q12
      have v2 : z10 = ((al) * (g0)) * EX g0 d ((wl (st.2 (14 + tr)) (st.1 (10 + tr))) ++ [1]) := by rw [h520, show wl ((sG (sA st (14 + tr) (st.1 (10 + tr)) (1)) (10 + tr) ((st.1 (10 + tr)) + 1)).2 (14 + tr)) ((sG (sA st (14 + tr) (st.1 (10 + tr)) (1)) (10 + tr) ((st.1 (10 + tr)) + 1)).1 (10 + tr)) = (wl (st.2 (14 + tr)) (st.1 (10 + tr))) ++ [1] from (by rw [sG_s, sG_2, sA_s, wl_put _ _ hsz.1]), show (n0 - 1).toNat = d from by omega]
      have x5 : ∀ j : Int, 0 ≤ j → j < st.1 (10 + tr) → f215 j = st.2 (14 + tr) j := fun j j0 j1 => by rw [h419 j j0 (by rw [sG_s]; omega), sG_2, sA_s, zup_ne _ _ (by omega)]
      refine x_iadd (q := 140) E dX5_standing_139 rfl ?_
      refine x_istore (q := 142) (lv' := [(6, .int (ii ((0) + (z10)))), (8, .int (ii (g0))), (7, .int (ii (-1))), (0, .ref (ad (25 + tr))), (1, .ref (ad (25 + sp))), (2, .int (ii (n0))), (3, .int (ii (lr))), (4, .int (ii (al))), (5, .int (ii (g0)))]) E dX5_standing_140 (by decide) rfl rfl ?_
      refine x_aload_n (q := 143) E dX5_standing_142 3 rfl rfl ?_
      refine x_callVv (q := 146) (n := 0) (As := []) (r := []) E (c_X4_drop l D T ad hN (sF (sF (sG (sG (sA st (14 + tr) (st.1 (10 + tr)) (1)) (10 + tr) ((st.1 (10 + tr)) + 1)) (10 + sp) (k13)) (14 + sp) (f14)) (14 + tr) (f215)) (tr) htr (by rw [sF_1, sF_1, sG_n _ _ (by omega), sG_s]; omega)) gX5_standing_X4_drop rfl rfl rfl (by decide +kernel) ⟨show 0 + 1 ≤ 9 + (d + 1) from by omega, show 8 + (1 + 11) + (0) ≤ 300 + 40 * (d + 1) from by omega⟩ (25 + tr) (xg_word htr) rfl rfl rfl (Nat.le_of_ble_eq_true rfl) dX5_standing_143 rfl (fun s22 q23 => ?_)
      have e143 : s22 = (sF (sF (sG st (10 + sp) (k13)) (14 + sp) (f14)) (14 + tr) (f215)) := by
        rcases q23 with ⟨w1, w2⟩ | ⟨w1, w2⟩
        · rw [w2, sF_1, sF_1, sG_n _ _ (by omega), sG_s]; exact (by refine Prod.ext (funext fun k9 => ?_) (funext fun q9 => ?_) <;> simp only [sG_1, sG_2, sA_1, sA_2, sF_1, sF_2, reduceIte] <;> (repeat' split) <;> first | rfl | omega | (subst_vars; first | rfl | omega) | simp_all)
        · exact absurd (show 0 < (sF (sF (sG (sG (sA st (14 + tr) (st.1 (10 + tr)) (1)) (10 + tr) ((st.1 (10 + tr)) + 1)) (10 + sp) (k13)) (14 + sp) (f14)) (14 + tr) (f215)).1 (10 + tr) by rw [sF_1, sF_1, sG_n _ _ (by omega), sG_s]; omega) w1
      rw [e143]
      refine x_iload (q := 148) E dX5_standing_146 0 rfl rfl ?_
      exact RET _ _ _ _ dX5_standing_148 (⟨k13, f14, f215, rfl, h116, h217, h318, x5, by rw [show n0.toNat = d + 1 from by omega, hW, ST_e hg]; rw [hW] at v2; rw [v2]; exact Int.zero_add _⟩)
    · have hW : (wl (st.2 (14 + tr)) (st.1 (10 + tr))) ≠ [] := wl_ne c60
      obtain ⟨la, hla⟩ : ∃ la : Int, la = lst (wl (st.2 (14 + tr)) (st.1 (10 + tr))) := ⟨_, rfl⟩
      have hlb : 1 ≤ la ∧ la ≤ g0 := by rw [hla]; exact lst_b hW hlt
      have hlw : wat st tr ((st.1 (10 + tr)) - (1)) = la := by rw [wat_in (by omega) (by omega) (by omega), hla]; unfold lst; rw [wl_len _ hsz.1, lf_wl _ (by omega) (by omega)]
      obtain ⟨q, hq⟩ := hrl.resolve_left hW
      refine x_ti hlw ?_
      refine x_istore (q := 41) (lv' := [(7, .int (ii (la))), (6, .int (ii (0))), (0, .ref (ad (25 + tr))), (1, .ref (ad (25 + sp))), (2, .int (ii (n0))), (3, .int (ii (lr))), (4, .int (ii (al))), (5, .int (ii (g0)))]) E dX5_standing_39 (by decide) rfl rfl ?_
      refine x_iload (q := 43) E dX5_standing_41 0 rfl rfl ?_
      refine x_iconst (q := 44) E dX5_standing_43 rfl ?_
      refine x_icmp_eq (tgt := 86) (q := 47) E dX5_standing_44 (by decide) rfl (by omega) (by omega) (fun c44 => ?_) (fun c44 => ?_)
      · exfalso; omega
      · refine x_iload_n (q := 48) E dX5_standing_47 5 rfl rfl ?_
        refine x_iload (q := 50) E dX5_standing_48 7 rfl rfl ?_
        refine x_icmp_ge (tgt := 86) (q := 53) E dX5_standing_50 (by decide) rfl (by omega) (by omega) (fun c50 => ?_) (fun c50 => ?_)
        · refine x_iload (q := 88) E dX5_standing_86 0 rfl rfl ?_
          refine x_iconst (q := 89) E dX5_standing_88 rfl ?_
          refine x_icmp_ne (tgt := 97) (q := 92) E dX5_standing_89 (by decide) rfl (by omega) (by omega) (fun c89 => ?_) (fun c89 => ?_)
          · refine x_iload (q := 99) E dX5_standing_97 7 rfl rfl ?_
            refine x_iconst (q := 100) E dX5_standing_99 rfl ?_
            refine x_isub (q := 101) E dX5_standing_100 rfl ?_
            refine x_istore (q := 103) (lv' := [(8, .int (ii ((g0) - (1)))), (7, .int (ii (la))), (6, .int (ii (0))), (0, .ref (ad (25 + tr))), (1, .ref (ad (25 + sp))), (2, .int (ii (n0))), (3, .int (ii (lr))), (4, .int (ii (al))), (5, .int (ii (g0)))]) E dX5_standing_101 (by decide) rfl rfl ?_
            refine x_aload_n (q := 104) E dX5_standing_103 3 rfl rfl ?_
            refine x_iload (q := 106) E dX5_standing_104 1 rfl rfl ?_
            refine x_iconst (q := 107) E dX5_standing_106 rfl ?_
            refine x_icmp_ne (tgt := 114) (q := 110) E dX5_standing_107 (by decide) rfl (by omega) (by omega) (fun c107 => ?_) (fun c107 => ?_)
            · refine x_iconst (q := 115) E dX5_standing_114 rfl ?_
              refine x_callVi (q := 118) (n := 1) (As := [.int (ii (1))]) (r := []) E (c_X4_put l D T ad hN st (tr) htr (1) (by omega) (by omega)) gX5_standing_X4_put rfl rfl rfl (by decide +kernel) ⟨show 0 + 1 ≤ 9 + (d + 1) from by omega, show 8 + (2 + 11) + (0) ≤ 300 + 40 * (d + 1) from by omega⟩ (25 + tr) (xg_word htr) rfl rfl rfl (Nat.le_of_ble_eq_true rfl) dX5_standing_115 rfl (fun z24 s25 q26 => ?_)
              obtain ⟨rfl, rfl⟩ := q26
              refine x_if_eq (tgt := 146) (q := 121) E dX5_standing_118 (by decide) rfl (by omega) (fun h9 => absurd h9 (by decide)) (fun _ => ?_)
              refine x_iload (q := 123) E dX5_standing_121 2 rfl rfl ?_
              refine x_aload_n (q := 124) E dX5_standing_123 3 rfl rfl ?_
              refine x_aload_n (q := 125) E dX5_standing_124 4 rfl rfl ?_
              refine x_iload_n (q := 126) E dX5_standing_125 5 rfl rfl ?_
              refine x_iconst (q := 127) E dX5_standing_126 rfl ?_
              refine x_isub (q := 128) E dX5_standing_127 rfl ?_
              refine x_iconst (q := 129) E dX5_standing_128 rfl ?_
              refine x_iload (q := 131) E dX5_standing_129 7 rfl rfl ?_
              refine x_iload (q := 133) E dX5_standing_131 0 rfl rfl ?_
              refine x_imul (q := 134) E dX5_standing_133 rfl ?_
              refine x_iload (q := 136) E dX5_standing_134 8 rfl rfl ?_
              have ho : ot (lst (wl (st.2 (14 + tr)) (st.1 (10 + tr)))) = 1 := by unfold ot; rw [← hla, if_neg (by omega)]
              refine x_callSi (rm := rmX (9 + d) (300 + 40 * d)) (q := 139) (n := 6) (As := [.ref (ad (25 + tr)), .ref (ad (25 + sp)), .int (ii ((n0) - (1))), .int (ii (1)), .int (ii ((al) * ((g0) - (1)))), .int (ii (g0))]) (r := [.int (ii (0))]) E (ih (sG (sA st (14 + tr) (st.1 (10 + tr)) (1)) (10 + tr) ((st.1 (10 + tr)) + 1)) ((n0) - (1)) (by omega) (1) (by omega) ((al) * ((g0) - (1))) (by rw [sG_s]; omega) (by rw [sG_2, sA_s]; exact zup_b hbt (by omega) (by omega)) (by rw [sG_n _ _ (by omega), sA_1]; exact hss) (by rw [sG_2, sA_n _ _ _ (by omega)]; exact hbs) (by rw [show wl ((sG (sA st (14 + tr) (st.1 (10 + tr)) (1)) (10 + tr) ((st.1 (10 + tr)) + 1)).2 (14 + tr)) ((sG (sA st (14 + tr) (st.1 (10 + tr)) (1)) (10 + tr) ((st.1 (10 + tr)) + 1)).1 (10 + tr)) = (wl (st.2 (14 + tr)) (st.1 (10 + tr))) ++ [1] from (by rw [sG_s, sG_2, sA_s, wl_put _ _ hsz.1])]; exact lts_app hlt (by omega)) (by rw [show wl ((sG (sA st (14 + tr) (st.1 (10 + tr)) (1)) (10 + tr) ((st.1 (10 + tr)) + 1)).2 (14 + tr)) ((sG (sA st (14 + tr) (st.1 (10 + tr)) (1)) (10 + tr) ((st.1 (10 + tr)) + 1)).1 (10 + tr)) = (wl (st.2 (14 + tr)) (st.1 (10 + tr))) ++ [1] from (by rw [sG_s, sG_2, sA_s, wl_put _ _ hsz.1])]; exact Or.inr ⟨RLw (wl (st.2 (14 + tr)) (st.1 (10 + tr))), RLw_new (Or.inr (by rw [← hla]; omega))⟩) (by omega)) gX5_standing_X5_standing rfl rfl rfl (by decide +kernel) ⟨show 9 + d + 1 ≤ 9 + (d + 1) from by omega, show 8 + (9 + 11) + (300 + 40 * d) ≤ 300 + 40 * (d + 1) from by omega⟩ rfl rfl (Nat.le_of_ble_eq_true rfl) dX5_standing_136 rfl (fun z27 s28 q29 => ?_)
              obtain ⟨k30, f31, f232, rfl, h133, h234, h335, h436, h537⟩ := q29
              have v2 : z27 = ((al) * ((g0) - (1))) * EX g0 d ((wl (st.2 (14 + tr)) (st.1 (10 + tr))) ++ [1]) := by rw [h537, show wl ((sG (sA st (14 + tr) (st.1 (10 + tr)) (1)) (10 + tr) ((st.1 (10 + tr)) + 1)).2 (14 + tr)) ((sG (sA st (14 + tr) (st.1 (10 + tr)) (1)) (10 + tr) ((st.1 (10 + tr)) + 1)).1 (10 + tr)) = (wl (st.2 (14 + tr)) (st.1 (10 + tr))) ++ [1] from (by rw [sG_s, sG_2, sA_s, wl_put _ _ hsz.1]), show (n0 - 1).toNat = d from by omega]
              have x5 : ∀ j : Int, 0 ≤ j → j < st.1 (10 + tr) → f232 j = st.2 (14 + tr) j := fun j j0 j1 => by rw [h436 j j0 (by rw [sG_s]; omega), sG_2, sA_s, zup_ne _ _ (by omega)]
              refine x_iadd (q := 140) E dX5_standing_139 rfl ?_
              refine x_istore (q := 142) (lv' := [(6, .int (ii ((0) + (z27)))), (8, .int (ii ((g0) - (1)))), (7, .int (ii (la))), (0, .ref (ad (25 + tr))), (1, .ref (ad (25 + sp))), (2, .int (ii (n0))), (3, .int (ii (lr))), (4, .int (ii (al))), (5, .int (ii (g0)))]) E dX5_standing_140 (by decide) rfl rfl ?_
              refine x_aload_n (q := 143) E dX5_standing_142 3 rfl rfl ?_
              refine x_callVv (q := 146) (n := 0) (As := []) (r := []) E (c_X4_drop l D T ad hN (sF (sF (sG (sG (sA st (14 + tr) (st.1 (10 + tr)) (1)) (10 + tr) ((st.1 (10 + tr)) + 1)) (10 + sp) (k30)) (14 + sp) (f31)) (14 + tr) (f232)) (tr) htr (by rw [sF_1, sF_1, sG_n _ _ (by omega), sG_s]; omega)) gX5_standing_X4_drop rfl rfl rfl (by decide +kernel) ⟨show 0 + 1 ≤ 9 + (d + 1) from by omega, show 8 + (1 + 11) + (0) ≤ 300 + 40 * (d + 1) from by omega⟩ (25 + tr) (xg_word htr) rfl rfl rfl (Nat.le_of_ble_eq_true rfl) dX5_standing_143 rfl (fun s39 q40 => ?_)
              have e143 : s39 = (sF (sF (sG st (10 + sp) (k30)) (14 + sp) (f31)) (14 + tr) (f232)) := by
                rcases q40 with ⟨w1, w2⟩ | ⟨w1, w2⟩
                · rw [w2, sF_1, sF_1, sG_n _ _ (by omega), sG_s]; exact (by refine Prod.ext (funext fun k9 => ?_) (funext fun q9 => ?_) <;> simp only [sG_1, sG_2, sA_1, sA_2, sF_1, sF_2, reduceIte] <;> (repeat' split) <;> first | rfl | omega | (subst_vars; first | rfl | omega) | simp_all)
                · exact absurd (show 0 < (sF (sF (sG (sG (sA st (14 + tr) (st.1 (10 + tr)) (1)) (10 + tr) ((st.1 (10 + tr)) + 1)) (10 + sp) (k30)) (14 + sp) (f31)) (14 + tr) (f232)).1 (10 + tr) by rw [sF_1, sF_1, sG_n _ _ (by omega), sG_s]; omega) w1
              rw [e143]
              refine x_iload (q := 148) E dX5_standing_146 0 rfl rfl ?_
              exact RET _ _ _ _ dX5_standing_148 (⟨k30, f31, f232, rfl, h133, h234, h335, x5, by rw [show n0.toNat = d + 1 from by omega, ST_s hg hW hlt hq, if_neg (by omega), ho, v2]⟩)
            · refine x_iconst (q := 111) E dX5_standing_110 rfl ?_
              refine x_goto (tgt := 115) E dX5_standing_111 (by decide) ?_
              refine x_callVi (q := 118) (n := 1) (As := [.int (ii (2))]) (r := []) E (c_X4_put l D T ad hN st (tr) htr (2) (by omega) (by omega)) gX5_standing_X4_put rfl rfl rfl (by decide +kernel) ⟨show 0 + 1 ≤ 9 + (d + 1) from by omega, show 8 + (2 + 11) + (0) ≤ 300 + 40 * (d + 1) from by omega⟩ (25 + tr) (xg_word htr) rfl rfl rfl (Nat.le_of_ble_eq_true rfl) dX5_standing_115 rfl (fun z41 s42 q43 => ?_)
              obtain ⟨rfl, rfl⟩ := q43
              refine x_if_eq (tgt := 146) (q := 121) E dX5_standing_118 (by decide) rfl (by omega) (fun h9 => absurd h9 (by decide)) (fun _ => ?_)
              refine x_iload (q := 123) E dX5_standing_121 2 rfl rfl ?_
              refine x_aload_n (q := 124) E dX5_standing_123 3 rfl rfl ?_
              refine x_aload_n (q := 125) E dX5_standing_124 4 rfl rfl ?_
              refine x_iload_n (q := 126) E dX5_standing_125 5 rfl rfl ?_
              refine x_iconst (q := 127) E dX5_standing_126 rfl ?_
              refine x_isub (q := 128) E dX5_standing_127 rfl ?_
              refine x_iconst (q := 129) E dX5_standing_128 rfl ?_
              refine x_iload (q := 131) E dX5_standing_129 7 rfl rfl ?_
              refine x_iload (q := 133) E dX5_standing_131 0 rfl rfl ?_
              refine x_imul (q := 134) E dX5_standing_133 rfl ?_
              refine x_iload (q := 136) E dX5_standing_134 8 rfl rfl ?_
              have ho : ot (lst (wl (st.2 (14 + tr)) (st.1 (10 + tr)))) = 2 := by unfold ot; rw [← hla, if_pos (by omega)]
              refine x_callSi (rm := rmX (9 + d) (300 + 40 * d)) (q := 139) (n := 6) (As := [.ref (ad (25 + tr)), .ref (ad (25 + sp)), .int (ii ((n0) - (1))), .int (ii (1)), .int (ii ((al) * ((g0) - (1)))), .int (ii (g0))]) (r := [.int (ii (0))]) E (ih (sG (sA st (14 + tr) (st.1 (10 + tr)) (2)) (10 + tr) ((st.1 (10 + tr)) + 1)) ((n0) - (1)) (by omega) (1) (by omega) ((al) * ((g0) - (1))) (by rw [sG_s]; omega) (by rw [sG_2, sA_s]; exact zup_b hbt (by omega) (by omega)) (by rw [sG_n _ _ (by omega), sA_1]; exact hss) (by rw [sG_2, sA_n _ _ _ (by omega)]; exact hbs) (by rw [show wl ((sG (sA st (14 + tr) (st.1 (10 + tr)) (2)) (10 + tr) ((st.1 (10 + tr)) + 1)).2 (14 + tr)) ((sG (sA st (14 + tr) (st.1 (10 + tr)) (2)) (10 + tr) ((st.1 (10 + tr)) + 1)).1 (10 + tr)) = (wl (st.2 (14 + tr)) (st.1 (10 + tr))) ++ [2] from (by rw [sG_s, sG_2, sA_s, wl_put _ _ hsz.1])]; exact lts_app hlt (by omega)) (by rw [show wl ((sG (sA st (14 + tr) (st.1 (10 + tr)) (2)) (10 + tr) ((st.1 (10 + tr)) + 1)).2 (14 + tr)) ((sG (sA st (14 + tr) (st.1 (10 + tr)) (2)) (10 + tr) ((st.1 (10 + tr)) + 1)).1 (10 + tr)) = (wl (st.2 (14 + tr)) (st.1 (10 + tr))) ++ [2] from (by rw [sG_s, sG_2, sA_s, wl_put _ _ hsz.1])]; exact Or.inr ⟨RLw (wl (st.2 (14 + tr)) (st.1 (10 + tr))), RLw_new (Or.inr (by rw [← hla]; omega))⟩) (by omega)) gX5_standing_X5_standing rfl rfl rfl (by decide +kernel) ⟨show 9 + d + 1 ≤ 9 + (d + 1) from by omega, show 8 + (9 + 11) + (300 + 40 * d) ≤ 300 + 40 * (d + 1) from by omega⟩ rfl rfl (Nat.le_of_ble_eq_true rfl) dX5_standing_136 rfl (fun z44 s45 q46 => ?_)
              obtain ⟨k47, f48, f249, rfl, h150, h251, h352, h453, h554⟩ := q46
              have v2 : z44 = ((al) * ((g0) - (1))) * EX g0 d ((wl (st.2 (14 + tr)) (st.1 (10 + tr))) ++ [2]) := by rw [h554, show wl ((sG (sA st (14 + tr) (st.1 (10 + tr)) (2)) (10 + tr) ((st.1 (10 + tr)) + 1)).2 (14 + tr)) ((sG (sA st (14 + tr) (st.1 (10 + tr)) (2)) (10 + tr) ((st.1 (10 + tr)) + 1)).1 (10 + tr)) = (wl (st.2 (14 + tr)) (st.1 (10 + tr))) ++ [2] from (by rw [sG_s, sG_2, sA_s, wl_put _ _ hsz.1]), show (n0 - 1).toNat = d from by omega]
              have x5 : ∀ j : Int, 0 ≤ j → j < st.1 (10 + tr) → f249 j = st.2 (14 + tr) j := fun j j0 j1 => by rw [h453 j j0 (by rw [sG_s]; omega), sG_2, sA_s, zup_ne _ _ (by omega)]
              refine x_iadd (q := 140) E dX5_standing_139 rfl ?_
              refine x_istore (q := 142) (lv' := [(6, .int (ii ((0) + (z44)))), (8, .int (ii ((g0) - (1)))), (7, .int (ii (la))), (0, .ref (ad (25 + tr))), (1, .ref (ad (25 + sp))), (2, .int (ii (n0))), (3, .int (ii (lr))), (4, .int (ii (al))), (5, .int (ii (g0)))]) E dX5_standing_140 (by decide) rfl rfl ?_
              refine x_aload_n (q := 143) E dX5_standing_142 3 rfl rfl ?_
              refine x_callVv (q := 146) (n := 0) (As := []) (r := []) E (c_X4_drop l D T ad hN (sF (sF (sG (sG (sA st (14 + tr) (st.1 (10 + tr)) (2)) (10 + tr) ((st.1 (10 + tr)) + 1)) (10 + sp) (k47)) (14 + sp) (f48)) (14 + tr) (f249)) (tr) htr (by rw [sF_1, sF_1, sG_n _ _ (by omega), sG_s]; omega)) gX5_standing_X4_drop rfl rfl rfl (by decide +kernel) ⟨show 0 + 1 ≤ 9 + (d + 1) from by omega, show 8 + (1 + 11) + (0) ≤ 300 + 40 * (d + 1) from by omega⟩ (25 + tr) (xg_word htr) rfl rfl rfl (Nat.le_of_ble_eq_true rfl) dX5_standing_143 rfl (fun s56 q57 => ?_)
              have e143 : s56 = (sF (sF (sG st (10 + sp) (k47)) (14 + sp) (f48)) (14 + tr) (f249)) := by
                rcases q57 with ⟨w1, w2⟩ | ⟨w1, w2⟩
                · rw [w2, sF_1, sF_1, sG_n _ _ (by omega), sG_s]; exact (by refine Prod.ext (funext fun k9 => ?_) (funext fun q9 => ?_) <;> simp only [sG_1, sG_2, sA_1, sA_2, sF_1, sF_2, reduceIte] <;> (repeat' split) <;> first | rfl | omega | (subst_vars; first | rfl | omega) | simp_all)
                · exact absurd (show 0 < (sF (sF (sG (sG (sA st (14 + tr) (st.1 (10 + tr)) (2)) (10 + tr) ((st.1 (10 + tr)) + 1)) (10 + sp) (k47)) (14 + sp) (f48)) (14 + tr) (f249)).1 (10 + tr) by rw [sF_1, sF_1, sG_n _ _ (by omega), sG_s]; omega) w1
              rw [e143]
              refine x_iload (q := 148) E dX5_standing_146 0 rfl rfl ?_
              exact RET _ _ _ _ dX5_standing_148 (⟨k47, f48, f249, rfl, h150, h251, h352, x5, by rw [show n0.toNat = d + 1 from by omega, ST_s hg hW hlt hq, if_neg (by omega), ho, v2]⟩)
          · exfalso; omega
        · refine x_aload_n (q := 54) E dX5_standing_53 2 rfl rfl ?_
          refine x_iload (q := 56) E dX5_standing_54 0 rfl rfl ?_
          refine x_callVi (q := 59) (n := 1) (As := [.int (ii (la))]) (r := []) E (c_X4_put l D T ad hN st (tr) htr (la) (by omega) (by omega)) gX5_standing_X4_put rfl rfl rfl (by decide +kernel) ⟨show 0 + 1 ≤ 9 + (d + 1) from by omega, show 8 + (2 + 11) + (0) ≤ 300 + 40 * (d + 1) from by omega⟩ (25 + tr) (xg_word htr) rfl rfl rfl (Nat.le_of_ble_eq_true rfl) dX5_standing_56 rfl (fun z58 s59 q60 => ?_)
          obtain ⟨rfl, rfl⟩ := q60
          refine x_if_eq (tgt := 86) (q := 62) E dX5_standing_59 (by decide) rfl (by omega) (fun h9 => absurd h9 (by decide)) (fun _ => ?_)
          refine x_iload (q := 64) E dX5_standing_62 1 rfl rfl ?_
          refine x_aload_n (q := 65) E dX5_standing_64 2 rfl rfl ?_
          refine x_aload_n (q := 66) E dX5_standing_65 3 rfl rfl ?_
          refine x_iload_n (q := 67) E dX5_standing_66 4 rfl rfl ?_
          refine x_iconst (q := 68) E dX5_standing_67 rfl ?_
          refine x_isub (q := 69) E dX5_standing_68 rfl ?_
          refine x_iload_n (q := 70) E dX5_standing_69 5 rfl rfl ?_
          refine x_iconst (q := 71) E dX5_standing_70 rfl ?_
          refine x_iadd (q := 72) E dX5_standing_71 rfl ?_
          refine x_iload (q := 74) E dX5_standing_72 6 rfl rfl ?_
          refine x_iload (q := 76) E dX5_standing_74 7 rfl rfl ?_
          refine x_callSi (rm := rmX (9 + d) (300 + 40 * d)) (q := 79) (n := 6) (As := [.ref (ad (25 + tr)), .ref (ad (25 + sp)), .int (ii ((n0) - (1))), .int (ii ((lr) + (1))), .int (ii (al)), .int (ii (g0))]) (r := [.int (ii (0))]) E (ih (sG (sA st (14 + tr) (st.1 (10 + tr)) (la)) (10 + tr) ((st.1 (10 + tr)) + 1)) ((n0) - (1)) (by omega) ((lr) + (1)) (by omega) (al) (by rw [sG_s]; omega) (by rw [sG_2, sA_s]; exact zup_b hbt (by omega) (by omega)) (by rw [sG_n _ _ (by omega), sA_1]; exact hss) (by rw [sG_2, sA_n _ _ _ (by omega)]; exact hbs) (by rw [show wl ((sG (sA st (14 + tr) (st.1 (10 + tr)) (la)) (10 + tr) ((st.1 (10 + tr)) + 1)).2 (14 + tr)) ((sG (sA st (14 + tr) (st.1 (10 + tr)) (la)) (10 + tr) ((st.1 (10 + tr)) + 1)).1 (10 + tr)) = (wl (st.2 (14 + tr)) (st.1 (10 + tr))) ++ [la] from (by rw [sG_s, sG_2, sA_s, wl_put _ _ hsz.1])]; exact lts_app hlt (by omega)) (by rw [show wl ((sG (sA st (14 + tr) (st.1 (10 + tr)) (la)) (10 + tr) ((st.1 (10 + tr)) + 1)).2 (14 + tr)) ((sG (sA st (14 + tr) (st.1 (10 + tr)) (la)) (10 + tr) ((st.1 (10 + tr)) + 1)).1 (10 + tr)) = (wl (st.2 (14 + tr)) (st.1 (10 + tr))) ++ [la] from (by rw [sG_s, sG_2, sA_s, wl_put _ _ hsz.1])]; exact Or.inr ⟨q, by rw [RLw_old hW hla, hq, incL_app]⟩) (by omega)) gX5_standing_X5_standing rfl rfl rfl (by decide +kernel) ⟨show 9 + d + 1 ≤ 9 + (d + 1) from by omega, show 8 + (9 + 11) + (300 + 40 * d) ≤ 300 + 40 * (d + 1) from by omega⟩ rfl rfl (Nat.le_of_ble_eq_true rfl) dX5_standing_76 rfl (fun z61 s62 q63 => ?_)
          obtain ⟨k64, f65, f266, rfl, h167, h268, h369, h470, h571⟩ := q63
          have v1 : z61 = al * EX g0 d ((wl (st.2 (14 + tr)) (st.1 (10 + tr))) ++ [la]) := by rw [h571, show wl ((sG (sA st (14 + tr) (st.1 (10 + tr)) (la)) (10 + tr) ((st.1 (10 + tr)) + 1)).2 (14 + tr)) ((sG (sA st (14 + tr) (st.1 (10 + tr)) (la)) (10 + tr) ((st.1 (10 + tr)) + 1)).1 (10 + tr)) = (wl (st.2 (14 + tr)) (st.1 (10 + tr))) ++ [la] from (by rw [sG_s, sG_2, sA_s, wl_put _ _ hsz.1]), show (n0 - 1).toNat = d from by omega]
          have x4 : ∀ j : Int, 0 ≤ j → j < st.1 (10 + tr) → f266 j = st.2 (14 + tr) j := fun j j0 j1 => by rw [h470 j j0 (by rw [sG_s]; omega), sG_2, sA_s, zup_ne _ _ (by omega)]
          refine x_iadd (q := 80) E dX5_standing_79 rfl ?_
          refine x_istore (q := 82) (lv' := [(6, .int (ii ((0) + (z61)))), (7, .int (ii (la))), (0, .ref (ad (25 + tr))), (1, .ref (ad (25 + sp))), (2, .int (ii (n0))), (3, .int (ii (lr))), (4, .int (ii (al))), (5, .int (ii (g0)))]) E dX5_standing_80 (by decide) rfl rfl ?_
          refine x_aload_n (q := 83) E dX5_standing_82 2 rfl rfl ?_
          refine x_callVv (q := 86) (n := 0) (As := []) (r := []) E (c_X4_drop l D T ad hN (sF (sF (sG (sG (sA st (14 + tr) (st.1 (10 + tr)) (la)) (10 + tr) ((st.1 (10 + tr)) + 1)) (10 + sp) (k64)) (14 + sp) (f65)) (14 + tr) (f266)) (tr) htr (by rw [sF_1, sF_1, sG_n _ _ (by omega), sG_s]; omega)) gX5_standing_X4_drop rfl rfl rfl (by decide +kernel) ⟨show 0 + 1 ≤ 9 + (d + 1) from by omega, show 8 + (1 + 11) + (0) ≤ 300 + 40 * (d + 1) from by omega⟩ (25 + tr) (xg_word htr) rfl rfl rfl (Nat.le_of_ble_eq_true rfl) dX5_standing_83 rfl (fun s73 q74 => ?_)
          have e83 : s73 = (sF (sF (sG st (10 + sp) (k64)) (14 + sp) (f65)) (14 + tr) (f266)) := by
            rcases q74 with ⟨w1, w2⟩ | ⟨w1, w2⟩
            · rw [w2, sF_1, sF_1, sG_n _ _ (by omega), sG_s]; exact (by refine Prod.ext (funext fun k9 => ?_) (funext fun q9 => ?_) <;> simp only [sG_1, sG_2, sA_1, sA_2, sF_1, sF_2, reduceIte] <;> (repeat' split) <;> first | rfl | omega | (subst_vars; first | rfl | omega) | simp_all)
            · exact absurd (show 0 < (sF (sF (sG (sG (sA st (14 + tr) (st.1 (10 + tr)) (la)) (10 + tr) ((st.1 (10 + tr)) + 1)) (10 + sp) (k64)) (14 + sp) (f65)) (14 + tr) (f266)).1 (10 + tr) by rw [sF_1, sF_1, sG_n _ _ (by omega), sG_s]; omega) w1
          rw [e83]
          refine x_iload (q := 88) E dX5_standing_86 1 rfl rfl ?_
          refine x_iconst (q := 89) E dX5_standing_88 rfl ?_
          refine x_icmp_ne (tgt := 97) (q := 92) E dX5_standing_89 (by decide) rfl (by omega) (by omega) (fun c89 => ?_) (fun c89 => ?_)
          · refine x_iload (q := 99) E dX5_standing_97 7 rfl rfl ?_
            refine x_iconst (q := 100) E dX5_standing_99 rfl ?_
            refine x_isub (q := 101) E dX5_standing_100 rfl ?_
            refine x_istore (q := 103) (lv' := [(8, .int (ii ((g0) - (1)))), (6, .int (ii ((0) + (z61)))), (7, .int (ii (la))), (0, .ref (ad (25 + tr))), (1, .ref (ad (25 + sp))), (2, .int (ii (n0))), (3, .int (ii (lr))), (4, .int (ii (al))), (5, .int (ii (g0)))]) E dX5_standing_101 (by decide) rfl rfl ?_
            refine x_aload_n (q := 104) E dX5_standing_103 3 rfl rfl ?_
            refine x_iload (q := 106) E dX5_standing_104 2 rfl rfl ?_
            refine x_iconst (q := 107) E dX5_standing_106 rfl ?_
            refine x_icmp_ne (tgt := 114) (q := 110) E dX5_standing_107 (by decide) rfl (by omega) (by omega) (fun c107 => ?_) (fun c107 => ?_)
            · refine x_iconst (q := 115) E dX5_standing_114 rfl ?_
              refine x_callVi (q := 118) (n := 1) (As := [.int (ii (1))]) (r := []) E (c_X4_put l D T ad hN (sF (sF (sG st (10 + sp) (k64)) (14 + sp) (f65)) (14 + tr) (f266)) (tr) htr (1) (by omega) (by rw [sF_1, sF_1, sG_n _ _ (by omega)]; omega)) gX5_standing_X4_put rfl rfl rfl (by decide +kernel) ⟨show 0 + 1 ≤ 9 + (d + 1) from by omega, show 8 + (2 + 11) + (0) ≤ 300 + 40 * (d + 1) from by omega⟩ (25 + tr) (xg_word htr) rfl rfl rfl (Nat.le_of_ble_eq_true rfl) dX5_standing_115 rfl (fun z75 s76 q77 => ?_)
              obtain ⟨rfl, rfl⟩ := q77
              rw [show (sF (sF (sG st (10 + sp) (k64)) (14 + sp) (f65)) (14 + tr) (f266)).1 (10 + tr) = st.1 (10 + tr) from by rw [sF_1, sF_1, sG_n _ _ (by omega)]]
              refine x_if_eq (tgt := 146) (q := 121) E dX5_standing_118 (by decide) rfl (by omega) (fun h9 => absurd h9 (by decide)) (fun _ => ?_)
              refine x_iload (q := 123) E dX5_standing_121 1 rfl rfl ?_
              refine x_aload_n (q := 124) E dX5_standing_123 3 rfl rfl ?_
              refine x_aload_n (q := 125) E dX5_standing_124 4 rfl rfl ?_
              refine x_iload_n (q := 126) E dX5_standing_125 5 rfl rfl ?_
              refine x_iconst (q := 127) E dX5_standing_126 rfl ?_
              refine x_isub (q := 128) E dX5_standing_127 rfl ?_
              refine x_iconst (q := 129) E dX5_standing_128 rfl ?_
              refine x_iload (q := 131) E dX5_standing_129 7 rfl rfl ?_
              refine x_iload (q := 133) E dX5_standing_131 0 rfl rfl ?_
              refine x_imul (q := 134) E dX5_standing_133 rfl ?_
              refine x_iload (q := 136) E dX5_standing_134 8 rfl rfl ?_
              have ho : ot (lst (wl (st.2 (14 + tr)) (st.1 (10 + tr)))) = 1 := by unfold ot; rw [← hla, if_neg (by omega)]
              refine x_callSi (rm := rmX (9 + d) (300 + 40 * d)) (q := 139) (n := 6) (As := [.ref (ad (25 + tr)), .ref (ad (25 + sp)), .int (ii ((n0) - (1))), .int (ii (1)), .int (ii ((al) * ((g0) - (1)))), .int (ii (g0))]) (r := [.int (ii ((0) + (z61)))]) E (ih (sG (sA (sF (sF (sG st (10 + sp) (k64)) (14 + sp) (f65)) (14 + tr) (f266)) (14 + tr) (st.1 (10 + tr)) (1)) (10 + tr) ((st.1 (10 + tr)) + 1)) ((n0) - (1)) (by omega) (1) (by omega) ((al) * ((g0) - (1))) (by rw [sG_s]; omega) (by rw [sG_2, sA_s, sF_s]; exact zup_b h369 (by omega) (by omega)) (by rw [sG_n _ _ (by omega), sA_1, sF_1, sF_1, sG_s]; exact h167) (by rw [sG_2, sA_n _ _ _ (by omega), sF_n _ _ (by omega), sF_s]; exact h268) (by rw [show wl ((sG (sA (sF (sF (sG st (10 + sp) (k64)) (14 + sp) (f65)) (14 + tr) (f266)) (14 + tr) (st.1 (10 + tr)) (1)) (10 + tr) ((st.1 (10 + tr)) + 1)).2 (14 + tr)) ((sG (sA (sF (sF (sG st (10 + sp) (k64)) (14 + sp) (f65)) (14 + tr) (f266)) (14 + tr) (st.1 (10 + tr)) (1)) (10 + tr) ((st.1 (10 + tr)) + 1)).1 (10 + tr)) = (wl (st.2 (14 + tr)) (st.1 (10 + tr))) ++ [1] from (by rw [sG_s, sG_2, sA_s, sF_s, wl_put _ _ hsz.1]; exact congrArg (fun y => y ++ [1]) (wl_congr x4))]; exact lts_app hlt (by omega)) (by rw [show wl ((sG (sA (sF (sF (sG st (10 + sp) (k64)) (14 + sp) (f65)) (14 + tr) (f266)) (14 + tr) (st.1 (10 + tr)) (1)) (10 + tr) ((st.1 (10 + tr)) + 1)).2 (14 + tr)) ((sG (sA (sF (sF (sG st (10 + sp) (k64)) (14 + sp) (f65)) (14 + tr) (f266)) (14 + tr) (st.1 (10 + tr)) (1)) (10 + tr) ((st.1 (10 + tr)) + 1)).1 (10 + tr)) = (wl (st.2 (14 + tr)) (st.1 (10 + tr))) ++ [1] from (by rw [sG_s, sG_2, sA_s, sF_s, wl_put _ _ hsz.1]; exact congrArg (fun y => y ++ [1]) (wl_congr x4))]; exact Or.inr ⟨RLw (wl (st.2 (14 + tr)) (st.1 (10 + tr))), RLw_new (Or.inr (by rw [← hla]; omega))⟩) (by omega)) gX5_standing_X5_standing rfl rfl rfl (by decide +kernel) ⟨show 9 + d + 1 ≤ 9 + (d + 1) from by omega, show 8 + (9 + 11) + (300 + 40 * d) ≤ 300 + 40 * (d + 1) from by omega⟩ rfl rfl (Nat.le_of_ble_eq_true rfl) dX5_standing_136 rfl (fun z78 s79 q80 => ?_)
              obtain ⟨k81, f82, f283, rfl, h184, h285, h386, h487, h588⟩ := q80
              have v2 : z78 = ((al) * ((g0) - (1))) * EX g0 d ((wl (st.2 (14 + tr)) (st.1 (10 + tr))) ++ [1]) := by rw [h588, show wl ((sG (sA (sF (sF (sG st (10 + sp) (k64)) (14 + sp) (f65)) (14 + tr) (f266)) (14 + tr) (st.1 (10 + tr)) (1)) (10 + tr) ((st.1 (10 + tr)) + 1)).2 (14 + tr)) ((sG (sA (sF (sF (sG st (10 + sp) (k64)) (14 + sp) (f65)) (14 + tr) (f266)) (14 + tr) (st.1 (10 + tr)) (1)) (10 + tr) ((st.1 (10 + tr)) + 1)).1 (10 + tr)) = (wl (st.2 (14 + tr)) (st.1 (10 + tr))) ++ [1] from (by rw [sG_s, sG_2, sA_s, sF_s, wl_put _ _ hsz.1]; exact congrArg (fun y => y ++ [1]) (wl_congr x4)), show (n0 - 1).toNat = d from by omega]
              have x5 : ∀ j : Int, 0 ≤ j → j < st.1 (10 + tr) → f283 j = st.2 (14 + tr) j := fun j j0 j1 => by rw [h487 j j0 (by rw [sG_s]; omega), sG_2, sA_s, sF_s, zup_ne _ _ (by omega), x4 j j0 j1]
              refine x_iadd (q := 140) E dX5_standing_139 rfl ?_
              refine x_istore (q := 142) (lv' := [(6, .int (ii (((0) + (z61)) + (z78)))), (8, .int (ii ((g0) - (1)))), (7, .int (ii (la))), (0, .ref (ad (25 + tr))), (1, .ref (ad (25 + sp))), (2, .int (ii (n0))), (3, .int (ii (lr))), (4, .int (ii (al))), (5, .int (ii (g0)))]) E dX5_standing_140 (by decide) rfl rfl ?_
              refine x_aload_n (q := 143) E dX5_standing_142 3 rfl rfl ?_
              refine x_callVv (q := 146) (n := 0) (As := []) (r := []) E (c_X4_drop l D T ad hN (sF (sF (sG (sG (sA (sF (sF (sG st (10 + sp) (k64)) (14 + sp) (f65)) (14 + tr) (f266)) (14 + tr) (st.1 (10 + tr)) (1)) (10 + tr) ((st.1 (10 + tr)) + 1)) (10 + sp) (k81)) (14 + sp) (f82)) (14 + tr) (f283)) (tr) htr (by rw [sF_1, sF_1, sG_n _ _ (by omega), sG_s]; omega)) gX5_standing_X4_drop rfl rfl rfl (by decide +kernel) ⟨show 0 + 1 ≤ 9 + (d + 1) from by omega, show 8 + (1 + 11) + (0) ≤ 300 + 40 * (d + 1) from by omega⟩ (25 + tr) (xg_word htr) rfl rfl rfl (Nat.le_of_ble_eq_true rfl) dX5_standing_143 rfl (fun s90 q91 => ?_)
              have e143 : s90 = (sF (sF (sG st (10 + sp) (k81)) (14 + sp) (f82)) (14 + tr) (f283)) := by
                rcases q91 with ⟨w1, w2⟩ | ⟨w1, w2⟩
                · rw [w2, sF_1, sF_1, sG_n _ _ (by omega), sG_s]; exact (by refine Prod.ext (funext fun k9 => ?_) (funext fun q9 => ?_) <;> simp only [sG_1, sG_2, sA_1, sA_2, sF_1, sF_2, reduceIte] <;> (repeat' split) <;> first | rfl | omega | (subst_vars; first | rfl | omega) | simp_all)
                · exact absurd (show 0 < (sF (sF (sG (sG (sA (sF (sF (sG st (10 + sp) (k64)) (14 + sp) (f65)) (14 + tr) (f266)) (14 + tr) (st.1 (10 + tr)) (1)) (10 + tr) ((st.1 (10 + tr)) + 1)) (10 + sp) (k81)) (14 + sp) (f82)) (14 + tr) (f283)).1 (10 + tr) by rw [sF_1, sF_1, sG_n _ _ (by omega), sG_s]; omega) w1
              rw [e143]
              refine x_iload (q := 148) E dX5_standing_146 0 rfl rfl ?_
              exact RET _ _ _ _ dX5_standing_148 (⟨k81, f82, f283, rfl, h184, h285, h386, x5, by rw [show n0.toNat = d + 1 from by omega, ST_s hg hW hlt hq, if_pos (by omega), ho, ← hla, v1, v2]; omega⟩)
            · refine x_iconst (q := 111) E dX5_standing_110 rfl ?_
              refine x_goto (tgt := 115) E dX5_standing_111 (by decide) ?_
              refine x_callVi (q := 118) (n := 1) (As := [.int (ii (2))]) (r := []) E (c_X4_put l D T ad hN (sF (sF (sG st (10 + sp) (k64)) (14 + sp) (f65)) (14 + tr) (f266)) (tr) htr (2) (by omega) (by rw [sF_1, sF_1, sG_n _ _ (by omega)]; omega)) gX5_standing_X4_put rfl rfl rfl (by decide +kernel) ⟨show 0 + 1 ≤ 9 + (d + 1) from by omega, show 8 + (2 + 11) + (0) ≤ 300 + 40 * (d + 1) from by omega⟩ (25 + tr) (xg_word htr) rfl rfl rfl (Nat.le_of_ble_eq_true rfl) dX5_standing_115 rfl (fun z92 s93 q94 => ?_)
              obtain ⟨rfl, rfl⟩ := q94
              rw [show (sF (sF (sG st (10 + sp) (k64)) (14 + sp) (f65)) (14 + tr) (f266)).1 (10 + tr) = st.1 (10 + tr) from by rw [sF_1, sF_1, sG_n _ _ (by omega)]]
              refine x_if_eq (tgt := 146) (q := 121) E dX5_standing_118 (by decide) rfl (by omega) (fun h9 => absurd h9 (by decide)) (fun _ => ?_)
              refine x_iload (q := 123) E dX5_standing_121 1 rfl rfl ?_
              refine x_aload_n (q := 124) E dX5_standing_123 3 rfl rfl ?_
              refine x_aload_n (q := 125) E dX5_standing_124 4 rfl rfl ?_
              refine x_iload_n (q := 126) E dX5_standing_125 5 rfl rfl ?_
              refine x_iconst (q := 127) E dX5_standing_126 rfl ?_
              refine x_isub (q := 128) E dX5_standing_127 rfl ?_
              refine x_iconst (q := 129) E dX5_standing_128 rfl ?_
              refine x_iload (q := 131) E dX5_standing_129 7 rfl rfl ?_
              refine x_iload (q := 133) E dX5_standing_131 0 rfl rfl ?_
              refine x_imul (q := 134) E dX5_standing_133 rfl ?_
              refine x_iload (q := 136) E dX5_standing_134 8 rfl rfl ?_
              have ho : ot (lst (wl (st.2 (14 + tr)) (st.1 (10 + tr)))) = 2 := by unfold ot; rw [← hla, if_pos (by omega)]
              refine x_callSi (rm := rmX (9 + d) (300 + 40 * d)) (q := 139) (n := 6) (As := [.ref (ad (25 + tr)), .ref (ad (25 + sp)), .int (ii ((n0) - (1))), .int (ii (1)), .int (ii ((al) * ((g0) - (1)))), .int (ii (g0))]) (r := [.int (ii ((0) + (z61)))]) E (ih (sG (sA (sF (sF (sG st (10 + sp) (k64)) (14 + sp) (f65)) (14 + tr) (f266)) (14 + tr) (st.1 (10 + tr)) (2)) (10 + tr) ((st.1 (10 + tr)) + 1)) ((n0) - (1)) (by omega) (1) (by omega) ((al) * ((g0) - (1))) (by rw [sG_s]; omega) (by rw [sG_2, sA_s, sF_s]; exact zup_b h369 (by omega) (by omega)) (by rw [sG_n _ _ (by omega), sA_1, sF_1, sF_1, sG_s]; exact h167) (by rw [sG_2, sA_n _ _ _ (by omega), sF_n _ _ (by omega), sF_s]; exact h268) (by rw [show wl ((sG (sA (sF (sF (sG st (10 + sp) (k64)) (14 + sp) (f65)) (14 + tr) (f266)) (14 + tr) (st.1 (10 + tr)) (2)) (10 + tr) ((st.1 (10 + tr)) + 1)).2 (14 + tr)) ((sG (sA (sF (sF (sG st (10 + sp) (k64)) (14 + sp) (f65)) (14 + tr) (f266)) (14 + tr) (st.1 (10 + tr)) (2)) (10 + tr) ((st.1 (10 + tr)) + 1)).1 (10 + tr)) = (wl (st.2 (14 + tr)) (st.1 (10 + tr))) ++ [2] from (by rw [sG_s, sG_2, sA_s, sF_s, wl_put _ _ hsz.1]; exact congrArg (fun y => y ++ [2]) (wl_congr x4))]; exact lts_app hlt (by omega)) (by rw [show wl ((sG (sA (sF (sF (sG st (10 + sp) (k64)) (14 + sp) (f65)) (14 + tr) (f266)) (14 + tr) (st.1 (10 + tr)) (2)) (10 + tr) ((st.1 (10 + tr)) + 1)).2 (14 + tr)) ((sG (sA (sF (sF (sG st (10 + sp) (k64)) (14 + sp) (f65)) (14 + tr) (f266)) (14 + tr) (st.1 (10 + tr)) (2)) (10 + tr) ((st.1 (10 + tr)) + 1)).1 (10 + tr)) = (wl (st.2 (14 + tr)) (st.1 (10 + tr))) ++ [2] from (by rw [sG_s, sG_2, sA_s, sF_s, wl_put _ _ hsz.1]; exact congrArg (fun y => y ++ [2]) (wl_congr x4))]; exact Or.inr ⟨RLw (wl (st.2 (14 + tr)) (st.1 (10 + tr))), RLw_new (Or.inr (by rw [← hla]; omega))⟩) (by omega)) gX5_standing_X5_standing rfl rfl rfl (by decide +kernel) ⟨show 9 + d + 1 ≤ 9 + (d + 1) from by omega, show 8 + (9 + 11) + (300 + 40 * d) ≤ 300 + 40 * (d + 1) from by omega⟩ rfl rfl (Nat.le_of_ble_eq_true rfl) dX5_standing_136 rfl (fun z95 s96 q97 => ?_)
              obtain ⟨k98, f99, f2100, rfl, h1101, h2102, h3103, h4104, h5105⟩ := q97
              have v2 : z95 = ((al) * ((g0) - (1))) * EX g0 d ((wl (st.2 (14 + tr)) (st.1 (10 + tr))) ++ [2]) := by rw [h5105, show wl ((sG (sA (sF (sF (sG st (10 + sp) (k64)) (14 + sp) (f65)) (14 + tr) (f266)) (14 + tr) (st.1 (10 + tr)) (2)) (10 + tr) ((st.1 (10 + tr)) + 1)).2 (14 + tr)) ((sG (sA (sF (sF (sG st (10 + sp) (k64)) (14 + sp) (f65)) (14 + tr) (f266)) (14 + tr) (st.1 (10 + tr)) (2)) (10 + tr) ((st.1 (10 + tr)) + 1)).1 (10 + tr)) = (wl (st.2 (14 + tr)) (st.1 (10 + tr))) ++ [2] from (by rw [sG_s, sG_2, sA_s, sF_s, wl_put _ _ hsz.1]; exact congrArg (fun y => y ++ [2]) (wl_congr x4)), show (n0 - 1).toNat = d from by omega]
              have x5 : ∀ j : Int, 0 ≤ j → j < st.1 (10 + tr) → f2100 j = st.2 (14 + tr) j := fun j j0 j1 => by rw [h4104 j j0 (by rw [sG_s]; omega), sG_2, sA_s, sF_s, zup_ne _ _ (by omega), x4 j j0 j1]
              refine x_iadd (q := 140) E dX5_standing_139 rfl ?_
              refine x_istore (q := 142) (lv' := [(6, .int (ii (((0) + (z61)) + (z95)))), (8, .int (ii ((g0) - (1)))), (7, .int (ii (la))), (0, .ref (ad (25 + tr))), (1, .ref (ad (25 + sp))), (2, .int (ii (n0))), (3, .int (ii (lr))), (4, .int (ii (al))), (5, .int (ii (g0)))]) E dX5_standing_140 (by decide) rfl rfl ?_
              refine x_aload_n (q := 143) E dX5_standing_142 3 rfl rfl ?_
              refine x_callVv (q := 146) (n := 0) (As := []) (r := []) E (c_X4_drop l D T ad hN (sF (sF (sG (sG (sA (sF (sF (sG st (10 + sp) (k64)) (14 + sp) (f65)) (14 + tr) (f266)) (14 + tr) (st.1 (10 + tr)) (2)) (10 + tr) ((st.1 (10 + tr)) + 1)) (10 + sp) (k98)) (14 + sp) (f99)) (14 + tr) (f2100)) (tr) htr (by rw [sF_1, sF_1, sG_n _ _ (by omega), sG_s]; omega)) gX5_standing_X4_drop rfl rfl rfl (by decide +kernel) ⟨show 0 + 1 ≤ 9 + (d + 1) from by omega, show 8 + (1 + 11) + (0) ≤ 300 + 40 * (d + 1) from by omega⟩ (25 + tr) (xg_word htr) rfl rfl rfl (Nat.le_of_ble_eq_true rfl) dX5_standing_143 rfl (fun s107 q108 => ?_)
              have e143 : s107 = (sF (sF (sG st (10 + sp) (k98)) (14 + sp) (f99)) (14 + tr) (f2100)) := by
                rcases q108 with ⟨w1, w2⟩ | ⟨w1, w2⟩
                · rw [w2, sF_1, sF_1, sG_n _ _ (by omega), sG_s]; exact (by refine Prod.ext (funext fun k9 => ?_) (funext fun q9 => ?_) <;> simp only [sG_1, sG_2, sA_1, sA_2, sF_1, sF_2, reduceIte] <;> (repeat' split) <;> first | rfl | omega | (subst_vars; first | rfl | omega) | simp_all)
                · exact absurd (show 0 < (sF (sF (sG (sG (sA (sF (sF (sG st (10 + sp) (k64)) (14 + sp) (f65)) (14 + tr) (f266)) (14 + tr) (st.1 (10 + tr)) (2)) (10 + tr) ((st.1 (10 + tr)) + 1)) (10 + sp) (k98)) (14 + sp) (f99)) (14 + tr) (f2100)).1 (10 + tr) by rw [sF_1, sF_1, sG_n _ _ (by omega), sG_s]; omega) w1
              rw [e143]
              refine x_iload (q := 148) E dX5_standing_146 0 rfl rfl ?_
              exact RET _ _ _ _ dX5_standing_148 (⟨k98, f99, f2100, rfl, h1101, h2102, h3103, x5, by rw [show n0.toNat = d + 1 from by omega, ST_s hg hW hlt hq, if_pos (by omega), ho, ← hla, v1, v2]; omega⟩)
          · exfalso; omega
  · exfalso; omega

theorem c_X5_standing (l : Launch) (D : va_G) (T : Nat → ClassId) (ad : Nat → Nat) (hN : ∀ i j, i < 33 → j < 33 → ad i = ad j → i = j) (tr : Nat) (htr : tr < 3) (sp : Nat) (hsp : sp < 3) (hne : tr ≠ sp) (g0 : Int) (hg : g0 = 2 ∨ g0 = 3) : ∀ d : Nat, STC l D T ad tr sp g0 d := by
  intro d
  induction d with
  | zero => exact fun st n0 bn0 lr blr al a1 a2 a3 a4 a5 a6 hd => c_X5_standing_z l D T ad hN st tr htr sp hsp n0 bn0 lr blr al g0 (by omega) hne hg a1 a2 a3 a4 a5 a6 (by omega) 0
  | succ d ih => exact fun st n0 bn0 lr blr al a1 a2 a3 a4 a5 a6 hd => c_X5_standing_s l D T ad hN st tr htr sp hsp n0 bn0 lr blr al g0 (by omega) hne hg a1 a2 a3 a4 a5 a6 d (by omega) ih

theorem iX5_many_X5 : ∀ w ∈ wsX50, w ∈ wsX5_many := by decide +kernel
set_option maxRecDepth 100000 in
set_option maxHeartbeats 4000000 in
theorem c_X5_many (l : Launch) (D : va_G) (T : Nat → ClassId) (ad : Nat → Nat) (hN : ∀ i j, i < 33 → j < 33 → ad i = ad j → i = j) (st : St_) (n0 : Int) (bn0 : -2147483648 ≤ n0 ∧ n0 < 2147483648) (g0 : Int) (bg0 : -2147483648 ≤ g0 ∧ g0 < 2147483648) (a : AB_) (hC : CI st a) : CXi l yX5_many wsX5_many (rmX 24 888) [.ref (ad 0), .int (ii (n0)), .int (ii (g0))] D (tyX T) (XW T ad) (alX ad) st (fun z st2 => z = (if ((g0 = 2 ∧ 0 ≤ n0 ∧ n0 ≤ 14) ∨ (g0 = 3 ∧ 0 ≤ n0 ∧ n0 ≤ 9)) then (if 10 ≤ a.1.1 2 then -103 else EX g0 n0.toNat []) else -102) ∧ CI st2 (if ((g0 = 2 ∧ 0 ≤ n0 ∧ n0 ≤ 14) ∨ (g0 = 3 ∧ 0 ≤ n0 ∧ n0 ≤ 9)) ∧ a.1.1 2 < 10 then aM a else a)) := by
  refine mk_i (cc := cX5_many) (nL := 3) rfl rfl (XW_ok hN) (Nat.le_of_ble_eq_true rfl) [(0, .ref (ad 0)), (1, .int (ii (n0))), (2, .int (ii (g0)))] rfl (fun p e s m args below meth c A Q E RET => ?_)
  have k1 := hC.1
  have k2 := hC.2.1
  have k3 := hC.2.2.1
  have k4 := hC.2.2.2.1
  have k5 := hC.2.2.2.2.1
  have k6 := hC.2.2.2.2.2.1
  have k7 := hC.2.2.2.2.2.2.1
  have k8 := hC.2.2.2.2.2.2.2
  have hn := k7.2.1.1
  have w0 := (k6 0 (by omega)).1
  have wb0 := (k6 0 (by omega)).2
  have hL := hC.len
  have hf := hC.lf
  have hf6 := hC.let6
  refine x_iload_n (q := 1) E dX5_many_0 1 rfl rfl ?_
  refine x_iload_n (q := 2) E dX5_many_1 2 rfl rfl ?_
  refine x_callSi (q := 5) (n := 1) (As := [.int (ii (g0))]) (r := [.int (ii (n0))]) E (c_X5_manyMost l D T ad hN st (g0) (by omega)) gX5_many_X5_manyMost rfl rfl rfl (by decide +kernel) ⟨Nat.le_of_ble_eq_true rfl, Nat.le_of_ble_eq_true rfl⟩ rfl rfl (Nat.le_of_ble_eq_true rfl) dX5_many_2 rfl (fun z1 s2 q3 => ?_)
  obtain ⟨rfl, rfl⟩ := q3
  refine x_callSi (q := 8) (n := 2) (As := [.int (ii (n0)), .int (ii ((if g0 = 2 then 14 else if g0 = 3 then 9 else -1)))]) (r := []) E (c_X5_isOutside l D T ad hN st (n0) (by omega) ((if g0 = 2 then 14 else if g0 = 3 then 9 else -1)) (by omega)) gX5_many_X5_isOutside rfl rfl rfl (by decide +kernel) ⟨Nat.le_of_ble_eq_true rfl, Nat.le_of_ble_eq_true rfl⟩ rfl rfl (Nat.le_of_ble_eq_true rfl) dX5_many_5 rfl (fun z4 s5 q6 => ?_)
  obtain ⟨rfl, rfl⟩ := q6
  refine x_if_eq (tgt := 14) (q := 11) E dX5_many_8 (by decide) rfl (by omega) (fun c8 => ?_) (fun c8 => ?_)
  · have u1 := k8.2.2.2.2.2.1
    have hg3 : g0 = 2 ∨ g0 = 3 := by omega
    have hn14 : 0 ≤ n0 ∧ n0 ≤ 14 := by omega
    refine x_aload_n (q := 15) E dX5_many_14 0 rfl rfl ?_
    refine x_get (q := 18) E iX5_many_X5 (0) rfl rfl 5 (by decide) (by decide +kernel) rfl dX5_many_15 rfl ?_
    refine x_bipush (q := 20) E dX5_many_18 (by decide) rfl ?_
    refine x_icmp_lt (tgt := 26) (q := 23) E dX5_many_20 (by decide) rfl (by omega) (by omega) (fun c20 => ?_) (fun c20 => ?_)
    · refine x_aload_n (q := 27) E dX5_many_26 0 rfl rfl ?_
      refine x_dup (q := 28) E dX5_many_27 rfl rfl ?_
      refine x_get (q := 31) E iX5_many_X5 (0) rfl rfl 5 (by decide) (by decide +kernel) rfl dX5_many_28 rfl ?_
      refine x_iconst (q := 32) E dX5_many_31 rfl ?_
      refine x_iadd (q := 33) E dX5_many_32 rfl ?_
      refine x_put (q := 36) (st' := (sG st (0) ((st.1 (0)) + (1)))) (v := .int (ii ((st.1 (0)) + (1)))) (ty := .int) E iX5_many_X5 tyX5 tyX5_ok nmX5 (0) rfl rfl 5 (by decide) (by decide +kernel) rfl (by decide +kernel) rfl rfl (Nat.le_of_ble_eq_true rfl) dX5_many_33 (xs_s0 _) rfl ?_
      refine x_aload_n (q := 37) E dX5_many_36 0 rfl rfl ?_
      refine x_get (q := 40) E iX5_many_X5 (0) rfl rfl 3 (by decide) (by decide +kernel) rfl dX5_many_37 rfl ?_
      refine x_callVv (q := 43) (n := 0) (As := []) (r := []) E (c_X4_empty l D T ad hN (sG st (0) ((st.1 (0)) + (1))) (2) (by decide)) gX5_many_X4_empty rfl rfl rfl (by decide +kernel) ⟨Nat.le_of_ble_eq_true rfl, Nat.le_of_ble_eq_true rfl⟩ (25 + 2) (xg_word (by decide)) rfl rfl rfl (Nat.le_of_ble_eq_true rfl) dX5_many_40 rfl (fun s8 q9 => ?_)
      subst q9
      refine x_aload_n (q := 44) E dX5_many_43 0 rfl rfl ?_
      refine x_get (q := 47) E iX5_many_X5 (0) rfl rfl 3 (by decide) (by decide +kernel) rfl dX5_many_44 rfl ?_
      refine x_aload_n (q := 48) E dX5_many_47 0 rfl rfl ?_
      refine x_get (q := 51) E iX5_many_X5 (0) rfl rfl 2 (by decide) (by decide +kernel) rfl dX5_many_48 rfl ?_
      refine x_iload_n (q := 52) E dX5_many_51 1 rfl rfl ?_
      refine x_iconst (q := 53) E dX5_many_52 rfl ?_
      refine x_iconst (q := 54) E dX5_many_53 rfl ?_
      refine x_iload_n (q := 55) E dX5_many_54 2 rfl rfl ?_
      refine x_callSi (rm := rmX (9 + (n0).toNat) (300 + 40 * (n0).toNat)) (q := 58) (n := 6) (As := [.ref (ad (25 + 2)), .ref (ad (25 + 1)), .int (ii (n0)), .int (ii (0)), .int (ii (1)), .int (ii (g0))]) (r := []) E (c_X5_standing l D T ad hN 2 (by decide) 1 (by decide) (by decide) g0 hg3 (n0).toNat (sG (sG st (0) ((st.1 (0)) + (1))) (10 + 2) (0)) (n0) (by omega) (0) (by omega) (1) (by rw [sG_s]; omega) (by rw [sG_2, sG_2]; exact (k6 2 (by omega)).2) (by rw [sG_n _ _ (by omega), sG_n _ _ (by omega)]; exact (k6 1 (by omega)).1) (by rw [sG_2, sG_2]; exact (k6 1 (by omega)).2) (by rw [(show wl ((sG (sG st (0) ((st.1 (0)) + (1))) (10 + 2) (0)).2 (14 + 2)) ((sG (sG st (0) ((st.1 (0)) + (1))) (10 + 2) (0)).1 (10 + 2)) = [] from by rw [sG_s]; rfl)]; intro x hx; cases hx) (Or.inl (show wl ((sG (sG st (0) ((st.1 (0)) + (1))) (10 + 2) (0)).2 (14 + 2)) ((sG (sG st (0) ((st.1 (0)) + (1))) (10 + 2) (0)).1 (10 + 2)) = [] from by rw [sG_s]; rfl)) (by omega)) gX5_many_X5_standing rfl rfl rfl (by decide +kernel) ⟨show 9 + (n0).toNat + 1 ≤ 24 from by omega, show 8 + (9 + 11) + (300 + 40 * (n0).toNat) ≤ 888 from by omega⟩ rfl rfl (Nat.le_of_ble_eq_true rfl) dX5_many_55 rfl (fun z10 s11 q12 => ?_)
      obtain ⟨k13, f14, f215, rfl, h116, h217, h318, h419, h520⟩ := q12
      exact RET _ _ _ _ dX5_many_58 (by have q1 := h520; rw [(show wl ((sG (sG st (0) ((st.1 (0)) + (1))) (10 + 2) (0)).2 (14 + 2)) ((sG (sG st (0) ((st.1 (0)) + (1))) (10 + 2) (0)).1 (10 + 2)) = [] from by rw [sG_s]; rfl), Int.one_mul] at q1; exact ⟨by rw [if_pos (by omega), if_neg (by omega)]; exact q1, by rw [if_pos (by omega), show (sF (sF (sG (sG (sG st (0) ((st.1 (0)) + (1))) (10 + 2) (0)) (10 + 1) (k13)) (14 + 1) (f14)) (14 + 2) (f215)) = sF (sG (sF (sG (sG st 0 (st.1 0 + 1)) (10 + 1) k13) (14 + 1) f14) (10 + 2) 0) (14 + 2) f215 from by refine Prod.ext (funext fun k9 => ?_) (funext fun q9 => ?_) <;> simp only [sG_1, sG_2, sA_1, sA_2, sF_1, sF_2, reduceIte] <;> (repeat' split) <;> first | rfl | omega | (subst_vars; first | rfl | omega) | simp_all]; exact CI_oth (CI_oth (CI_M hC (by omega)) (v := 1) (Or.inl rfl) h116 h217) (v := 2) (Or.inr rfl) (by omega) h318⟩)
    · refine x_bipush (q := 25) E dX5_many_23 (by decide) rfl ?_
      exact RET _ _ _ _ dX5_many_25 (⟨by rw [if_pos (by omega), if_pos (by omega)], by rw [if_neg (by omega)]; exact hC⟩)
  · refine x_bipush (q := 13) E dX5_many_11 (by decide) rfl ?_
    exact RET _ _ _ _ dX5_many_13 (⟨by rw [if_neg (by omega)], by rw [if_neg (by omega)]; exact hC⟩)

