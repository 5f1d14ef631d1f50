theorem nat_in {st : St_} {i : Nat} {k : Int} (h0 : 0 ≤ k) (h1 : k < st.1 (7 + i)) (h2 : st.1 (7 + i) ≤ 100001) : nat_ st i k = st.2 (5 + i) k := by unfold nat_; rw [if_pos (by omega)]
theorem nat_out {st : St_} {i : Nat} {k : Int} (h : k < 0) : nat_ st i k = -1 := by unfold nat_; rw [if_neg (by omega)]
theorem iX2_made_X2 : ∀ w ∈ wsX20, w ∈ wsX2_made := by decide +kernel
set_option maxRecDepth 100000 in
set_option maxHeartbeats 4000000 in
theorem c_X2_made (l : Launch) (D : va_G) (T : Nat → ClassId) (ad : Nat → Nat) (hN : ∀ i j, i < 33 → j < 33 → ad i = ad j → i = j) (st : St_) (i : Nat) (hi : i < 3) : CXi l yX2_made wsX2_made (rmX 0 0) [.ref (ad (13 + i))] D (tyX T) (XW T ad) (alX ad) st (fun z st2 => st.1 (7 + i) = z ∧ st = st2) := by
  refine mk_i (cc := cX2_made) (nL := 1) rfl rfl (XW_ok hN) (Nat.le_of_ble_eq_true rfl) [(0, .ref (ad (13 + i)))] rfl (fun p e s m args below meth c A Q E RET => ?_)
  refine x_aload_n (q := 1) E dX2_made_0 0 rfl rfl ?_
  refine x_get (q := 4) E iX2_made_X2 (13 + i) (xg_row hi) rfl 3 (by decide) (by decide +kernel) rfl dX2_made_1 rfl ?_
  exact RET _ _ _ _ dX2_made_4 (⟨rfl, rfl⟩)

theorem iX2_runsMade_X2 : ∀ w ∈ wsX20, w ∈ wsX2_runsMade := by decide +kernel
set_option maxRecDepth 100000 in
set_option maxHeartbeats 4000000 in
theorem c_X2_runsMade (l : Launch) (D : va_G) (T : Nat → ClassId) (ad : Nat → Nat) (hN : ∀ i j, i < 33 → j < 33 → ad i = ad j → i = j) (st : St_) (i : Nat) (hi : i < 3) : CXi l yX2_runsMade wsX2_runsMade (rmX 0 0) [.ref (ad (13 + i))] D (tyX T) (XW T ad) (alX ad) st (fun z st2 => st.2 (11 + i) 0 = z ∧ st = st2) := by
  refine mk_i (cc := cX2_runsMade) (nL := 1) rfl rfl (XW_ok hN) (Nat.le_of_ble_eq_true rfl) [(0, .ref (ad (13 + i)))] rfl (fun p e s m args below meth c A Q E RET => ?_)
  refine x_aload_n (q := 1) E dX2_runsMade_0 0 rfl rfl ?_
  refine x_get (q := 4) E iX2_runsMade_X2 (13 + i) (xg_row hi) rfl 2 (by decide) (by decide +kernel) rfl dX2_runsMade_1 rfl ?_
  refine x_iconst (q := 5) E dX2_runsMade_4 rfl ?_
  refine x_iald (q := 6) (f := st.2 (11 + i)) E (22 + i) (xg_cnt hi) 0 rfl (by omega) (by omega) (by decide) dX2_runsMade_5 rfl ?_
  exact RET _ _ _ _ dX2_runsMade_6 (⟨rfl, rfl⟩)

theorem iX2_forget_X2 : ∀ w ∈ wsX20, w ∈ wsX2_forget := by decide +kernel
set_option maxRecDepth 100000 in
set_option maxHeartbeats 4000000 in
theorem c_X2_forget (l : Launch) (D : va_G) (T : Nat → ClassId) (ad : Nat → Nat) (hN : ∀ i j, i < 33 → j < 33 → ad i = ad j → i = j) (st : St_) (i : Nat) (hi : i < 3) : CXv l yX2_forget wsX2_forget (rmX 0 0) [.ref (ad (13 + i))] D (tyX T) (XW T ad) (alX ad) st (fun st2 => ∃ h : Int → Int, st2 = sF (sG st (7 + i) 0) (11 + i) h ∧ ∀ c : Int, 0 ≤ c → c < 7 → h c = 0) := by
  refine mk_v (cc := cX2_forget) (nL := 2) rfl rfl (XW_ok hN) (Nat.le_of_ble_eq_true rfl) [(0, .ref (ad (13 + i)))] rfl (fun p e s m args below meth c A Q E RET => ?_)
  refine x_aload_n (q := 1) E dX2_forget_0 0 rfl rfl ?_
  refine x_iconst (q := 2) E dX2_forget_1 rfl ?_
  refine x_put (q := 5) (st' := (sG st (7 + i) (0))) (v := .int (ii (0))) (ty := .int) E iX2_forget_X2 tyX2 tyX2_ok nmX2 (13 + i) (xg_row hi) rfl 3 (by decide) (by decide +kernel) rfl (by decide +kernel) rfl rfl (Nat.le_of_ble_eq_true rfl) dX2_forget_2 (xs_row hi _) rfl ?_
  refine x_iconst (q := 6) E dX2_forget_5 rfl ?_
  refine x_istore_n (q := 7) (lv' := [(1, .int (ii (0))), (0, .ref (ad (13 + i)))]) E dX2_forget_6 (by decide) rfl rfl ?_
  have L7 : ∀ (n : Nat) (j : Int) (h : Int → Int), (7 - j).toNat < n → (0 ≤ j ∧ j ≤ 7) → (∀ c : Int, 0 ≤ c → c < j → h c = 0) → XJ p l e (rmX 0 0) s m args below meth c D (XW T ad) A 2 Q 0 0 (sF (sG st (7 + i) (0)) (11 + i) (h)) 7 [(0, .ref (ad (13 + i))), (1, .int (ii (j)))] [] := by
    intro n
    induction n with
    | zero => intro j h hn; exact absurd hn (Nat.not_lt_zero _)
    | succ n ih7 =>
      intro j h hn7 a1 a2
      refine x_iload_n (q := 8) E dX2_forget_7 1 rfl rfl ?_
      refine x_aload_n (q := 9) E dX2_forget_8 0 rfl rfl ?_
      refine x_get (q := 12) E iX2_forget_X2 (13 + i) (xg_row hi) rfl 2 (by decide) (by decide +kernel) rfl dX2_forget_9 rfl ?_
      refine x_alen (q := 13) E (22 + i) (xg_cnt hi) 0 rfl dX2_forget_12 rfl ?_
      refine x_ti (show (((7 : Nat) : Int)) = 7 from rfl) ?_
      refine x_icmp_ge (tgt := 29) (q := 16) E dX2_forget_13 (by decide) rfl (by omega) (by omega) (fun c13 => ?_) (fun c13 => ?_)
      · exact RET _ _ _ dX2_forget_29 (⟨h, rfl, fun c h0 h1 => a2 c h0 (by omega)⟩)
      · refine x_aload_n (q := 17) E dX2_forget_16 0 rfl rfl ?_
        refine x_get (q := 20) E iX2_forget_X2 (13 + i) (xg_row hi) rfl 2 (by decide) (by decide +kernel) rfl dX2_forget_17 rfl ?_
        refine x_iload_n (q := 21) E dX2_forget_20 1 rfl rfl ?_
        refine x_iconst (q := 22) E dX2_forget_21 rfl ?_
        refine x_iast (q := 23) (st' := (sA (sF (sG st (7 + i) (0)) (11 + i) (h)) (11 + i) (j) (0))) (f := (sF (sG st (7 + i) (0)) (11 + i) (h)).2 (11 + i)) E (22 + i) (xg_cnt hi) 0 rfl (by omega) (by omega) (by decide) dX2_forget_22 (xs_cnt hi _ _) rfl ?_
        refine x_iinc (q := 26) (k := 1) (lv' := [(1, .int (ii (j + 1))), (0, .ref (ad (13 + i)))]) E dX2_forget_23 rfl (by decide) rfl rfl ?_
        refine x_goto (tgt := 7) E dX2_forget_26 (by decide) ?_
        refine x_st E (st' := (sF (sG st (7 + i) (0)) (11 + i) (zup (h) (j) (0)))) (by refine Prod.ext (funext fun k9 => ?_) (funext fun q9 => ?_) <;> simp only [sG_1, sG_2, sA_1, sA_2, sF_1, sF_2, reduceIte] <;> (repeat' split) <;> first | rfl | omega | (subst_vars; first | rfl | omega) | simp_all) ?_
        refine x_lv E (lv' := [(0, .ref (ad (13 + i))), (1, .int (ii (j + 1)))]) [1, 0] rfl ?_
        exact ih7 (j + 1) (zup (h) (j) (0)) (by omega) (by omega) (fun c h0 h1 => if hc : c = j then (by rw [hc, zup_eq]) else (by rw [zup_ne _ _ hc]; exact a2 c h0 (by omega)))
  refine x_lv E (lv' := [(0, .ref (ad (13 + i))), (1, .int (ii (0)))]) [1, 0] rfl ?_
  refine x_st E (st' := (sF (sG st (7 + i) (0)) (11 + i) (st.2 (11 + i)))) (by refine Prod.ext (funext fun k9 => ?_) (funext fun q9 => ?_) <;> simp only [sG_1, sG_2, sA_1, sA_2, sF_1, sF_2, reduceIte] <;> (repeat' split) <;> first | rfl | omega | (subst_vars; first | rfl | omega) | simp_all) ?_
  exact L7 _ (0) (st.2 (11 + i)) (Nat.lt_succ_self _) (by omega) (fun c h0 h1 => absurd h1 (by omega))

theorem iX2_keepCounts_X2 : ∀ w ∈ wsX20, w ∈ wsX2_keepCounts := by decide +kernel
set_option maxRecDepth 100000 in
set_option maxHeartbeats 4000000 in
theorem c_X2_keepCounts (l : Launch) (D : va_G) (T : Nat → ClassId) (ad : Nat → Nat) (hN : ∀ i j, i < 33 → j < 33 → ad i = ad j → i = j) (st : St_) (i : Nat) (hi : i < 3) (hm : 0 ≤ st.1 (7 + i) ∧ st.1 (7 + i) ≤ 100001) : CXv l yX2_keepCounts wsX2_keepCounts (rmX 0 0) [.ref (ad (13 + i))] D (tyX T) (XW T ad) (alX ad) st (fun st2 => ∃ g : Int → Int, st2 = sF st (8 + i) g ∧ (∀ c : Int, 0 ≤ c → c < 7 → g (st.1 (7 + i) / 256 * 7 + c) = st.2 (11 + i) c) ∧ ∀ c : Int, c < st.1 (7 + i) / 256 * 7 ∨ st.1 (7 + i) / 256 * 7 + 7 ≤ c → g c = st.2 (8 + i) c) := by
  refine mk_v (cc := cX2_keepCounts) (nL := 3) rfl rfl (XW_ok hN) (Nat.le_of_ble_eq_true rfl) [(0, .ref (ad (13 + i)))] rfl (fun p e s m args below meth c A Q E RET => ?_)
  refine x_aload_n (q := 1) E dX2_keepCounts_0 0 rfl rfl ?_
  refine x_get (q := 4) E iX2_keepCounts_X2 (13 + i) (xg_row hi) rfl 3 (by decide) (by decide +kernel) rfl dX2_keepCounts_1 rfl ?_
  refine x_sipush (q := 7) E dX2_keepCounts_4 (by decide) rfl ?_
  refine x_idiv (q := 8) E dX2_keepCounts_7 (by omega) (by omega) (by omega) (by omega) rfl ?_
  refine x_bipush (q := 10) E dX2_keepCounts_8 (by decide) rfl ?_
  refine x_imul (q := 11) E dX2_keepCounts_10 rfl ?_
  refine x_istore_n (q := 12) (lv' := [(1, .int (ii (((st.1 (7 + i)) / (256)) * (7)))), (0, .ref (ad (13 + i)))]) E dX2_keepCounts_11 (by decide) rfl rfl ?_
  refine x_iload_n (q := 13) E dX2_keepCounts_12 0 rfl rfl ?_
  refine x_if_lt (tgt := 28) (q := 16) E dX2_keepCounts_13 (by decide) rfl (by omega) (fun c13 => ?_) (fun c13 => ?_)
  · exfalso; omega
  · refine x_iload_n (q := 17) E dX2_keepCounts_16 0 rfl rfl ?_
    refine x_bipush (q := 19) E dX2_keepCounts_17 (by decide) rfl ?_
    refine x_iadd (q := 20) E dX2_keepCounts_19 rfl ?_
    refine x_aload_n (q := 21) E dX2_keepCounts_20 1 rfl rfl ?_
    refine x_get (q := 24) E iX2_keepCounts_X2 (13 + i) (xg_row hi) rfl 1 (by decide) (by decide +kernel) rfl dX2_keepCounts_21 rfl ?_
    refine x_alen (q := 25) E (19 + i) (xg_kep hi) 0 rfl dX2_keepCounts_24 rfl ?_
    refine x_ti (show (((2737 : Nat) : Int)) = 2737 from rfl) ?_
    refine x_icmp_le (tgt := 29) (q := 28) E dX2_keepCounts_25 (by decide) rfl (by omega) (by omega) (fun c25 => ?_) (fun c25 => ?_)
    · refine x_iconst (q := 30) E dX2_keepCounts_29 rfl ?_
      refine x_istore_n (q := 31) (lv' := [(2, .int (ii (0))), (1, .int (ii (((st.1 (7 + i)) / (256)) * (7)))), (0, .ref (ad (13 + i)))]) E dX2_keepCounts_30 (by decide) rfl rfl ?_
      have L31 : ∀ (n : Nat) (j : Int) (g : Int → Int), (7 - j).toNat < n → (0 ≤ j ∧ j ≤ 7) → (∀ c : Int, 0 ≤ c → c < j → g (st.1 (7 + i) / 256 * 7 + c) = st.2 (11 + i) c) → (∀ c : Int, c < st.1 (7 + i) / 256 * 7 ∨ st.1 (7 + i) / 256 * 7 + 7 ≤ c → g c = st.2 (8 + i) c) → XJ p l e (rmX 0 0) s m args below meth c D (XW T ad) A 3 Q 0 0 (sF st (8 + i) (g)) 31 [(0, .ref (ad (13 + i))), (1, .int (ii (((st.1 (7 + i)) / (256)) * (7)))), (2, .int (ii (j)))] [] := by
        intro n
        induction n with
        | zero => intro j g hn; exact absurd hn (Nat.not_lt_zero _)
        | succ n ih31 =>
          intro j g hn31 a1 a2 a3
          refine x_iload_n (q := 32) E dX2_keepCounts_31 2 rfl rfl ?_
          refine x_aload_n (q := 33) E dX2_keepCounts_32 0 rfl rfl ?_
          refine x_get (q := 36) E iX2_keepCounts_X2 (13 + i) (xg_row hi) rfl 2 (by decide) (by decide +kernel) rfl dX2_keepCounts_33 rfl ?_
          refine x_alen (q := 37) E (22 + i) (xg_cnt hi) 0 rfl dX2_keepCounts_36 rfl ?_
          refine x_ti (show (((7 : Nat) : Int)) = 7 from rfl) ?_
          refine x_icmp_ge (tgt := 60) (q := 40) E dX2_keepCounts_37 (by decide) rfl (by omega) (by omega) (fun c37 => ?_) (fun c37 => ?_)
          · exact RET _ _ _ dX2_keepCounts_60 (⟨g, rfl, fun c h0 h1 => a2 c h0 (by omega), a3⟩)
          · refine x_aload_n (q := 41) E dX2_keepCounts_40 0 rfl rfl ?_
            refine x_get (q := 44) E iX2_keepCounts_X2 (13 + i) (xg_row hi) rfl 1 (by decide) (by decide +kernel) rfl dX2_keepCounts_41 rfl ?_
            refine x_iload_n (q := 45) E dX2_keepCounts_44 1 rfl rfl ?_
            refine x_iload_n (q := 46) E dX2_keepCounts_45 2 rfl rfl ?_
            refine x_iadd (q := 47) E dX2_keepCounts_46 rfl ?_
            refine x_aload_n (q := 48) E dX2_keepCounts_47 0 rfl rfl ?_
            refine x_get (q := 51) E iX2_keepCounts_X2 (13 + i) (xg_row hi) rfl 2 (by decide) (by decide +kernel) rfl dX2_keepCounts_48 rfl ?_
            refine x_iload_n (q := 52) E dX2_keepCounts_51 2 rfl rfl ?_
            refine x_iald (q := 53) (f := (sF st (8 + i) (g)).2 (11 + i)) E (22 + i) (xg_cnt hi) 0 rfl (by omega) (by omega) (by decide) dX2_keepCounts_52 rfl ?_
            refine x_ti (show (sF st (8 + i) (g)).2 (11 + i) (j) = st.2 (11 + i) (j) by rw [sF_n _ _ (by omega)]) ?_
            refine x_iast (q := 54) (st' := (sA (sF st (8 + i) (g)) (8 + i) ((((st.1 (7 + i)) / (256)) * (7)) + (j)) (st.2 (11 + i) (j)))) (f := (sF st (8 + i) (g)).2 (8 + i)) E (19 + i) (xg_kep hi) 0 rfl (by omega) (by omega) (by decide) dX2_keepCounts_53 (xs_kep hi _ _) rfl ?_
            refine x_iinc (q := 57) (k := 2) (lv' := [(2, .int (ii (j + 1))), (0, .ref (ad (13 + i))), (1, .int (ii (((st.1 (7 + i)) / (256)) * (7))))]) E dX2_keepCounts_54 rfl (by decide) rfl rfl ?_
            refine x_goto (tgt := 31) E dX2_keepCounts_57 (by decide) ?_
            refine x_st E (st' := (sF st (8 + i) (zup (g) ((((st.1 (7 + i)) / (256)) * (7)) + (j)) (st.2 (11 + i) (j))))) (by refine Prod.ext (funext fun k9 => ?_) (funext fun q9 => ?_) <;> simp only [sG_1, sG_2, sA_1, sA_2, sF_1, sF_2, reduceIte] <;> (repeat' split) <;> first | rfl | omega | (subst_vars; first | rfl | omega) | simp_all) ?_
            refine x_lv E (lv' := [(0, .ref (ad (13 + i))), (1, .int (ii (((st.1 (7 + i)) / (256)) * (7)))), (2, .int (ii (j + 1)))]) [1, 2, 0] rfl ?_
            exact ih31 (j + 1) (zup (g) ((((st.1 (7 + i)) / (256)) * (7)) + (j)) (st.2 (11 + i) (j))) (by omega) (by omega) (fun c h0 h1 => if hc : c = j then (by rw [hc, zup_eq]) else (by rw [zup_ne _ _ (by omega)]; exact a2 c h0 (by omega))) (fun c hc => by rw [zup_ne _ _ (by omega)]; exact a3 c hc)
      refine x_lv E (lv' := [(0, .ref (ad (13 + i))), (1, .int (ii (((st.1 (7 + i)) / (256)) * (7)))), (2, .int (ii (0)))]) [2, 1, 0] rfl ?_
      refine x_st E (st' := (sF st (8 + i) (st.2 (8 + i)))) (by refine Prod.ext (funext fun k9 => ?_) (funext fun q9 => ?_) <;> simp only [sG_1, sG_2, sA_1, sA_2, sF_1, sF_2, reduceIte] <;> (repeat' split) <;> first | rfl | omega | (subst_vars; first | rfl | omega) | simp_all) ?_
      exact L31 _ (0) (st.2 (8 + i)) (Nat.lt_succ_self _) (by omega) (fun c h0 h1 => absurd h1 (by omega)) (fun _ _ => rfl)
    · exfalso; omega

theorem iX2_keptBefore_X2 : ∀ w ∈ wsX20, w ∈ wsX2_keptBefore := by decide +kernel
set_option maxRecDepth 100000 in
set_option maxHeartbeats 4000000 in
theorem c_X2_keptBefore (l : Launch) (D : va_G) (T : Nat → ClassId) (ad : Nat → Nat) (hN : ∀ i j, i < 33 → j < 33 → ad i = ad j → i = j) (st : St_) (i : Nat) (hi : i < 3) (n0 : Int) (bn0 : -2147483648 ≤ n0 ∧ n0 < 2147483648) (c0 : Int) (bc0 : -2147483648 ≤ c0 ∧ c0 < 2147483648) (hn : 0 ≤ n0 ∧ n0 ≤ 100001) (hc : 0 ≤ c0 ∧ c0 ≤ 6) : CXi l yX2_keptBefore wsX2_keptBefore (rmX 0 0) [.ref (ad (13 + i)), .int (ii (n0)), .int (ii (c0))] D (tyX T) (XW T ad) (alX ad) st (fun z st2 => st.2 (8 + i) ((n0) / 256 * 7 + (c0)) = z ∧ st = st2) := by
  refine mk_i (cc := cX2_keptBefore) (nL := 4) rfl rfl (XW_ok hN) (Nat.le_of_ble_eq_true rfl) [(0, .ref (ad (13 + i))), (1, .int (ii (n0))), (2, .int (ii (c0)))] rfl (fun p e s m args below meth c A Q E RET => ?_)
  refine x_iload_n (q := 1) E dX2_keptBefore_0 1 rfl rfl ?_
  refine x_sipush (q := 4) E dX2_keptBefore_1 (by decide) rfl ?_
  refine x_idiv (q := 5) E dX2_keptBefore_4 (by omega) (by omega) (by omega) (by omega) rfl ?_
  refine x_bipush (q := 7) E dX2_keptBefore_5 (by decide) rfl ?_
  refine x_imul (q := 8) E dX2_keptBefore_7 rfl ?_
  refine x_iload_n (q := 9) E dX2_keptBefore_8 2 rfl rfl ?_
  refine x_iadd (q := 10) E dX2_keptBefore_9 rfl ?_
  refine x_istore_n (q := 11) (lv' := [(3, .int (ii ((((n0) / (256)) * (7)) + (c0)))), (0, .ref (ad (13 + i))), (1, .int (ii (n0))), (2, .int (ii (c0)))]) E dX2_keptBefore_10 (by decide) rfl rfl ?_
  refine x_iload_n (q := 12) E dX2_keptBefore_11 0 rfl rfl ?_
  refine x_if_lt (tgt := 33) (q := 15) E dX2_keptBefore_12 (by decide) rfl (by omega) (fun c12 => ?_) (fun c12 => ?_)
  · refine x_iconst (q := 34) E dX2_keptBefore_33 rfl ?_
    exact RET _ _ _ _ dX2_keptBefore_34 (by first | (exfalso; omega) | exact ⟨rfl, rfl⟩)
  · refine x_iload_n (q := 16) E dX2_keptBefore_15 0 rfl rfl ?_
    refine x_aload_n (q := 17) E dX2_keptBefore_16 1 rfl rfl ?_
    refine x_get (q := 20) E iX2_keptBefore_X2 (13 + i) (xg_row hi) rfl 1 (by decide) (by decide +kernel) rfl dX2_keptBefore_17 rfl ?_
    refine x_alen (q := 21) E (19 + i) (xg_kep hi) 0 rfl dX2_keptBefore_20 rfl ?_
    refine x_ti (show (((2737 : Nat) : Int)) = 2737 from rfl) ?_
    refine x_icmp_ge (tgt := 33) (q := 24) E dX2_keptBefore_21 (by decide) rfl (by omega) (by omega) (fun c21 => ?_) (fun c21 => ?_)
    · refine x_iconst (q := 34) E dX2_keptBefore_33 rfl ?_
      exact RET _ _ _ _ dX2_keptBefore_34 (by first | (exfalso; omega) | exact ⟨rfl, rfl⟩)
    · refine x_aload_n (q := 25) E dX2_keptBefore_24 1 rfl rfl ?_
      refine x_get (q := 28) E iX2_keptBefore_X2 (13 + i) (xg_row hi) rfl 1 (by decide) (by decide +kernel) rfl dX2_keptBefore_25 rfl ?_
      refine x_iload_n (q := 29) E dX2_keptBefore_28 0 rfl rfl ?_
      refine x_iald (q := 30) (f := st.2 (8 + i)) E (19 + i) (xg_kep hi) 0 rfl (by omega) (by omega) (by decide) dX2_keptBefore_29 rfl ?_
      refine x_goto (tgt := 34) E dX2_keptBefore_30 (by decide) ?_
      exact RET _ _ _ _ dX2_keptBefore_34 (by first | (exfalso; omega) | exact ⟨rfl, rfl⟩)

set_option maxRecDepth 100000 in
set_option maxHeartbeats 4000000 in
theorem c_X2_lettersWithin (l : Launch) (D : va_G) (T : Nat → ClassId) (ad : Nat → Nat) (hN : ∀ i j, i < 33 → j < 33 → ad i = ad j → i = j) (st : St_) (i : Nat) (hi : i < 3) (v : Int) (bv : -2147483648 ≤ v ∧ v < 2147483648) (n0 : Int) (bn0 : -2147483648 ≤ n0 ∧ n0 < 2147483648) (hm : 0 ≤ st.1 (7 + i) ∧ st.1 (7 + i) ≤ 100001) (hkp : KP (st.2 (5 + i)) (st.2 (8 + i)) (st.1 (7 + i))) (hfb : ∀ k : Int, 0 ≤ k → k < st.1 (7 + i) → 1 ≤ st.2 (5 + i) k ∧ st.2 (5 + i) k ≤ 6) (hn : 0 ≤ n0 ∧ n0 ≤ st.1 (7 + i)) : CXi l yX2_lettersWithin wsX2_lettersWithin (rmX 1 23) [.ref (ad (13 + i)), .int (ii (v)), .int (ii (n0))] D (tyX T) (XW T ad) (alX ad) st (fun z st2 => cntv (st.2 (5 + i)) (v) (n0) = z ∧ st = st2) := by
  refine mk_i (cc := cX2_lettersWithin) (nL := 5) rfl rfl (XW_ok hN) (Nat.le_of_ble_eq_true rfl) [(0, .ref (ad (13 + i))), (1, .int (ii (v))), (2, .int (ii (n0)))] rfl (fun p e s m args below meth c A Q E RET => ?_)
  refine x_iload_n (q := 1) E dX2_lettersWithin_0 1 rfl rfl ?_
  refine x_callSNi (q := 4) (n := 1) (As := [.int (ii (v))]) (r := []) E (c_X5_isLetter l D T ad hN st (v) (by omega)) gX2_lettersWithin_X5_isLetter_n27 rfl rfl rfl E.nw.2.1 (by decide +kernel) (by decide +kernel) (by decide +kernel) ⟨Nat.le_of_ble_eq_true rfl, Nat.le_of_ble_eq_true rfl⟩ rfl rfl (Nat.le_of_ble_eq_true rfl) dX2_lettersWithin_1 rfl (fun z1 s2 q3 => ?_)
  obtain ⟨rfl, rfl⟩ := q3
  refine x_if_eq (tgt := 11) (q := 7) E dX2_lettersWithin_4 (by decide) rfl (by omega) (fun c4 => ?_) (fun c4 => ?_)
  · refine x_iconst (q := 12) E dX2_lettersWithin_11 rfl ?_
    exact RET _ _ _ _ dX2_lettersWithin_12 (⟨cntv_z (fun k h0 h1 => by have := hfb k h0 (by omega); omega), rfl⟩)
  · refine x_iload_n (q := 8) E dX2_lettersWithin_7 2 rfl rfl ?_
    refine x_if_ge (tgt := 13) (q := 11) E dX2_lettersWithin_8 (by decide) rfl (by omega) (fun c8 => ?_) (fun c8 => ?_)
    · refine x_aload_n (q := 14) E dX2_lettersWithin_13 0 rfl rfl ?_
      refine x_iload_n (q := 15) E dX2_lettersWithin_14 2 rfl rfl ?_
      refine x_iload_n (q := 16) E dX2_lettersWithin_15 1 rfl rfl ?_
      refine x_callVi (q := 19) (n := 2) (As := [.int (ii (n0)), .int (ii (v))]) (r := []) E (c_X2_keptBefore l D T ad hN st (i) hi (n0) (by omega) (v) (by omega) (by omega) (by omega)) gX2_lettersWithin_X2_keptBefore rfl rfl rfl (by decide +kernel) ⟨Nat.le_of_ble_eq_true rfl, Nat.le_of_ble_eq_true rfl⟩ (13 + i) (xg_row hi) rfl rfl rfl (Nat.le_of_ble_eq_true rfl) dX2_lettersWithin_16 rfl (fun z4 s5 q6 => ?_)
      obtain ⟨rfl, rfl⟩ := q6
      refine x_istore_n (q := 20) (lv' := [(3, .int (ii (st.2 (8 + i) ((n0) / 256 * 7 + (v))))), (0, .ref (ad (13 + i))), (1, .int (ii (v))), (2, .int (ii (n0)))]) E dX2_lettersWithin_19 (by decide) rfl rfl ?_
      refine x_iload_n (q := 21) E dX2_lettersWithin_20 3 rfl rfl ?_
      refine x_iload_n (q := 22) E dX2_lettersWithin_21 3 rfl rfl ?_
      refine x_sipush (q := 25) E dX2_lettersWithin_22 (by decide) rfl ?_
      refine x_irem (q := 26) E dX2_lettersWithin_25 (by omega) (by omega) (by omega) (by omega) rfl ?_
      refine x_isub (q := 27) E dX2_lettersWithin_26 rfl ?_
      refine x_istore (q := 29) (lv' := [(4, .int (ii ((n0) - ((n0) % (256))))), (3, .int (ii (st.2 (8 + i) ((n0) / 256 * 7 + (v))))), (0, .ref (ad (13 + i))), (1, .int (ii (v))), (2, .int (ii (n0)))]) E dX2_lettersWithin_27 (by decide) rfl rfl ?_
      have L29 : ∀ (n : Nat) (t : Int) (k : Int), (n0 - k).toNat < n → (0 ≤ k ∧ k ≤ n0) → (t = cntv (st.2 (5 + i)) v k) → XJ p l e (rmX 1 23) s m args below meth c D (XW T ad) A 5 Q 0 0 st 29 [(0, .ref (ad (13 + i))), (1, .int (ii (v))), (2, .int (ii (n0))), (3, .int (ii (t))), (4, .int (ii (k)))] [] := by
        intro n
        induction n with
        | zero => intro t k hn; exact absurd hn (Nat.not_lt_zero _)
        | succ n ih29 =>
          intro t k hn29 a1 a2
          refine x_iload (q := 31) E dX2_lettersWithin_29 4 rfl rfl ?_
          refine x_iload_n (q := 32) E dX2_lettersWithin_31 2 rfl rfl ?_
          refine x_icmp_ge (tgt := 54) (q := 35) E dX2_lettersWithin_32 (by decide) rfl (by omega) (by omega) (fun c32 => ?_) (fun c32 => ?_)
          · refine x_iload_n (q := 55) E dX2_lettersWithin_54 3 rfl rfl ?_
            exact RET _ _ _ _ dX2_lettersWithin_55 (⟨by rw [a2]; exact congrArg _ (by omega), rfl⟩)
          · have e1 : nat_ st i k = st.2 (5 + i) k := nat_in (by omega) (by omega) (by omega)
            have e2 := hfb k (by omega) (by omega)
            refine x_aload_n (q := 36) E dX2_lettersWithin_35 0 rfl rfl ?_
            refine x_iload (q := 38) E dX2_lettersWithin_36 4 rfl rfl ?_
            refine x_callVi (q := 41) (n := 1) (As := [.int (ii (k))]) (r := []) E (c_X2_number l D T ad hN st (i) hi (k) (by omega) (by omega)) gX2_lettersWithin_X2_number rfl rfl rfl (by decide +kernel) ⟨Nat.le_of_ble_eq_true rfl, Nat.le_of_ble_eq_true rfl⟩ (13 + i) (xg_row hi) rfl rfl rfl (Nat.le_of_ble_eq_true rfl) dX2_lettersWithin_38 rfl (fun z7 s8 q9 => ?_)
            obtain ⟨rfl, rfl⟩ := q9
            refine x_iload_n (q := 42) E dX2_lettersWithin_41 1 rfl rfl ?_
            refine x_icmp_ne (tgt := 48) (q := 45) E dX2_lettersWithin_42 (by decide) rfl (by omega) (by omega) (fun c42 => ?_) (fun c42 => ?_)
            · refine x_iinc (q := 51) (k := 4) (lv' := [(4, .int (ii (k + 1))), (0, .ref (ad (13 + i))), (1, .int (ii (v))), (2, .int (ii (n0))), (3, .int (ii (t)))]) E dX2_lettersWithin_48 rfl (by decide) rfl rfl ?_
              refine x_goto (tgt := 29) E dX2_lettersWithin_51 (by decide) ?_
              refine x_lv E (lv' := [(0, .ref (ad (13 + i))), (1, .int (ii (v))), (2, .int (ii (n0))), (3, .int (ii (t))), (4, .int (ii (k + 1)))]) [1, 2, 3, 4, 0] rfl ?_
              exact ih29 (t) (k + 1) (by omega) (by omega) (by rw [cntv_s _ _ (by omega), if_neg (by rw [← e1]; exact c42), ← a2]; omega)
            · refine x_iinc (q := 48) (k := 3) (lv' := [(3, .int (ii (t + 1))), (0, .ref (ad (13 + i))), (1, .int (ii (v))), (2, .int (ii (n0))), (4, .int (ii (k)))]) E dX2_lettersWithin_45 rfl (by decide) rfl rfl ?_
              refine x_iinc (q := 51) (k := 4) (lv' := [(4, .int (ii (k + 1))), (3, .int (ii (t + 1))), (0, .ref (ad (13 + i))), (1, .int (ii (v))), (2, .int (ii (n0)))]) E dX2_lettersWithin_48 rfl (by decide) rfl rfl ?_
              refine x_goto (tgt := 29) E dX2_lettersWithin_51 (by decide) ?_
              refine x_lv E (lv' := [(0, .ref (ad (13 + i))), (1, .int (ii (v))), (2, .int (ii (n0))), (3, .int (ii (t + 1))), (4, .int (ii (k + 1)))]) [2, 3, 4, 1, 0] rfl ?_
              exact ih29 (t + 1) (k + 1) (by omega) (by omega) (by rw [cntv_s _ _ (by omega), if_pos (by rw [← e1]; exact Classical.byContradiction c42), ← a2])
      refine x_lv E (lv' := [(0, .ref (ad (13 + i))), (1, .int (ii (v))), (2, .int (ii (n0))), (3, .int (ii (st.2 (8 + i) ((n0) / 256 * 7 + (v))))), (4, .int (ii ((n0) - ((n0) % (256)))))]) [2, 3, 4, 1, 0] rfl ?_
      exact L29 _ (st.2 (8 + i) ((n0) / 256 * 7 + (v))) ((n0) - ((n0) % (256))) (Nat.lt_succ_self _) (by omega) (by have := hkp.1 (n0 / 256) v (by omega) (by omega) (by omega) (by omega); rw [this]; exact congrArg _ (by omega))
    · exfalso; omega

set_option maxRecDepth 100000 in
set_option maxHeartbeats 4000000 in
theorem c_X2_sumWithin (l : Launch) (D : va_G) (T : Nat → ClassId) (ad : Nat → Nat) (hN : ∀ i j, i < 33 → j < 33 → ad i = ad j → i = j) (st : St_) (i : Nat) (hi : i < 3) (n0 : Int) (bn0 : -2147483648 ≤ n0 ∧ n0 < 2147483648) (hm : 0 ≤ st.1 (7 + i) ∧ st.1 (7 + i) ≤ 100001) (hkp : KP (st.2 (5 + i)) (st.2 (8 + i)) (st.1 (7 + i))) (hfb : ∀ k : Int, 0 ≤ k → k < st.1 (7 + i) → 1 ≤ st.2 (5 + i) k ∧ st.2 (5 + i) k ≤ 6) (hn : 0 ≤ n0 ∧ n0 ≤ st.1 (7 + i)) : CXi l yX2_sumWithin wsX2_sumWithin (rmX 2 47) [.ref (ad (13 + i)), .int (ii (n0))] D (tyX T) (XW T ad) (alX ad) st (fun z st2 => isum (st.2 (5 + i)) (n0) = z ∧ st = st2) := by
  refine mk_i (cc := cX2_sumWithin) (nL := 4) rfl rfl (XW_ok hN) (Nat.le_of_ble_eq_true rfl) [(0, .ref (ad (13 + i))), (1, .int (ii (n0)))] rfl (fun p e s m args below meth c A Q E RET => ?_)
  refine x_iconst (q := 1) E dX2_sumWithin_0 rfl ?_
  refine x_istore_n (q := 2) (lv' := [(2, .int (ii (0))), (0, .ref (ad (13 + i))), (1, .int (ii (n0)))]) E dX2_sumWithin_1 (by decide) rfl rfl ?_
  refine x_iconst (q := 3) E dX2_sumWithin_2 rfl ?_
  refine x_istore_n (q := 4) (lv' := [(3, .int (ii (1))), (2, .int (ii (0))), (0, .ref (ad (13 + i))), (1, .int (ii (n0)))]) E dX2_sumWithin_3 (by decide) rfl rfl ?_
  have L4 : ∀ (n : Nat) (t : Int) (v : Int), (7 - v).toNat < n → (1 ≤ v ∧ v ≤ 7) → (t = isum (fun u => u * cntv (st.2 (5 + i)) u n0) v) → XJ p l e (rmX 2 47) s m args below meth c D (XW T ad) A 4 Q 0 0 st 4 [(0, .ref (ad (13 + i))), (1, .int (ii (n0))), (2, .int (ii (t))), (3, .int (ii (v)))] [] := by
    intro n
    induction n with
    | zero => intro t v hn; exact absurd hn (Nat.not_lt_zero _)
    | succ n ih4 =>
      intro t v hn4 a1 a2
      refine x_iload_n (q := 5) E dX2_sumWithin_4 3 rfl rfl ?_
      refine x_bipush (q := 7) E dX2_sumWithin_5 (by decide) rfl ?_
      refine x_icmp_gt (tgt := 27) (q := 10) E dX2_sumWithin_7 (by decide) rfl (by omega) (by omega) (fun c7 => ?_) (fun c7 => ?_)
      · refine x_iload_n (q := 28) E dX2_sumWithin_27 2 rfl rfl ?_
        exact RET _ _ _ _ dX2_sumWithin_28 (⟨by rw [isum_cnt (fun k h0 h1 => hfb k h0 (by omega)) (by omega), ← wsum6 (fun u => cntv (st.2 (5 + i)) u n0), a2]; exact congrArg _ (by omega), rfl⟩)
      · refine x_iload_n (q := 11) E dX2_sumWithin_10 2 rfl rfl ?_
        refine x_iload_n (q := 12) E dX2_sumWithin_11 3 rfl rfl ?_
        refine x_aload_n (q := 13) E dX2_sumWithin_12 0 rfl rfl ?_
        refine x_iload_n (q := 14) E dX2_sumWithin_13 3 rfl rfl ?_
        refine x_iload_n (q := 15) E dX2_sumWithin_14 1 rfl rfl ?_
        refine x_callVi (q := 18) (n := 2) (As := [.int (ii (v)), .int (ii (n0))]) (r := [.int (ii (v)), .int (ii (t))]) E (c_X2_lettersWithin l D T ad hN st (i) hi (v) (by omega) (n0) (by omega) (by omega) (hkp) (hfb) (by omega)) gX2_sumWithin_X2_lettersWithin rfl rfl rfl (by decide +kernel) ⟨Nat.le_of_ble_eq_true rfl, Nat.le_of_ble_eq_true rfl⟩ (13 + i) (xg_row hi) rfl rfl rfl (Nat.le_of_ble_eq_true rfl) dX2_sumWithin_15 rfl (fun z1 s2 q3 => ?_)
        obtain ⟨rfl, rfl⟩ := q3
        refine x_imul (q := 19) E dX2_sumWithin_18 rfl ?_
        refine x_iadd (q := 20) E dX2_sumWithin_19 rfl ?_
        refine x_istore_n (q := 21) (lv' := [(2, .int (ii ((t) + ((v) * (cntv (st.2 (5 + i)) (v) (n0)))))), (0, .ref (ad (13 + i))), (1, .int (ii (n0))), (3, .int (ii (v)))]) E dX2_sumWithin_20 (by decide) rfl rfl ?_
        refine x_iinc (q := 24) (k := 3) (lv' := [(3, .int (ii (v + 1))), (2, .int (ii ((t) + ((v) * (cntv (st.2 (5 + i)) (v) (n0)))))), (0, .ref (ad (13 + i))), (1, .int (ii (n0)))]) E dX2_sumWithin_21 rfl (by decide) rfl rfl ?_
        refine x_goto (tgt := 4) E dX2_sumWithin_24 (by decide) ?_
        refine x_lv E (lv' := [(0, .ref (ad (13 + i))), (1, .int (ii (n0))), (2, .int (ii ((t) + ((v) * (cntv (st.2 (5 + i)) (v) (n0)))))), (3, .int (ii (v + 1)))]) [2, 3, 1, 0] rfl ?_
        exact ih4 ((t) + ((v) * (cntv (st.2 (5 + i)) (v) (n0)))) (v + 1) (by omega) (by omega) (by rw [isum_s _ (by omega), a2])
  refine x_lv E (lv' := [(0, .ref (ad (13 + i))), (1, .int (ii (n0))), (2, .int (ii (0))), (3, .int (ii (1)))]) [2, 3, 1, 0] rfl ?_
  exact L4 _ (0) (1) (Nat.lt_succ_self _) (by omega) (by rw [show (1 : Int) = 0 + 1 from rfl, isum_s _ (by omega), isum_0]; omega)

set_option maxRecDepth 100000 in
set_option maxHeartbeats 4000000 in
theorem c_X2_runsWithin (l : Launch) (D : va_G) (T : Nat → ClassId) (ad : Nat → Nat) (hN : ∀ i j, i < 33 → j < 33 → ad i = ad j → i = j) (st : St_) (i : Nat) (hi : i < 3) (n0 : Int) (bn0 : -2147483648 ≤ n0 ∧ n0 < 2147483648) (hm : 0 ≤ st.1 (7 + i) ∧ st.1 (7 + i) ≤ 100001) (hkp : KP (st.2 (5 + i)) (st.2 (8 + i)) (st.1 (7 + i))) (hfb : ∀ k : Int, 0 ≤ k → k < st.1 (7 + i) → 1 ≤ st.2 (5 + i) k ∧ st.2 (5 + i) k ≤ 6) (hn : 0 ≤ n0 ∧ n0 ≤ st.1 (7 + i)) : CXi l yX2_runsWithin wsX2_runsWithin (rmX 1 23) [.ref (ad (13 + i)), .int (ii (n0))] D (tyX T) (XW T ad) (alX ad) st (fun z st2 => chg (st.2 (5 + i)) (n0) = z ∧ st = st2) := by
  refine mk_i (cc := cX2_runsWithin) (nL := 4) rfl rfl (XW_ok hN) (Nat.le_of_ble_eq_true rfl) [(0, .ref (ad (13 + i))), (1, .int (ii (n0)))] rfl (fun p e s m args below meth c A Q E RET => ?_)
  refine x_iload_n (q := 1) E dX2_runsWithin_0 1 rfl rfl ?_
  refine x_if_ge (tgt := 6) (q := 4) E dX2_runsWithin_1 (by decide) rfl (by omega) (fun c1 => ?_) (fun c1 => ?_)
  · refine x_aload_n (q := 7) E dX2_runsWithin_6 0 rfl rfl ?_
    refine x_iload_n (q := 8) E dX2_runsWithin_7 1 rfl rfl ?_
    refine x_iconst (q := 9) E dX2_runsWithin_8 rfl ?_
    refine x_callVi (q := 12) (n := 2) (As := [.int (ii (n0)), .int (ii (0))]) (r := []) E (c_X2_keptBefore l D T ad hN st (i) hi (n0) (by omega) (0) (by omega) (by omega) (by omega)) gX2_runsWithin_X2_keptBefore rfl rfl rfl (by decide +kernel) ⟨Nat.le_of_ble_eq_true rfl, Nat.le_of_ble_eq_true rfl⟩ (13 + i) (xg_row hi) rfl rfl rfl (Nat.le_of_ble_eq_true rfl) dX2_runsWithin_9 rfl (fun z1 s2 q3 => ?_)
    obtain ⟨rfl, rfl⟩ := q3
    refine x_istore_n (q := 13) (lv' := [(2, .int (ii (st.2 (8 + i) ((n0) / 256 * 7 + (0))))), (0, .ref (ad (13 + i))), (1, .int (ii (n0)))]) E dX2_runsWithin_12 (by decide) rfl rfl ?_
    refine x_iload_n (q := 14) E dX2_runsWithin_13 2 rfl rfl ?_
    refine x_iload_n (q := 15) E dX2_runsWithin_14 2 rfl rfl ?_
    refine x_sipush (q := 18) E dX2_runsWithin_15 (by decide) rfl ?_
    refine x_irem (q := 19) E dX2_runsWithin_18 (by omega) (by omega) (by omega) (by omega) rfl ?_
    refine x_isub (q := 20) E dX2_runsWithin_19 rfl ?_
    refine x_istore_n (q := 21) (lv' := [(3, .int (ii ((n0) - ((n0) % (256))))), (2, .int (ii (st.2 (8 + i) ((n0) / 256 * 7 + (0))))), (0, .ref (ad (13 + i))), (1, .int (ii (n0)))]) E dX2_runsWithin_20 (by decide) rfl rfl ?_
    have L21 : ∀ (n : Nat) (t : Int) (k : Int), (n0 - k).toNat < n → (0 ≤ k ∧ k ≤ n0) → (t = chg (st.2 (5 + i)) k) → XJ p l e (rmX 1 23) s m args below meth c D (XW T ad) A 4 Q 0 0 st 21 [(0, .ref (ad (13 + i))), (1, .int (ii (n0))), (2, .int (ii (t))), (3, .int (ii (k)))] [] := by
      intro n
      induction n with
      | zero => intro t k hn; exact absurd hn (Nat.not_lt_zero _)
      | succ n ih21 =>
        intro t k hn21 a1 a2
        refine x_iload_n (q := 22) E dX2_runsWithin_21 3 rfl rfl ?_
        refine x_iload_n (q := 23) E dX2_runsWithin_22 1 rfl rfl ?_
        refine x_icmp_ge (tgt := 50) (q := 26) E dX2_runsWithin_23 (by decide) rfl (by omega) (by omega) (fun c23 => ?_) (fun c23 => ?_)
        · refine x_iload_n (q := 51) E dX2_runsWithin_50 2 rfl rfl ?_
          exact RET _ _ _ _ dX2_runsWithin_51 (⟨by rw [a2]; exact congrArg _ (by omega), rfl⟩)
        · have e1 : nat_ st i k = st.2 (5 + i) k := nat_in (by omega) (by omega) (by omega)
          have e2 := hfb k (by omega) (by omega)
          have e3 : -1 ≤ nat_ st i (k - 1) ∧ nat_ st i (k - 1) ≤ 6 := by
            by_cases hk : k = 0
            · rw [nat_out (by omega)]; omega
            · rw [nat_in (by omega) (by omega) (by omega)]; have := hfb (k - 1) (by omega) (by omega); omega
          refine x_aload_n (q := 27) E dX2_runsWithin_26 0 rfl rfl ?_
          refine x_iload_n (q := 28) E dX2_runsWithin_27 3 rfl rfl ?_
          refine x_callVi (q := 31) (n := 1) (As := [.int (ii (k))]) (r := []) E (c_X2_number l D T ad hN st (i) hi (k) (by omega) (by omega)) gX2_runsWithin_X2_number rfl rfl rfl (by decide +kernel) ⟨Nat.le_of_ble_eq_true rfl, Nat.le_of_ble_eq_true rfl⟩ (13 + i) (xg_row hi) rfl rfl rfl (Nat.le_of_ble_eq_true rfl) dX2_runsWithin_28 rfl (fun z4 s5 q6 => ?_)
          obtain ⟨rfl, rfl⟩ := q6
          refine x_aload_n (q := 32) E dX2_runsWithin_31 0 rfl rfl ?_
          refine x_iload_n (q := 33) E dX2_runsWithin_32 3 rfl rfl ?_
          refine x_iconst (q := 34) E dX2_runsWithin_33 rfl ?_
          refine x_isub (q := 35) E dX2_runsWithin_34 rfl ?_
          refine x_callVi (q := 38) (n := 1) (As := [.int (ii ((k) - (1)))]) (r := [.int (ii (nat_ st i (k)))]) E (c_X2_number l D T ad hN st (i) hi ((k) - (1)) (by omega) (by omega)) gX2_runsWithin_X2_number rfl rfl rfl (by decide +kernel) ⟨Nat.le_of_ble_eq_true rfl, Nat.le_of_ble_eq_true rfl⟩ (13 + i) (xg_row hi) rfl rfl rfl (Nat.le_of_ble_eq_true rfl) dX2_runsWithin_35 rfl (fun z7 s8 q9 => ?_)
          obtain ⟨rfl, rfl⟩ := q9
          refine x_icmp_eq (tgt := 44) (q := 41) E dX2_runsWithin_38 (by decide) rfl (by omega) (by omega) (fun c38 => ?_) (fun c38 => ?_)
          · have e4 : k ≠ 0 := fun z => by rw [e1, nat_out (k := k - 1) (by omega)] at c38; omega
            have e5 := nat_in (st := st) (i := i) (k := k - 1) (by omega) (by omega) (by omega)
            refine x_iinc (q := 47) (k := 3) (lv' := [(3, .int (ii (k + 1))), (0, .ref (ad (13 + i))), (1, .int (ii (n0))), (2, .int (ii (t)))]) E dX2_runsWithin_44 rfl (by decide) rfl rfl ?_
            refine x_goto (tgt := 21) E dX2_runsWithin_47 (by decide) ?_
            refine x_lv E (lv' := [(0, .ref (ad (13 + i))), (1, .int (ii (n0))), (2, .int (ii (t))), (3, .int (ii (k + 1)))]) [1, 2, 3, 0] rfl ?_
            exact ih21 (t) (k + 1) (by omega) (by omega) (by rw [chg_s _ (by omega), if_neg (fun q => q.elim e4 (fun z => z (by rw [← e1, c38, e5]))), ← a2]; omega)
          · refine x_iinc (q := 44) (k := 2) (lv' := [(2, .int (ii (t + 1))), (0, .ref (ad (13 + i))), (1, .int (ii (n0))), (3, .int (ii (k)))]) E dX2_runsWithin_41 rfl (by decide) rfl rfl ?_
            refine x_iinc (q := 47) (k := 3) (lv' := [(3, .int (ii (k + 1))), (2, .int (ii (t + 1))), (0, .ref (ad (13 + i))), (1, .int (ii (n0)))]) E dX2_runsWithin_44 rfl (by decide) rfl rfl ?_
            refine x_goto (tgt := 21) E dX2_runsWithin_47 (by decide) ?_
            refine x_lv E (lv' := [(0, .ref (ad (13 + i))), (1, .int (ii (n0))), (2, .int (ii (t + 1))), (3, .int (ii (k + 1)))]) [2, 3, 1, 0] rfl ?_
            exact ih21 (t + 1) (k + 1) (by omega) (by omega) (by rw [chg_s _ (by omega), if_pos (if hk : k = 0 then Or.inl hk else Or.inr (by rw [← e1]; intro z; exact c38 (by rw [z]; exact (nat_in (by omega) (by omega) (by omega)).symm))), ← a2])
    refine x_lv E (lv' := [(0, .ref (ad (13 + i))), (1, .int (ii (n0))), (2, .int (ii (st.2 (8 + i) ((n0) / 256 * 7 + (0))))), (3, .int (ii ((n0) - ((n0) % (256)))))]) [2, 3, 1, 0] rfl ?_
    exact L21 _ (st.2 (8 + i) ((n0) / 256 * 7 + (0))) ((n0) - ((n0) % (256))) (Nat.lt_succ_self _) (by omega) (by have := hkp.2 (n0 / 256) (by omega) (by omega); rw [show n0 / 256 * 7 + 0 = n0 / 256 * 7 from by omega, this]; exact congrArg _ (by omega))
  · refine x_iconst (q := 5) E dX2_runsWithin_4 rfl ?_
    exact RET _ _ _ _ dX2_runsWithin_5 (by exfalso; omega)

set_option maxRecDepth 100000 in
set_option maxHeartbeats 4000000 in
theorem c_X2_greatestOff (l : Launch) (D : va_G) (T : Nat → ClassId) (ad : Nat → Nat) (hN : ∀ i j, i < 33 → j < 33 → ad i = ad j → i = j) (st : St_) (i : Nat) (hi : i < 3) (v : Int) (bv : -2147483648 ≤ v ∧ v < 2147483648) (s0 : Int) (bs0 : -2147483648 ≤ s0 ∧ s0 < 2147483648) (n0 : Int) (bn0 : -2147483648 ≤ n0 ∧ n0 < 2147483648) (hm : 0 ≤ st.1 (7 + i) ∧ st.1 (7 + i) ≤ 100001) (hfb : ∀ k : Int, 0 ≤ k → k < st.1 (7 + i) → 1 ≤ st.2 (5 + i) k ∧ st.2 (5 + i) k ≤ 6) (hn : 0 ≤ n0 ∧ n0 ≤ 100000 ∧ n0 ≤ st.1 (7 + i)) (hs : 2 ≤ s0 ∧ s0 ≤ 6) : CXi l yX2_greatestOff wsX2_greatestOff (rmX 1 21) [.ref (ad (13 + i)), .int (ii (v)), .int (ii (s0)), .int (ii (n0))] D (tyX T) (XW T ad) (alX ad) st (fun z st2 => ofn (st.2 (5 + i)) (v) (s0) (n0) = z ∧ st = st2) := by
  refine mk_i (cc := cX2_greatestOff) (nL := 7) rfl rfl (XW_ok hN) (Nat.le_of_ble_eq_true rfl) [(0, .ref (ad (13 + i))), (1, .int (ii (v))), (2, .int (ii (s0))), (3, .int (ii (n0)))] rfl (fun p e s m args below meth c A Q E RET => ?_)
  refine x_iconst (q := 1) E dX2_greatestOff_0 rfl ?_
  refine x_istore (q := 3) (lv' := [(4, .int (ii (0))), (0, .ref (ad (13 + i))), (1, .int (ii (v))), (2, .int (ii (s0))), (3, .int (ii (n0)))]) E dX2_greatestOff_1 (by decide) rfl rfl ?_
  refine x_iconst (q := 4) E dX2_greatestOff_3 rfl ?_
  refine x_istore (q := 6) (lv' := [(5, .int (ii (0))), (4, .int (ii (0))), (0, .ref (ad (13 + i))), (1, .int (ii (v))), (2, .int (ii (s0))), (3, .int (ii (n0)))]) E dX2_greatestOff_4 (by decide) rfl rfl ?_
  refine x_iconst (q := 7) E dX2_greatestOff_6 rfl ?_
  refine x_istore (q := 9) (lv' := [(6, .int (ii (1))), (5, .int (ii (0))), (4, .int (ii (0))), (0, .ref (ad (13 + i))), (1, .int (ii (v))), (2, .int (ii (s0))), (3, .int (ii (n0)))]) E dX2_greatestOff_7 (by decide) rfl rfl ?_
  have L9 : ∀ (n : Nat) (t : Int) (g : Int) (k : Int), (n0 + 1 - k).toNat < n → (1 ≤ k ∧ k ≤ n0 + 1) → (t = cntv (st.2 (5 + i)) v (k - 1)) → (g = ofn (st.2 (5 + i)) v s0 (k - 1)) → (0 ≤ g ∧ g ≤ 700000) → XJ p l e (rmX 1 21) s m args below meth c D (XW T ad) A 7 Q 0 0 st 9 [(0, .ref (ad (13 + i))), (1, .int (ii (v))), (2, .int (ii (s0))), (3, .int (ii (n0))), (4, .int (ii (t))), (5, .int (ii (g))), (6, .int (ii (k)))] [] := by
    intro n
    induction n with
    | zero => intro t g k hn; exact absurd hn (Nat.not_lt_zero _)
    | succ n ih9 =>
      intro t g k hn9 a1 a2 a3 a4
      refine x_iload (q := 11) E dX2_greatestOff_9 6 rfl rfl ?_
      refine x_iload_n (q := 12) E dX2_greatestOff_11 3 rfl rfl ?_
      refine x_icmp_gt (tgt := 53) (q := 15) E dX2_greatestOff_12 (by decide) rfl (by omega) (by omega) (fun c12 => ?_) (fun c12 => ?_)
      · refine x_iload (q := 55) E dX2_greatestOff_53 5 rfl rfl ?_
        exact RET _ _ _ _ dX2_greatestOff_55 (⟨by rw [a3]; exact congrArg _ (by omega), rfl⟩)
      · have e1 : nat_ st i (k - 1) = st.2 (5 + i) (k - 1) := nat_in (by omega) (by omega) (by omega)
        have e2 := hfb (k - 1) (by omega) (by omega)
        have e3 := cntv_b (st.2 (5 + i)) v (n := k - 1) (by omega)
        rw [← a2] at e3
        have e4 : 0 ≤ t * s0 ∧ t * s0 ≤ 600000 := by rcases (show s0 = 2 ∨ s0 = 3 ∨ s0 = 4 ∨ s0 = 5 ∨ s0 = 6 by omega) with q | q | q | q | q <;> rw [q] <;> omega
        have e5 : 0 ≤ (t + 1) * s0 ∧ (t + 1) * s0 ≤ 600006 := by rcases (show s0 = 2 ∨ s0 = 3 ∨ s0 = 4 ∨ s0 = 5 ∨ s0 = 6 by omega) with q | q | q | q | q <;> rw [q] <;> omega
        refine x_aload_n (q := 16) E dX2_greatestOff_15 0 rfl rfl ?_
        refine x_iload (q := 18) E dX2_greatestOff_16 6 rfl rfl ?_
        refine x_iconst (q := 19) E dX2_greatestOff_18 rfl ?_
        refine x_isub (q := 20) E dX2_greatestOff_19 rfl ?_
        refine x_callVi (q := 23) (n := 1) (As := [.int (ii ((k) - (1)))]) (r := []) E (c_X2_number l D T ad hN st (i) hi ((k) - (1)) (by omega) (by omega)) gX2_greatestOff_X2_number rfl rfl rfl (by decide +kernel) ⟨Nat.le_of_ble_eq_true rfl, Nat.le_of_ble_eq_true rfl⟩ (13 + i) (xg_row hi) rfl rfl rfl (Nat.le_of_ble_eq_true rfl) dX2_greatestOff_20 rfl (fun z1 s2 q3 => ?_)
        obtain ⟨rfl, rfl⟩ := q3
        refine x_iload_n (q := 24) E dX2_greatestOff_23 1 rfl rfl ?_
        refine x_icmp_ne (tgt := 30) (q := 27) E dX2_greatestOff_24 (by decide) rfl (by omega) (by omega) (fun c24 => ?_) (fun c24 => ?_)
        · have e6 : cntv (st.2 (5 + i)) v k = t := by
            have := cntv_s (st.2 (5 + i)) v (n := k - 1) (by omega)
            rw [show k - 1 + 1 = k from by omega, ← a2, if_neg (by rw [← e1]; exact c24)] at this; omega
          have e7 := ofn_s (st.2 (5 + i)) v s0 (k := k - 1) (by omega)
          rw [show k - 1 + 1 = k from by omega, e6, ← a3] at e7
          refine x_iload (q := 32) E dX2_greatestOff_30 5 rfl rfl ?_
          refine x_iload (q := 34) E dX2_greatestOff_32 4 rfl rfl ?_
          refine x_iload_n (q := 35) E dX2_greatestOff_34 2 rfl rfl ?_
          refine x_imul (q := 36) E dX2_greatestOff_35 rfl ?_
          refine x_iload (q := 38) E dX2_greatestOff_36 6 rfl rfl ?_
          refine x_isub (q := 39) E dX2_greatestOff_38 rfl ?_
          refine x_abs (q := 42) E (by decide +kernel) (by decide +kernel) (by decide +kernel) (by decide +kernel) (Nat.le_of_ble_eq_true rfl) (Nat.le_of_ble_eq_true rfl) (by omega) dX2_greatestOff_39 rfl ?_
          refine x_max (q := 45) E (by decide +kernel) (by decide +kernel) (by decide +kernel) (by decide +kernel) (Nat.le_of_ble_eq_true rfl) (Nat.le_of_ble_eq_true rfl) (by omega) (by omega) dX2_greatestOff_42 rfl ?_
          refine x_istore (q := 47) (lv' := [(5, .int (ii (if g < if 0 ≤ ((t) * (s0)) - (k) then ((t) * (s0)) - (k) else -(((t) * (s0)) - (k)) then if 0 ≤ ((t) * (s0)) - (k) then ((t) * (s0)) - (k) else -(((t) * (s0)) - (k)) else g))), (0, .ref (ad (13 + i))), (1, .int (ii (v))), (2, .int (ii (s0))), (3, .int (ii (n0))), (4, .int (ii (t))), (6, .int (ii (k)))]) E dX2_greatestOff_45 (by decide) rfl rfl ?_
          refine x_iinc (q := 50) (k := 6) (lv' := [(6, .int (ii (k + 1))), (5, .int (ii (if g < if 0 ≤ ((t) * (s0)) - (k) then ((t) * (s0)) - (k) else -(((t) * (s0)) - (k)) then if 0 ≤ ((t) * (s0)) - (k) then ((t) * (s0)) - (k) else -(((t) * (s0)) - (k)) else g))), (0, .ref (ad (13 + i))), (1, .int (ii (v))), (2, .int (ii (s0))), (3, .int (ii (n0))), (4, .int (ii (t)))]) E dX2_greatestOff_47 rfl (by decide) rfl rfl ?_
          refine x_goto (tgt := 9) E dX2_greatestOff_50 (by decide) ?_
          refine x_lv E (lv' := [(0, .ref (ad (13 + i))), (1, .int (ii (v))), (2, .int (ii (s0))), (3, .int (ii (n0))), (4, .int (ii (t))), (5, .int (ii (if g < if 0 ≤ ((t) * (s0)) - (k) then ((t) * (s0)) - (k) else -(((t) * (s0)) - (k)) then if 0 ≤ ((t) * (s0)) - (k) then ((t) * (s0)) - (k) else -(((t) * (s0)) - (k)) else g))), (6, .int (ii (k + 1)))]) [2, 3, 4, 5, 6, 1, 0] rfl ?_
          exact ih9 (t) (if g < if 0 ≤ ((t) * (s0)) - (k) then ((t) * (s0)) - (k) else -(((t) * (s0)) - (k)) then if 0 ≤ ((t) * (s0)) - (k) then ((t) * (s0)) - (k) else -(((t) * (s0)) - (k)) else g) (k + 1) (by omega) (by omega) (by rw [show k + 1 - 1 = k from by omega, e6]) (by rw [show k + 1 - 1 = k from by omega, e7]; rfl) (by split <;> split <;> omega)
        · have e6 : cntv (st.2 (5 + i)) v k = t + 1 := by
            have := cntv_s (st.2 (5 + i)) v (n := k - 1) (by omega)
            rw [show k - 1 + 1 = k from by omega, ← a2, if_pos (by rw [← e1]; exact Classical.byContradiction c24)] at this; omega
          have e7 := ofn_s (st.2 (5 + i)) v s0 (k := k - 1) (by omega)
          rw [show k - 1 + 1 = k from by omega, e6, ← a3] at e7
          refine x_iinc (q := 30) (k := 4) (lv' := [(4, .int (ii (t + 1))), (0, .ref (ad (13 + i))), (1, .int (ii (v))), (2, .int (ii (s0))), (3, .int (ii (n0))), (5, .int (ii (g))), (6, .int (ii (k)))]) E dX2_greatestOff_27 rfl (by decide) rfl rfl ?_
          refine x_iload (q := 32) E dX2_greatestOff_30 5 rfl rfl ?_
          refine x_iload (q := 34) E dX2_greatestOff_32 0 rfl rfl ?_
          refine x_iload_n (q := 35) E dX2_greatestOff_34 3 rfl rfl ?_
          refine x_imul (q := 36) E dX2_greatestOff_35 rfl ?_
          refine x_iload (q := 38) E dX2_greatestOff_36 6 rfl rfl ?_
          refine x_isub (q := 39) E dX2_greatestOff_38 rfl ?_
          refine x_abs (q := 42) E (by decide +kernel) (by decide +kernel) (by decide +kernel) (by decide +kernel) (Nat.le_of_ble_eq_true rfl) (Nat.le_of_ble_eq_true rfl) (by omega) dX2_greatestOff_39 rfl ?_
          refine x_max (q := 45) E (by decide +kernel) (by decide +kernel) (by decide +kernel) (by decide +kernel) (Nat.le_of_ble_eq_true rfl) (Nat.le_of_ble_eq_true rfl) (by omega) (by omega) dX2_greatestOff_42 rfl ?_
          refine x_istore (q := 47) (lv' := [(5, .int (ii (if g < if 0 ≤ ((t + 1) * (s0)) - (k) then ((t + 1) * (s0)) - (k) else -(((t + 1) * (s0)) - (k)) then if 0 ≤ ((t + 1) * (s0)) - (k) then ((t + 1) * (s0)) - (k) else -(((t + 1) * (s0)) - (k)) else g))), (4, .int (ii (t + 1))), (0, .ref (ad (13 + i))), (1, .int (ii (v))), (2, .int (ii (s0))), (3, .int (ii (n0))), (6, .int (ii (k)))]) E dX2_greatestOff_45 (by decide) rfl rfl ?_
          refine x_iinc (q := 50) (k := 6) (lv' := [(6, .int (ii (k + 1))), (5, .int (ii (if g < if 0 ≤ ((t + 1) * (s0)) - (k) then ((t + 1) * (s0)) - (k) else -(((t + 1) * (s0)) - (k)) then if 0 ≤ ((t + 1) * (s0)) - (k) then ((t + 1) * (s0)) - (k) else -(((t + 1) * (s0)) - (k)) else g))), (4, .int (ii (t + 1))), (0, .ref (ad (13 + i))), (1, .int (ii (v))), (2, .int (ii (s0))), (3, .int (ii (n0)))]) E dX2_greatestOff_47 rfl (by decide) rfl rfl ?_
          refine x_goto (tgt := 9) E dX2_greatestOff_50 (by decide) ?_
          refine x_lv E (lv' := [(0, .ref (ad (13 + i))), (1, .int (ii (v))), (2, .int (ii (s0))), (3, .int (ii (n0))), (4, .int (ii (t + 1))), (5, .int (ii (if g < if 0 ≤ ((t + 1) * (s0)) - (k) then ((t + 1) * (s0)) - (k) else -(((t + 1) * (s0)) - (k)) then if 0 ≤ ((t + 1) * (s0)) - (k) then ((t + 1) * (s0)) - (k) else -(((t + 1) * (s0)) - (k)) else g))), (6, .int (ii (k + 1)))]) [3, 4, 5, 6, 2, 1, 0] rfl ?_
          exact ih9 (t + 1) (if g < if 0 ≤ ((t + 1) * (s0)) - (k) then ((t + 1) * (s0)) - (k) else -(((t + 1) * (s0)) - (k)) then if 0 ≤ ((t + 1) * (s0)) - (k) then ((t + 1) * (s0)) - (k) else -(((t + 1) * (s0)) - (k)) else g) (k + 1) (by omega) (by omega) (by rw [show k + 1 - 1 = k from by omega, e6]) (by rw [show k + 1 - 1 = k from by omega, e7]; rfl) (by split <;> split <;> omega)
  refine x_lv E (lv' := [(0, .ref (ad (13 + i))), (1, .int (ii (v))), (2, .int (ii (s0))), (3, .int (ii (n0))), (4, .int (ii (0))), (5, .int (ii (0))), (6, .int (ii (1)))]) [3, 4, 5, 6, 2, 1, 0] rfl ?_
  exact L9 _ (0) (0) (1) (Nat.lt_succ_self _) (by omega) (rfl) ((ofn_0 _ _ _).symm) (by omega)

set_option maxRecDepth 100000 in
set_option maxHeartbeats 4000000 in
theorem c_X2_holds (l : Launch) (D : va_G) (T : Nat → ClassId) (ad : Nat → Nat) (hN : ∀ i j, i < 33 → j < 33 → ad i = ad j → i = j) (st : St_) (i : Nat) (hi : i < 3) (w : Nat) (hw : w < 3) (k0 : Int) (bk0 : -2147483648 ≤ k0 ∧ k0 < 2147483648) (hm : 0 ≤ st.1 (7 + i) ∧ st.1 (7 + i) ≤ 100001) (hfb : ∀ k : Int, 0 ≤ k → k < st.1 (7 + i) → 1 ≤ st.2 (5 + i) k ∧ st.2 (5 + i) k ≤ 6) (hs : 0 ≤ st.1 (10 + w) ∧ st.1 (10 + w) ≤ 60) (hb : ∀ j : Int, 0 ≤ j → j < 60 → 0 ≤ st.2 (14 + w) j ∧ st.2 (14 + w) j ≤ 60) (hk : 0 ≤ k0 ∧ k0 + st.1 (10 + w) ≤ st.1 (7 + i)) : CXi l yX2_holds wsX2_holds (rmX 1 21) [.ref (ad (13 + i)), .ref (ad (25 + w)), .int (ii (k0))] D (tyX T) (XW T ad) (alX ad) st (fun z st2 => st = st2 ∧ ((z = 1 ∧ ∀ j : Int, 0 ≤ j → j < st.1 (10 + w) → st.2 (5 + i) (k0 + j) = st.2 (14 + w) j) ∨ (z = 0 ∧ ∃ j : Int, 0 ≤ j ∧ j < st.1 (10 + w) ∧ st.2 (5 + i) (k0 + j) ≠ st.2 (14 + w) j))) := by
  refine mk_z (cc := cX2_holds) (nL := 4) rfl rfl (XW_ok hN) (Nat.le_of_ble_eq_true rfl) [(0, .ref (ad (13 + i))), (1, .ref (ad (25 + w))), (2, .int (ii (k0)))] rfl (fun p e s m args below meth c A Q E RET => ?_)
  refine x_iconst (q := 1) E dX2_holds_0 rfl ?_
  refine x_istore_n (q := 2) (lv' := [(3, .int (ii (0))), (0, .ref (ad (13 + i))), (1, .ref (ad (25 + w))), (2, .int (ii (k0)))]) E dX2_holds_1 (by decide) rfl rfl ?_
  have L2 : ∀ (n : Nat) (j : Int), (st.1 (10 + w) - j).toNat < n → (0 ≤ j ∧ j ≤ st.1 (10 + w)) → (∀ t : Int, 0 ≤ t → t < j → st.2 (5 + i) (k0 + t) = st.2 (14 + w) t) → XJ p l e (rmX 1 21) s m args below meth c D (XW T ad) A 4 Q 0 0 st 2 [(0, .ref (ad (13 + i))), (1, .ref (ad (25 + w))), (2, .int (ii (k0))), (3, .int (ii (j)))] [] := by
    intro n
    induction n with
    | zero => intro j hn; exact absurd hn (Nat.not_lt_zero _)
    | succ n ih2 =>
      intro j hn2 a1 a2
      refine x_iload_n (q := 3) E dX2_holds_2 3 rfl rfl ?_
      refine x_aload_n (q := 4) E dX2_holds_3 1 rfl rfl ?_
      refine x_callVi (q := 7) (n := 0) (As := []) (r := [.int (ii (j))]) E (c_X4_size l D T ad hN st (w) hw) gX2_holds_X4_size rfl rfl rfl (by decide +kernel) ⟨Nat.le_of_ble_eq_true rfl, Nat.le_of_ble_eq_true rfl⟩ (25 + w) (xg_word hw) rfl rfl rfl (Nat.le_of_ble_eq_true rfl) dX2_holds_4 rfl (fun z1 s2 q3 => ?_)
      obtain ⟨rfl, rfl⟩ := q3
      refine x_icmp_ge (tgt := 33) (q := 10) E dX2_holds_7 (by decide) rfl (by omega) (by omega) (fun c7 => ?_) (fun c7 => ?_)
      · refine x_iconst (q := 34) E dX2_holds_33 rfl ?_
        exact RET _ _ _ _ dX2_holds_34 (by omega) (⟨rfl, Or.inl ⟨rfl, fun t h0 h1 => a2 t h0 (by omega)⟩⟩)
      · have e1 : nat_ st i (k0 + j) = st.2 (5 + i) (k0 + j) := nat_in (by omega) (by omega) (by omega)
        have e2 : wat st w j = st.2 (14 + w) j := wat_in (by omega) (by omega) (by omega)
        have e3 := hfb (k0 + j) (by omega) (by omega)
        have e4 := hb j (by omega) (by omega)
        refine x_aload_n (q := 11) E dX2_holds_10 0 rfl rfl ?_
        refine x_iload_n (q := 12) E dX2_holds_11 2 rfl rfl ?_
        refine x_iload_n (q := 13) E dX2_holds_12 3 rfl rfl ?_
        refine x_iadd (q := 14) E dX2_holds_13 rfl ?_
        refine x_callVi (q := 17) (n := 1) (As := [.int (ii ((k0) + (j)))]) (r := []) E (c_X2_number l D T ad hN st (i) hi ((k0) + (j)) (by omega) (by omega)) gX2_holds_X2_number rfl rfl rfl (by decide +kernel) ⟨Nat.le_of_ble_eq_true rfl, Nat.le_of_ble_eq_true rfl⟩ (13 + i) (xg_row hi) rfl rfl rfl (Nat.le_of_ble_eq_true rfl) dX2_holds_14 rfl (fun z4 s5 q6 => ?_)
        obtain ⟨rfl, rfl⟩ := q6
        refine x_aload_n (q := 18) E dX2_holds_17 1 rfl rfl ?_
        refine x_iload_n (q := 19) E dX2_holds_18 3 rfl rfl ?_
        refine x_callVi (q := 22) (n := 1) (As := [.int (ii (j))]) (r := [.int (ii (nat_ st i ((k0) + (j))))]) E (c_X4_letterAt l D T ad hN st (w) hw (j) (by omega) (by omega)) gX2_holds_X4_letterAt rfl rfl rfl (by decide +kernel) ⟨Nat.le_of_ble_eq_true rfl, Nat.le_of_ble_eq_true rfl⟩ (25 + w) (xg_word hw) rfl rfl rfl (Nat.le_of_ble_eq_true rfl) dX2_holds_19 rfl (fun z7 s8 q9 => ?_)
        obtain ⟨rfl, rfl⟩ := q9
        refine x_icmp_eq (tgt := 27) (q := 25) E dX2_holds_22 (by decide) rfl (by omega) (by omega) (fun c22 => ?_) (fun c22 => ?_)
        · refine x_iinc (q := 30) (k := 3) (lv' := [(3, .int (ii (j + 1))), (0, .ref (ad (13 + i))), (1, .ref (ad (25 + w))), (2, .int (ii (k0)))]) E dX2_holds_27 rfl (by decide) rfl rfl ?_
          refine x_goto (tgt := 2) E dX2_holds_30 (by decide) ?_
          refine x_lv E (lv' := [(0, .ref (ad (13 + i))), (1, .ref (ad (25 + w))), (2, .int (ii (k0))), (3, .int (ii (j + 1)))]) [1, 2, 3, 0] rfl ?_
          exact ih2 (j + 1) (by omega) (by omega) (fun t h0 h1 => if ht : t = j then (by rw [ht, ← e1, ← e2]; exact c22) else a2 t h0 (by omega))
        · refine x_iconst (q := 26) E dX2_holds_25 rfl ?_
          exact RET _ _ _ _ dX2_holds_26 (by omega) (⟨rfl, Or.inr ⟨rfl, j, by omega, by omega, by rw [← e1, ← e2]; exact c22⟩⟩)
  refine x_lv E (lv' := [(0, .ref (ad (13 + i))), (1, .ref (ad (25 + w))), (2, .int (ii (k0))), (3, .int (ii (0)))]) [1, 2, 3, 0] rfl ?_
  exact L2 _ (0) (Nat.lt_succ_self _) (by omega) (fun t h0 h1 => absurd h1 (by omega))

theorem iX2_putRun_X2 : ∀ w ∈ wsX20, w ∈ wsX2_putRun := by decide +kernel
set_option maxRecDepth 100000 in
set_option maxHeartbeats 4000000 in
theorem c_X2_putRun (l : Launch) (D : va_G) (T : Nat → ClassId) (ad : Nat → Nat) (hN : ∀ i j, i < 33 → j < 33 → ad i = ad j → i = j) (st : St_) (i : Nat) (hi : i < 3) (v : Int) (bv : -2147483648 ≤ v ∧ v < 2147483648) (t : Int) (bt : -2147483648 ≤ t ∧ t < 2147483648) (hm : 0 ≤ st.1 (7 + i) ∧ st.1 (7 + i) < 100001) (hv : 1 ≤ v ∧ v ≤ 6) (ht : 0 ≤ t ∧ t ≤ 6) (S : Int → Int) (R : Int) (hRS : RS S (st.2 (5 + i)) (st.2 (8 + i)) (st.2 (11 + i)) (st.1 (7 + i)) R) (hS : ∀ k : Int, st.1 (7 + i) ≤ k → k < st.1 (7 + i) + t → S k = v) (hc : ∀ x : Int, st.1 (7 + i) < x → x ≤ st.1 (7 + i) + t → chg S x = R + 1) : CXv l yX2_putRun wsX2_putRun (rmX 1 22) [.ref (ad (13 + i)), .int (ii (v)), .int (ii (t))] D (tyX T) (XW T ad) (alX ad) st (fun st2 => ∃ (m1 : Int) (f k1 h : Int → Int), st2 = sF (sF (sF (sG st (7 + i) m1) (11 + i) h) (5 + i) f) (8 + i) k1 ∧ RS S f k1 h m1 (R + 1) ∧ m1 = (if st.1 (7 + i) + t ≤ 100001 then st.1 (7 + i) + t else 100001)) := by
  refine mk_v (cc := cX2_putRun) (nL := 4) rfl rfl (XW_ok hN) (Nat.le_of_ble_eq_true rfl) [(0, .ref (ad (13 + i))), (1, .int (ii (v))), (2, .int (ii (t)))] rfl (fun p e s m args below meth c A Q E RET => ?_)
  refine x_iload_n (q := 1) E dX2_putRun_0 1 rfl rfl ?_
  refine x_callSNi (q := 4) (n := 1) (As := [.int (ii (v))]) (r := []) E (c_X5_isLetter l D T ad hN st (v) (by omega)) gX2_putRun_X5_isLetter_n27 rfl rfl rfl E.nw.2.1 (by decide +kernel) (by decide +kernel) (by decide +kernel) ⟨Nat.le_of_ble_eq_true rfl, Nat.le_of_ble_eq_true rfl⟩ rfl rfl (Nat.le_of_ble_eq_true rfl) dX2_putRun_1 rfl (fun z1 s2 q3 => ?_)
  obtain ⟨rfl, rfl⟩ := q3
  refine x_if_eq (tgt := 28) (q := 7) E dX2_putRun_4 (by decide) rfl (by omega) (fun c4 => ?_) (fun c4 => ?_)
  · exfalso; omega
  · refine x_iload_n (q := 8) E dX2_putRun_7 1 rfl rfl ?_
    refine x_aload_n (q := 9) E dX2_putRun_8 0 rfl rfl ?_
    refine x_get (q := 12) E iX2_putRun_X2 (13 + i) (xg_row hi) rfl 2 (by decide) (by decide +kernel) rfl dX2_putRun_9 rfl ?_
    refine x_alen (q := 13) E (22 + i) (xg_cnt hi) 0 rfl dX2_putRun_12 rfl ?_
    refine x_ti (show (((7 : Nat) : Int)) = 7 from rfl) ?_
    refine x_icmp_ge (tgt := 28) (q := 16) E dX2_putRun_13 (by decide) rfl (by omega) (by omega) (fun c13 => ?_) (fun c13 => ?_)
    · exfalso; omega
    · refine x_aload_n (q := 17) E dX2_putRun_16 0 rfl rfl ?_
      refine x_get (q := 20) E iX2_putRun_X2 (13 + i) (xg_row hi) rfl 3 (by decide) (by decide +kernel) rfl dX2_putRun_17 rfl ?_
      refine x_aload_n (q := 21) E dX2_putRun_20 0 rfl rfl ?_
      refine x_get (q := 24) E iX2_putRun_X2 (13 + i) (xg_row hi) rfl 0 (by decide) (by decide +kernel) rfl dX2_putRun_21 rfl ?_
      refine x_alen (q := 25) E (16 + i) (xg_num hi) 1 rfl dX2_putRun_24 rfl ?_
      refine x_ti (show (((100001 : Nat) : Int)) = 100001 from rfl) ?_
      refine x_icmp_lt (tgt := 29) (q := 28) E dX2_putRun_25 (by decide) rfl (by omega) (by omega) (fun c25 => ?_) (fun c25 => ?_)
      · refine x_aload_n (q := 30) E dX2_putRun_29 0 rfl rfl ?_
        refine x_get (q := 33) E iX2_putRun_X2 (13 + i) (xg_row hi) rfl 2 (by decide) (by decide +kernel) rfl dX2_putRun_30 rfl ?_
        refine x_iconst (q := 34) E dX2_putRun_33 rfl ?_
        refine x_dup2 (q := 35) E dX2_putRun_34 rfl rfl rfl ?_
        refine x_iald (q := 36) (f := st.2 (11 + i)) E (22 + i) (xg_cnt hi) 0 rfl (by omega) (by omega) (by decide) dX2_putRun_35 rfl ?_
        refine x_iconst (q := 37) E dX2_putRun_36 rfl ?_
        refine x_iadd (q := 38) E dX2_putRun_37 rfl ?_
        refine x_iast (q := 39) (st' := (sA st (11 + i) (0) ((st.2 (11 + i) (0)) + (1)))) (f := st.2 (11 + i)) E (22 + i) (xg_cnt hi) 0 rfl (by omega) (by omega) (by decide) dX2_putRun_38 (xs_cnt hi _ _) rfl ?_
        refine x_iconst (q := 40) E dX2_putRun_39 rfl ?_
        refine x_istore_n (q := 41) (lv' := [(3, .int (ii (0))), (0, .ref (ad (13 + i))), (1, .int (ii (v))), (2, .int (ii (t)))]) E dX2_putRun_40 (by decide) rfl rfl ?_
        have L41 : ∀ (n : Nat) (j : Int) (m1 : Int) (h1 : Int → Int) (f1 : Int → Int) (k1 : Int → Int), (t - j).toNat < n → (0 ≤ j ∧ j ≤ t) → (m1 = st.1 (7 + i) + j ∧ m1 ≤ 100001) → (∀ k : Int, 0 ≤ k → k < m1 → f1 k = S k) → (h1 0 = R + 1) → (∀ u : Int, 1 ≤ u → u ≤ 6 → h1 u = cntv S u m1) → (KP S k1 m1) → XJ p l e (rmX 1 22) s m args below meth c D (XW T ad) A 4 Q 0 0 (sF (sF (sF (sG st (7 + i) (m1)) (11 + i) (h1)) (5 + i) (f1)) (8 + i) (k1)) 41 [(0, .ref (ad (13 + i))), (1, .int (ii (v))), (2, .int (ii (t))), (3, .int (ii (j)))] [] := by
          intro n
          induction n with
          | zero => intro j m1 h1 f1 k1 hn; exact absurd hn (Nat.not_lt_zero _)
          | succ n ih41 =>
            intro j m1 h1 f1 k1 hn41 a1 a2 a3 a4 a5 a6
            refine x_iload_n (q := 42) E dX2_putRun_41 3 rfl rfl ?_
            refine x_iload_n (q := 43) E dX2_putRun_42 2 rfl rfl ?_
            refine x_icmp_ge (tgt := 110) (q := 46) E dX2_putRun_43 (by decide) rfl (by omega) (by omega) (fun c43 => ?_) (fun c43 => ?_)
            · exact RET _ _ _ dX2_putRun_110 (⟨m1, f1, k1, h1, rfl, ⟨by omega, a4, a3, a5, a6⟩, by split <;> omega⟩)
            · refine x_aload_n (q := 47) E dX2_putRun_46 0 rfl rfl ?_
              refine x_get (q := 50) E iX2_putRun_X2 (13 + i) (xg_row hi) rfl 3 (by decide) (by decide +kernel) rfl dX2_putRun_47 rfl ?_
              refine x_ti (show (sF (sF (sF (sG st (7 + i) (m1)) (11 + i) (h1)) (5 + i) (f1)) (8 + i) (k1)).1 (7 + i) = m1 by rw [sF_1, sF_1, sF_1, sG_s]) ?_
              refine x_aload_n (q := 51) E dX2_putRun_50 0 rfl rfl ?_
              refine x_get (q := 54) E iX2_putRun_X2 (13 + i) (xg_row hi) rfl 0 (by decide) (by decide +kernel) rfl dX2_putRun_51 rfl ?_
              refine x_alen (q := 55) E (16 + i) (xg_num hi) 1 rfl dX2_putRun_54 rfl ?_
              refine x_ti (show (((100001 : Nat) : Int)) = 100001 from rfl) ?_
              refine x_icmp_ge (tgt := 110) (q := 58) E dX2_putRun_55 (by decide) rfl (by omega) (by omega) (fun c55 => ?_) (fun c55 => ?_)
              · exact RET _ _ _ dX2_putRun_110 (⟨m1, f1, k1, h1, rfl, ⟨by omega, a4, a3, a5, a6⟩, by split <;> omega⟩)
              · have e1 : S m1 = v := hS m1 (by omega) (by omega)
                have e2 : ∀ u : Int, 1 ≤ u → u ≤ 6 → zup (h1) (v) ((h1 (v)) + (1)) u = cntv S u (m1 + 1) := fun u h0 h2 => if hu : u = v then (by rw [hu, zup_eq, cntv_s _ _ (by omega), if_pos e1, a5 v (by omega) (by omega)]) else (by rw [zup_ne _ _ hu, cntv_s _ _ (by omega), if_neg (by rw [e1]; exact fun z => hu z.symm), a5 u h0 h2]; omega)
                have e3 : ∀ k : Int, 0 ≤ k → k < m1 + 1 → zup (f1) (m1) (v) k = S k := fun k h0 h2 => if hk : k = m1 then (by rw [hk, zup_eq, e1]) else (by rw [zup_ne _ _ hk]; exact a3 k h0 (by omega))
                have e4 : zup (h1) (v) ((h1 (v)) + (1)) 0 = R + 1 := by rw [zup_ne _ _ (by omega)]; exact a4
                refine x_aload_n (q := 59) E dX2_putRun_58 0 rfl rfl ?_
                refine x_get (q := 62) E iX2_putRun_X2 (13 + i) (xg_row hi) rfl 0 (by decide) (by decide +kernel) rfl dX2_putRun_59 rfl ?_
                refine x_aload_n (q := 63) E dX2_putRun_62 0 rfl rfl ?_
                refine x_get (q := 66) E iX2_putRun_X2 (13 + i) (xg_row hi) rfl 3 (by decide) (by decide +kernel) rfl dX2_putRun_63 rfl ?_
                refine x_ti (show (sF (sF (sF (sG st (7 + i) (m1)) (11 + i) (h1)) (5 + i) (f1)) (8 + i) (k1)).1 (7 + i) = m1 by rw [sF_1, sF_1, sF_1, sG_s]) ?_
                refine x_iload_n (q := 67) E dX2_putRun_66 1 rfl rfl ?_
                refine x_i2b (q := 68) E dX2_putRun_67 (by omega) (by omega) rfl ?_
                refine x_bast (q := 69) (st' := (sA (sF (sF (sF (sG st (7 + i) (m1)) (11 + i) (h1)) (5 + i) (f1)) (8 + i) (k1)) (5 + i) (m1) (v))) (f := (sF (sF (sF (sG st (7 + i) (m1)) (11 + i) (h1)) (5 + i) (f1)) (8 + i) (k1)).2 (5 + i)) E (16 + i) (xg_num hi) 1 rfl (by omega) (by omega) (by decide) (by omega) (by omega) dX2_putRun_68 (xs_num hi _ _) rfl ?_
                refine x_aload_n (q := 70) E dX2_putRun_69 0 rfl rfl ?_
                refine x_get (q := 73) E iX2_putRun_X2 (13 + i) (xg_row hi) rfl 2 (by decide) (by decide +kernel) rfl dX2_putRun_70 rfl ?_
                refine x_iload_n (q := 74) E dX2_putRun_73 1 rfl rfl ?_
                refine x_dup2 (q := 75) E dX2_putRun_74 rfl rfl rfl ?_
                refine x_iald (q := 76) (f := (sA (sF (sF (sF (sG st (7 + i) (m1)) (11 + i) (h1)) (5 + i) (f1)) (8 + i) (k1)) (5 + i) (m1) (v)).2 (11 + i)) E (22 + i) (xg_cnt hi) 0 rfl (by omega) (by omega) (by decide) dX2_putRun_75 rfl ?_
                refine x_ti (show (sA (sF (sF (sF (sG st (7 + i) (m1)) (11 + i) (h1)) (5 + i) (f1)) (8 + i) (k1)) (5 + i) (m1) (v)).2 (11 + i) (v) = h1 (v) by rw [sA_n _ _ _ (by omega), sF_n _ _ (by omega), sF_n _ _ (by omega), sF_s]) ?_
                refine x_iconst (q := 77) E dX2_putRun_76 rfl ?_
                refine x_iadd (q := 78) E dX2_putRun_77 rfl ?_
                refine x_iast (q := 79) (st' := (sA (sA (sF (sF (sF (sG st (7 + i) (m1)) (11 + i) (h1)) (5 + i) (f1)) (8 + i) (k1)) (5 + i) (m1) (v)) (11 + i) (v) ((h1 (v)) + (1)))) (f := (sA (sF (sF (sF (sG st (7 + i) (m1)) (11 + i) (h1)) (5 + i) (f1)) (8 + i) (k1)) (5 + i) (m1) (v)).2 (11 + i)) E (22 + i) (xg_cnt hi) 0 rfl (by omega) (by omega) (by decide) dX2_putRun_78 (xs_cnt hi _ _) rfl ?_
                refine x_aload_n (q := 80) E dX2_putRun_79 0 rfl rfl ?_
                refine x_dup (q := 81) E dX2_putRun_80 rfl rfl ?_
                refine x_get (q := 84) E iX2_putRun_X2 (13 + i) (xg_row hi) rfl 3 (by decide) (by decide +kernel) rfl dX2_putRun_81 rfl ?_
                refine x_ti (show (sA (sA (sF (sF (sF (sG st (7 + i) (m1)) (11 + i) (h1)) (5 + i) (f1)) (8 + i) (k1)) (5 + i) (m1) (v)) (11 + i) (v) ((h1 (v)) + (1))).1 (7 + i) = m1 by rw [sA_1, sA_1, sF_1, sF_1, sF_1, sG_s]) ?_
                refine x_iconst (q := 85) E dX2_putRun_84 rfl ?_
                refine x_iadd (q := 86) E dX2_putRun_85 rfl ?_
                refine x_put (q := 89) (st' := (sG (sA (sA (sF (sF (sF (sG st (7 + i) (m1)) (11 + i) (h1)) (5 + i) (f1)) (8 + i) (k1)) (5 + i) (m1) (v)) (11 + i) (v) ((h1 (v)) + (1))) (7 + i) ((m1) + (1)))) (v := .int (ii ((m1) + (1)))) (ty := .int) E iX2_putRun_X2 tyX2 tyX2_ok nmX2 (13 + i) (xg_row hi) rfl 3 (by decide) (by decide +kernel) rfl (by decide +kernel) rfl rfl (Nat.le_of_ble_eq_true rfl) dX2_putRun_86 (xs_row hi _) rfl ?_
                refine x_aload_n (q := 90) E dX2_putRun_89 0 rfl rfl ?_
                refine x_get (q := 93) E iX2_putRun_X2 (13 + i) (xg_row hi) rfl 3 (by decide) (by decide +kernel) rfl dX2_putRun_90 rfl ?_
                refine x_ti (show (sG (sA (sA (sF (sF (sF (sG st (7 + i) (m1)) (11 + i) (h1)) (5 + i) (f1)) (8 + i) (k1)) (5 + i) (m1) (v)) (11 + i) (v) ((h1 (v)) + (1))) (7 + i) ((m1) + (1))).1 (7 + i) = (m1) + (1) by rw [sG_s]) ?_
                refine x_sipush (q := 96) E dX2_putRun_93 (by decide) rfl ?_
                refine x_irem (q := 97) E dX2_putRun_96 (by omega) (by omega) (by omega) (by omega) rfl ?_
                refine x_if_ne (tgt := 104) (q := 100) E dX2_putRun_97 (by decide) rfl (by omega) (fun c97 => ?_) (fun c97 => ?_)
                · refine x_iinc (q := 107) (k := 3) (lv' := [(3, .int (ii (j + 1))), (0, .ref (ad (13 + i))), (1, .int (ii (v))), (2, .int (ii (t)))]) E dX2_putRun_104 rfl (by decide) rfl rfl ?_
                  refine x_goto (tgt := 41) E dX2_putRun_107 (by decide) ?_
                  refine x_st E (st' := (sF (sF (sF (sG st (7 + i) ((m1) + (1))) (11 + i) (zup (h1) (v) ((h1 (v)) + (1)))) (5 + i) (zup (f1) (m1) (v))) (8 + i) (k1))) (by refine Prod.ext (funext fun k9 => ?_) (funext fun q9 => ?_) <;> simp only [sG_1, sG_2, sA_1, sA_2, sF_1, sF_2, reduceIte] <;> (repeat' split) <;> first | rfl | omega | (subst_vars; first | rfl | omega) | simp_all) ?_
                  refine x_lv E (lv' := [(0, .ref (ad (13 + i))), (1, .int (ii (v))), (2, .int (ii (t))), (3, .int (ii (j + 1)))]) [1, 2, 3, 0] rfl ?_
                  exact ih41 (j + 1) ((m1) + (1)) (zup (h1) (v) ((h1 (v)) + (1))) (zup (f1) (m1) (v)) (k1) (by omega) (by omega) (by omega) (e3) (e4) (e2) (KP_n (by rw [show m1 + 1 - 1 = m1 from by omega]; exact a6) c97)
                · refine x_aload_n (q := 101) E dX2_putRun_100 0 rfl rfl ?_
                  refine x_callVv (q := 104) (n := 0) (As := []) (r := []) E (c_X2_keepCounts l D T ad hN (sG (sA (sA (sF (sF (sF (sG st (7 + i) (m1)) (11 + i) (h1)) (5 + i) (f1)) (8 + i) (k1)) (5 + i) (m1) (v)) (11 + i) (v) ((h1 (v)) + (1))) (7 + i) ((m1) + (1))) (i) hi (by rw [sG_s]; omega)) gX2_putRun_X2_keepCounts rfl rfl rfl (by decide +kernel) ⟨Nat.le_of_ble_eq_true rfl, Nat.le_of_ble_eq_true rfl⟩ (13 + i) (xg_row hi) rfl rfl rfl (Nat.le_of_ble_eq_true rfl) dX2_putRun_101 rfl (fun s5 q6 => ?_)
                  obtain ⟨g7, rfl, h18, h29⟩ := q6
                  have r1 : (sG (sA (sA (sF (sF (sF (sG st (7 + i) (m1)) (11 + i) (h1)) (5 + i) (f1)) (8 + i) (k1)) (5 + i) (m1) (v)) (11 + i) (v) ((h1 (v)) + (1))) (7 + i) ((m1) + (1))).1 (7 + i) = (m1) + (1) := by rw [sG_s]
                  have r2 : (sG (sA (sA (sF (sF (sF (sG st (7 + i) (m1)) (11 + i) (h1)) (5 + i) (f1)) (8 + i) (k1)) (5 + i) (m1) (v)) (11 + i) (v) ((h1 (v)) + (1))) (7 + i) ((m1) + (1))).2 (11 + i) = zup (h1) (v) ((h1 (v)) + (1)) := by rw [sG_2, sA_s, sA_n _ _ _ (by omega), sF_n _ _ (by omega), sF_n _ _ (by omega), sF_s]
                  have r3 : (sG (sA (sA (sF (sF (sF (sG st (7 + i) (m1)) (11 + i) (h1)) (5 + i) (f1)) (8 + i) (k1)) (5 + i) (m1) (v)) (11 + i) (v) ((h1 (v)) + (1))) (7 + i) ((m1) + (1))).2 (8 + i) = k1 := by rw [sG_2, sA_n _ _ _ (by omega), sA_n _ _ _ (by omega), sF_s]
                  have d1 := h18
                  have d2 := h29
                  rw [r1, r2] at d1
                  rw [r1, r3] at d2
                  refine x_iinc (q := 107) (k := 3) (lv' := [(3, .int (ii (j + 1))), (0, .ref (ad (13 + i))), (1, .int (ii (v))), (2, .int (ii (t)))]) E dX2_putRun_104 rfl (by decide) rfl rfl ?_
                  refine x_goto (tgt := 41) E dX2_putRun_107 (by decide) ?_
                  refine x_st E (st' := (sF (sF (sF (sG st (7 + i) ((m1) + (1))) (11 + i) (zup (h1) (v) ((h1 (v)) + (1)))) (5 + i) (zup (f1) (m1) (v))) (8 + i) (g7))) (by refine Prod.ext (funext fun k9 => ?_) (funext fun q9 => ?_) <;> simp only [sG_1, sG_2, sA_1, sA_2, sF_1, sF_2, reduceIte] <;> (repeat' split) <;> first | rfl | omega | (subst_vars; first | rfl | omega) | simp_all) ?_
                  refine x_lv E (lv' := [(0, .ref (ad (13 + i))), (1, .int (ii (v))), (2, .int (ii (t))), (3, .int (ii (j + 1)))]) [1, 2, 3, 0] rfl ?_
                  exact ih41 (j + 1) ((m1) + (1)) (zup (h1) (v) ((h1 (v)) + (1))) (zup (f1) (m1) (v)) (g7) (by omega) (by omega) (by omega) (e3) (e4) (e2) (KP_s (by rw [show m1 + 1 - 1 = m1 from by omega]; exact a6) (by omega) (by omega) d1 d2 e2 (by rw [e4]; exact (hc (m1 + 1) (by omega) (by omega)).symm))
        refine x_lv E (lv' := [(0, .ref (ad (13 + i))), (1, .int (ii (v))), (2, .int (ii (t))), (3, .int (ii (0)))]) [1, 2, 3, 0] rfl ?_
        refine x_st E (st' := (sF (sF (sF (sG st (7 + i) (st.1 (7 + i))) (11 + i) (zup (st.2 (11 + i)) (0) ((st.2 (11 + i) (0)) + (1)))) (5 + i) (st.2 (5 + i))) (8 + i) (st.2 (8 + i)))) (by refine Prod.ext (funext fun k9 => ?_) (funext fun q9 => ?_) <;> simp only [sG_1, sG_2, sA_1, sA_2, sF_1, sF_2, reduceIte] <;> (repeat' split) <;> first | rfl | omega | (subst_vars; first | rfl | omega) | simp_all) ?_
        exact L41 _ (0) (st.1 (7 + i)) (zup (st.2 (11 + i)) (0) ((st.2 (11 + i) (0)) + (1))) (st.2 (5 + i)) (st.2 (8 + i)) (Nat.lt_succ_self _) (by omega) (by omega) (hRS.2.2.1) (by rw [zup_eq, hRS.2.1]) (fun u h0 h1 => by rw [zup_ne _ _ (by omega)]; exact hRS.2.2.2.1 u h0 h1) (hRS.2.2.2.2)
      · exfalso; omega

