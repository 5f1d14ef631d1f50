theorem iX5_take_X5 : ∀ w ∈ wsX50, w ∈ wsX5_take := by decide +kernel
set_option maxRecDepth 100000 in
set_option maxHeartbeats 4000000 in
theorem c_X5_take (l : Launch) (D : va_G) (T : Nat → ClassId) (ad : Nat → Nat) (hN : ∀ i j, i < 33 → j < 33 → ad i = ad j → i = j) (st : St_) (r : Nat) (hr : r < 3) (k : Int) (bk : -2147483648 ≤ k ∧ k < 2147483648) (n0 : Int) (bn0 : -2147483648 ≤ n0 ∧ n0 < 2147483648) (hrn : (r : Int) < st.1 2) (a : AB_) (hC : CI st a) : CXi l yX5_take wsX5_take (rmX 5 119) [.ref (ad 0), .int (ii ((r : Int))), .int (ii (k)), .int (ii (n0))] D (tyX T) (XW T ad) (alX ad) st (fun z st2 => z = (if (0 ≤ k ∧ k ≤ 100000) ∧ (0 ≤ n0 ∧ n0 ≤ 60) ∧ k + n0 ≤ 100001 then n0 else -102) ∧ CI st2 (if (0 ≤ k ∧ k ≤ 100000) ∧ (0 ≤ n0 ∧ n0 ≤ 60) ∧ k + n0 ≤ 100001 then (a.1, wl (fun j => (SQ (lta a) (nxn (a.1.1 0)) r) (k + j)) n0) else a)) := by
  refine mk_i (cc := cX5_take) (nL := 6) rfl rfl (XW_ok hN) (Nat.le_of_ble_eq_true rfl) [(0, .ref (ad 0)), (1, .int (ii ((r : Int)))), (2, .int (ii (k))), (3, .int (ii (n0)))] rfl (fun p e s m args below meth c A Q E RET => ?_)
  have k1 := hC.1
  have k2 := hC.2.1
  have k3 := hC.2.2.1
  have k4 := hC.2.2.2.1
  have k5 := hC.2.2.2.2.1
  have k6 := hC.2.2.2.2.2.1
  have k7 := hC.2.2.2.2.2.2.1
  have k8 := hC.2.2.2.2.2.2.2
  have hn := k7.2.1.1
  have w0 := (k6 0 (by omega)).1
  have wb0 := (k6 0 (by omega)).2
  have hL := hC.len
  have hf := hC.lf
  have hf6 := hC.let6
  refine x_aload_n (q := 1) E dX5_take_0 0 rfl rfl ?_
  refine x_get (q := 4) E iX5_take_X5 (0) rfl rfl 0 (by decide) (by decide +kernel) rfl dX5_take_1 rfl ?_
  refine x_iload_n (q := 5) E dX5_take_4 1 rfl rfl ?_
  refine x_callVi (q := 8) (n := 1) (As := [.int (ii ((r : Int)))]) (r := []) E (c_X1_hasRow l D T ad hN st ((r : Int)) (by omega) (hn)) gX5_take_X1_hasRow rfl rfl rfl (by decide +kernel) ⟨Nat.le_of_ble_eq_true rfl, Nat.le_of_ble_eq_true rfl⟩ (1) rfl rfl rfl rfl (Nat.le_of_ble_eq_true rfl) dX5_take_5 rfl (fun z1 s2 q3 => ?_)
  obtain ⟨rfl, rfl⟩ := q3
  refine x_if_ne (tgt := 14) (q := 11) E dX5_take_8 (by decide) rfl (by omega) (fun c8 => ?_) (fun c8 => ?_)
  · refine x_iload_n (q := 15) E dX5_take_14 2 rfl rfl ?_
    refine x_ldc (q := 17) (v := 100000) (z := 100000) E (by decide +kernel) (by decide) dX5_take_15 rfl ?_
    refine x_callSi (q := 20) (n := 2) (As := [.int (ii (k)), .int (ii (100000))]) (r := []) E (c_X5_isOutside l D T ad hN st (k) (by omega) (100000) (by omega)) gX5_take_X5_isOutside rfl rfl rfl (by decide +kernel) ⟨Nat.le_of_ble_eq_true rfl, Nat.le_of_ble_eq_true rfl⟩ rfl rfl (Nat.le_of_ble_eq_true rfl) dX5_take_17 rfl (fun z4 s5 q6 => ?_)
    obtain ⟨rfl, rfl⟩ := q6
    refine x_if_ne (tgt := 32) (q := 23) E dX5_take_20 (by decide) rfl (by omega) (fun c20 => ?_) (fun c20 => ?_)
    · refine x_bipush (q := 34) E dX5_take_32 (by decide) rfl ?_
      exact RET _ _ _ _ dX5_take_34 (⟨by rw [if_neg (by omega)], by rw [if_neg (by omega)]; exact hC⟩)
    · refine x_iload_n (q := 24) E dX5_take_23 3 rfl rfl ?_
      refine x_bipush (q := 26) E dX5_take_24 (by decide) rfl ?_
      refine x_callSi (q := 29) (n := 2) (As := [.int (ii (n0)), .int (ii (60))]) (r := []) E (c_X5_isOutside l D T ad hN st (n0) (by omega) (60) (by omega)) gX5_take_X5_isOutside rfl rfl rfl (by decide +kernel) ⟨Nat.le_of_ble_eq_true rfl, Nat.le_of_ble_eq_true rfl⟩ rfl rfl (Nat.le_of_ble_eq_true rfl) dX5_take_26 rfl (fun z7 s8 q9 => ?_)
      obtain ⟨rfl, rfl⟩ := q9
      refine x_if_eq (tgt := 35) (q := 32) E dX5_take_29 (by decide) rfl (by omega) (fun c29 => ?_) (fun c29 => ?_)
      · refine x_iload_n (q := 36) E dX5_take_35 2 rfl rfl ?_
        refine x_iload_n (q := 37) E dX5_take_36 3 rfl rfl ?_
        refine x_iadd (q := 38) E dX5_take_37 rfl ?_
        refine x_iconst (q := 39) E dX5_take_38 rfl ?_
        refine x_isub (q := 40) E dX5_take_39 rfl ?_
        refine x_ldc (q := 42) (v := 100000) (z := 100000) E (by decide +kernel) (by decide) dX5_take_40 rfl ?_
        refine x_icmp_le (tgt := 48) (q := 45) E dX5_take_42 (by decide) rfl (by omega) (by omega) (fun c42 => ?_) (fun c42 => ?_)
        · refine x_aload_n (q := 49) E dX5_take_48 0 rfl rfl ?_
          refine x_get (q := 52) E iX5_take_X5 (0) rfl rfl 0 (by decide) (by decide +kernel) rfl dX5_take_49 rfl ?_
          refine x_iload_n (q := 53) E dX5_take_52 1 rfl rfl ?_
          refine x_iload_n (q := 54) E dX5_take_53 2 rfl rfl ?_
          refine x_iload_n (q := 55) E dX5_take_54 3 rfl rfl ?_
          refine x_iadd (q := 56) E dX5_take_55 rfl ?_
          refine x_callVr (q := 59) (n := 2) (As := [.int (ii ((r : Int))), .int (ii ((k) + (n0)))]) (r := []) E (c_X1_rowOf l D T ad hN st r hr ((k) + (n0)) (by omega) (by omega) (by omega) (lta a) k7) gX5_take_X1_rowOf rfl rfl rfl (by decide +kernel) ⟨Nat.le_of_ble_eq_true rfl, Nat.le_of_ble_eq_true rfl⟩ (1) rfl rfl rfl rfl (Nat.le_of_ble_eq_true rfl) dX5_take_56 rfl (fun z10 s11 q12 => ?_)
          obtain ⟨rfl, h113, h214, h315⟩ := q12
          have g1 := h113
          have g2 := h214
          have g3 := h315
          have hC1 := CI_grw hC g2 g1
          have e0 : s11.1 2 = a.1.1 0 := hC1.1
          have hr1 : ((r : Nat) : Int) < s11.1 2 := by rw [e0, ← k1]; exact (by omega)
          have d1 := RI.b g1.1 g1.2.2.2.1 hr1
          have d2 := d1.1
          have d3 := d1.2.1
          have hSq : ∀ j : Int, 0 ≤ j → j < s11.1 (7 + r) → s11.2 (5 + r) j = SQ (lta a) (nxn (a.1.1 0)) (r) j := fun j j0 j1 => by rw [RI.num g1.2.2.2.1 hr1 j0 j1, e0]
          have hkp := RI.kp g1.2.2.2.1 hr1
          refine x_astore (q := 61) (lv' := [(4, .ref (ad (13 + r))), (0, .ref (ad 0)), (1, .int (ii ((r : Int)))), (2, .int (ii (k))), (3, .int (ii (n0)))]) E dX5_take_59 (by decide) rfl rfl ?_
          refine x_aload_n (q := 62) E dX5_take_61 1 rfl rfl ?_
          refine x_get (q := 65) E iX5_take_X5 (0) rfl rfl 1 (by decide) (by decide +kernel) rfl dX5_take_62 rfl ?_
          refine x_callVv (q := 68) (n := 0) (As := []) (r := []) E (c_X4_empty l D T ad hN s11 (0) (by decide)) gX5_take_X4_empty rfl rfl rfl (by decide +kernel) ⟨Nat.le_of_ble_eq_true rfl, Nat.le_of_ble_eq_true rfl⟩ (25 + 0) (xg_word (by decide)) rfl rfl rfl (Nat.le_of_ble_eq_true rfl) dX5_take_65 rfl (fun s17 q18 => ?_)
          subst q18
          refine x_iconst (q := 69) E dX5_take_68 rfl ?_
          refine x_istore (q := 71) (lv' := [(5, .int (ii (0))), (4, .ref (ad (13 + r))), (0, .ref (ad 0)), (1, .int (ii ((r : Int)))), (2, .int (ii (k))), (3, .int (ii (n0)))]) E dX5_take_69 (by decide) rfl rfl ?_
          have L71 : ∀ (n : Nat) (i : Int) (n1 : Int) (f : Int → Int), (n0 - i).toNat < n → (0 ≤ i ∧ i ≤ n0) → (n1 = i) → (wl f n1 = wl (fun j => s11.2 (5 + r) (k + j)) i) → (∀ j : Int, 0 ≤ j → j < 60 → 0 ≤ f j ∧ f j ≤ 60) → XJ p l e (rmX 5 119) s m args below meth c D (XW T ad) A 6 Q 0 0 (sF (sG s11 (10 + 0) (n1)) (14 + 0) (f)) 71 [(0, .ref (ad 0)), (1, .int (ii ((r : Int)))), (2, .int (ii (k))), (3, .int (ii (n0))), (4, .ref (ad (13 + r))), (5, .int (ii (i)))] [] := by
            intro n
            induction n with
            | zero => intro i n1 f hn; exact absurd hn (Nat.not_lt_zero _)
            | succ n ih71 =>
              intro i n1 f hn71 a1 a2 a3 a4
              refine x_iload (q := 73) E dX5_take_71 5 rfl rfl ?_
              refine x_iload_n (q := 74) E dX5_take_73 3 rfl rfl ?_
              refine x_icmp_ge (tgt := 100) (q := 77) E dX5_take_74 (by decide) rfl (by omega) (by omega) (fun c74 => ?_) (fun c74 => ?_)
              · refine x_iload_n (q := 101) E dX5_take_100 3 rfl rfl ?_
                exact RET _ _ _ _ dX5_take_101 (⟨by rw [if_pos (by omega)], by rw [if_pos (by omega)]; exact CI_word hC1 (by omega) a4 (by rw [a3, show i = n0 from by omega]; exact wl_congr (fun j j0 j1 => hSq (k + j) (by omega) (by omega))) (wl_letters (fun j j0 j1 => by rw [← hSq (k + j) (by omega) (by omega)]; exact d3 (k + j) (by omega) (by omega)))⟩)
              · have e1 : nat_ (sF (sG s11 (10 + 0) n1) (14 + 0) f) r (k + i) = s11.2 (5 + r) (k + i) := by rw [nat_in (by omega) (by rw [sF_1, sG_n _ _ (by omega)]; omega) (by rw [sF_1, sG_n _ _ (by omega)]; omega), sF_n _ _ (by omega), sG_2]
                have e2 := d3 (k + i) (by omega) (by omega)
                refine x_aload_n (q := 78) E dX5_take_77 0 rfl rfl ?_
                refine x_get (q := 81) E iX5_take_X5 (0) rfl rfl 1 (by decide) (by decide +kernel) rfl dX5_take_78 rfl ?_
                refine x_aload (q := 83) E dX5_take_81 4 rfl rfl ?_
                refine x_iload_n (q := 84) E dX5_take_83 2 rfl rfl ?_
                refine x_iload (q := 86) E dX5_take_84 5 rfl rfl ?_
                refine x_iadd (q := 87) E dX5_take_86 rfl ?_
                refine x_callVi (q := 90) (n := 1) (As := [.int (ii ((k) + (i)))]) (r := [.ref (ad (25 + 0))]) E (c_X2_number l D T ad hN (sF (sG s11 (10 + 0) (n1)) (14 + 0) (f)) (r) hr ((k) + (i)) (by omega) (by rw [sF_1, sG_n _ _ (by omega)]; omega)) gX5_take_X2_number rfl rfl rfl (by decide +kernel) ⟨Nat.le_of_ble_eq_true rfl, Nat.le_of_ble_eq_true rfl⟩ (13 + r) (xg_row hr) rfl rfl rfl (Nat.le_of_ble_eq_true rfl) dX5_take_87 rfl (fun z19 s20 q21 => ?_)
                obtain ⟨rfl, rfl⟩ := q21
                refine x_ti e1 ?_
                refine x_callVi (q := 93) (n := 1) (As := [.int (ii (s11.2 (5 + r) (k + i)))]) (r := []) E (c_X4_put l D T ad hN (sF (sG s11 (10 + 0) (n1)) (14 + 0) (f)) (0) (by decide) (s11.2 (5 + r) (k + i)) (by omega) (by rw [sF_1, sG_s]; omega)) gX5_take_X4_put rfl rfl rfl (by decide +kernel) ⟨Nat.le_of_ble_eq_true rfl, Nat.le_of_ble_eq_true rfl⟩ (25 + 0) (xg_word (by decide)) rfl rfl rfl (Nat.le_of_ble_eq_true rfl) dX5_take_90 rfl (fun z22 s23 q24 => ?_)
                obtain ⟨rfl, rfl⟩ := q24
                refine x_pop (q := 94) E dX5_take_93 rfl rfl ?_
                refine x_iinc (q := 97) (k := 5) (lv' := [(5, .int (ii (i + 1))), (0, .ref (ad 0)), (1, .int (ii ((r : Int)))), (2, .int (ii (k))), (3, .int (ii (n0))), (4, .ref (ad (13 + r)))]) E dX5_take_94 rfl (by decide) rfl rfl ?_
                refine x_goto (tgt := 71) E dX5_take_97 (by decide) ?_
                refine x_st E (st' := (sF (sG s11 (10 + 0) ((n1) + 1)) (14 + 0) (zup (f) (n1) (s11.2 (5 + r) (k + i))))) (by refine Prod.ext (funext fun k9 => ?_) (funext fun q9 => ?_) <;> simp only [sG_1, sG_2, sA_1, sA_2, sF_1, sF_2, reduceIte] <;> (repeat' split) <;> first | rfl | omega | (subst_vars; first | rfl | omega) | simp_all) ?_
                refine x_lv E (lv' := [(0, .ref (ad 0)), (1, .int (ii ((r : Int)))), (2, .int (ii (k))), (3, .int (ii (n0))), (4, .ref (ad (13 + r))), (5, .int (ii (i + 1)))]) [1, 2, 3, 4, 5, 0] rfl ?_
                exact ih71 (i + 1) ((n1) + 1) (zup (f) (n1) (s11.2 (5 + r) (k + i))) (by omega) (by omega) (by omega) (by rw [a2, wl_put _ _ (by omega), wl_s _ (by omega), ← a2, a3, a2]) (zup_b a4 (by omega) (by omega))
          refine x_lv E (lv' := [(0, .ref (ad 0)), (1, .int (ii ((r : Int)))), (2, .int (ii (k))), (3, .int (ii (n0))), (4, .ref (ad (13 + r))), (5, .int (ii (0)))]) [2, 3, 4, 5, 1, 0] rfl ?_
          refine x_st E (st' := (sF (sG s11 (10 + 0) (0)) (14 + 0) (s11.2 (14 + 0)))) (by refine Prod.ext (funext fun k9 => ?_) (funext fun q9 => ?_) <;> simp only [sG_1, sG_2, sA_1, sA_2, sF_1, sF_2, reduceIte] <;> (repeat' split) <;> first | rfl | omega | (subst_vars; first | rfl | omega) | simp_all) ?_
          exact L71 _ (0) (0) (s11.2 (14 + 0)) (Nat.lt_succ_self _) (by omega) (rfl) (rfl) ((hC1.2.2.2.2.2.1 0 (by omega)).2)
        · refine x_bipush (q := 47) E dX5_take_45 (by decide) rfl ?_
          exact RET _ _ _ _ dX5_take_47 (⟨by rw [if_neg (by omega)], by rw [if_neg (by omega)]; exact hC⟩)
      · refine x_bipush (q := 34) E dX5_take_32 (by decide) rfl ?_
        exact RET _ _ _ _ dX5_take_34 (⟨by rw [if_neg (by omega)], by rw [if_neg (by omega)]; exact hC⟩)
  · exfalso; omega

theorem iX5_take_n_X5 : ∀ w ∈ wsX50, w ∈ wsX5_take := by decide +kernel
set_option maxRecDepth 100000 in
set_option maxHeartbeats 4000000 in
theorem c_X5_take_n (l : Launch) (D : va_G) (T : Nat → ClassId) (ad : Nat → Nat) (hN : ∀ i j, i < 33 → j < 33 → ad i = ad j → i = j) (st : St_) (z0 : Int) (bz0 : -2147483648 ≤ z0 ∧ z0 < 2147483648) (k : Int) (bk : -2147483648 ≤ k ∧ k < 2147483648) (n0 : Int) (bn0 : -2147483648 ≤ n0 ∧ n0 < 2147483648) (hz : z0 < 0 ∨ st.1 2 ≤ z0) (a : AB_) (hC : CI st a) : CXi l yX5_take wsX5_take (rmX 1 21) [.ref (ad 0), .int (ii (z0)), .int (ii (k)), .int (ii (n0))] D (tyX T) (XW T ad) (alX ad) st (fun z st2 => z = -101 ∧ CI st2 a) := by
  refine mk_i (cc := cX5_take) (nL := 6) rfl rfl (XW_ok hN) (Nat.le_of_ble_eq_true rfl) [(0, .ref (ad 0)), (1, .int (ii (z0))), (2, .int (ii (k))), (3, .int (ii (n0)))] rfl (fun p e s m args below meth c A Q E RET => ?_)
  have k1 := hC.1
  have k2 := hC.2.1
  have k3 := hC.2.2.1
  have k4 := hC.2.2.2.1
  have k5 := hC.2.2.2.2.1
  have k6 := hC.2.2.2.2.2.1
  have k7 := hC.2.2.2.2.2.2.1
  have k8 := hC.2.2.2.2.2.2.2
  have hn := k7.2.1.1
  have w0 := (k6 0 (by omega)).1
  have wb0 := (k6 0 (by omega)).2
  have hL := hC.len
  have hf := hC.lf
  have hf6 := hC.let6
  refine x_aload_n (q := 1) E dX5_take_0 0 rfl rfl ?_
  refine x_get (q := 4) E iX5_take_n_X5 (0) rfl rfl 0 (by decide) (by decide +kernel) rfl dX5_take_1 rfl ?_
  refine x_iload_n (q := 5) E dX5_take_4 1 rfl rfl ?_
  refine x_callVi (q := 8) (n := 1) (As := [.int (ii (z0))]) (r := []) E (c_X1_hasRow l D T ad hN st (z0) (by omega) (hn)) gX5_take_X1_hasRow rfl rfl rfl (by decide +kernel) ⟨Nat.le_of_ble_eq_true rfl, Nat.le_of_ble_eq_true rfl⟩ (1) rfl rfl rfl rfl (Nat.le_of_ble_eq_true rfl) dX5_take_5 rfl (fun z1 s2 q3 => ?_)
  obtain ⟨rfl, rfl⟩ := q3
  refine x_if_ne (tgt := 14) (q := 11) E dX5_take_8 (by decide) rfl (by omega) (fun c8 => ?_) (fun c8 => ?_)
  · exfalso; omega
  · refine x_bipush (q := 13) E dX5_take_11 (by decide) rfl ?_
    exact RET _ _ _ _ dX5_take_13 (⟨rfl, hC⟩)

theorem iX5_find_X5 : ∀ w ∈ wsX50, w ∈ wsX5_find := by decide +kernel
set_option maxRecDepth 100000 in
set_option maxHeartbeats 4000000 in
theorem c_X5_find (l : Launch) (D : va_G) (T : Nat → ClassId) (ad : Nat → Nat) (hN : ∀ i j, i < 33 → j < 33 → ad i = ad j → i = j) (st : St_) (r : Nat) (hr : r < 3) (k : Int) (bk : -2147483648 ≤ k ∧ k < 2147483648) (n0 : Int) (bn0 : -2147483648 ≤ n0 ∧ n0 < 2147483648) (hrn : (r : Int) < st.1 2) (a : AB_) (hC : CI st a) : CXi l yX5_find wsX5_find (rmX 5 119) [.ref (ad 0), .int (ii ((r : Int))), .int (ii (k)), .int (ii (n0))] D (tyX T) (XW T ad) (alX ad) st (fun z st2 => z = (if (0 ≤ k ∧ k ≤ 100000) ∧ (0 ≤ n0 ∧ n0 ≤ 100000) then epi (FDP (SQ (lta a) (nxn (a.1.1 0)) r) (lf a.2) (a.2.length : Int) k n0) else -102) ∧ CI st2 a) := by
  refine mk_i (cc := cX5_find) (nL := 6) rfl rfl (XW_ok hN) (Nat.le_of_ble_eq_true rfl) [(0, .ref (ad 0)), (1, .int (ii ((r : Int)))), (2, .int (ii (k))), (3, .int (ii (n0)))] rfl (fun p e s m args below meth c A Q E RET => ?_)
  have k1 := hC.1
  have k2 := hC.2.1
  have k3 := hC.2.2.1
  have k4 := hC.2.2.2.1
  have k5 := hC.2.2.2.2.1
  have k6 := hC.2.2.2.2.2.1
  have k7 := hC.2.2.2.2.2.2.1
  have k8 := hC.2.2.2.2.2.2.2
  have hn := k7.2.1.1
  have w0 := (k6 0 (by omega)).1
  have wb0 := (k6 0 (by omega)).2
  have hL := hC.len
  have hf := hC.lf
  have hf6 := hC.let6
  refine x_aload_n (q := 1) E dX5_find_0 0 rfl rfl ?_
  refine x_get (q := 4) E iX5_find_X5 (0) rfl rfl 0 (by decide) (by decide +kernel) rfl dX5_find_1 rfl ?_
  refine x_iload_n (q := 5) E dX5_find_4 1 rfl rfl ?_
  refine x_callVi (q := 8) (n := 1) (As := [.int (ii ((r : Int)))]) (r := []) E (c_X1_hasRow l D T ad hN st ((r : Int)) (by omega) (hn)) gX5_find_X1_hasRow rfl rfl rfl (by decide +kernel) ⟨Nat.le_of_ble_eq_true rfl, Nat.le_of_ble_eq_true rfl⟩ (1) rfl rfl rfl rfl (Nat.le_of_ble_eq_true rfl) dX5_find_5 rfl (fun z1 s2 q3 => ?_)
  obtain ⟨rfl, rfl⟩ := q3
  refine x_if_ne (tgt := 14) (q := 11) E dX5_find_8 (by decide) rfl (by omega) (fun c8 => ?_) (fun c8 => ?_)
  · refine x_iload_n (q := 15) E dX5_find_14 2 rfl rfl ?_
    refine x_ldc (q := 17) (v := 100000) (z := 100000) E (by decide +kernel) (by decide) dX5_find_15 rfl ?_
    refine x_callSi (q := 20) (n := 2) (As := [.int (ii (k)), .int (ii (100000))]) (r := []) E (c_X5_isOutside l D T ad hN st (k) (by omega) (100000) (by omega)) gX5_find_X5_isOutside rfl rfl rfl (by decide +kernel) ⟨Nat.le_of_ble_eq_true rfl, Nat.le_of_ble_eq_true rfl⟩ rfl rfl (Nat.le_of_ble_eq_true rfl) dX5_find_17 rfl (fun z4 s5 q6 => ?_)
    obtain ⟨rfl, rfl⟩ := q6
    refine x_if_ne (tgt := 32) (q := 23) E dX5_find_20 (by decide) rfl (by omega) (fun c20 => ?_) (fun c20 => ?_)
    · refine x_bipush (q := 34) E dX5_find_32 (by decide) rfl ?_
      exact RET _ _ _ _ dX5_find_34 (⟨by rw [if_neg (by omega)], hC⟩)
    · refine x_iload_n (q := 24) E dX5_find_23 3 rfl rfl ?_
      refine x_ldc (q := 26) (v := 100000) (z := 100000) E (by decide +kernel) (by decide) dX5_find_24 rfl ?_
      refine x_callSi (q := 29) (n := 2) (As := [.int (ii (n0)), .int (ii (100000))]) (r := []) E (c_X5_isOutside l D T ad hN st (n0) (by omega) (100000) (by omega)) gX5_find_X5_isOutside rfl rfl rfl (by decide +kernel) ⟨Nat.le_of_ble_eq_true rfl, Nat.le_of_ble_eq_true rfl⟩ rfl rfl (Nat.le_of_ble_eq_true rfl) dX5_find_26 rfl (fun z7 s8 q9 => ?_)
      obtain ⟨rfl, rfl⟩ := q9
      refine x_if_eq (tgt := 35) (q := 32) E dX5_find_29 (by decide) rfl (by omega) (fun c29 => ?_) (fun c29 => ?_)
      · refine x_aload_n (q := 36) E dX5_find_35 0 rfl rfl ?_
        refine x_get (q := 39) E iX5_find_X5 (0) rfl rfl 0 (by decide) (by decide +kernel) rfl dX5_find_36 rfl ?_
        refine x_iload_n (q := 40) E dX5_find_39 1 rfl rfl ?_
        refine x_iload_n (q := 41) E dX5_find_40 3 rfl rfl ?_
        refine x_callVr (q := 44) (n := 2) (As := [.int (ii ((r : Int))), .int (ii (n0))]) (r := []) E (c_X1_rowOf l D T ad hN st r hr (n0) (by omega) (by omega) (by omega) (lta a) k7) gX5_find_X1_rowOf rfl rfl rfl (by decide +kernel) ⟨Nat.le_of_ble_eq_true rfl, Nat.le_of_ble_eq_true rfl⟩ (1) rfl rfl rfl rfl (Nat.le_of_ble_eq_true rfl) dX5_find_41 rfl (fun z10 s11 q12 => ?_)
        obtain ⟨rfl, h113, h214, h315⟩ := q12
        have g1 := h113
        have g2 := h214
        have g3 := h315
        have hC1 := CI_grw hC g2 g1
        have e0 : s11.1 2 = a.1.1 0 := hC1.1
        have hr1 : ((r : Nat) : Int) < s11.1 2 := by rw [e0, ← k1]; exact (by omega)
        have d1 := RI.b g1.1 g1.2.2.2.1 hr1
        have d2 := d1.1
        have d3 := d1.2.1
        have hSq : ∀ j : Int, 0 ≤ j → j < s11.1 (7 + r) → s11.2 (5 + r) j = SQ (lta a) (nxn (a.1.1 0)) (r) j := fun j j0 j1 => by rw [RI.num g1.2.2.2.1 hr1 j0 j1, e0]
        have hkp := RI.kp g1.2.2.2.1 hr1
        have e4 : s11.1 (10 + 0) = st.1 (10 + 0) := g2.1.1 _ (by omega)
        have e5 : s11.2 (14 + 0) = st.2 (14 + 0) := g2.1.2 _ (by omega)
        have e6 : ∀ p : Int, 0 ≤ p → p + st.1 (10 + 0) ≤ n0 → (std (SQ (lta a) (nxn (a.1.1 0)) r) (lf a.2) (a.2.length : Int) p ↔ ∀ j : Int, 0 ≤ j → j < s11.1 (10 + 0) → s11.2 (5 + r) (p + j) = s11.2 (14 + 0) j) := by
          intro p p0 p1
          unfold std
          rw [hL, e4, e5]
          constructor
          · intro y j j0 j1; rw [hSq (p + j) (by omega) (by omega), ← hf j j0 j1]; exact y j j0 j1
          · intro y j j0 j1; rw [← hSq (p + j) (by omega) (by omega), hf j j0 j1]; exact y j j0 j1
        refine x_astore (q := 46) (lv' := [(4, .ref (ad (13 + r))), (0, .ref (ad 0)), (1, .int (ii ((r : Int)))), (2, .int (ii (k))), (3, .int (ii (n0)))]) E dX5_find_44 (by decide) rfl rfl ?_
        refine x_iload_n (q := 47) E dX5_find_46 3 rfl rfl ?_
        refine x_istore (q := 49) (lv' := [(5, .int (ii (k))), (4, .ref (ad (13 + r))), (0, .ref (ad 0)), (1, .int (ii ((r : Int)))), (2, .int (ii (k))), (3, .int (ii (n0)))]) E dX5_find_47 (by decide) rfl rfl ?_
        have L49 : ∀ (n : Nat) (pl : Int), (100001 - pl).toNat < n → (k ≤ pl ∧ pl ≤ 100001) → (∀ x : Int, k ≤ x → x < pl → x + st.1 (10 + 0) ≤ n0 → ¬ std (SQ (lta a) (nxn (a.1.1 0)) r) (lf a.2) (a.2.length : Int) x) → XJ p l e (rmX 5 119) s m args below meth c D (XW T ad) A 6 Q 0 0 s11 49 [(0, .ref (ad 0)), (1, .int (ii ((r : Int)))), (2, .int (ii (k))), (3, .int (ii (n0))), (4, .ref (ad (13 + r))), (5, .int (ii (pl)))] [] := by
          intro n
          induction n with
          | zero => intro pl hn; exact absurd hn (Nat.not_lt_zero _)
          | succ n ih49 =>
            intro pl hn49 a1 a2
            refine x_iload (q := 51) E dX5_find_49 5 rfl rfl ?_
            refine x_aload_n (q := 52) E dX5_find_51 0 rfl rfl ?_
            refine x_get (q := 55) E iX5_find_X5 (0) rfl rfl 1 (by decide) (by decide +kernel) rfl dX5_find_52 rfl ?_
            refine x_callVi (q := 58) (n := 0) (As := []) (r := [.int (ii (pl))]) E (c_X4_size l D T ad hN s11 (0) (by decide)) gX5_find_X4_size rfl rfl rfl (by decide +kernel) ⟨Nat.le_of_ble_eq_true rfl, Nat.le_of_ble_eq_true rfl⟩ (25 + 0) (xg_word (by decide)) rfl rfl rfl (Nat.le_of_ble_eq_true rfl) dX5_find_55 rfl (fun z16 s17 q18 => ?_)
            obtain ⟨rfl, rfl⟩ := q18
            refine x_iadd (q := 59) E dX5_find_58 rfl ?_
            refine x_iload_n (q := 60) E dX5_find_59 3 rfl rfl ?_
            refine x_icmp_gt (tgt := 86) (q := 63) E dX5_find_60 (by decide) rfl (by omega) (by omega) (fun c60 => ?_) (fun c60 => ?_)
            · refine x_iconst (q := 87) E dX5_find_86 rfl ?_
              exact RET _ _ _ _ dX5_find_87 (⟨by rw [if_pos (by omega)]; refine (epi_eq ?_ (fun x y => FDP_u (by omega))).symm; exact Or.inl ⟨rfl, fun x x0 x1 => a2 x x0 (by rw [hL] at x1; omega) (by rw [hL] at x1; omega)⟩, hC1⟩)
            · refine x_aload (q := 65) E dX5_find_63 4 rfl rfl ?_
              refine x_aload_n (q := 66) E dX5_find_65 0 rfl rfl ?_
              refine x_get (q := 69) E iX5_find_X5 (0) rfl rfl 1 (by decide) (by decide +kernel) rfl dX5_find_66 rfl ?_
              refine x_iload (q := 71) E dX5_find_69 5 rfl rfl ?_
              refine x_callVi (q := 74) (n := 2) (As := [.ref (ad (25 + 0)), .int (ii (pl))]) (r := []) E (c_X2_holds l D T ad hN s11 (r) hr (0) (by decide) (pl) (by omega) (by omega) (d3) (by omega) ((hC1.2.2.2.2.2.1 0 (by omega)).2) (by omega)) gX5_find_X2_holds rfl rfl rfl (by decide +kernel) ⟨Nat.le_of_ble_eq_true rfl, Nat.le_of_ble_eq_true rfl⟩ (13 + r) (xg_row hr) rfl rfl rfl (Nat.le_of_ble_eq_true rfl) dX5_find_71 rfl (fun z19 s20 q21 => ?_)
              obtain ⟨rfl, h22⟩ := q21
              have h5 := h22
              have h6 : 0 ≤ z19 ∧ z19 ≤ 1 := by rcases h5 with y | y <;> omega
              have h7 : z19 = 1 → ∀ j : Int, 0 ≤ j → j < s11.1 (10 + 0) → s11.2 (5 + r) (pl + j) = s11.2 (14 + 0) j := fun q => h5.elim (fun y => y.2) (fun y => absurd y.1 (by rw [q]; decide))
              have h8 : z19 = 0 → ¬ ∀ j : Int, 0 ≤ j → j < s11.1 (10 + 0) → s11.2 (5 + r) (pl + j) = s11.2 (14 + 0) j := fun q => h5.elim (fun y => absurd (y.1.symm.trans q) (by decide)) (fun y w => y.2.elim (fun j z9 => z9.2.2 (w j z9.1 z9.2.1)))
              clear h5 h22
              refine x_if_eq (tgt := 80) (q := 77) E dX5_find_74 (by decide) rfl (by omega) (fun c74 => ?_) (fun c74 => ?_)
              · refine x_iinc (q := 83) (k := 5) (lv' := [(5, .int (ii (pl + 1))), (0, .ref (ad 0)), (1, .int (ii ((r : Int)))), (2, .int (ii (k))), (3, .int (ii (n0))), (4, .ref (ad (13 + r)))]) E dX5_find_80 rfl (by decide) rfl rfl ?_
                refine x_goto (tgt := 49) E dX5_find_83 (by decide) ?_
                refine x_lv E (lv' := [(0, .ref (ad 0)), (1, .int (ii ((r : Int)))), (2, .int (ii (k))), (3, .int (ii (n0))), (4, .ref (ad (13 + r))), (5, .int (ii (pl + 1)))]) [1, 2, 3, 4, 5, 0] rfl ?_
                exact ih49 (pl + 1) (by omega) (by omega) (fun x x0 x1 x2 => if hx : x = pl then (by rw [hx, e6 pl (by omega) (by omega)]; exact h8 (by omega)) else a2 x x0 (by omega) x2)
              · refine x_iload (q := 79) E dX5_find_77 5 rfl rfl ?_
                exact RET _ _ _ _ dX5_find_79 (⟨by rw [if_pos (by omega)]; refine (epi_eq ?_ (fun x y => FDP_u (by omega))).symm; exact Or.inr ⟨by omega, by rw [hL]; omega, (e6 pl (by omega) (by omega)).mpr (h7 (by omega)), fun x x0 x1 => a2 x x0 x1 (by omega)⟩, hC1⟩)
        refine x_lv E (lv' := [(0, .ref (ad 0)), (1, .int (ii ((r : Int)))), (2, .int (ii (k))), (3, .int (ii (n0))), (4, .ref (ad (13 + r))), (5, .int (ii (k)))]) [2, 3, 4, 5, 1, 0] rfl ?_
        exact L49 _ (k) (Nat.lt_succ_self _) (by omega) (fun x x0 x1 => absurd x1 (by omega))
      · refine x_bipush (q := 34) E dX5_find_32 (by decide) rfl ?_
        exact RET _ _ _ _ dX5_find_34 (⟨by rw [if_neg (by omega)], hC⟩)
  · exfalso; omega

theorem iX5_find_n_X5 : ∀ w ∈ wsX50, w ∈ wsX5_find := by decide +kernel
set_option maxRecDepth 100000 in
set_option maxHeartbeats 4000000 in
theorem c_X5_find_n (l : Launch) (D : va_G) (T : Nat → ClassId) (ad : Nat → Nat) (hN : ∀ i j, i < 33 → j < 33 → ad i = ad j → i = j) (st : St_) (z0 : Int) (bz0 : -2147483648 ≤ z0 ∧ z0 < 2147483648) (k : Int) (bk : -2147483648 ≤ k ∧ k < 2147483648) (n0 : Int) (bn0 : -2147483648 ≤ n0 ∧ n0 < 2147483648) (hz : z0 < 0 ∨ st.1 2 ≤ z0) (a : AB_) (hC : CI st a) : CXi l yX5_find wsX5_find (rmX 1 21) [.ref (ad 0), .int (ii (z0)), .int (ii (k)), .int (ii (n0))] D (tyX T) (XW T ad) (alX ad) st (fun z st2 => z = -101 ∧ CI st2 a) := by
  refine mk_i (cc := cX5_find) (nL := 6) rfl rfl (XW_ok hN) (Nat.le_of_ble_eq_true rfl) [(0, .ref (ad 0)), (1, .int (ii (z0))), (2, .int (ii (k))), (3, .int (ii (n0)))] rfl (fun p e s m args below meth c A Q E RET => ?_)
  have k1 := hC.1
  have k2 := hC.2.1
  have k3 := hC.2.2.1
  have k4 := hC.2.2.2.1
  have k5 := hC.2.2.2.2.1
  have k6 := hC.2.2.2.2.2.1
  have k7 := hC.2.2.2.2.2.2.1
  have k8 := hC.2.2.2.2.2.2.2
  have hn := k7.2.1.1
  have w0 := (k6 0 (by omega)).1
  have wb0 := (k6 0 (by omega)).2
  have hL := hC.len
  have hf := hC.lf
  have hf6 := hC.let6
  refine x_aload_n (q := 1) E dX5_find_0 0 rfl rfl ?_
  refine x_get (q := 4) E iX5_find_n_X5 (0) rfl rfl 0 (by decide) (by decide +kernel) rfl dX5_find_1 rfl ?_
  refine x_iload_n (q := 5) E dX5_find_4 1 rfl rfl ?_
  refine x_callVi (q := 8) (n := 1) (As := [.int (ii (z0))]) (r := []) E (c_X1_hasRow l D T ad hN st (z0) (by omega) (hn)) gX5_find_X1_hasRow rfl rfl rfl (by decide +kernel) ⟨Nat.le_of_ble_eq_true rfl, Nat.le_of_ble_eq_true rfl⟩ (1) rfl rfl rfl rfl (Nat.le_of_ble_eq_true rfl) dX5_find_5 rfl (fun z1 s2 q3 => ?_)
  obtain ⟨rfl, rfl⟩ := q3
  refine x_if_ne (tgt := 14) (q := 11) E dX5_find_8 (by decide) rfl (by omega) (fun c8 => ?_) (fun c8 => ?_)
  · exfalso; omega
  · refine x_bipush (q := 13) E dX5_find_11 (by decide) rfl ?_
    exact RET _ _ _ _ dX5_find_13 (⟨rfl, hC⟩)

theorem iX5_unlike_X5 : ∀ w ∈ wsX50, w ∈ wsX5_unlike := by decide +kernel
set_option maxRecDepth 100000 in
set_option maxHeartbeats 4000000 in
theorem c_X5_unlike (l : Launch) (D : va_G) (T : Nat → ClassId) (ad : Nat → Nat) (hN : ∀ i j, i < 33 → j < 33 → ad i = ad j → i = j) (st : St_) (r : Nat) (hr : r < 3) (m0 : Int) (bm0 : -2147483648 ≤ m0 ∧ m0 < 2147483648) (n0 : Int) (bn0 : -2147483648 ≤ n0 ∧ n0 < 2147483648) (hrn : (r : Int) < st.1 2) (a : AB_) (hC : CI st a) : CXi l yX5_unlike wsX5_unlike (rmX 5 119) [.ref (ad 0), .int (ii ((r : Int))), .int (ii (m0)), .int (ii (n0))] D (tyX T) (XW T ad) (alX ad) st (fun z st2 => z = (if (1 ≤ m0 ∧ m0 ≤ 20) ∧ (0 ≤ n0 ∧ n0 ≤ 2000) then (if 40 ≤ a.1.1 3 then -103 else unl (SQ (lta a) (nxn (a.1.1 0)) r) m0 (n0 - m0 + 1)) else -102) ∧ CI st2 (if ((1 ≤ m0 ∧ m0 ≤ 20) ∧ (0 ≤ n0 ∧ n0 ≤ 2000)) ∧ a.1.1 3 < 40 then aU a else a)) := by
  refine mk_i (cc := cX5_unlike) (nL := 4) rfl rfl (XW_ok hN) (Nat.le_of_ble_eq_true rfl) [(0, .ref (ad 0)), (1, .int (ii ((r : Int)))), (2, .int (ii (m0))), (3, .int (ii (n0)))] rfl (fun p e s m args below meth c A Q E RET => ?_)
  have k1 := hC.1
  have k2 := hC.2.1
  have k3 := hC.2.2.1
  have k4 := hC.2.2.2.1
  have k5 := hC.2.2.2.2.1
  have k6 := hC.2.2.2.2.2.1
  have k7 := hC.2.2.2.2.2.2.1
  have k8 := hC.2.2.2.2.2.2.2
  have hn := k7.2.1.1
  have w0 := (k6 0 (by omega)).1
  have wb0 := (k6 0 (by omega)).2
  have hL := hC.len
  have hf := hC.lf
  have hf6 := hC.let6
  refine x_aload_n (q := 1) E dX5_unlike_0 0 rfl rfl ?_
  refine x_get (q := 4) E iX5_unlike_X5 (0) rfl rfl 0 (by decide) (by decide +kernel) rfl dX5_unlike_1 rfl ?_
  refine x_iload_n (q := 5) E dX5_unlike_4 1 rfl rfl ?_
  refine x_callVi (q := 8) (n := 1) (As := [.int (ii ((r : Int)))]) (r := []) E (c_X1_hasRow l D T ad hN st ((r : Int)) (by omega) (hn)) gX5_unlike_X1_hasRow rfl rfl rfl (by decide +kernel) ⟨Nat.le_of_ble_eq_true rfl, Nat.le_of_ble_eq_true rfl⟩ (1) rfl rfl rfl rfl (Nat.le_of_ble_eq_true rfl) dX5_unlike_5 rfl (fun z1 s2 q3 => ?_)
  obtain ⟨rfl, rfl⟩ := q3
  refine x_if_ne (tgt := 14) (q := 11) E dX5_unlike_8 (by decide) rfl (by omega) (fun c8 => ?_) (fun c8 => ?_)
  · refine x_iload_n (q := 15) E dX5_unlike_14 2 rfl rfl ?_
    refine x_iconst (q := 16) E dX5_unlike_15 rfl ?_
    refine x_icmp_lt (tgt := 35) (q := 19) E dX5_unlike_16 (by decide) rfl (by omega) (by omega) (fun c16 => ?_) (fun c16 => ?_)
    · refine x_bipush (q := 37) E dX5_unlike_35 (by decide) rfl ?_
      exact RET _ _ _ _ dX5_unlike_37 (⟨by rw [if_neg (by omega)], by rw [if_neg (by omega)]; exact hC⟩)
    · refine x_iload_n (q := 20) E dX5_unlike_19 2 rfl rfl ?_
      refine x_bipush (q := 22) E dX5_unlike_20 (by decide) rfl ?_
      refine x_icmp_gt (tgt := 35) (q := 25) E dX5_unlike_22 (by decide) rfl (by omega) (by omega) (fun c22 => ?_) (fun c22 => ?_)
      · refine x_bipush (q := 37) E dX5_unlike_35 (by decide) rfl ?_
        exact RET _ _ _ _ dX5_unlike_37 (⟨by rw [if_neg (by omega)], by rw [if_neg (by omega)]; exact hC⟩)
      · refine x_iload_n (q := 26) E dX5_unlike_25 3 rfl rfl ?_
        refine x_sipush (q := 29) E dX5_unlike_26 (by decide) rfl ?_
        refine x_callSi (q := 32) (n := 2) (As := [.int (ii (n0)), .int (ii (2000))]) (r := []) E (c_X5_isOutside l D T ad hN st (n0) (by omega) (2000) (by omega)) gX5_unlike_X5_isOutside rfl rfl rfl (by decide +kernel) ⟨Nat.le_of_ble_eq_true rfl, Nat.le_of_ble_eq_true rfl⟩ rfl rfl (Nat.le_of_ble_eq_true rfl) dX5_unlike_29 rfl (fun z4 s5 q6 => ?_)
        obtain ⟨rfl, rfl⟩ := q6
        refine x_if_eq (tgt := 38) (q := 35) E dX5_unlike_32 (by decide) rfl (by omega) (fun c32 => ?_) (fun c32 => ?_)
        · have u1 := k8.2.2.2.2.2.2
          refine x_aload_n (q := 39) E dX5_unlike_38 0 rfl rfl ?_
          refine x_get (q := 42) E iX5_unlike_X5 (0) rfl rfl 6 (by decide) (by decide +kernel) rfl dX5_unlike_39 rfl ?_
          refine x_bipush (q := 44) E dX5_unlike_42 (by decide) rfl ?_
          refine x_icmp_lt (tgt := 50) (q := 47) E dX5_unlike_44 (by decide) rfl (by omega) (by omega) (fun c44 => ?_) (fun c44 => ?_)
          · refine x_aload_n (q := 51) E dX5_unlike_50 0 rfl rfl ?_
            refine x_dup (q := 52) E dX5_unlike_51 rfl rfl ?_
            refine x_get (q := 55) E iX5_unlike_X5 (0) rfl rfl 6 (by decide) (by decide +kernel) rfl dX5_unlike_52 rfl ?_
            refine x_iconst (q := 56) E dX5_unlike_55 rfl ?_
            refine x_iadd (q := 57) E dX5_unlike_56 rfl ?_
            refine x_put (q := 60) (st' := (sG st (1) ((st.1 (1)) + (1)))) (v := .int (ii ((st.1 (1)) + (1)))) (ty := .int) E iX5_unlike_X5 tyX5 tyX5_ok nmX5 (0) rfl rfl 6 (by decide) (by decide +kernel) rfl (by decide +kernel) rfl rfl (Nat.le_of_ble_eq_true rfl) dX5_unlike_57 (xs_s1 _) rfl ?_
            have hCu := CI_U hC (by omega)
            have hH0 := hCu.2.2.2.2.2.2.1
            have hn1 : (sG st 1 (st.1 1 + 1)).1 2 = st.1 2 := by rw [sG_n _ _ (by omega)]
            refine x_aload_n (q := 61) E dX5_unlike_60 0 rfl rfl ?_
            refine x_get (q := 64) E iX5_unlike_X5 (0) rfl rfl 4 (by decide) (by decide +kernel) rfl dX5_unlike_61 rfl ?_
            refine x_aload_n (q := 65) E dX5_unlike_64 0 rfl rfl ?_
            refine x_get (q := 68) E iX5_unlike_X5 (0) rfl rfl 0 (by decide) (by decide +kernel) rfl dX5_unlike_65 rfl ?_
            refine x_iload_n (q := 69) E dX5_unlike_68 1 rfl rfl ?_
            refine x_iload_n (q := 70) E dX5_unlike_69 3 rfl rfl ?_
            refine x_callVr (q := 73) (n := 2) (As := [.int (ii ((r : Int))), .int (ii (n0))]) (r := [.ref (ad 31)]) E (c_X1_rowOf l D T ad hN (sG st (1) ((st.1 (1)) + (1))) r hr (n0) (by omega) (by rw [hn1]; exact hrn) (by omega) (lta (aU a)) hH0) gX5_unlike_X1_rowOf rfl rfl rfl (by decide +kernel) ⟨Nat.le_of_ble_eq_true rfl, Nat.le_of_ble_eq_true rfl⟩ (1) rfl rfl rfl rfl (Nat.le_of_ble_eq_true rfl) dX5_unlike_70 rfl (fun z7 s8 q9 => ?_)
            obtain ⟨rfl, h110, h211, h312⟩ := q9
            have g1 := h110
            have g2 := h211
            have g3 := h312
            have hC1 := CI_grw hCu g2 g1
            have e0 : s8.1 2 = a.1.1 0 := by rw [hC1.1]; exact sG_n _ _ (by omega)
            have hr1 : (r : Int) < s8.1 2 := by rw [e0, ← k1]; exact hrn
            have d1 := RI.b g1.1 g1.2.2.2.1 hr1
            have d2 := d1.1
            have d3 := d1.2.1
            have hSq : ∀ j : Int, 0 ≤ j → j < s8.1 (7 + r) → s8.2 (5 + r) j = SQ (lta a) (nxn (a.1.1 0)) r j := fun j j0 j1 => by rw [RI.num g1.2.2.2.1 hr1 j0 j1, e0, lta_U]
            refine x_iload_n (q := 74) E dX5_unlike_73 2 rfl rfl ?_
            refine x_iload_n (q := 75) E dX5_unlike_74 3 rfl rfl ?_
            refine x_callVi (q := 78) (n := 3) (As := [.ref (ad (13 + r)), .int (ii (m0)), .int (ii (n0))]) (r := []) E (c_X3_unlikeWithin l D T ad hN s8 (r) hr (m0) (by omega) (n0) (by omega) (d2) (d3) (by omega) (by omega)) gX5_unlike_X3_unlikeWithin rfl rfl rfl (by decide +kernel) ⟨Nat.le_of_ble_eq_true rfl, Nat.le_of_ble_eq_true rfl⟩ (31) rfl rfl rfl rfl (Nat.le_of_ble_eq_true rfl) dX5_unlike_75 rfl (fun z13 s14 q15 => ?_)
            obtain ⟨g16, rfl, h117⟩ := q15
            exact RET _ _ _ _ dX5_unlike_78 (⟨by rw [if_pos (by omega), if_neg (by omega), h117]; exact unl_congr (fun j j0 j1 => hSq j j0 (by omega)), by rw [if_pos (by omega)]; exact CI_seat hC1 _⟩)
          · refine x_bipush (q := 49) E dX5_unlike_47 (by decide) rfl ?_
            exact RET _ _ _ _ dX5_unlike_49 (⟨by rw [if_pos (by omega), if_pos (by omega)], by rw [if_neg (by omega)]; exact hC⟩)
        · refine x_bipush (q := 37) E dX5_unlike_35 (by decide) rfl ?_
          exact RET _ _ _ _ dX5_unlike_37 (⟨by rw [if_neg (by omega)], by rw [if_neg (by omega)]; exact hC⟩)
  · exfalso; omega

theorem iX5_unlike_n_X5 : ∀ w ∈ wsX50, w ∈ wsX5_unlike := by decide +kernel
set_option maxRecDepth 100000 in
set_option maxHeartbeats 4000000 in
theorem c_X5_unlike_n (l : Launch) (D : va_G) (T : Nat → ClassId) (ad : Nat → Nat) (hN : ∀ i j, i < 33 → j < 33 → ad i = ad j → i = j) (st : St_) (z0 : Int) (bz0 : -2147483648 ≤ z0 ∧ z0 < 2147483648) (m0 : Int) (bm0 : -2147483648 ≤ m0 ∧ m0 < 2147483648) (n0 : Int) (bn0 : -2147483648 ≤ n0 ∧ n0 < 2147483648) (hz : z0 < 0 ∨ st.1 2 ≤ z0) (a : AB_) (hC : CI st a) : CXi l yX5_unlike wsX5_unlike (rmX 1 21) [.ref (ad 0), .int (ii (z0)), .int (ii (m0)), .int (ii (n0))] D (tyX T) (XW T ad) (alX ad) st (fun z st2 => z = -101 ∧ CI st2 a) := by
  refine mk_i (cc := cX5_unlike) (nL := 4) rfl rfl (XW_ok hN) (Nat.le_of_ble_eq_true rfl) [(0, .ref (ad 0)), (1, .int (ii (z0))), (2, .int (ii (m0))), (3, .int (ii (n0)))] rfl (fun p e s m args below meth c A Q E RET => ?_)
  have k1 := hC.1
  have k2 := hC.2.1
  have k3 := hC.2.2.1
  have k4 := hC.2.2.2.1
  have k5 := hC.2.2.2.2.1
  have k6 := hC.2.2.2.2.2.1
  have k7 := hC.2.2.2.2.2.2.1
  have k8 := hC.2.2.2.2.2.2.2
  have hn := k7.2.1.1
  have w0 := (k6 0 (by omega)).1
  have wb0 := (k6 0 (by omega)).2
  have hL := hC.len
  have hf := hC.lf
  have hf6 := hC.let6
  refine x_aload_n (q := 1) E dX5_unlike_0 0 rfl rfl ?_
  refine x_get (q := 4) E iX5_unlike_n_X5 (0) rfl rfl 0 (by decide) (by decide +kernel) rfl dX5_unlike_1 rfl ?_
  refine x_iload_n (q := 5) E dX5_unlike_4 1 rfl rfl ?_
  refine x_callVi (q := 8) (n := 1) (As := [.int (ii (z0))]) (r := []) E (c_X1_hasRow l D T ad hN st (z0) (by omega) (hn)) gX5_unlike_X1_hasRow rfl rfl rfl (by decide +kernel) ⟨Nat.le_of_ble_eq_true rfl, Nat.le_of_ble_eq_true rfl⟩ (1) rfl rfl rfl rfl (Nat.le_of_ble_eq_true rfl) dX5_unlike_5 rfl (fun z1 s2 q3 => ?_)
  obtain ⟨rfl, rfl⟩ := q3
  refine x_if_ne (tgt := 14) (q := 11) E dX5_unlike_8 (by decide) rfl (by omega) (fun c8 => ?_) (fun c8 => ?_)
  · exfalso; omega
  · refine x_bipush (q := 13) E dX5_unlike_11 (by decide) rfl ?_
    exact RET _ _ _ _ dX5_unlike_13 (⟨rfl, hC⟩)

