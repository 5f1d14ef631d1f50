theorem iX5_lengthen_X5 : ∀ w ∈ wsX50, w ∈ wsX5_lengthen := by decide +kernel
set_option maxRecDepth 100000 in
set_option maxHeartbeats 4000000 in
theorem c_X5_lengthen (l : Launch) (D : va_G) (T : Nat → ClassId) (ad : Nat → Nat) (hN : ∀ i j, i < 33 → j < 33 → ad i = ad j → i = j) (st : St_) (q : Nat) (hq : q < 4) (i0 : Int) (bi0 : -2147483648 ≤ i0 ∧ i0 < 2147483648) (a : AB_) (hC : CI st a) : CXi l yX5_lengthen wsX5_lengthen (rmX 2 44) [.ref (ad 0), .int (ii ((q : Int))), .int (ii (i0))] D (tyX T) (XW T ad) (alX ad) st (fun z st2 => z = (if 0 ≤ i0 ∧ i0 < a.1.1 (4 + q) then (if 60 < isum (lf a.2) (a.2.length : Int) then -104 else isum (lf a.2) (a.2.length : Int)) else -102) ∧ CI st2 (if (0 ≤ i0 ∧ i0 < a.1.1 (4 + q)) ∧ ¬ 60 < isum (lf a.2) (a.2.length : Int) then (a.1, lgn (fun j => a.1.2 (1 + q) ((i0 + j) % a.1.1 (4 + q))) (lf a.2) (a.2.length : Int)) else a)) := by
  refine mk_i (cc := cX5_lengthen) (nL := 5) rfl rfl (XW_ok hN) (Nat.le_of_ble_eq_true rfl) [(0, .ref (ad 0)), (1, .int (ii ((q : Int)))), (2, .int (ii (i0)))] rfl (fun p e s m args below meth c A Q E RET => ?_)
  have k1 := hC.1
  have k2 := hC.2.1
  have k3 := hC.2.2.1
  have k4 := hC.2.2.2.1
  have k5 := hC.2.2.2.2.1
  have k6 := hC.2.2.2.2.2.1
  have k7 := hC.2.2.2.2.2.2.1
  have k8 := hC.2.2.2.2.2.2.2
  have hn := k7.2.1.1
  have w0 := (k6 0 (by omega)).1
  have wb0 := (k6 0 (by omega)).2
  have hL := hC.len
  have hf := hC.lf
  have hf6 := hC.let6
  refine x_aload_n (q := 1) E dX5_lengthen_0 0 rfl rfl ?_
  refine x_get (q := 4) E iX5_lengthen_X5 (0) rfl rfl 0 (by decide) (by decide +kernel) rfl dX5_lengthen_1 rfl ?_
  refine x_iload_n (q := 5) E dX5_lengthen_4 1 rfl rfl ?_
  refine x_i2l (q := 6) E dX5_lengthen_5 (by omega) rfl ?_
  refine x_callVr (q := 9) (n := 1) (As := [.long (jj ((q : Int)))]) (r := []) E (c_X1_alphabetNamed l D T ad hN st q hq) gX5_lengthen_X1_alphabetNamed rfl rfl rfl (by decide +kernel) ⟨Nat.le_of_ble_eq_true rfl, Nat.le_of_ble_eq_true rfl⟩ (1) rfl rfl rfl rfl (Nat.le_of_ble_eq_true rfl) dX5_lengthen_6 rfl (fun z1 s2 q3 => ?_)
  obtain ⟨rfl, rfl⟩ := q3
  refine x_astore_n (q := 10) (lv' := [(3, .ref (ad (5 + q))), (0, .ref (ad 0)), (1, .int (ii ((q : Int)))), (2, .int (ii (i0)))]) E dX5_lengthen_9 (by decide) rfl rfl ?_
  refine x_aload_n (q := 11) E dX5_lengthen_10 0 rfl rfl ?_
  refine x_ifnonnull (tgt := 17) E dX5_lengthen_11 (by decide) ?_
  have z1 := CI_lets hC hq
  have z2 := (k4 q hq).1
  have hl6 : ∀ x : Int, 1 ≤ st.2 (1 + q) (x % (st.1 (3 + q))) ∧ st.2 (1 + q) (x % (st.1 (3 + q))) ≤ 6 := fun x => k7.2.1.2.2.2 q hq _ (Int.emod_nonneg _ (by omega)) (Int.emod_lt_of_pos _ (by omega))
  have z3 : isum (lf a.2) (a.2.length : Int) = isum (st.2 (14 + 0)) (st.1 (10 + 0)) := by rw [hL]; exact isum_congr hf
  have z4 := isum_b (f := st.2 (14 + 0)) (n := st.1 (10 + 0)) (b := 60) w0.1 (fun j j0 j1 => wb0 j j0 (by omega))
  refine x_iload_n (q := 18) E dX5_lengthen_17 3 rfl rfl ?_
  refine x_if_lt (tgt := 29) (q := 21) E dX5_lengthen_18 (by decide) rfl (by omega) (fun c18 => ?_) (fun c18 => ?_)
  · refine x_bipush (q := 31) E dX5_lengthen_29 (by decide) rfl ?_
    exact RET _ _ _ _ dX5_lengthen_31 (⟨by rw [if_neg (by omega)], by rw [if_neg (by omega)]; exact hC⟩)
  · refine x_iload_n (q := 22) E dX5_lengthen_21 3 rfl rfl ?_
    refine x_aload_n (q := 23) E dX5_lengthen_22 0 rfl rfl ?_
    refine x_callVi (q := 26) (n := 0) (As := []) (r := [.int (ii (i0))]) E (c_X0_size l D T ad hN st (q) hq) gX5_lengthen_X0_size rfl rfl rfl (by decide +kernel) ⟨Nat.le_of_ble_eq_true rfl, Nat.le_of_ble_eq_true rfl⟩ (5 + q) (xg_alph hq) rfl rfl rfl (Nat.le_of_ble_eq_true rfl) dX5_lengthen_23 rfl (fun z4 s5 q6 => ?_)
    obtain ⟨rfl, rfl⟩ := q6
    refine x_icmp_lt (tgt := 32) (q := 29) E dX5_lengthen_26 (by decide) rfl (by omega) (by omega) (fun c26 => ?_) (fun c26 => ?_)
    · refine x_aload_n (q := 33) E dX5_lengthen_32 1 rfl rfl ?_
      refine x_get (q := 36) E iX5_lengthen_X5 (0) rfl rfl 1 (by decide) (by decide +kernel) rfl dX5_lengthen_33 rfl ?_
      refine x_callVi (q := 39) (n := 0) (As := []) (r := []) E (c_X4_total l D T ad hN st (0) (by decide) (w0) (wb0)) gX5_lengthen_X4_total rfl rfl rfl (by decide +kernel) ⟨Nat.le_of_ble_eq_true rfl, Nat.le_of_ble_eq_true rfl⟩ (25 + 0) (xg_word (by decide)) rfl rfl rfl (Nat.le_of_ble_eq_true rfl) dX5_lengthen_36 rfl (fun z7 s8 q9 => ?_)
      obtain ⟨rfl, rfl⟩ := q9
      refine x_bipush (q := 41) E dX5_lengthen_39 (by decide) rfl ?_
      refine x_icmp_le (tgt := 47) (q := 44) E dX5_lengthen_41 (by decide) rfl (by omega) (by omega) (fun c41 => ?_) (fun c41 => ?_)
      · refine x_aload_n (q := 48) E dX5_lengthen_47 1 rfl rfl ?_
        refine x_get (q := 51) E iX5_lengthen_X5 (0) rfl rfl 2 (by decide) (by decide +kernel) rfl dX5_lengthen_48 rfl ?_
        refine x_aload_n (q := 52) E dX5_lengthen_51 1 rfl rfl ?_
        refine x_get (q := 55) E iX5_lengthen_X5 (0) rfl rfl 1 (by decide) (by decide +kernel) rfl dX5_lengthen_52 rfl ?_
        refine x_callVv (q := 58) (n := 1) (As := [.ref (ad (25 + 0))]) (r := []) E (c_X4_become l D T ad hN st (1) (by decide) (0) (by decide) (by decide) ((k6 1 (by omega)).1) ((k6 1 (by omega)).2) (w0) (wb0)) gX5_lengthen_X4_become rfl rfl rfl (by decide +kernel) ⟨Nat.le_of_ble_eq_true rfl, Nat.le_of_ble_eq_true rfl⟩ (25 + 1) (xg_word (by decide)) rfl rfl rfl (Nat.le_of_ble_eq_true rfl) dX5_lengthen_55 rfl (fun s11 q12 => ?_)
        obtain ⟨f13, rfl, h114, h215⟩ := q12
        have g1 := h114
        have g2 := h215
        have hC1 := CI_oth hC (v := 1) (Or.inl rfl) w0 g2
        refine x_aload_n (q := 59) E dX5_lengthen_58 1 rfl rfl ?_
        refine x_get (q := 62) E iX5_lengthen_X5 (0) rfl rfl 1 (by decide) (by decide +kernel) rfl dX5_lengthen_59 rfl ?_
        refine x_callVv (q := 65) (n := 0) (As := []) (r := []) E (c_X4_empty l D T ad hN (sF (sG st (10 + 1) (st.1 (10 + 0))) (14 + 1) (f13)) (0) (by decide)) gX5_lengthen_X4_empty rfl rfl rfl (by decide +kernel) ⟨Nat.le_of_ble_eq_true rfl, Nat.le_of_ble_eq_true rfl⟩ (25 + 0) (xg_word (by decide)) rfl rfl rfl (Nat.le_of_ble_eq_true rfl) dX5_lengthen_62 rfl (fun s17 q18 => ?_)
        subst q18
        refine x_iconst (q := 66) E dX5_lengthen_65 rfl ?_
        refine x_istore (q := 68) (lv' := [(4, .int (ii (0))), (3, .ref (ad (5 + q))), (0, .ref (ad 0)), (1, .int (ii ((q : Int)))), (2, .int (ii (i0)))]) E dX5_lengthen_66 (by decide) rfl rfl ?_
        have L68 : ∀ (n : Nat) (j : Int) (n1 : Int) (f : Int → Int), (st.1 (10 + 0) - j).toNat < n → (0 ≤ j ∧ j ≤ st.1 (10 + 0)) → (n1 = isum (st.2 (14 + 0)) j ∧ 0 ≤ n1 ∧ n1 ≤ 60) → (wl f n1 = lgn (fun j => st.2 (1 + q) ((i0 + j) % (st.1 (3 + q)))) (st.2 (14 + 0)) j) → (∀ j : Int, 0 ≤ j → j < 60 → 0 ≤ f j ∧ f j ≤ 60) → XJ p l e (rmX 2 44) s m args below meth c D (XW T ad) A 5 Q 0 0 (sF (sF (sG (sG st (10 + 0) (n1)) (10 + 1) (st.1 (10 + 0))) (14 + 0) (f)) (14 + 1) (f13)) 68 [(0, .ref (ad 0)), (1, .int (ii ((q : Int)))), (2, .int (ii (i0))), (3, .ref (ad (5 + q))), (4, .int (ii (j)))] [] := by
          intro n
          induction n with
          | zero => intro j n1 f hn; exact absurd hn (Nat.not_lt_zero _)
          | succ n ih68 =>
            intro j n1 f hn68 a1 a2 a3 a4
            refine x_iload (q := 70) E dX5_lengthen_68 4 rfl rfl ?_
            refine x_aload_n (q := 71) E dX5_lengthen_70 0 rfl rfl ?_
            refine x_get (q := 74) E iX5_lengthen_X5 (0) rfl rfl 2 (by decide) (by decide +kernel) rfl dX5_lengthen_71 rfl ?_
            refine x_callVi (q := 77) (n := 0) (As := []) (r := [.int (ii (j))]) E (c_X4_size l D T ad hN (sF (sF (sG (sG st (10 + 0) (n1)) (10 + 1) (st.1 (10 + 0))) (14 + 0) (f)) (14 + 1) (f13)) (1) (by decide)) gX5_lengthen_X4_size rfl rfl rfl (by decide +kernel) ⟨Nat.le_of_ble_eq_true rfl, Nat.le_of_ble_eq_true rfl⟩ (25 + 1) (xg_word (by decide)) rfl rfl rfl (Nat.le_of_ble_eq_true rfl) dX5_lengthen_74 rfl (fun z19 s20 q21 => ?_)
            obtain ⟨rfl, rfl⟩ := q21
            refine x_ti (show (sF (sF (sG (sG st (10 + 0) (n1)) (10 + 1) (st.1 (10 + 0))) (14 + 0) (f)) (14 + 1) (f13)).1 (10 + 1) = st.1 (10 + 0) by rw [sF_1, sF_1, sG_s]) ?_
            refine x_icmp_ge (tgt := 110) (q := 80) E dX5_lengthen_77 (by decide) rfl (by omega) (by omega) (fun c77 => ?_) (fun c77 => ?_)
            · refine x_aload_n (q := 111) E dX5_lengthen_110 0 rfl rfl ?_
              refine x_get (q := 114) E iX5_lengthen_X5 (0) rfl rfl 1 (by decide) (by decide +kernel) rfl dX5_lengthen_111 rfl ?_
              refine x_callVi (q := 117) (n := 0) (As := []) (r := []) E (c_X4_size l D T ad hN (sF (sF (sG (sG st (10 + 0) (n1)) (10 + 1) (st.1 (10 + 0))) (14 + 0) (f)) (14 + 1) (f13)) (0) (by decide)) gX5_lengthen_X4_size rfl rfl rfl (by decide +kernel) ⟨Nat.le_of_ble_eq_true rfl, Nat.le_of_ble_eq_true rfl⟩ (25 + 0) (xg_word (by decide)) rfl rfl rfl (Nat.le_of_ble_eq_true rfl) dX5_lengthen_114 rfl (fun z22 s23 q24 => ?_)
              obtain ⟨rfl, rfl⟩ := q24
              refine x_ti (show (sF (sF (sG (sG st (10 + 0) (n1)) (10 + 1) (st.1 (10 + 0))) (14 + 0) (f)) (14 + 1) (f13)).1 (10 + 0) = n1 by rw [sF_1, sF_1, sG_n _ _ (by omega), sG_s]) ?_
              exact RET _ _ _ _ dX5_lengthen_117 (⟨by rw [if_pos (by omega), if_neg (by omega), z3, a2.1]; exact congrArg _ (by omega), by rw [if_pos (by omega), show (sF (sF (sG (sG st (10 + 0) (n1)) (10 + 1) (st.1 (10 + 0))) (14 + 0) (f)) (14 + 1) (f13)) = sF (sG (sF (sG st (10 + 1) (st.1 (10 + 0))) (14 + 1) f13) (10 + 0) n1) (14 + 0) f from by refine Prod.ext (funext fun k9 => ?_) (funext fun q9 => ?_) <;> simp only [sG_1, sG_2, sA_1, sA_2, sF_1, sF_2, reduceIte] <;> (repeat' split) <;> first | rfl | omega | (subst_vars; first | rfl | omega) | simp_all]; exact CI_word hC1 (by omega) a4 (by rw [a3, show j = st.1 (10 + 0) from by omega, hL]; exact lgn_congr (fun x x0 x1 => by rw [z2]; exact (k4 q hq).2 _ (Int.emod_nonneg _ (by omega)) (by rw [← z2]; exact Int.emod_lt_of_pos _ (by omega))) (fun x x0 x1 => (hf x x0 x1).symm)) (lgn_letters (fun x x0 x1 => by rw [← z2, ← (k4 q hq).2 _ (Int.emod_nonneg _ (by omega)) (Int.emod_lt_of_pos _ (by omega))]; exact hl6 (i0 + x)))⟩)
            · have e1 : wat (sF (sF (sG (sG st (10 + 0) (n1)) (10 + 1) (st.1 (10 + 0))) (14 + 0) (f)) (14 + 1) (f13)) 1 j = st.2 (14 + 0) j := by rw [wat_in (by omega) (by rw [sF_1, sF_1, sG_s]; omega) (by rw [sF_1, sF_1, sG_s]; omega), sF_s]; exact g1 j (by omega) (by omega)
              have e2 : (sF (sF (sG (sG st (10 + 0) (n1)) (10 + 1) (st.1 (10 + 0))) (14 + 0) (f)) (14 + 1) (f13)).2 (1 + q) = st.2 (1 + q) := by rw [sF_n _ _ (by omega), sF_n _ _ (by omega), sG_2, sG_2]
              have e3 : (sF (sF (sG (sG st (10 + 0) (n1)) (10 + 1) (st.1 (10 + 0))) (14 + 0) (f)) (14 + 1) (f13)).1 (3 + q) = st.1 (3 + q) := by rw [sF_1, sF_1, sG_n _ _ (by omega), sG_n _ _ (by omega)]
              have e4 := hl6 (i0 + j)
              have e5 := hf6 j (by omega) (by omega)
              have e6 := isum_up (f := st.2 (14 + 0)) (n := st.1 (10 + 0)) (fun x x0 x1 => by have := hf6 x x0 x1; omega) (a := j + 1) (b := st.1 (10 + 0)) (by omega) (by omega) (by omega)
              rw [isum_s _ (by omega)] at e6
              refine x_aload_n (q := 81) E dX5_lengthen_80 0 rfl rfl ?_
              refine x_get (q := 84) E iX5_lengthen_X5 (0) rfl rfl 1 (by decide) (by decide +kernel) rfl dX5_lengthen_81 rfl ?_
              refine x_aload_n (q := 85) E dX5_lengthen_84 3 rfl rfl ?_
              refine x_iload_n (q := 86) E dX5_lengthen_85 2 rfl rfl ?_
              refine x_iload (q := 88) E dX5_lengthen_86 4 rfl rfl ?_
              refine x_iadd (q := 89) E dX5_lengthen_88 rfl ?_
              refine x_callVi (q := 92) (n := 1) (As := [.int (ii ((i0) + (j)))]) (r := [.ref (ad (25 + 0))]) E (c_X0_letterOfRun l D T ad hN (sF (sF (sG (sG st (10 + 0) (n1)) (10 + 1) (st.1 (10 + 0))) (14 + 0) (f)) (14 + 1) (f13)) (q) hq ((i0) + (j)) (by omega) (by rw [e3]; exact z1) (by omega)) gX5_lengthen_X0_letterOfRun rfl rfl rfl (by decide +kernel) ⟨Nat.le_of_ble_eq_true rfl, Nat.le_of_ble_eq_true rfl⟩ (5 + q) (xg_alph hq) rfl rfl rfl (Nat.le_of_ble_eq_true rfl) dX5_lengthen_89 rfl (fun z25 s26 q27 => ?_)
              obtain ⟨rfl, rfl⟩ := q27
              refine x_ti (show (sF (sF (sG (sG st (10 + 0) (n1)) (10 + 1) (st.1 (10 + 0))) (14 + 0) (f)) (14 + 1) (f13)).2 (1 + q) ((i0 + j) % ((sF (sF (sG (sG st (10 + 0) (n1)) (10 + 1) (st.1 (10 + 0))) (14 + 0) (f)) (14 + 1) (f13)).1 (3 + q))) = st.2 (1 + q) ((i0 + j) % (st.1 (3 + q))) from by rw [e2, e3]) ?_
              refine x_aload_n (q := 93) E dX5_lengthen_92 0 rfl rfl ?_
              refine x_get (q := 96) E iX5_lengthen_X5 (0) rfl rfl 2 (by decide) (by decide +kernel) rfl dX5_lengthen_93 rfl ?_
              refine x_iload (q := 98) E dX5_lengthen_96 4 rfl rfl ?_
              refine x_callVi (q := 101) (n := 1) (As := [.int (ii (j))]) (r := [.int (ii (st.2 (1 + q) ((i0 + j) % (st.1 (3 + q))))), .ref (ad (25 + 0))]) E (c_X4_letterAt l D T ad hN (sF (sF (sG (sG st (10 + 0) (n1)) (10 + 1) (st.1 (10 + 0))) (14 + 0) (f)) (14 + 1) (f13)) (1) (by decide) (j) (by omega) (by rw [sF_1, sF_1, sG_s]; exact w0)) gX5_lengthen_X4_letterAt rfl rfl rfl (by decide +kernel) ⟨Nat.le_of_ble_eq_true rfl, Nat.le_of_ble_eq_true rfl⟩ (25 + 1) (xg_word (by decide)) rfl rfl rfl (Nat.le_of_ble_eq_true rfl) dX5_lengthen_98 rfl (fun z28 s29 q30 => ?_)
              obtain ⟨rfl, rfl⟩ := q30
              refine x_ti e1 ?_
              refine x_callVv (q := 104) (n := 2) (As := [.int (ii (st.2 (1 + q) ((i0 + j) % (st.1 (3 + q))))), .int (ii (st.2 (14 + 0) j))]) (r := []) E (c_X4_putTimes l D T ad hN (sF (sF (sG (sG st (10 + 0) (n1)) (10 + 1) (st.1 (10 + 0))) (14 + 0) (f)) (14 + 1) (f13)) (0) (by decide) (st.2 (1 + q) ((i0 + j) % (st.1 (3 + q)))) (by omega) (st.2 (14 + 0) j) (by omega) (by rw [sF_1, sF_1, sG_n _ _ (by omega), sG_s]; omega) (by have := hl6 (i0 + j); omega) (by rw [sF_1, sF_1, sG_n _ _ (by omega), sG_s]; omega) (by rw [sF_n _ _ (by omega), sF_s]; exact a4)) gX5_lengthen_X4_putTimes rfl rfl rfl (by decide +kernel) ⟨Nat.le_of_ble_eq_true rfl, Nat.le_of_ble_eq_true rfl⟩ (25 + 0) (xg_word (by decide)) rfl rfl rfl (Nat.le_of_ble_eq_true rfl) dX5_lengthen_101 rfl (fun s32 q33 => ?_)
              obtain ⟨f34, rfl, h135, h236⟩ := q33
              refine x_iinc (q := 107) (k := 4) (lv' := [(4, .int (ii (j + 1))), (0, .ref (ad 0)), (1, .int (ii ((q : Int)))), (2, .int (ii (i0))), (3, .ref (ad (5 + q)))]) E dX5_lengthen_104 rfl (by decide) rfl rfl ?_
              refine x_goto (tgt := 68) E dX5_lengthen_107 (by decide) ?_
              refine x_st E (st' := (sF (sF (sG (sG st (10 + 0) ((n1) + (st.2 (14 + 0) j))) (10 + 1) (st.1 (10 + 0))) (14 + 0) (f34)) (14 + 1) (f13))) (by refine Prod.ext (funext fun k9 => ?_) (funext fun q9 => ?_) <;> simp only [sG_1, sG_2, sA_1, sA_2, sF_1, sF_2, reduceIte] <;> (repeat' split) <;> first | rfl | omega | (subst_vars; first | rfl | omega) | simp_all) ?_
              refine x_lv E (lv' := [(0, .ref (ad 0)), (1, .int (ii ((q : Int)))), (2, .int (ii (i0))), (3, .ref (ad (5 + q))), (4, .int (ii (j + 1)))]) [1, 2, 3, 4, 0] rfl ?_
              exact ih68 (j + 1) ((n1) + (st.2 (14 + 0) j)) (f34) (by omega) (by omega) (by rw [isum_s _ (by omega)]; omega) (by have y := h135; rw [sF_1, sF_1, sG_n _ _ (by omega), sG_s, sF_n _ _ (by omega), sF_s] at y; rw [y, a3, lgn_s _ _ (by omega)]) (h236)
        refine x_lv E (lv' := [(0, .ref (ad 0)), (1, .int (ii ((q : Int)))), (2, .int (ii (i0))), (3, .ref (ad (5 + q))), (4, .int (ii (0)))]) [2, 3, 4, 1, 0] rfl ?_
        refine x_st E (st' := (sF (sF (sG (sG st (10 + 0) (0)) (10 + 1) (st.1 (10 + 0))) (14 + 0) (st.2 (14 + 0))) (14 + 1) (f13))) (by refine Prod.ext (funext fun k9 => ?_) (funext fun q9 => ?_) <;> simp only [sG_1, sG_2, sA_1, sA_2, sF_1, sF_2, reduceIte] <;> (repeat' split) <;> first | rfl | omega | (subst_vars; first | rfl | omega) | simp_all) ?_
        exact L68 _ (0) (0) (st.2 (14 + 0)) (Nat.lt_succ_self _) (by omega) (by rw [isum_0]; omega) (rfl) (wb0)
      · refine x_bipush (q := 46) E dX5_lengthen_44 (by decide) rfl ?_
        exact RET _ _ _ _ dX5_lengthen_46 (⟨by rw [if_pos (by omega), if_pos (by omega)], by rw [if_neg (by omega)]; exact hC⟩)
    · refine x_bipush (q := 31) E dX5_lengthen_29 (by decide) rfl ?_
      exact RET _ _ _ _ dX5_lengthen_31 (⟨by rw [if_neg (by omega)], by rw [if_neg (by omega)]; exact hC⟩)

theorem iX5_lengthen_n_X5 : ∀ w ∈ wsX50, w ∈ wsX5_lengthen := by decide +kernel
set_option maxRecDepth 100000 in
set_option maxHeartbeats 4000000 in
theorem c_X5_lengthen_n (l : Launch) (D : va_G) (T : Nat → ClassId) (ad : Nat → Nat) (hN : ∀ i j, i < 33 → j < 33 → ad i = ad j → i = j) (st : St_) (k : Int) (bk : -2147483648 ≤ k ∧ k < 2147483648) (i0 : Int) (bi0 : -2147483648 ≤ i0 ∧ i0 < 2147483648) (hk : k < 0 ∨ 4 ≤ k) (a : AB_) (hC : CI st a) : CXi l yX5_lengthen wsX5_lengthen (rmX 1 22) [.ref (ad 0), .int (ii (k)), .int (ii (i0))] D (tyX T) (XW T ad) (alX ad) st (fun z st2 => z = -101 ∧ CI st2 a) := by
  refine mk_i (cc := cX5_lengthen) (nL := 5) rfl rfl (XW_ok hN) (Nat.le_of_ble_eq_true rfl) [(0, .ref (ad 0)), (1, .int (ii (k))), (2, .int (ii (i0)))] rfl (fun p e s m args below meth c A Q E RET => ?_)
  have k1 := hC.1
  have k2 := hC.2.1
  have k3 := hC.2.2.1
  have k4 := hC.2.2.2.1
  have k5 := hC.2.2.2.2.1
  have k6 := hC.2.2.2.2.2.1
  have k7 := hC.2.2.2.2.2.2.1
  have k8 := hC.2.2.2.2.2.2.2
  have hn := k7.2.1.1
  have w0 := (k6 0 (by omega)).1
  have wb0 := (k6 0 (by omega)).2
  have hL := hC.len
  have hf := hC.lf
  have hf6 := hC.let6
  refine x_aload_n (q := 1) E dX5_lengthen_0 0 rfl rfl ?_
  refine x_get (q := 4) E iX5_lengthen_n_X5 (0) rfl rfl 0 (by decide) (by decide +kernel) rfl dX5_lengthen_1 rfl ?_
  refine x_iload_n (q := 5) E dX5_lengthen_4 1 rfl rfl ?_
  refine x_i2l (q := 6) E dX5_lengthen_5 (by omega) rfl ?_
  refine x_callVr (q := 9) (n := 1) (As := [.long (jj (k))]) (r := []) E (c_X1_alphabetNamed_n l D T ad hN st (k) (by omega) (by omega)) gX5_lengthen_X1_alphabetNamed rfl rfl rfl (by decide +kernel) ⟨Nat.le_of_ble_eq_true rfl, Nat.le_of_ble_eq_true rfl⟩ (1) rfl rfl rfl rfl (Nat.le_of_ble_eq_true rfl) dX5_lengthen_6 rfl (fun z1 s2 q3 => ?_)
  obtain ⟨rfl, rfl⟩ := q3
  refine x_astore_nN (q := 10) (lv' := [(3, .null), (0, .ref (ad 0)), (1, .int (ii (k))), (2, .int (ii (i0)))]) E dX5_lengthen_9 (by decide) rfl rfl ?_
  refine x_aload_nN (q := 11) E dX5_lengthen_10 0 rfl rfl ?_
  refine x_ifnonnullN (q := 14) E dX5_lengthen_11 rfl ?_
  refine x_bipush (q := 16) E dX5_lengthen_14 (by decide) rfl ?_
  exact RET _ _ _ _ dX5_lengthen_16 (⟨rfl, hC⟩)

