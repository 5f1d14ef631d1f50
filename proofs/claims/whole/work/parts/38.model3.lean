theorem iX6_load_X6 : ∀ w ∈ wsX60, w ∈ wsX6_load := by decide +kernel
set_option maxRecDepth 100000 in
set_option maxHeartbeats 4000000 in
theorem c_X6_load (l : Launch) (D : va_G) (T : Nat → ClassId) (ad : Nat → Nat) (hN : ∀ i j, i < 13 → j < 13 → ad i = ad j → i = j) (st : St_) (hs : 0 ≤ st.1 3 ∧ st.1 3 ≤ 60) : CXv l yX6_load wsX6_load (rmX 0 0) [.ref (ad 0)] D (tyX T) (MW T ad) (alM ad) st (fun st2 => ∃ f : Int → Int, st2 = sF (sG st 4 (st.1 3)) 8 f ∧ ∀ j : Int, 0 ≤ j → j < st.1 3 → f j = st.2 7 j) := by
  refine mk_v (cc := cX6_load) (nL := 2) rfl rfl (MW_ok hN) (Nat.le_of_ble_eq_true rfl) [(0, .ref (ad 0))] rfl (fun p e s m args below meth c A Q E RET => ?_)
  refine x_aload_n (q := 1) E dX6_load_0 0 rfl rfl ?_
  refine x_aload_n (q := 2) E dX6_load_1 0 rfl rfl ?_
  refine x_get (q := 5) E iX6_load_X6 (0) rfl rfl 11 (by decide) (by decide +kernel) rfl dX6_load_2 rfl ?_
  refine x_put (q := 8) (st' := (sG st (4) (st.1 (3)))) (v := .int (ii (st.1 (3)))) (ty := .int) E iX6_load_X6 tyX6 tyX6_ok nmX6 (0) rfl rfl 13 (by decide) (by decide +kernel) rfl (by decide +kernel) rfl rfl (Nat.le_of_ble_eq_true rfl) dX6_load_5 (ms_4 _) rfl ?_
  refine x_iconst (q := 9) E dX6_load_8 rfl ?_
  refine x_istore_n (q := 10) (lv' := [(1, .int (ii (0))), (0, .ref (ad 0))]) E dX6_load_9 (by decide) rfl rfl ?_
  have L10 : ∀ (n : Nat) (i : Int) (f : Int → Int), (st.1 3 - i).toNat < n → (0 ≤ i ∧ i ≤ st.1 3) → (∀ j : Int, 0 ≤ j → j < i → f j = st.2 7 j) → XJ p l e (rmX 0 0) s m args below meth c D (MW T ad) A 2 Q 0 0 (sF (sG st (4) (st.1 (3))) (8) (f)) 10 [(0, .ref (ad 0)), (1, .int (ii (i)))] [] := by
    intro n
    induction n with
    | zero => intro i f hn; exact absurd hn (Nat.not_lt_zero _)
    | succ n ih10 =>
      intro i f hn10 a1 a2
      refine x_iload_n (q := 11) E dX6_load_10 1 rfl rfl ?_
      refine x_aload_n (q := 12) E dX6_load_11 0 rfl rfl ?_
      refine x_get (q := 15) E iX6_load_X6 (0) rfl rfl 11 (by decide) (by decide +kernel) rfl dX6_load_12 rfl ?_
      refine x_ti (show (sF (sG st (4) (st.1 (3))) (8) (f)).1 (3) = st.1 (3) by rw [sF_1, sG_n _ _ (by omega)]) ?_
      refine x_icmp_ge (tgt := 36) (q := 18) E dX6_load_15 (by decide) rfl (by omega) (by omega) (fun c15 => ?_) (fun c15 => ?_)
      · exact RET _ _ _ dX6_load_36 (⟨f, rfl, fun j j0 j1 => a2 j j0 (by omega)⟩)
      · refine x_aload_n (q := 19) E dX6_load_18 0 rfl rfl ?_
        refine x_get (q := 22) E iX6_load_X6 (0) rfl rfl 12 (by decide) (by decide +kernel) rfl dX6_load_19 rfl ?_
        refine x_iload_n (q := 23) E dX6_load_22 1 rfl rfl ?_
        refine x_aload_n (q := 24) E dX6_load_23 0 rfl rfl ?_
        refine x_get (q := 27) E iX6_load_X6 (0) rfl rfl 10 (by decide) (by decide +kernel) rfl dX6_load_24 rfl ?_
        refine x_iload_n (q := 28) E dX6_load_27 1 rfl rfl ?_
        refine x_iald (q := 29) (f := (sF (sG st (4) (st.1 (3))) (8) (f)).2 (7)) E (8) rfl 0 rfl (by omega) (by omega) (by decide) dX6_load_28 rfl ?_
        refine x_ti (show (sF (sG st (4) (st.1 (3))) (8) (f)).2 (7) (i) = st.2 (7) (i) by rw [sF_n _ _ (by omega), sG_2]) ?_
        refine x_iast (q := 30) (st' := (sA (sF (sG st (4) (st.1 (3))) (8) (f)) (8) (i) (st.2 (7) (i)))) (f := (sF (sG st (4) (st.1 (3))) (8) (f)).2 (8)) E (9) rfl 0 rfl (by omega) (by omega) (by decide) dX6_load_29 (ma_8 _ _) rfl ?_
        refine x_iinc (q := 33) (k := 1) (lv' := [(1, .int (ii (i + 1))), (0, .ref (ad 0))]) E dX6_load_30 rfl (by decide) rfl rfl ?_
        refine x_goto (tgt := 10) E dX6_load_33 (by decide) ?_
        refine x_st E (st' := (sF (sG st (4) (st.1 (3))) (8) (zup (f) (i) (st.2 (7) (i))))) (by refine Prod.ext (funext fun k9 => ?_) (funext fun q9 => ?_) <;> simp only [sG_1, sG_2, sA_1, sA_2, sF_1, sF_2, reduceIte] <;> (repeat' split) <;> first | rfl | omega | (subst_vars; first | rfl | omega) | simp_all) ?_
        refine x_lv E (lv' := [(0, .ref (ad 0)), (1, .int (ii (i + 1)))]) [1, 0] rfl ?_
        exact ih10 (i + 1) (zup (f) (i) (st.2 (7) (i))) (by omega) (by omega) (fun j j0 j1 => if hj : j = i then (by rw [hj, zup_eq]) else (by rw [zup_ne _ _ hj]; exact a2 j j0 (by omega)))
  refine x_lv E (lv' := [(0, .ref (ad 0)), (1, .int (ii (0)))]) [1, 0] rfl ?_
  refine x_st E (st' := (sF (sG st (4) (st.1 (3))) (8) (st.2 (8)))) (by refine Prod.ext (funext fun k9 => ?_) (funext fun q9 => ?_) <;> simp only [sG_1, sG_2, sA_1, sA_2, sF_1, sF_2, reduceIte] <;> (repeat' split) <;> first | rfl | omega | (subst_vars; first | rfl | omega) | simp_all) ?_
  exact L10 _ (0) (st.2 (8)) (Nat.lt_succ_self _) (by omega) (fun j j0 j1 => absurd j1 (by omega))

theorem iX6_keep_X6 : ∀ w ∈ wsX60, w ∈ wsX6_keep := by decide +kernel
set_option maxRecDepth 100000 in
set_option maxHeartbeats 4000000 in
theorem c_X6_keep (l : Launch) (D : va_G) (T : Nat → ClassId) (ad : Nat → Nat) (hN : ∀ i j, i < 13 → j < 13 → ad i = ad j → i = j) (st : St_) (hs : 0 ≤ st.1 4 ∧ st.1 4 ≤ 60) : CXv l yX6_keep wsX6_keep (rmX 0 0) [.ref (ad 0)] D (tyX T) (MW T ad) (alM ad) st (fun st2 => ∃ f : Int → Int, st2 = sF (sG st 3 (st.1 4)) 7 f ∧ ∀ j : Int, 0 ≤ j → j < st.1 4 → f j = st.2 8 j) := by
  refine mk_v (cc := cX6_keep) (nL := 2) rfl rfl (MW_ok hN) (Nat.le_of_ble_eq_true rfl) [(0, .ref (ad 0))] rfl (fun p e s m args below meth c A Q E RET => ?_)
  refine x_aload_n (q := 1) E dX6_keep_0 0 rfl rfl ?_
  refine x_aload_n (q := 2) E dX6_keep_1 0 rfl rfl ?_
  refine x_get (q := 5) E iX6_keep_X6 (0) rfl rfl 13 (by decide) (by decide +kernel) rfl dX6_keep_2 rfl ?_
  refine x_put (q := 8) (st' := (sG st (3) (st.1 (4)))) (v := .int (ii (st.1 (4)))) (ty := .int) E iX6_keep_X6 tyX6 tyX6_ok nmX6 (0) rfl rfl 11 (by decide) (by decide +kernel) rfl (by decide +kernel) rfl rfl (Nat.le_of_ble_eq_true rfl) dX6_keep_5 (ms_3 _) rfl ?_
  refine x_iconst (q := 9) E dX6_keep_8 rfl ?_
  refine x_istore_n (q := 10) (lv' := [(1, .int (ii (0))), (0, .ref (ad 0))]) E dX6_keep_9 (by decide) rfl rfl ?_
  have L10 : ∀ (n : Nat) (i : Int) (f : Int → Int), (st.1 4 - i).toNat < n → (0 ≤ i ∧ i ≤ st.1 4) → (∀ j : Int, 0 ≤ j → j < i → f j = st.2 8 j) → XJ p l e (rmX 0 0) s m args below meth c D (MW T ad) A 2 Q 0 0 (sF (sG st (3) (st.1 (4))) (7) (f)) 10 [(0, .ref (ad 0)), (1, .int (ii (i)))] [] := by
    intro n
    induction n with
    | zero => intro i f hn; exact absurd hn (Nat.not_lt_zero _)
    | succ n ih10 =>
      intro i f hn10 a1 a2
      refine x_iload_n (q := 11) E dX6_keep_10 1 rfl rfl ?_
      refine x_aload_n (q := 12) E dX6_keep_11 0 rfl rfl ?_
      refine x_get (q := 15) E iX6_keep_X6 (0) rfl rfl 13 (by decide) (by decide +kernel) rfl dX6_keep_12 rfl ?_
      refine x_ti (show (sF (sG st (3) (st.1 (4))) (7) (f)).1 (4) = st.1 (4) by rw [sF_1, sG_n _ _ (by omega)]) ?_
      refine x_icmp_ge (tgt := 36) (q := 18) E dX6_keep_15 (by decide) rfl (by omega) (by omega) (fun c15 => ?_) (fun c15 => ?_)
      · exact RET _ _ _ dX6_keep_36 (⟨f, rfl, fun j j0 j1 => a2 j j0 (by omega)⟩)
      · refine x_aload_n (q := 19) E dX6_keep_18 0 rfl rfl ?_
        refine x_get (q := 22) E iX6_keep_X6 (0) rfl rfl 10 (by decide) (by decide +kernel) rfl dX6_keep_19 rfl ?_
        refine x_iload_n (q := 23) E dX6_keep_22 1 rfl rfl ?_
        refine x_aload_n (q := 24) E dX6_keep_23 0 rfl rfl ?_
        refine x_get (q := 27) E iX6_keep_X6 (0) rfl rfl 12 (by decide) (by decide +kernel) rfl dX6_keep_24 rfl ?_
        refine x_iload_n (q := 28) E dX6_keep_27 1 rfl rfl ?_
        refine x_iald (q := 29) (f := (sF (sG st (3) (st.1 (4))) (7) (f)).2 (8)) E (9) rfl 0 rfl (by omega) (by omega) (by decide) dX6_keep_28 rfl ?_
        refine x_ti (show (sF (sG st (3) (st.1 (4))) (7) (f)).2 (8) (i) = st.2 (8) (i) by rw [sF_n _ _ (by omega), sG_2]) ?_
        refine x_iast (q := 30) (st' := (sA (sF (sG st (3) (st.1 (4))) (7) (f)) (7) (i) (st.2 (8) (i)))) (f := (sF (sG st (3) (st.1 (4))) (7) (f)).2 (7)) E (8) rfl 0 rfl (by omega) (by omega) (by decide) dX6_keep_29 (ma_7 _ _) rfl ?_
        refine x_iinc (q := 33) (k := 1) (lv' := [(1, .int (ii (i + 1))), (0, .ref (ad 0))]) E dX6_keep_30 rfl (by decide) rfl rfl ?_
        refine x_goto (tgt := 10) E dX6_keep_33 (by decide) ?_
        refine x_st E (st' := (sF (sG st (3) (st.1 (4))) (7) (zup (f) (i) (st.2 (8) (i))))) (by refine Prod.ext (funext fun k9 => ?_) (funext fun q9 => ?_) <;> simp only [sG_1, sG_2, sA_1, sA_2, sF_1, sF_2, reduceIte] <;> (repeat' split) <;> first | rfl | omega | (subst_vars; first | rfl | omega) | simp_all) ?_
        refine x_lv E (lv' := [(0, .ref (ad 0)), (1, .int (ii (i + 1)))]) [1, 0] rfl ?_
        exact ih10 (i + 1) (zup (f) (i) (st.2 (8) (i))) (by omega) (by omega) (fun j j0 j1 => if hj : j = i then (by rw [hj, zup_eq]) else (by rw [zup_ne _ _ hj]; exact a2 j j0 (by omega)))
  refine x_lv E (lv' := [(0, .ref (ad 0)), (1, .int (ii (0)))]) [1, 0] rfl ?_
  refine x_st E (st' := (sF (sG st (3) (st.1 (4))) (7) (st.2 (7)))) (by refine Prod.ext (funext fun k9 => ?_) (funext fun q9 => ?_) <;> simp only [sG_1, sG_2, sA_1, sA_2, sF_1, sF_2, reduceIte] <;> (repeat' split) <;> first | rfl | omega | (subst_vars; first | rfl | omega) | simp_all) ?_
  exact L10 _ (0) (st.2 (7)) (Nat.lt_succ_self _) (by omega) (fun j j0 j1 => absurd j1 (by omega))

theorem iX6_measure_X6 : ∀ w ∈ wsX60, w ∈ wsX6_measure := by decide +kernel
set_option maxRecDepth 100000 in
set_option maxHeartbeats 4000000 in
theorem c_X6_measure (l : Launch) (D : va_G) (T : Nat → ClassId) (ad : Nat → Nat) (hN : ∀ i j, i < 13 → j < 13 → ad i = ad j → i = j) (st : St_) (hs : 0 ≤ st.1 4 ∧ st.1 4 ≤ 60) (hb : ∀ j : Int, 0 ≤ j → j < st.1 4 → 0 ≤ st.2 8 j ∧ st.2 8 j ≤ 60) : CXi l yX6_measure wsX6_measure (rmX 0 0) [.ref (ad 0)] D (tyX T) (MW T ad) (alM ad) st (fun z st2 => z = lg (st.2 8) (st.1 4) ∧ ∃ (k : Int) (t : Int → Int), st2 = sF (sG st 5 k) 9 t ∧ wl t k = runs (st.2 8) (st.1 4) ∧ k = chg (st.2 8) (st.1 4) ∧ (0 ≤ k ∧ k ≤ st.1 4)) := by
  refine mk_i (cc := cX6_measure) (nL := 3) rfl rfl (MW_ok hN) (Nat.le_of_ble_eq_true rfl) [(0, .ref (ad 0))] rfl (fun p e s m args below meth c A Q E RET => ?_)
  refine x_aload_n (q := 1) E dX6_measure_0 0 rfl rfl ?_
  refine x_iconst (q := 2) E dX6_measure_1 rfl ?_
  refine x_put (q := 5) (st' := (sG st (5) (0))) (v := .int (ii (0))) (ty := .int) E iX6_measure_X6 tyX6 tyX6_ok nmX6 (0) rfl rfl 15 (by decide) (by decide +kernel) rfl (by decide +kernel) rfl rfl (Nat.le_of_ble_eq_true rfl) dX6_measure_2 (ms_5 _) rfl ?_
  refine x_iconst (q := 6) E dX6_measure_5 rfl ?_
  refine x_istore_n (q := 7) (lv' := [(1, .int (ii (0))), (0, .ref (ad 0))]) E dX6_measure_6 (by decide) rfl rfl ?_
  refine x_iconst (q := 8) E dX6_measure_7 rfl ?_
  refine x_istore_n (q := 9) (lv' := [(2, .int (ii (0))), (1, .int (ii (0))), (0, .ref (ad 0))]) E dX6_measure_8 (by decide) rfl rfl ?_
  have L9 : ∀ (n : Nat) (b : Int) (i : Int) (k : Int) (t : Int → Int), (st.1 4 - i).toNat < n → (0 ≤ i ∧ i ≤ st.1 4) → (0 ≤ k ∧ k ≤ i ∧ (0 < i → 1 ≤ k)) → (wl t k = runs (st.2 8) i) → (b = lg (st.2 8) i) → (k = chg (st.2 8) i) → (0 < i → t (k - 1) = cl (st.2 8) i) → XJ p l e (rmX 0 0) s m args below meth c D (MW T ad) A 3 Q 0 0 (sF (sG st (5) (k)) (9) (t)) 9 [(0, .ref (ad 0)), (1, .int (ii (b))), (2, .int (ii (i)))] [] := by
    intro n
    induction n with
    | zero => intro b i k t hn; exact absurd hn (Nat.not_lt_zero _)
    | succ n ih9 =>
      intro b i k t hn9 a1 a2 a3 a4 a5 a6
      have e2 := lg_b (st.2 8) (k := i) a1.1
      have e3 := cl_pos (st.2 8) (k := i) a1.1
      refine x_iload_n (q := 10) E dX6_measure_9 2 rfl rfl ?_
      refine x_aload_n (q := 11) E dX6_measure_10 0 rfl rfl ?_
      refine x_get (q := 14) E iX6_measure_X6 (0) rfl rfl 13 (by decide) (by decide +kernel) rfl dX6_measure_11 rfl ?_
      refine x_ti (show (sF (sG st (5) (k)) (9) (t)).1 (4) = st.1 (4) by rw [sF_1, sG_n _ _ (by omega)]) ?_
      refine x_icmp_ge (tgt := 110) (q := 17) E dX6_measure_14 (by decide) rfl (by omega) (by omega) (fun c14 => ?_) (fun c14 => ?_)
      · refine x_iload_n (q := 111) E dX6_measure_110 1 rfl rfl ?_
        exact RET _ _ _ _ dX6_measure_111 (⟨by rw [a4]; exact congrArg _ (by omega), k, t, rfl, by rw [a3]; exact congrArg _ (by omega), by rw [a5]; exact congrArg _ (by omega), by omega⟩)
      · have e11 := cl_pos (st.2 8) (k := i + 1) (by omega)
        refine x_iload_n (q := 18) E dX6_measure_17 2 rfl rfl ?_
        refine x_if_eq (tgt := 38) (q := 21) E dX6_measure_18 (by decide) rfl (by omega) (fun c18 => ?_) (fun c18 => ?_)
        · have e5 : i = 0 ∨ st.2 8 i ≠ st.2 8 (i - 1) := by omega
          have e6 : cl (st.2 8) (i + 1) = 1 := by rw [cl_s _ (by omega), if_pos e5]
          refine x_aload_n (q := 39) E dX6_measure_38 0 rfl rfl ?_
          refine x_get (q := 42) E iX6_measure_X6 (0) rfl rfl 14 (by decide) (by decide +kernel) rfl dX6_measure_39 rfl ?_
          refine x_aload_n (q := 43) E dX6_measure_42 0 rfl rfl ?_
          refine x_get (q := 46) E iX6_measure_X6 (0) rfl rfl 15 (by decide) (by decide +kernel) rfl dX6_measure_43 rfl ?_
          refine x_ti (show (sF (sG st (5) (k)) (9) (t)).1 (5) = k by rw [sF_1, sG_s]) ?_
          refine x_iconst (q := 47) E dX6_measure_46 rfl ?_
          refine x_iast (q := 48) (st' := (sA (sF (sG st (5) (k)) (9) (t)) (9) (k) (0))) (f := (sF (sG st (5) (k)) (9) (t)).2 (9)) E (10) rfl 0 rfl (by omega) (by omega) (by decide) dX6_measure_47 (ma_9 _ _) rfl ?_
          refine x_aload_n (q := 49) E dX6_measure_48 0 rfl rfl ?_
          refine x_dup (q := 50) E dX6_measure_49 rfl rfl ?_
          refine x_get (q := 53) E iX6_measure_X6 (0) rfl rfl 15 (by decide) (by decide +kernel) rfl dX6_measure_50 rfl ?_
          refine x_ti (show (sA (sF (sG st (5) (k)) (9) (t)) (9) (k) (0)).1 (5) = k by rw [sA_1, sF_1, sG_s]) ?_
          refine x_iconst (q := 54) E dX6_measure_53 rfl ?_
          refine x_iadd (q := 55) E dX6_measure_54 rfl ?_
          refine x_put (q := 58) (st' := (sG (sA (sF (sG st (5) (k)) (9) (t)) (9) (k) (0)) (5) ((k) + (1)))) (v := .int (ii ((k) + (1)))) (ty := .int) E iX6_measure_X6 tyX6 tyX6_ok nmX6 (0) rfl rfl 15 (by decide) (by decide +kernel) rfl (by decide +kernel) rfl rfl (Nat.le_of_ble_eq_true rfl) dX6_measure_55 (ms_5 _) rfl ?_
          refine x_aload_n (q := 59) E dX6_measure_58 0 rfl rfl ?_
          refine x_get (q := 62) E iX6_measure_X6 (0) rfl rfl 14 (by decide) (by decide +kernel) rfl dX6_measure_59 rfl ?_
          refine x_aload_n (q := 63) E dX6_measure_62 0 rfl rfl ?_
          refine x_get (q := 66) E iX6_measure_X6 (0) rfl rfl 15 (by decide) (by decide +kernel) rfl dX6_measure_63 rfl ?_
          refine x_ti (show (sG (sA (sF (sG st (5) (k)) (9) (t)) (9) (k) (0)) (5) ((k) + (1))).1 (5) = (k) + (1) by rw [sG_s]) ?_
          refine x_iconst (q := 67) E dX6_measure_66 rfl ?_
          refine x_isub (q := 68) E dX6_measure_67 rfl ?_
          refine x_dup2 (q := 69) E dX6_measure_68 rfl rfl rfl ?_
          refine x_iald (q := 70) (f := (sG (sA (sF (sG st (5) (k)) (9) (t)) (9) (k) (0)) (5) ((k) + (1))).2 (9)) E (10) rfl 0 rfl (by omega) (by omega) (by decide) dX6_measure_69 rfl ?_
          refine x_ti (show (sG (sA (sF (sG st (5) (k)) (9) (t)) (9) (k) (0)) (5) ((k) + (1))).2 (9) (((k) + (1)) - (1)) = (zup (t) (k) (0)) (((k) + (1)) - (1)) by rw [sG_2, sA_s, sF_s]) ?_
          refine x_iconst (q := 71) E dX6_measure_70 rfl ?_
          refine x_iadd (q := 72) E dX6_measure_71 rfl ?_
          refine x_iast (q := 73) (st' := (sA (sG (sA (sF (sG st (5) (k)) (9) (t)) (9) (k) (0)) (5) ((k) + (1))) (9) (((k) + (1)) - (1)) (((zup (t) (k) (0)) (((k) + (1)) - (1))) + (1)))) (f := (sG (sA (sF (sG st (5) (k)) (9) (t)) (9) (k) (0)) (5) ((k) + (1))).2 (9)) E (10) rfl 0 rfl (by omega) (by omega) (by decide) dX6_measure_72 (ma_9 _ _) rfl ?_
          refine x_aload_n (q := 74) E dX6_measure_73 0 rfl rfl ?_
          refine x_get (q := 77) E iX6_measure_X6 (0) rfl rfl 14 (by decide) (by decide +kernel) rfl dX6_measure_74 rfl ?_
          refine x_aload_n (q := 78) E dX6_measure_77 0 rfl rfl ?_
          refine x_get (q := 81) E iX6_measure_X6 (0) rfl rfl 15 (by decide) (by decide +kernel) rfl dX6_measure_78 rfl ?_
          refine x_ti (show (sA (sG (sA (sF (sG st (5) (k)) (9) (t)) (9) (k) (0)) (5) ((k) + (1))) (9) (((k) + (1)) - (1)) (((zup (t) (k) (0)) (((k) + (1)) - (1))) + (1))).1 (5) = (k) + (1) by rw [sA_1, sG_s]) ?_
          refine x_iconst (q := 82) E dX6_measure_81 rfl ?_
          refine x_isub (q := 83) E dX6_measure_82 rfl ?_
          refine x_iald (q := 84) (f := (sA (sG (sA (sF (sG st (5) (k)) (9) (t)) (9) (k) (0)) (5) ((k) + (1))) (9) (((k) + (1)) - (1)) (((zup (t) (k) (0)) (((k) + (1)) - (1))) + (1))).2 (9)) E (10) rfl 0 rfl (by omega) (by omega) (by decide) dX6_measure_83 rfl ?_
          refine x_ti (show (sA (sG (sA (sF (sG st (5) (k)) (9) (t)) (9) (k) (0)) (5) ((k) + (1))) (9) (((k) + (1)) - (1)) (((zup (t) (k) (0)) (((k) + (1)) - (1))) + (1))).2 (9) (((k) + (1)) - (1)) = (zup (zup (t) (k) (0)) (((k) + (1)) - (1)) (((zup (t) (k) (0)) (((k) + (1)) - (1))) + (1))) (((k) + (1)) - (1)) by rw [sA_s, sG_2, sA_s, sF_s]) ?_
          have e10 : (zup (zup (t) (k) (0)) (((k) + (1)) - (1)) (((zup (t) (k) (0)) (((k) + (1)) - (1))) + (1))) (((k) + (1)) - (1)) = cl (st.2 8) (i + 1) := by rw [show k + 1 - 1 = k from by omega, zup_eq, zup_eq, e6]; rfl
          refine x_ti e10 ?_
          refine x_iload_n (q := 85) E dX6_measure_84 1 rfl rfl ?_
          refine x_icmp_le (tgt := 102) (q := 88) E dX6_measure_85 (by decide) rfl (by omega) (by omega) (fun c85 => ?_) (fun c85 => ?_)
          · refine x_iload_n (q := 103) E dX6_measure_102 1 rfl rfl ?_
            refine x_istore_n (q := 104) (lv' := [(1, .int (ii (b))), (0, .ref (ad 0)), (2, .int (ii (i)))]) E dX6_measure_103 (by decide) rfl rfl ?_
            refine x_iinc (q := 107) (k := 2) (lv' := [(2, .int (ii (i + 1))), (1, .int (ii (b))), (0, .ref (ad 0))]) E dX6_measure_104 rfl (by decide) rfl rfl ?_
            refine x_goto (tgt := 9) E dX6_measure_107 (by decide) ?_
            refine x_st E (st' := (sF (sG st (5) ((k) + (1))) (9) (zup (zup (t) (k) (0)) (((k) + (1)) - (1)) (((zup (t) (k) (0)) (((k) + (1)) - (1))) + (1))))) (by refine Prod.ext (funext fun k9 => ?_) (funext fun q9 => ?_) <;> simp only [sG_1, sG_2, sA_1, sA_2, sF_1, sF_2, reduceIte] <;> (repeat' split) <;> first | rfl | omega | (subst_vars; first | rfl | omega) | simp_all) ?_
            refine x_lv E (lv' := [(0, .ref (ad 0)), (1, .int (ii (b))), (2, .int (ii (i + 1)))]) [2, 1, 0] rfl ?_
            exact ih9 (b) (i + 1) ((k) + (1)) (zup (zup (t) (k) (0)) (((k) + (1)) - (1)) (((zup (t) (k) (0)) (((k) + (1)) - (1))) + (1))) (by omega) (by omega) (by omega) (by rw [show k + 1 - 1 = k from by omega, wl_put _ _ (by omega), wl_zup _ _ (by omega), zup_eq, a3, runs_new (by omega) e5]; rfl) (by rw [lg_s _ (by omega), ← a4]; unfold mx2; rw [if_neg (by omega)]) (by rw [chg_s _ (by omega), if_pos e5, ← a5]) (fun _ => e10)
          · refine x_aload_n (q := 89) E dX6_measure_88 0 rfl rfl ?_
            refine x_get (q := 92) E iX6_measure_X6 (0) rfl rfl 14 (by decide) (by decide +kernel) rfl dX6_measure_89 rfl ?_
            refine x_aload_n (q := 93) E dX6_measure_92 0 rfl rfl ?_
            refine x_get (q := 96) E iX6_measure_X6 (0) rfl rfl 15 (by decide) (by decide +kernel) rfl dX6_measure_93 rfl ?_
            refine x_ti (show (sA (sG (sA (sF (sG st (5) (k)) (9) (t)) (9) (k) (0)) (5) ((k) + (1))) (9) (((k) + (1)) - (1)) (((zup (t) (k) (0)) (((k) + (1)) - (1))) + (1))).1 (5) = (k) + (1) by rw [sA_1, sG_s]) ?_
            refine x_iconst (q := 97) E dX6_measure_96 rfl ?_
            refine x_isub (q := 98) E dX6_measure_97 rfl ?_
            refine x_iald (q := 99) (f := (sA (sG (sA (sF (sG st (5) (k)) (9) (t)) (9) (k) (0)) (5) ((k) + (1))) (9) (((k) + (1)) - (1)) (((zup (t) (k) (0)) (((k) + (1)) - (1))) + (1))).2 (9)) E (10) rfl 0 rfl (by omega) (by omega) (by decide) dX6_measure_98 rfl ?_
            refine x_ti (show (sA (sG (sA (sF (sG st (5) (k)) (9) (t)) (9) (k) (0)) (5) ((k) + (1))) (9) (((k) + (1)) - (1)) (((zup (t) (k) (0)) (((k) + (1)) - (1))) + (1))).2 (9) (((k) + (1)) - (1)) = (zup (zup (t) (k) (0)) (((k) + (1)) - (1)) (((zup (t) (k) (0)) (((k) + (1)) - (1))) + (1))) (((k) + (1)) - (1)) by rw [sA_s, sG_2, sA_s, sF_s]) ?_
            have e10 : (zup (zup (t) (k) (0)) (((k) + (1)) - (1)) (((zup (t) (k) (0)) (((k) + (1)) - (1))) + (1))) (((k) + (1)) - (1)) = cl (st.2 8) (i + 1) := by rw [show k + 1 - 1 = k from by omega, zup_eq, zup_eq, e6]; rfl
            refine x_ti e10 ?_
            refine x_goto (tgt := 103) E dX6_measure_99 (by decide) ?_
            refine x_istore_n (q := 104) (lv' := [(1, .int (ii (cl (st.2 8) (i + 1)))), (0, .ref (ad 0)), (2, .int (ii (i)))]) E dX6_measure_103 (by decide) rfl rfl ?_
            refine x_iinc (q := 107) (k := 2) (lv' := [(2, .int (ii (i + 1))), (1, .int (ii (cl (st.2 8) (i + 1)))), (0, .ref (ad 0))]) E dX6_measure_104 rfl (by decide) rfl rfl ?_
            refine x_goto (tgt := 9) E dX6_measure_107 (by decide) ?_
            refine x_st E (st' := (sF (sG st (5) ((k) + (1))) (9) (zup (zup (t) (k) (0)) (((k) + (1)) - (1)) (((zup (t) (k) (0)) (((k) + (1)) - (1))) + (1))))) (by refine Prod.ext (funext fun k9 => ?_) (funext fun q9 => ?_) <;> simp only [sG_1, sG_2, sA_1, sA_2, sF_1, sF_2, reduceIte] <;> (repeat' split) <;> first | rfl | omega | (subst_vars; first | rfl | omega) | simp_all) ?_
            refine x_lv E (lv' := [(0, .ref (ad 0)), (1, .int (ii (cl (st.2 8) (i + 1)))), (2, .int (ii (i + 1)))]) [2, 1, 0] rfl ?_
            exact ih9 (cl (st.2 8) (i + 1)) (i + 1) ((k) + (1)) (zup (zup (t) (k) (0)) (((k) + (1)) - (1)) (((zup (t) (k) (0)) (((k) + (1)) - (1))) + (1))) (by omega) (by omega) (by omega) (by rw [show k + 1 - 1 = k from by omega, wl_put _ _ (by omega), wl_zup _ _ (by omega), zup_eq, a3, runs_new (by omega) e5]; rfl) (by rw [lg_s _ (by omega), ← a4]; unfold mx2; rw [if_pos (by omega)]) (by rw [chg_s _ (by omega), if_pos e5, ← a5]) (fun _ => e10)
        · have e8 := hb i (by omega) (by omega)
          have e9 := hb (i - 1) (by omega) (by omega)
          refine x_aload_n (q := 22) E dX6_measure_21 0 rfl rfl ?_
          refine x_get (q := 25) E iX6_measure_X6 (0) rfl rfl 12 (by decide) (by decide +kernel) rfl dX6_measure_22 rfl ?_
          refine x_iload_n (q := 26) E dX6_measure_25 2 rfl rfl ?_
          refine x_iald (q := 27) (f := (sF (sG st (5) (k)) (9) (t)).2 (8)) E (9) rfl 0 rfl (by omega) (by omega) (by decide) dX6_measure_26 rfl ?_
          refine x_ti (show (sF (sG st (5) (k)) (9) (t)).2 (8) (i) = st.2 (8) (i) by rw [sF_n _ _ (by omega), sG_2]) ?_
          refine x_aload_n (q := 28) E dX6_measure_27 0 rfl rfl ?_
          refine x_get (q := 31) E iX6_measure_X6 (0) rfl rfl 12 (by decide) (by decide +kernel) rfl dX6_measure_28 rfl ?_
          refine x_iload_n (q := 32) E dX6_measure_31 2 rfl rfl ?_
          refine x_iconst (q := 33) E dX6_measure_32 rfl ?_
          refine x_isub (q := 34) E dX6_measure_33 rfl ?_
          refine x_iald (q := 35) (f := (sF (sG st (5) (k)) (9) (t)).2 (8)) E (9) rfl 0 rfl (by omega) (by omega) (by decide) dX6_measure_34 rfl ?_
          refine x_ti (show (sF (sG st (5) (k)) (9) (t)).2 (8) ((i) - (1)) = st.2 (8) ((i) - (1)) by rw [sF_n _ _ (by omega), sG_2]) ?_
          refine x_icmp_eq (tgt := 58) (q := 38) E dX6_measure_35 (by decide) rfl (by omega) (by omega) (fun c35 => ?_) (fun c35 => ?_)
          · have e5 : ¬ (i = 0 ∨ st.2 8 i ≠ st.2 8 (i - 1)) := by omega
            have e6 : cl (st.2 8) (i + 1) = cl (st.2 8) i + 1 := by rw [cl_s _ (by omega), if_neg e5]
            have e7 := a6 (by omega)
            refine x_aload_n (q := 59) E dX6_measure_58 0 rfl rfl ?_
            refine x_get (q := 62) E iX6_measure_X6 (0) rfl rfl 14 (by decide) (by decide +kernel) rfl dX6_measure_59 rfl ?_
            refine x_aload_n (q := 63) E dX6_measure_62 0 rfl rfl ?_
            refine x_get (q := 66) E iX6_measure_X6 (0) rfl rfl 15 (by decide) (by decide +kernel) rfl dX6_measure_63 rfl ?_
            refine x_ti (show (sF (sG st (5) (k)) (9) (t)).1 (5) = k by rw [sF_1, sG_s]) ?_
            refine x_iconst (q := 67) E dX6_measure_66 rfl ?_
            refine x_isub (q := 68) E dX6_measure_67 rfl ?_
            refine x_dup2 (q := 69) E dX6_measure_68 rfl rfl rfl ?_
            refine x_iald (q := 70) (f := (sF (sG st (5) (k)) (9) (t)).2 (9)) E (10) rfl 0 rfl (by omega) (by omega) (by decide) dX6_measure_69 rfl ?_
            refine x_ti (show (sF (sG st (5) (k)) (9) (t)).2 (9) ((k) - (1)) = t ((k) - (1)) by rw [sF_s]) ?_
            refine x_iconst (q := 71) E dX6_measure_70 rfl ?_
            refine x_iadd (q := 72) E dX6_measure_71 rfl ?_
            refine x_iast (q := 73) (st' := (sA (sF (sG st (5) (k)) (9) (t)) (9) ((k) - (1)) ((t ((k) - (1))) + (1)))) (f := (sF (sG st (5) (k)) (9) (t)).2 (9)) E (10) rfl 0 rfl (by omega) (by omega) (by decide) dX6_measure_72 (ma_9 _ _) rfl ?_
            refine x_aload_n (q := 74) E dX6_measure_73 0 rfl rfl ?_
            refine x_get (q := 77) E iX6_measure_X6 (0) rfl rfl 14 (by decide) (by decide +kernel) rfl dX6_measure_74 rfl ?_
            refine x_aload_n (q := 78) E dX6_measure_77 0 rfl rfl ?_
            refine x_get (q := 81) E iX6_measure_X6 (0) rfl rfl 15 (by decide) (by decide +kernel) rfl dX6_measure_78 rfl ?_
            refine x_ti (show (sA (sF (sG st (5) (k)) (9) (t)) (9) ((k) - (1)) ((t ((k) - (1))) + (1))).1 (5) = k by rw [sA_1, sF_1, sG_s]) ?_
            refine x_iconst (q := 82) E dX6_measure_81 rfl ?_
            refine x_isub (q := 83) E dX6_measure_82 rfl ?_
            refine x_iald (q := 84) (f := (sA (sF (sG st (5) (k)) (9) (t)) (9) ((k) - (1)) ((t ((k) - (1))) + (1))).2 (9)) E (10) rfl 0 rfl (by omega) (by omega) (by decide) dX6_measure_83 rfl ?_
            refine x_ti (show (sA (sF (sG st (5) (k)) (9) (t)) (9) ((k) - (1)) ((t ((k) - (1))) + (1))).2 (9) ((k) - (1)) = (zup (t) ((k) - (1)) ((t ((k) - (1))) + (1))) ((k) - (1)) by rw [sA_s, sF_s]) ?_
            have e10 : (zup (t) ((k) - (1)) ((t ((k) - (1))) + (1))) ((k) - (1)) = cl (st.2 8) (i + 1) := by rw [zup_eq, e7, e6]
            refine x_ti e10 ?_
            refine x_iload_n (q := 85) E dX6_measure_84 1 rfl rfl ?_
            refine x_icmp_le (tgt := 102) (q := 88) E dX6_measure_85 (by decide) rfl (by omega) (by omega) (fun c85 => ?_) (fun c85 => ?_)
            · refine x_iload_n (q := 103) E dX6_measure_102 1 rfl rfl ?_
              refine x_istore_n (q := 104) (lv' := [(1, .int (ii (b))), (0, .ref (ad 0)), (2, .int (ii (i)))]) E dX6_measure_103 (by decide) rfl rfl ?_
              refine x_iinc (q := 107) (k := 2) (lv' := [(2, .int (ii (i + 1))), (1, .int (ii (b))), (0, .ref (ad 0))]) E dX6_measure_104 rfl (by decide) rfl rfl ?_
              refine x_goto (tgt := 9) E dX6_measure_107 (by decide) ?_
              refine x_st E (st' := (sF (sG st (5) (k)) (9) (zup (t) ((k) - (1)) ((t ((k) - (1))) + (1))))) (by refine Prod.ext (funext fun k9 => ?_) (funext fun q9 => ?_) <;> simp only [sG_1, sG_2, sA_1, sA_2, sF_1, sF_2, reduceIte] <;> (repeat' split) <;> first | rfl | omega | (subst_vars; first | rfl | omega) | simp_all) ?_
              refine x_lv E (lv' := [(0, .ref (ad 0)), (1, .int (ii (b))), (2, .int (ii (i + 1)))]) [2, 1, 0] rfl ?_
              exact ih9 (b) (i + 1) (k) (zup (t) ((k) - (1)) ((t ((k) - (1))) + (1))) (by omega) (by omega) (by omega) (by rw [wl_inc t (a2.2.2 (by omega)), a3, runs_old (by omega) e5]) (by rw [lg_s _ (by omega), ← a4]; unfold mx2; rw [if_neg (by omega)]) (by rw [chg_s _ (by omega), if_neg e5, ← a5]; omega) (fun _ => e10)
            · refine x_aload_n (q := 89) E dX6_measure_88 0 rfl rfl ?_
              refine x_get (q := 92) E iX6_measure_X6 (0) rfl rfl 14 (by decide) (by decide +kernel) rfl dX6_measure_89 rfl ?_
              refine x_aload_n (q := 93) E dX6_measure_92 0 rfl rfl ?_
              refine x_get (q := 96) E iX6_measure_X6 (0) rfl rfl 15 (by decide) (by decide +kernel) rfl dX6_measure_93 rfl ?_
              refine x_ti (show (sA (sF (sG st (5) (k)) (9) (t)) (9) ((k) - (1)) ((t ((k) - (1))) + (1))).1 (5) = k by rw [sA_1, sF_1, sG_s]) ?_
              refine x_iconst (q := 97) E dX6_measure_96 rfl ?_
              refine x_isub (q := 98) E dX6_measure_97 rfl ?_
              refine x_iald (q := 99) (f := (sA (sF (sG st (5) (k)) (9) (t)) (9) ((k) - (1)) ((t ((k) - (1))) + (1))).2 (9)) E (10) rfl 0 rfl (by omega) (by omega) (by decide) dX6_measure_98 rfl ?_
              refine x_ti (show (sA (sF (sG st (5) (k)) (9) (t)) (9) ((k) - (1)) ((t ((k) - (1))) + (1))).2 (9) ((k) - (1)) = (zup (t) ((k) - (1)) ((t ((k) - (1))) + (1))) ((k) - (1)) by rw [sA_s, sF_s]) ?_
              have e10 : (zup (t) ((k) - (1)) ((t ((k) - (1))) + (1))) ((k) - (1)) = cl (st.2 8) (i + 1) := by rw [zup_eq, e7, e6]
              refine x_ti e10 ?_
              refine x_goto (tgt := 103) E dX6_measure_99 (by decide) ?_
              refine x_istore_n (q := 104) (lv' := [(1, .int (ii (cl (st.2 8) (i + 1)))), (0, .ref (ad 0)), (2, .int (ii (i)))]) E dX6_measure_103 (by decide) rfl rfl ?_
              refine x_iinc (q := 107) (k := 2) (lv' := [(2, .int (ii (i + 1))), (1, .int (ii (cl (st.2 8) (i + 1)))), (0, .ref (ad 0))]) E dX6_measure_104 rfl (by decide) rfl rfl ?_
              refine x_goto (tgt := 9) E dX6_measure_107 (by decide) ?_
              refine x_st E (st' := (sF (sG st (5) (k)) (9) (zup (t) ((k) - (1)) ((t ((k) - (1))) + (1))))) (by refine Prod.ext (funext fun k9 => ?_) (funext fun q9 => ?_) <;> simp only [sG_1, sG_2, sA_1, sA_2, sF_1, sF_2, reduceIte] <;> (repeat' split) <;> first | rfl | omega | (subst_vars; first | rfl | omega) | simp_all) ?_
              refine x_lv E (lv' := [(0, .ref (ad 0)), (1, .int (ii (cl (st.2 8) (i + 1)))), (2, .int (ii (i + 1)))]) [2, 1, 0] rfl ?_
              exact ih9 (cl (st.2 8) (i + 1)) (i + 1) (k) (zup (t) ((k) - (1)) ((t ((k) - (1))) + (1))) (by omega) (by omega) (by omega) (by rw [wl_inc t (a2.2.2 (by omega)), a3, runs_old (by omega) e5]) (by rw [lg_s _ (by omega), ← a4]; unfold mx2; rw [if_pos (by omega)]) (by rw [chg_s _ (by omega), if_neg e5, ← a5]; omega) (fun _ => e10)
          · have e5 : i = 0 ∨ st.2 8 i ≠ st.2 8 (i - 1) := by omega
            have e6 : cl (st.2 8) (i + 1) = 1 := by rw [cl_s _ (by omega), if_pos e5]
            refine x_aload_n (q := 39) E dX6_measure_38 0 rfl rfl ?_
            refine x_get (q := 42) E iX6_measure_X6 (0) rfl rfl 14 (by decide) (by decide +kernel) rfl dX6_measure_39 rfl ?_
            refine x_aload_n (q := 43) E dX6_measure_42 0 rfl rfl ?_
            refine x_get (q := 46) E iX6_measure_X6 (0) rfl rfl 15 (by decide) (by decide +kernel) rfl dX6_measure_43 rfl ?_
            refine x_ti (show (sF (sG st (5) (k)) (9) (t)).1 (5) = k by rw [sF_1, sG_s]) ?_
            refine x_iconst (q := 47) E dX6_measure_46 rfl ?_
            refine x_iast (q := 48) (st' := (sA (sF (sG st (5) (k)) (9) (t)) (9) (k) (0))) (f := (sF (sG st (5) (k)) (9) (t)).2 (9)) E (10) rfl 0 rfl (by omega) (by omega) (by decide) dX6_measure_47 (ma_9 _ _) rfl ?_
            refine x_aload_n (q := 49) E dX6_measure_48 0 rfl rfl ?_
            refine x_dup (q := 50) E dX6_measure_49 rfl rfl ?_
            refine x_get (q := 53) E iX6_measure_X6 (0) rfl rfl 15 (by decide) (by decide +kernel) rfl dX6_measure_50 rfl ?_
            refine x_ti (show (sA (sF (sG st (5) (k)) (9) (t)) (9) (k) (0)).1 (5) = k by rw [sA_1, sF_1, sG_s]) ?_
            refine x_iconst (q := 54) E dX6_measure_53 rfl ?_
            refine x_iadd (q := 55) E dX6_measure_54 rfl ?_
            refine x_put (q := 58) (st' := (sG (sA (sF (sG st (5) (k)) (9) (t)) (9) (k) (0)) (5) ((k) + (1)))) (v := .int (ii ((k) + (1)))) (ty := .int) E iX6_measure_X6 tyX6 tyX6_ok nmX6 (0) rfl rfl 15 (by decide) (by decide +kernel) rfl (by decide +kernel) rfl rfl (Nat.le_of_ble_eq_true rfl) dX6_measure_55 (ms_5 _) rfl ?_
            refine x_aload_n (q := 59) E dX6_measure_58 0 rfl rfl ?_
            refine x_get (q := 62) E iX6_measure_X6 (0) rfl rfl 14 (by decide) (by decide +kernel) rfl dX6_measure_59 rfl ?_
            refine x_aload_n (q := 63) E dX6_measure_62 0 rfl rfl ?_
            refine x_get (q := 66) E iX6_measure_X6 (0) rfl rfl 15 (by decide) (by decide +kernel) rfl dX6_measure_63 rfl ?_
            refine x_ti (show (sG (sA (sF (sG st (5) (k)) (9) (t)) (9) (k) (0)) (5) ((k) + (1))).1 (5) = (k) + (1) by rw [sG_s]) ?_
            refine x_iconst (q := 67) E dX6_measure_66 rfl ?_
            refine x_isub (q := 68) E dX6_measure_67 rfl ?_
            refine x_dup2 (q := 69) E dX6_measure_68 rfl rfl rfl ?_
            refine x_iald (q := 70) (f := (sG (sA (sF (sG st (5) (k)) (9) (t)) (9) (k) (0)) (5) ((k) + (1))).2 (9)) E (10) rfl 0 rfl (by omega) (by omega) (by decide) dX6_measure_69 rfl ?_
            refine x_ti (show (sG (sA (sF (sG st (5) (k)) (9) (t)) (9) (k) (0)) (5) ((k) + (1))).2 (9) (((k) + (1)) - (1)) = (zup (t) (k) (0)) (((k) + (1)) - (1)) by rw [sG_2, sA_s, sF_s]) ?_
            refine x_iconst (q := 71) E dX6_measure_70 rfl ?_
            refine x_iadd (q := 72) E dX6_measure_71 rfl ?_
            refine x_iast (q := 73) (st' := (sA (sG (sA (sF (sG st (5) (k)) (9) (t)) (9) (k) (0)) (5) ((k) + (1))) (9) (((k) + (1)) - (1)) (((zup (t) (k) (0)) (((k) + (1)) - (1))) + (1)))) (f := (sG (sA (sF (sG st (5) (k)) (9) (t)) (9) (k) (0)) (5) ((k) + (1))).2 (9)) E (10) rfl 0 rfl (by omega) (by omega) (by decide) dX6_measure_72 (ma_9 _ _) rfl ?_
            refine x_aload_n (q := 74) E dX6_measure_73 0 rfl rfl ?_
            refine x_get (q := 77) E iX6_measure_X6 (0) rfl rfl 14 (by decide) (by decide +kernel) rfl dX6_measure_74 rfl ?_
            refine x_aload_n (q := 78) E dX6_measure_77 0 rfl rfl ?_
            refine x_get (q := 81) E iX6_measure_X6 (0) rfl rfl 15 (by decide) (by decide +kernel) rfl dX6_measure_78 rfl ?_
            refine x_ti (show (sA (sG (sA (sF (sG st (5) (k)) (9) (t)) (9) (k) (0)) (5) ((k) + (1))) (9) (((k) + (1)) - (1)) (((zup (t) (k) (0)) (((k) + (1)) - (1))) + (1))).1 (5) = (k) + (1) by rw [sA_1, sG_s]) ?_
            refine x_iconst (q := 82) E dX6_measure_81 rfl ?_
            refine x_isub (q := 83) E dX6_measure_82 rfl ?_
            refine x_iald (q := 84) (f := (sA (sG (sA (sF (sG st (5) (k)) (9) (t)) (9) (k) (0)) (5) ((k) + (1))) (9) (((k) + (1)) - (1)) (((zup (t) (k) (0)) (((k) + (1)) - (1))) + (1))).2 (9)) E (10) rfl 0 rfl (by omega) (by omega) (by decide) dX6_measure_83 rfl ?_
            refine x_ti (show (sA (sG (sA (sF (sG st (5) (k)) (9) (t)) (9) (k) (0)) (5) ((k) + (1))) (9) (((k) + (1)) - (1)) (((zup (t) (k) (0)) (((k) + (1)) - (1))) + (1))).2 (9) (((k) + (1)) - (1)) = (zup (zup (t) (k) (0)) (((k) + (1)) - (1)) (((zup (t) (k) (0)) (((k) + (1)) - (1))) + (1))) (((k) + (1)) - (1)) by rw [sA_s, sG_2, sA_s, sF_s]) ?_
            have e10 : (zup (zup (t) (k) (0)) (((k) + (1)) - (1)) (((zup (t) (k) (0)) (((k) + (1)) - (1))) + (1))) (((k) + (1)) - (1)) = cl (st.2 8) (i + 1) := by rw [show k + 1 - 1 = k from by omega, zup_eq, zup_eq, e6]; rfl
            refine x_ti e10 ?_
            refine x_iload_n (q := 85) E dX6_measure_84 1 rfl rfl ?_
            refine x_icmp_le (tgt := 102) (q := 88) E dX6_measure_85 (by decide) rfl (by omega) (by omega) (fun c85 => ?_) (fun c85 => ?_)
            · refine x_iload_n (q := 103) E dX6_measure_102 1 rfl rfl ?_
              refine x_istore_n (q := 104) (lv' := [(1, .int (ii (b))), (0, .ref (ad 0)), (2, .int (ii (i)))]) E dX6_measure_103 (by decide) rfl rfl ?_
              refine x_iinc (q := 107) (k := 2) (lv' := [(2, .int (ii (i + 1))), (1, .int (ii (b))), (0, .ref (ad 0))]) E dX6_measure_104 rfl (by decide) rfl rfl ?_
              refine x_goto (tgt := 9) E dX6_measure_107 (by decide) ?_
              refine x_st E (st' := (sF (sG st (5) ((k) + (1))) (9) (zup (zup (t) (k) (0)) (((k) + (1)) - (1)) (((zup (t) (k) (0)) (((k) + (1)) - (1))) + (1))))) (by refine Prod.ext (funext fun k9 => ?_) (funext fun q9 => ?_) <;> simp only [sG_1, sG_2, sA_1, sA_2, sF_1, sF_2, reduceIte] <;> (repeat' split) <;> first | rfl | omega | (subst_vars; first | rfl | omega) | simp_all) ?_
              refine x_lv E (lv' := [(0, .ref (ad 0)), (1, .int (ii (b))), (2, .int (ii (i + 1)))]) [2, 1, 0] rfl ?_
              exact ih9 (b) (i + 1) ((k) + (1)) (zup (zup (t) (k) (0)) (((k) + (1)) - (1)) (((zup (t) (k) (0)) (((k) + (1)) - (1))) + (1))) (by omega) (by omega) (by omega) (by rw [show k + 1 - 1 = k from by omega, wl_put _ _ (by omega), wl_zup _ _ (by omega), zup_eq, a3, runs_new (by omega) e5]; rfl) (by rw [lg_s _ (by omega), ← a4]; unfold mx2; rw [if_neg (by omega)]) (by rw [chg_s _ (by omega), if_pos e5, ← a5]) (fun _ => e10)
            · refine x_aload_n (q := 89) E dX6_measure_88 0 rfl rfl ?_
              refine x_get (q := 92) E iX6_measure_X6 (0) rfl rfl 14 (by decide) (by decide +kernel) rfl dX6_measure_89 rfl ?_
              refine x_aload_n (q := 93) E dX6_measure_92 0 rfl rfl ?_
              refine x_get (q := 96) E iX6_measure_X6 (0) rfl rfl 15 (by decide) (by decide +kernel) rfl dX6_measure_93 rfl ?_
              refine x_ti (show (sA (sG (sA (sF (sG st (5) (k)) (9) (t)) (9) (k) (0)) (5) ((k) + (1))) (9) (((k) + (1)) - (1)) (((zup (t) (k) (0)) (((k) + (1)) - (1))) + (1))).1 (5) = (k) + (1) by rw [sA_1, sG_s]) ?_
              refine x_iconst (q := 97) E dX6_measure_96 rfl ?_
              refine x_isub (q := 98) E dX6_measure_97 rfl ?_
              refine x_iald (q := 99) (f := (sA (sG (sA (sF (sG st (5) (k)) (9) (t)) (9) (k) (0)) (5) ((k) + (1))) (9) (((k) + (1)) - (1)) (((zup (t) (k) (0)) (((k) + (1)) - (1))) + (1))).2 (9)) E (10) rfl 0 rfl (by omega) (by omega) (by decide) dX6_measure_98 rfl ?_
              refine x_ti (show (sA (sG (sA (sF (sG st (5) (k)) (9) (t)) (9) (k) (0)) (5) ((k) + (1))) (9) (((k) + (1)) - (1)) (((zup (t) (k) (0)) (((k) + (1)) - (1))) + (1))).2 (9) (((k) + (1)) - (1)) = (zup (zup (t) (k) (0)) (((k) + (1)) - (1)) (((zup (t) (k) (0)) (((k) + (1)) - (1))) + (1))) (((k) + (1)) - (1)) by rw [sA_s, sG_2, sA_s, sF_s]) ?_
              have e10 : (zup (zup (t) (k) (0)) (((k) + (1)) - (1)) (((zup (t) (k) (0)) (((k) + (1)) - (1))) + (1))) (((k) + (1)) - (1)) = cl (st.2 8) (i + 1) := by rw [show k + 1 - 1 = k from by omega, zup_eq, zup_eq, e6]; rfl
              refine x_ti e10 ?_
              refine x_goto (tgt := 103) E dX6_measure_99 (by decide) ?_
              refine x_istore_n (q := 104) (lv' := [(1, .int (ii (cl (st.2 8) (i + 1)))), (0, .ref (ad 0)), (2, .int (ii (i)))]) E dX6_measure_103 (by decide) rfl rfl ?_
              refine x_iinc (q := 107) (k := 2) (lv' := [(2, .int (ii (i + 1))), (1, .int (ii (cl (st.2 8) (i + 1)))), (0, .ref (ad 0))]) E dX6_measure_104 rfl (by decide) rfl rfl ?_
              refine x_goto (tgt := 9) E dX6_measure_107 (by decide) ?_
              refine x_st E (st' := (sF (sG st (5) ((k) + (1))) (9) (zup (zup (t) (k) (0)) (((k) + (1)) - (1)) (((zup (t) (k) (0)) (((k) + (1)) - (1))) + (1))))) (by refine Prod.ext (funext fun k9 => ?_) (funext fun q9 => ?_) <;> simp only [sG_1, sG_2, sA_1, sA_2, sF_1, sF_2, reduceIte] <;> (repeat' split) <;> first | rfl | omega | (subst_vars; first | rfl | omega) | simp_all) ?_
              refine x_lv E (lv' := [(0, .ref (ad 0)), (1, .int (ii (cl (st.2 8) (i + 1)))), (2, .int (ii (i + 1)))]) [2, 1, 0] rfl ?_
              exact ih9 (cl (st.2 8) (i + 1)) (i + 1) ((k) + (1)) (zup (zup (t) (k) (0)) (((k) + (1)) - (1)) (((zup (t) (k) (0)) (((k) + (1)) - (1))) + (1))) (by omega) (by omega) (by omega) (by rw [show k + 1 - 1 = k from by omega, wl_put _ _ (by omega), wl_zup _ _ (by omega), zup_eq, a3, runs_new (by omega) e5]; rfl) (by rw [lg_s _ (by omega), ← a4]; unfold mx2; rw [if_pos (by omega)]) (by rw [chg_s _ (by omega), if_pos e5, ← a5]) (fun _ => e10)
  refine x_lv E (lv' := [(0, .ref (ad 0)), (1, .int (ii (0))), (2, .int (ii (0)))]) [2, 1, 0] rfl ?_
  refine x_st E (st' := (sF (sG st (5) (0)) (9) (st.2 (9)))) (by refine Prod.ext (funext fun k9 => ?_) (funext fun q9 => ?_) <;> simp only [sG_1, sG_2, sA_1, sA_2, sF_1, sF_2, reduceIte] <;> (repeat' split) <;> first | rfl | omega | (subst_vars; first | rfl | omega) | simp_all) ?_
  exact L9 _ (0) (0) (0) (st.2 (9)) (Nat.lt_succ_self _) (by omega) (by omega) (rfl) (rfl) (rfl) (fun h => absurd h (by omega))

theorem iX6_cut_X6 : ∀ w ∈ wsX60, w ∈ wsX6_cut := by decide +kernel
set_option maxRecDepth 100000 in
set_option maxHeartbeats 4000000 in
theorem c_X6_cut (l : Launch) (D : va_G) (T : Nat → ClassId) (ad : Nat → Nat) (hN : ∀ i j, i < 13 → j < 13 → ad i = ad j → i = j) (st : St_) (g0 : Int) (bg0 : -2147483648 ≤ g0 ∧ g0 < 2147483648) (hs : 0 ≤ st.1 5 ∧ st.1 5 ≤ 60) (hb : ∀ j : Int, 0 ≤ j → j < st.1 5 → 0 ≤ st.2 9 j ∧ st.2 9 j ≤ 60) : CXv l yX6_cut wsX6_cut (rmX 0 0) [.ref (ad 0), .int (ii (g0))] D (tyX T) (MW T ad) (alM ad) st (fun st2 => ∃ (k : Int) (t : Int → Int), st2 = sF (sG st 4 k) 8 t ∧ wl t k = sh g0 (wl (st.2 9) (st.1 5)) ∧ (0 ≤ k ∧ k ≤ st.1 5)) := by
  refine mk_v (cc := cX6_cut) (nL := 5) rfl rfl (MW_ok hN) (Nat.le_of_ble_eq_true rfl) [(0, .ref (ad 0)), (1, .int (ii (g0)))] rfl (fun p e s m args below meth c A Q E RET => ?_)
  refine x_aload_n (q := 1) E dX6_cut_0 0 rfl rfl ?_
  refine x_get (q := 4) E iX6_cut_X6 (0) rfl rfl 15 (by decide) (by decide +kernel) rfl dX6_cut_1 rfl ?_
  refine x_if_le (tgt := 21) (q := 7) E dX6_cut_4 (by decide) rfl (by omega) (fun c4 => ?_) (fun c4 => ?_)
  · refine x_iconst (q := 22) E dX6_cut_21 rfl ?_
    refine x_istore_n (q := 23) (lv' := [(2, .int (ii (0))), (0, .ref (ad 0)), (1, .int (ii (g0)))]) E dX6_cut_22 (by decide) rfl rfl ?_
    refine x_aload_n (q := 24) E dX6_cut_23 1 rfl rfl ?_
    refine x_get (q := 27) E iX6_cut_X6 (0) rfl rfl 15 (by decide) (by decide +kernel) rfl dX6_cut_24 rfl ?_
    refine x_if_le (tgt := 54) (q := 30) E dX6_cut_27 (by decide) rfl (by omega) (fun c27 => ?_) (fun c27 => ?_)
    · refine x_aload_n (q := 55) E dX6_cut_54 1 rfl rfl ?_
      refine x_get (q := 58) E iX6_cut_X6 (0) rfl rfl 15 (by decide) (by decide +kernel) rfl dX6_cut_55 rfl ?_
      refine x_istore_n (q := 59) (lv' := [(3, .int (ii (st.1 (5)))), (2, .int (ii (0))), (0, .ref (ad 0)), (1, .int (ii (g0)))]) E dX6_cut_58 (by decide) rfl rfl ?_
      refine x_aload_n (q := 60) E dX6_cut_59 2 rfl rfl ?_
      refine x_iconst (q := 61) E dX6_cut_60 rfl ?_
      refine x_put (q := 64) (st' := (sG st (4) (0))) (v := .int (ii (0))) (ty := .int) E iX6_cut_X6 tyX6 tyX6_ok nmX6 (0) rfl rfl 13 (by decide) (by decide +kernel) rfl (by decide +kernel) rfl rfl (Nat.le_of_ble_eq_true rfl) dX6_cut_61 (ms_4 _) rfl ?_
      refine x_iload_n (q := 65) E dX6_cut_64 1 rfl rfl ?_
      refine x_istore (q := 67) (lv' := [(4, .int (ii (0))), (3, .int (ii (st.1 (5)))), (2, .int (ii (0))), (0, .ref (ad 0)), (1, .int (ii (g0)))]) E dX6_cut_65 (by decide) rfl rfl ?_
      have L67 : ∀ (n : Nat) (i : Int) (k : Int) (t : Int → Int), ((st.1 (5)) - i).toNat < n → (0 ≤ k ∧ k ≤ i ∧ i ≤ (0) + k ∧ (0) + k ≤ i ∧ k ≤ st.1 5) → (wl t k = wl (fun j => st.2 9 ((0) + j)) k) → (k = 0 ∨ i ≤ (st.1 (5))) → XJ p l e (rmX 0 0) s m args below meth c D (MW T ad) A 5 Q 0 0 (sF (sG st (4) (k)) (8) (t)) 67 [(0, .ref (ad 0)), (1, .int (ii (g0))), (2, .int (ii (0))), (3, .int (ii (st.1 (5)))), (4, .int (ii (i)))] [] := by
        intro n
        induction n with
        | zero => intro i k t hn; exact absurd hn (Nat.not_lt_zero _)
        | succ n ih67 =>
          intro i k t hn67 a1 a2 a3
          refine x_iload (q := 69) E dX6_cut_67 4 rfl rfl ?_
          refine x_iload_n (q := 70) E dX6_cut_69 3 rfl rfl ?_
          refine x_icmp_ge (tgt := 105) (q := 73) E dX6_cut_70 (by decide) rfl (by omega) (by omega) (fun c70 => ?_) (fun c70 => ?_)
          · exact RET _ _ _ dX6_cut_105 (⟨k, t, by refine Prod.ext (funext fun k9 => ?_) (funext fun q9 => ?_) <;> simp only [sG_1, sG_2, sA_1, sA_2, sF_1, sF_2, reduceIte] <;> (repeat' split) <;> first | rfl | omega | (subst_vars; first | rfl | omega) | simp_all, by rw [sh_wl g0 (st.2 9) (fr := 0) (to := st.1 (5)) (by omega) (by first | (exfalso; omega) | (rw [if_pos (by omega)]) | (rw [if_neg (by omega)])) (by first | (exfalso; omega) | (rw [if_pos (by omega)]) | (rw [if_neg (by omega)])), a2]; by_cases hk : k = st.1 (5) - 0; rw [hk]; (unfold wl; rw [show k.toNat = 0 from by omega, show (st.1 (5) - 0).toNat = 0 from by omega]), by omega⟩)
          · refine x_aload_n (q := 74) E dX6_cut_73 0 rfl rfl ?_
            refine x_get (q := 77) E iX6_cut_X6 (0) rfl rfl 12 (by decide) (by decide +kernel) rfl dX6_cut_74 rfl ?_
            refine x_aload_n (q := 78) E dX6_cut_77 0 rfl rfl ?_
            refine x_get (q := 81) E iX6_cut_X6 (0) rfl rfl 13 (by decide) (by decide +kernel) rfl dX6_cut_78 rfl ?_
            refine x_ti (show (sF (sG st (4) (k)) (8) (t)).1 (4) = k by rw [sF_1, sG_s]) ?_
            refine x_aload_n (q := 82) E dX6_cut_81 0 rfl rfl ?_
            refine x_get (q := 85) E iX6_cut_X6 (0) rfl rfl 14 (by decide) (by decide +kernel) rfl dX6_cut_82 rfl ?_
            refine x_iload (q := 87) E dX6_cut_85 4 rfl rfl ?_
            refine x_iald (q := 88) (f := (sF (sG st (4) (k)) (8) (t)).2 (9)) E (10) rfl 0 rfl (by omega) (by omega) (by decide) dX6_cut_87 rfl ?_
            refine x_ti (show (sF (sG st (4) (k)) (8) (t)).2 (9) (i) = st.2 (9) (i) by rw [sF_n _ _ (by omega), sG_2]) ?_
            refine x_iast (q := 89) (st' := (sA (sF (sG st (4) (k)) (8) (t)) (8) (k) (st.2 (9) (i)))) (f := (sF (sG st (4) (k)) (8) (t)).2 (8)) E (9) rfl 0 rfl (by omega) (by omega) (by decide) dX6_cut_88 (ma_8 _ _) rfl ?_
            refine x_aload_n (q := 90) E dX6_cut_89 0 rfl rfl ?_
            refine x_dup (q := 91) E dX6_cut_90 rfl rfl ?_
            refine x_get (q := 94) E iX6_cut_X6 (0) rfl rfl 13 (by decide) (by decide +kernel) rfl dX6_cut_91 rfl ?_
            refine x_ti (show (sA (sF (sG st (4) (k)) (8) (t)) (8) (k) (st.2 (9) (i))).1 (4) = k by rw [sA_1, sF_1, sG_s]) ?_
            refine x_iconst (q := 95) E dX6_cut_94 rfl ?_
            refine x_iadd (q := 96) E dX6_cut_95 rfl ?_
            refine x_put (q := 99) (st' := (sG (sA (sF (sG st (4) (k)) (8) (t)) (8) (k) (st.2 (9) (i))) (4) ((k) + (1)))) (v := .int (ii ((k) + (1)))) (ty := .int) E iX6_cut_X6 tyX6 tyX6_ok nmX6 (0) rfl rfl 13 (by decide) (by decide +kernel) rfl (by decide +kernel) rfl rfl (Nat.le_of_ble_eq_true rfl) dX6_cut_96 (ms_4 _) rfl ?_
            refine x_iinc (q := 102) (k := 4) (lv' := [(4, .int (ii (i + 1))), (0, .ref (ad 0)), (1, .int (ii (g0))), (2, .int (ii (0))), (3, .int (ii (st.1 (5))))]) E dX6_cut_99 rfl (by decide) rfl rfl ?_
            refine x_goto (tgt := 67) E dX6_cut_102 (by decide) ?_
            refine x_st E (st' := (sF (sG st (4) ((k) + (1))) (8) (zup (t) (k) (st.2 (9) (i))))) (by refine Prod.ext (funext fun k9 => ?_) (funext fun q9 => ?_) <;> simp only [sG_1, sG_2, sA_1, sA_2, sF_1, sF_2, reduceIte] <;> (repeat' split) <;> first | rfl | omega | (subst_vars; first | rfl | omega) | simp_all) ?_
            refine x_lv E (lv' := [(0, .ref (ad 0)), (1, .int (ii (g0))), (2, .int (ii (0))), (3, .int (ii (st.1 (5)))), (4, .int (ii (i + 1)))]) [1, 2, 3, 4, 0] rfl ?_
            exact ih67 (i + 1) ((k) + (1)) (zup (t) (k) (st.2 (9) (i))) (by omega) (by omega) (by rw [wl_put _ _ (by omega), wl_s _ (by omega), a2, show (0) + k = i from by omega]) (Or.inr (by omega))
      refine x_lv E (lv' := [(0, .ref (ad 0)), (1, .int (ii (g0))), (2, .int (ii (0))), (3, .int (ii (st.1 (5)))), (4, .int (ii (0)))]) [3, 4, 2, 1, 0] rfl ?_
      refine x_st E (st' := (sF (sG st (4) (0)) (8) (st.2 (8)))) (by refine Prod.ext (funext fun k9 => ?_) (funext fun q9 => ?_) <;> simp only [sG_1, sG_2, sA_1, sA_2, sF_1, sF_2, reduceIte] <;> (repeat' split) <;> first | rfl | omega | (subst_vars; first | rfl | omega) | simp_all) ?_
      exact L67 _ (0) (0) (st.2 (8)) (Nat.lt_succ_self _) (by omega) (rfl) (Or.inl rfl)
    · have q1 := hb (st.1 5 - 1) (by omega) (by omega)
      refine x_aload_n (q := 31) E dX6_cut_30 1 rfl rfl ?_
      refine x_get (q := 34) E iX6_cut_X6 (0) rfl rfl 14 (by decide) (by decide +kernel) rfl dX6_cut_31 rfl ?_
      refine x_aload_n (q := 35) E dX6_cut_34 1 rfl rfl ?_
      refine x_get (q := 38) E iX6_cut_X6 (0) rfl rfl 15 (by decide) (by decide +kernel) rfl dX6_cut_35 rfl ?_
      refine x_iconst (q := 39) E dX6_cut_38 rfl ?_
      refine x_isub (q := 40) E dX6_cut_39 rfl ?_
      refine x_iald (q := 41) (f := st.2 (9)) E (10) rfl 0 rfl (by omega) (by omega) (by decide) dX6_cut_40 rfl ?_
      refine x_iload_n (q := 42) E dX6_cut_41 2 rfl rfl ?_
      refine x_icmp_ge (tgt := 54) (q := 45) E dX6_cut_42 (by decide) rfl (by omega) (by omega) (fun c42 => ?_) (fun c42 => ?_)
      · refine x_aload_n (q := 55) E dX6_cut_54 1 rfl rfl ?_
        refine x_get (q := 58) E iX6_cut_X6 (0) rfl rfl 15 (by decide) (by decide +kernel) rfl dX6_cut_55 rfl ?_
        refine x_istore_n (q := 59) (lv' := [(3, .int (ii (st.1 (5)))), (2, .int (ii (0))), (0, .ref (ad 0)), (1, .int (ii (g0)))]) E dX6_cut_58 (by decide) rfl rfl ?_
        refine x_aload_n (q := 60) E dX6_cut_59 2 rfl rfl ?_
        refine x_iconst (q := 61) E dX6_cut_60 rfl ?_
        refine x_put (q := 64) (st' := (sG st (4) (0))) (v := .int (ii (0))) (ty := .int) E iX6_cut_X6 tyX6 tyX6_ok nmX6 (0) rfl rfl 13 (by decide) (by decide +kernel) rfl (by decide +kernel) rfl rfl (Nat.le_of_ble_eq_true rfl) dX6_cut_61 (ms_4 _) rfl ?_
        refine x_iload_n (q := 65) E dX6_cut_64 1 rfl rfl ?_
        refine x_istore (q := 67) (lv' := [(4, .int (ii (0))), (3, .int (ii (st.1 (5)))), (2, .int (ii (0))), (0, .ref (ad 0)), (1, .int (ii (g0)))]) E dX6_cut_65 (by decide) rfl rfl ?_
        have L67 : ∀ (n : Nat) (i : Int) (k : Int) (t : Int → Int), ((st.1 (5)) - i).toNat < n → (0 ≤ k ∧ k ≤ i ∧ i ≤ (0) + k ∧ (0) + k ≤ i ∧ k ≤ st.1 5) → (wl t k = wl (fun j => st.2 9 ((0) + j)) k) → (k = 0 ∨ i ≤ (st.1 (5))) → XJ p l e (rmX 0 0) s m args below meth c D (MW T ad) A 5 Q 0 0 (sF (sG st (4) (k)) (8) (t)) 67 [(0, .ref (ad 0)), (1, .int (ii (g0))), (2, .int (ii (0))), (3, .int (ii (st.1 (5)))), (4, .int (ii (i)))] [] := by
          intro n
          induction n with
          | zero => intro i k t hn; exact absurd hn (Nat.not_lt_zero _)
          | succ n ih67 =>
            intro i k t hn67 a1 a2 a3
            refine x_iload (q := 69) E dX6_cut_67 4 rfl rfl ?_
            refine x_iload_n (q := 70) E dX6_cut_69 3 rfl rfl ?_
            refine x_icmp_ge (tgt := 105) (q := 73) E dX6_cut_70 (by decide) rfl (by omega) (by omega) (fun c70 => ?_) (fun c70 => ?_)
            · exact RET _ _ _ dX6_cut_105 (⟨k, t, by refine Prod.ext (funext fun k9 => ?_) (funext fun q9 => ?_) <;> simp only [sG_1, sG_2, sA_1, sA_2, sF_1, sF_2, reduceIte] <;> (repeat' split) <;> first | rfl | omega | (subst_vars; first | rfl | omega) | simp_all, by rw [sh_wl g0 (st.2 9) (fr := 0) (to := st.1 (5)) (by omega) (by first | (exfalso; omega) | (rw [if_pos (by omega)]) | (rw [if_neg (by omega)])) (by first | (exfalso; omega) | (rw [if_pos (by omega)]) | (rw [if_neg (by omega)])), a2]; by_cases hk : k = st.1 (5) - 0; rw [hk]; (unfold wl; rw [show k.toNat = 0 from by omega, show (st.1 (5) - 0).toNat = 0 from by omega]), by omega⟩)
            · refine x_aload_n (q := 74) E dX6_cut_73 0 rfl rfl ?_
              refine x_get (q := 77) E iX6_cut_X6 (0) rfl rfl 12 (by decide) (by decide +kernel) rfl dX6_cut_74 rfl ?_
              refine x_aload_n (q := 78) E dX6_cut_77 0 rfl rfl ?_
              refine x_get (q := 81) E iX6_cut_X6 (0) rfl rfl 13 (by decide) (by decide +kernel) rfl dX6_cut_78 rfl ?_
              refine x_ti (show (sF (sG st (4) (k)) (8) (t)).1 (4) = k by rw [sF_1, sG_s]) ?_
              refine x_aload_n (q := 82) E dX6_cut_81 0 rfl rfl ?_
              refine x_get (q := 85) E iX6_cut_X6 (0) rfl rfl 14 (by decide) (by decide +kernel) rfl dX6_cut_82 rfl ?_
              refine x_iload (q := 87) E dX6_cut_85 4 rfl rfl ?_
              refine x_iald (q := 88) (f := (sF (sG st (4) (k)) (8) (t)).2 (9)) E (10) rfl 0 rfl (by omega) (by omega) (by decide) dX6_cut_87 rfl ?_
              refine x_ti (show (sF (sG st (4) (k)) (8) (t)).2 (9) (i) = st.2 (9) (i) by rw [sF_n _ _ (by omega), sG_2]) ?_
              refine x_iast (q := 89) (st' := (sA (sF (sG st (4) (k)) (8) (t)) (8) (k) (st.2 (9) (i)))) (f := (sF (sG st (4) (k)) (8) (t)).2 (8)) E (9) rfl 0 rfl (by omega) (by omega) (by decide) dX6_cut_88 (ma_8 _ _) rfl ?_
              refine x_aload_n (q := 90) E dX6_cut_89 0 rfl rfl ?_
              refine x_dup (q := 91) E dX6_cut_90 rfl rfl ?_
              refine x_get (q := 94) E iX6_cut_X6 (0) rfl rfl 13 (by decide) (by decide +kernel) rfl dX6_cut_91 rfl ?_
              refine x_ti (show (sA (sF (sG st (4) (k)) (8) (t)) (8) (k) (st.2 (9) (i))).1 (4) = k by rw [sA_1, sF_1, sG_s]) ?_
              refine x_iconst (q := 95) E dX6_cut_94 rfl ?_
              refine x_iadd (q := 96) E dX6_cut_95 rfl ?_
              refine x_put (q := 99) (st' := (sG (sA (sF (sG st (4) (k)) (8) (t)) (8) (k) (st.2 (9) (i))) (4) ((k) + (1)))) (v := .int (ii ((k) + (1)))) (ty := .int) E iX6_cut_X6 tyX6 tyX6_ok nmX6 (0) rfl rfl 13 (by decide) (by decide +kernel) rfl (by decide +kernel) rfl rfl (Nat.le_of_ble_eq_true rfl) dX6_cut_96 (ms_4 _) rfl ?_
              refine x_iinc (q := 102) (k := 4) (lv' := [(4, .int (ii (i + 1))), (0, .ref (ad 0)), (1, .int (ii (g0))), (2, .int (ii (0))), (3, .int (ii (st.1 (5))))]) E dX6_cut_99 rfl (by decide) rfl rfl ?_
              refine x_goto (tgt := 67) E dX6_cut_102 (by decide) ?_
              refine x_st E (st' := (sF (sG st (4) ((k) + (1))) (8) (zup (t) (k) (st.2 (9) (i))))) (by refine Prod.ext (funext fun k9 => ?_) (funext fun q9 => ?_) <;> simp only [sG_1, sG_2, sA_1, sA_2, sF_1, sF_2, reduceIte] <;> (repeat' split) <;> first | rfl | omega | (subst_vars; first | rfl | omega) | simp_all) ?_
              refine x_lv E (lv' := [(0, .ref (ad 0)), (1, .int (ii (g0))), (2, .int (ii (0))), (3, .int (ii (st.1 (5)))), (4, .int (ii (i + 1)))]) [1, 2, 3, 4, 0] rfl ?_
              exact ih67 (i + 1) ((k) + (1)) (zup (t) (k) (st.2 (9) (i))) (by omega) (by omega) (by rw [wl_put _ _ (by omega), wl_s _ (by omega), a2, show (0) + k = i from by omega]) (Or.inr (by omega))
        refine x_lv E (lv' := [(0, .ref (ad 0)), (1, .int (ii (g0))), (2, .int (ii (0))), (3, .int (ii (st.1 (5)))), (4, .int (ii (0)))]) [3, 4, 2, 1, 0] rfl ?_
        refine x_st E (st' := (sF (sG st (4) (0)) (8) (st.2 (8)))) (by refine Prod.ext (funext fun k9 => ?_) (funext fun q9 => ?_) <;> simp only [sG_1, sG_2, sA_1, sA_2, sF_1, sF_2, reduceIte] <;> (repeat' split) <;> first | rfl | omega | (subst_vars; first | rfl | omega) | simp_all) ?_
        exact L67 _ (0) (0) (st.2 (8)) (Nat.lt_succ_self _) (by omega) (rfl) (Or.inl rfl)
      · refine x_aload_n (q := 46) E dX6_cut_45 1 rfl rfl ?_
        refine x_get (q := 49) E iX6_cut_X6 (0) rfl rfl 15 (by decide) (by decide +kernel) rfl dX6_cut_46 rfl ?_
        refine x_iconst (q := 50) E dX6_cut_49 rfl ?_
        refine x_isub (q := 51) E dX6_cut_50 rfl ?_
        refine x_goto (tgt := 58) E dX6_cut_51 (by decide) ?_
        refine x_istore_n (q := 59) (lv' := [(3, .int (ii ((st.1 (5)) - (1)))), (2, .int (ii (0))), (0, .ref (ad 0)), (1, .int (ii (g0)))]) E dX6_cut_58 (by decide) rfl rfl ?_
        refine x_aload_n (q := 60) E dX6_cut_59 2 rfl rfl ?_
        refine x_iconst (q := 61) E dX6_cut_60 rfl ?_
        refine x_put (q := 64) (st' := (sG st (4) (0))) (v := .int (ii (0))) (ty := .int) E iX6_cut_X6 tyX6 tyX6_ok nmX6 (0) rfl rfl 13 (by decide) (by decide +kernel) rfl (by decide +kernel) rfl rfl (Nat.le_of_ble_eq_true rfl) dX6_cut_61 (ms_4 _) rfl ?_
        refine x_iload_n (q := 65) E dX6_cut_64 1 rfl rfl ?_
        refine x_istore (q := 67) (lv' := [(4, .int (ii (0))), (3, .int (ii ((st.1 (5)) - (1)))), (2, .int (ii (0))), (0, .ref (ad 0)), (1, .int (ii (g0)))]) E dX6_cut_65 (by decide) rfl rfl ?_
        have L67 : ∀ (n : Nat) (i : Int) (k : Int) (t : Int → Int), (((st.1 (5)) - (1)) - i).toNat < n → (0 ≤ k ∧ k ≤ i ∧ i ≤ (0) + k ∧ (0) + k ≤ i ∧ k ≤ st.1 5) → (wl t k = wl (fun j => st.2 9 ((0) + j)) k) → (k = 0 ∨ i ≤ ((st.1 (5)) - (1))) → XJ p l e (rmX 0 0) s m args below meth c D (MW T ad) A 5 Q 0 0 (sF (sG st (4) (k)) (8) (t)) 67 [(0, .ref (ad 0)), (1, .int (ii (g0))), (2, .int (ii (0))), (3, .int (ii ((st.1 (5)) - (1)))), (4, .int (ii (i)))] [] := by
          intro n
          induction n with
          | zero => intro i k t hn; exact absurd hn (Nat.not_lt_zero _)
          | succ n ih67 =>
            intro i k t hn67 a1 a2 a3
            refine x_iload (q := 69) E dX6_cut_67 4 rfl rfl ?_
            refine x_iload_n (q := 70) E dX6_cut_69 3 rfl rfl ?_
            refine x_icmp_ge (tgt := 105) (q := 73) E dX6_cut_70 (by decide) rfl (by omega) (by omega) (fun c70 => ?_) (fun c70 => ?_)
            · exact RET _ _ _ dX6_cut_105 (⟨k, t, by refine Prod.ext (funext fun k9 => ?_) (funext fun q9 => ?_) <;> simp only [sG_1, sG_2, sA_1, sA_2, sF_1, sF_2, reduceIte] <;> (repeat' split) <;> first | rfl | omega | (subst_vars; first | rfl | omega) | simp_all, by rw [sh_wl g0 (st.2 9) (fr := 0) (to := (st.1 (5)) - (1)) (by omega) (by first | (exfalso; omega) | (rw [if_pos (by omega)]) | (rw [if_neg (by omega)])) (by first | (exfalso; omega) | (rw [if_pos (by omega)]) | (rw [if_neg (by omega)])), a2]; by_cases hk : k = (st.1 (5)) - (1) - 0; rw [hk]; (unfold wl; rw [show k.toNat = 0 from by omega, show ((st.1 (5)) - (1) - 0).toNat = 0 from by omega]), by omega⟩)
            · refine x_aload_n (q := 74) E dX6_cut_73 0 rfl rfl ?_
              refine x_get (q := 77) E iX6_cut_X6 (0) rfl rfl 12 (by decide) (by decide +kernel) rfl dX6_cut_74 rfl ?_
              refine x_aload_n (q := 78) E dX6_cut_77 0 rfl rfl ?_
              refine x_get (q := 81) E iX6_cut_X6 (0) rfl rfl 13 (by decide) (by decide +kernel) rfl dX6_cut_78 rfl ?_
              refine x_ti (show (sF (sG st (4) (k)) (8) (t)).1 (4) = k by rw [sF_1, sG_s]) ?_
              refine x_aload_n (q := 82) E dX6_cut_81 0 rfl rfl ?_
              refine x_get (q := 85) E iX6_cut_X6 (0) rfl rfl 14 (by decide) (by decide +kernel) rfl dX6_cut_82 rfl ?_
              refine x_iload (q := 87) E dX6_cut_85 4 rfl rfl ?_
              refine x_iald (q := 88) (f := (sF (sG st (4) (k)) (8) (t)).2 (9)) E (10) rfl 0 rfl (by omega) (by omega) (by decide) dX6_cut_87 rfl ?_
              refine x_ti (show (sF (sG st (4) (k)) (8) (t)).2 (9) (i) = st.2 (9) (i) by rw [sF_n _ _ (by omega), sG_2]) ?_
              refine x_iast (q := 89) (st' := (sA (sF (sG st (4) (k)) (8) (t)) (8) (k) (st.2 (9) (i)))) (f := (sF (sG st (4) (k)) (8) (t)).2 (8)) E (9) rfl 0 rfl (by omega) (by omega) (by decide) dX6_cut_88 (ma_8 _ _) rfl ?_
              refine x_aload_n (q := 90) E dX6_cut_89 0 rfl rfl ?_
              refine x_dup (q := 91) E dX6_cut_90 rfl rfl ?_
              refine x_get (q := 94) E iX6_cut_X6 (0) rfl rfl 13 (by decide) (by decide +kernel) rfl dX6_cut_91 rfl ?_
              refine x_ti (show (sA (sF (sG st (4) (k)) (8) (t)) (8) (k) (st.2 (9) (i))).1 (4) = k by rw [sA_1, sF_1, sG_s]) ?_
              refine x_iconst (q := 95) E dX6_cut_94 rfl ?_
              refine x_iadd (q := 96) E dX6_cut_95 rfl ?_
              refine x_put (q := 99) (st' := (sG (sA (sF (sG st (4) (k)) (8) (t)) (8) (k) (st.2 (9) (i))) (4) ((k) + (1)))) (v := .int (ii ((k) + (1)))) (ty := .int) E iX6_cut_X6 tyX6 tyX6_ok nmX6 (0) rfl rfl 13 (by decide) (by decide +kernel) rfl (by decide +kernel) rfl rfl (Nat.le_of_ble_eq_true rfl) dX6_cut_96 (ms_4 _) rfl ?_
              refine x_iinc (q := 102) (k := 4) (lv' := [(4, .int (ii (i + 1))), (0, .ref (ad 0)), (1, .int (ii (g0))), (2, .int (ii (0))), (3, .int (ii ((st.1 (5)) - (1))))]) E dX6_cut_99 rfl (by decide) rfl rfl ?_
              refine x_goto (tgt := 67) E dX6_cut_102 (by decide) ?_
              refine x_st E (st' := (sF (sG st (4) ((k) + (1))) (8) (zup (t) (k) (st.2 (9) (i))))) (by refine Prod.ext (funext fun k9 => ?_) (funext fun q9 => ?_) <;> simp only [sG_1, sG_2, sA_1, sA_2, sF_1, sF_2, reduceIte] <;> (repeat' split) <;> first | rfl | omega | (subst_vars; first | rfl | omega) | simp_all) ?_
              refine x_lv E (lv' := [(0, .ref (ad 0)), (1, .int (ii (g0))), (2, .int (ii (0))), (3, .int (ii ((st.1 (5)) - (1)))), (4, .int (ii (i + 1)))]) [1, 2, 3, 4, 0] rfl ?_
              exact ih67 (i + 1) ((k) + (1)) (zup (t) (k) (st.2 (9) (i))) (by omega) (by omega) (by rw [wl_put _ _ (by omega), wl_s _ (by omega), a2, show (0) + k = i from by omega]) (Or.inr (by omega))
        refine x_lv E (lv' := [(0, .ref (ad 0)), (1, .int (ii (g0))), (2, .int (ii (0))), (3, .int (ii ((st.1 (5)) - (1)))), (4, .int (ii (0)))]) [3, 4, 2, 1, 0] rfl ?_
        refine x_st E (st' := (sF (sG st (4) (0)) (8) (st.2 (8)))) (by refine Prod.ext (funext fun k9 => ?_) (funext fun q9 => ?_) <;> simp only [sG_1, sG_2, sA_1, sA_2, sF_1, sF_2, reduceIte] <;> (repeat' split) <;> first | rfl | omega | (subst_vars; first | rfl | omega) | simp_all) ?_
        exact L67 _ (0) (0) (st.2 (8)) (Nat.lt_succ_self _) (by omega) (rfl) (Or.inl rfl)
  · have q0 := hb 0 (by omega) (by omega)
    refine x_aload_n (q := 8) E dX6_cut_7 0 rfl rfl ?_
    refine x_get (q := 11) E iX6_cut_X6 (0) rfl rfl 14 (by decide) (by decide +kernel) rfl dX6_cut_8 rfl ?_
    refine x_iconst (q := 12) E dX6_cut_11 rfl ?_
    refine x_iald (q := 13) (f := st.2 (9)) E (10) rfl 0 rfl (by omega) (by omega) (by decide) dX6_cut_12 rfl ?_
    refine x_iload_n (q := 14) E dX6_cut_13 1 rfl rfl ?_
    refine x_icmp_ge (tgt := 21) (q := 17) E dX6_cut_14 (by decide) rfl (by omega) (by omega) (fun c14 => ?_) (fun c14 => ?_)
    · refine x_iconst (q := 22) E dX6_cut_21 rfl ?_
      refine x_istore_n (q := 23) (lv' := [(2, .int (ii (0))), (0, .ref (ad 0)), (1, .int (ii (g0)))]) E dX6_cut_22 (by decide) rfl rfl ?_
      refine x_aload_n (q := 24) E dX6_cut_23 1 rfl rfl ?_
      refine x_get (q := 27) E iX6_cut_X6 (0) rfl rfl 15 (by decide) (by decide +kernel) rfl dX6_cut_24 rfl ?_
      refine x_if_le (tgt := 54) (q := 30) E dX6_cut_27 (by decide) rfl (by omega) (fun c27 => ?_) (fun c27 => ?_)
      · refine x_aload_n (q := 55) E dX6_cut_54 1 rfl rfl ?_
        refine x_get (q := 58) E iX6_cut_X6 (0) rfl rfl 15 (by decide) (by decide +kernel) rfl dX6_cut_55 rfl ?_
        refine x_istore_n (q := 59) (lv' := [(3, .int (ii (st.1 (5)))), (2, .int (ii (0))), (0, .ref (ad 0)), (1, .int (ii (g0)))]) E dX6_cut_58 (by decide) rfl rfl ?_
        refine x_aload_n (q := 60) E dX6_cut_59 2 rfl rfl ?_
        refine x_iconst (q := 61) E dX6_cut_60 rfl ?_
        refine x_put (q := 64) (st' := (sG st (4) (0))) (v := .int (ii (0))) (ty := .int) E iX6_cut_X6 tyX6 tyX6_ok nmX6 (0) rfl rfl 13 (by decide) (by decide +kernel) rfl (by decide +kernel) rfl rfl (Nat.le_of_ble_eq_true rfl) dX6_cut_61 (ms_4 _) rfl ?_
        refine x_iload_n (q := 65) E dX6_cut_64 1 rfl rfl ?_
        refine x_istore (q := 67) (lv' := [(4, .int (ii (0))), (3, .int (ii (st.1 (5)))), (2, .int (ii (0))), (0, .ref (ad 0)), (1, .int (ii (g0)))]) E dX6_cut_65 (by decide) rfl rfl ?_
        have L67 : ∀ (n : Nat) (i : Int) (k : Int) (t : Int → Int), ((st.1 (5)) - i).toNat < n → (0 ≤ k ∧ k ≤ i ∧ i ≤ (0) + k ∧ (0) + k ≤ i ∧ k ≤ st.1 5) → (wl t k = wl (fun j => st.2 9 ((0) + j)) k) → (k = 0 ∨ i ≤ (st.1 (5))) → XJ p l e (rmX 0 0) s m args below meth c D (MW T ad) A 5 Q 0 0 (sF (sG st (4) (k)) (8) (t)) 67 [(0, .ref (ad 0)), (1, .int (ii (g0))), (2, .int (ii (0))), (3, .int (ii (st.1 (5)))), (4, .int (ii (i)))] [] := by
          intro n
          induction n with
          | zero => intro i k t hn; exact absurd hn (Nat.not_lt_zero _)
          | succ n ih67 =>
            intro i k t hn67 a1 a2 a3
            refine x_iload (q := 69) E dX6_cut_67 4 rfl rfl ?_
            refine x_iload_n (q := 70) E dX6_cut_69 3 rfl rfl ?_
            refine x_icmp_ge (tgt := 105) (q := 73) E dX6_cut_70 (by decide) rfl (by omega) (by omega) (fun c70 => ?_) (fun c70 => ?_)
            · exact RET _ _ _ dX6_cut_105 (⟨k, t, by refine Prod.ext (funext fun k9 => ?_) (funext fun q9 => ?_) <;> simp only [sG_1, sG_2, sA_1, sA_2, sF_1, sF_2, reduceIte] <;> (repeat' split) <;> first | rfl | omega | (subst_vars; first | rfl | omega) | simp_all, by rw [sh_wl g0 (st.2 9) (fr := 0) (to := st.1 (5)) (by omega) (by first | (exfalso; omega) | (rw [if_pos (by omega)]) | (rw [if_neg (by omega)])) (by first | (exfalso; omega) | (rw [if_pos (by omega)]) | (rw [if_neg (by omega)])), a2]; by_cases hk : k = st.1 (5) - 0; rw [hk]; (unfold wl; rw [show k.toNat = 0 from by omega, show (st.1 (5) - 0).toNat = 0 from by omega]), by omega⟩)
            · refine x_aload_n (q := 74) E dX6_cut_73 0 rfl rfl ?_
              refine x_get (q := 77) E iX6_cut_X6 (0) rfl rfl 12 (by decide) (by decide +kernel) rfl dX6_cut_74 rfl ?_
              refine x_aload_n (q := 78) E dX6_cut_77 0 rfl rfl ?_
              refine x_get (q := 81) E iX6_cut_X6 (0) rfl rfl 13 (by decide) (by decide +kernel) rfl dX6_cut_78 rfl ?_
              refine x_ti (show (sF (sG st (4) (k)) (8) (t)).1 (4) = k by rw [sF_1, sG_s]) ?_
              refine x_aload_n (q := 82) E dX6_cut_81 0 rfl rfl ?_
              refine x_get (q := 85) E iX6_cut_X6 (0) rfl rfl 14 (by decide) (by decide +kernel) rfl dX6_cut_82 rfl ?_
              refine x_iload (q := 87) E dX6_cut_85 4 rfl rfl ?_
              refine x_iald (q := 88) (f := (sF (sG st (4) (k)) (8) (t)).2 (9)) E (10) rfl 0 rfl (by omega) (by omega) (by decide) dX6_cut_87 rfl ?_
              refine x_ti (show (sF (sG st (4) (k)) (8) (t)).2 (9) (i) = st.2 (9) (i) by rw [sF_n _ _ (by omega), sG_2]) ?_
              refine x_iast (q := 89) (st' := (sA (sF (sG st (4) (k)) (8) (t)) (8) (k) (st.2 (9) (i)))) (f := (sF (sG st (4) (k)) (8) (t)).2 (8)) E (9) rfl 0 rfl (by omega) (by omega) (by decide) dX6_cut_88 (ma_8 _ _) rfl ?_
              refine x_aload_n (q := 90) E dX6_cut_89 0 rfl rfl ?_
              refine x_dup (q := 91) E dX6_cut_90 rfl rfl ?_
              refine x_get (q := 94) E iX6_cut_X6 (0) rfl rfl 13 (by decide) (by decide +kernel) rfl dX6_cut_91 rfl ?_
              refine x_ti (show (sA (sF (sG st (4) (k)) (8) (t)) (8) (k) (st.2 (9) (i))).1 (4) = k by rw [sA_1, sF_1, sG_s]) ?_
              refine x_iconst (q := 95) E dX6_cut_94 rfl ?_
              refine x_iadd (q := 96) E dX6_cut_95 rfl ?_
              refine x_put (q := 99) (st' := (sG (sA (sF (sG st (4) (k)) (8) (t)) (8) (k) (st.2 (9) (i))) (4) ((k) + (1)))) (v := .int (ii ((k) + (1)))) (ty := .int) E iX6_cut_X6 tyX6 tyX6_ok nmX6 (0) rfl rfl 13 (by decide) (by decide +kernel) rfl (by decide +kernel) rfl rfl (Nat.le_of_ble_eq_true rfl) dX6_cut_96 (ms_4 _) rfl ?_
              refine x_iinc (q := 102) (k := 4) (lv' := [(4, .int (ii (i + 1))), (0, .ref (ad 0)), (1, .int (ii (g0))), (2, .int (ii (0))), (3, .int (ii (st.1 (5))))]) E dX6_cut_99 rfl (by decide) rfl rfl ?_
              refine x_goto (tgt := 67) E dX6_cut_102 (by decide) ?_
              refine x_st E (st' := (sF (sG st (4) ((k) + (1))) (8) (zup (t) (k) (st.2 (9) (i))))) (by refine Prod.ext (funext fun k9 => ?_) (funext fun q9 => ?_) <;> simp only [sG_1, sG_2, sA_1, sA_2, sF_1, sF_2, reduceIte] <;> (repeat' split) <;> first | rfl | omega | (subst_vars; first | rfl | omega) | simp_all) ?_
              refine x_lv E (lv' := [(0, .ref (ad 0)), (1, .int (ii (g0))), (2, .int (ii (0))), (3, .int (ii (st.1 (5)))), (4, .int (ii (i + 1)))]) [1, 2, 3, 4, 0] rfl ?_
              exact ih67 (i + 1) ((k) + (1)) (zup (t) (k) (st.2 (9) (i))) (by omega) (by omega) (by rw [wl_put _ _ (by omega), wl_s _ (by omega), a2, show (0) + k = i from by omega]) (Or.inr (by omega))
        refine x_lv E (lv' := [(0, .ref (ad 0)), (1, .int (ii (g0))), (2, .int (ii (0))), (3, .int (ii (st.1 (5)))), (4, .int (ii (0)))]) [3, 4, 2, 1, 0] rfl ?_
        refine x_st E (st' := (sF (sG st (4) (0)) (8) (st.2 (8)))) (by refine Prod.ext (funext fun k9 => ?_) (funext fun q9 => ?_) <;> simp only [sG_1, sG_2, sA_1, sA_2, sF_1, sF_2, reduceIte] <;> (repeat' split) <;> first | rfl | omega | (subst_vars; first | rfl | omega) | simp_all) ?_
        exact L67 _ (0) (0) (st.2 (8)) (Nat.lt_succ_self _) (by omega) (rfl) (Or.inl rfl)
      · have q1 := hb (st.1 5 - 1) (by omega) (by omega)
        refine x_aload_n (q := 31) E dX6_cut_30 1 rfl rfl ?_
        refine x_get (q := 34) E iX6_cut_X6 (0) rfl rfl 14 (by decide) (by decide +kernel) rfl dX6_cut_31 rfl ?_
        refine x_aload_n (q := 35) E dX6_cut_34 1 rfl rfl ?_
        refine x_get (q := 38) E iX6_cut_X6 (0) rfl rfl 15 (by decide) (by decide +kernel) rfl dX6_cut_35 rfl ?_
        refine x_iconst (q := 39) E dX6_cut_38 rfl ?_
        refine x_isub (q := 40) E dX6_cut_39 rfl ?_
        refine x_iald (q := 41) (f := st.2 (9)) E (10) rfl 0 rfl (by omega) (by omega) (by decide) dX6_cut_40 rfl ?_
        refine x_iload_n (q := 42) E dX6_cut_41 2 rfl rfl ?_
        refine x_icmp_ge (tgt := 54) (q := 45) E dX6_cut_42 (by decide) rfl (by omega) (by omega) (fun c42 => ?_) (fun c42 => ?_)
        · refine x_aload_n (q := 55) E dX6_cut_54 1 rfl rfl ?_
          refine x_get (q := 58) E iX6_cut_X6 (0) rfl rfl 15 (by decide) (by decide +kernel) rfl dX6_cut_55 rfl ?_
          refine x_istore_n (q := 59) (lv' := [(3, .int (ii (st.1 (5)))), (2, .int (ii (0))), (0, .ref (ad 0)), (1, .int (ii (g0)))]) E dX6_cut_58 (by decide) rfl rfl ?_
          refine x_aload_n (q := 60) E dX6_cut_59 2 rfl rfl ?_
          refine x_iconst (q := 61) E dX6_cut_60 rfl ?_
          refine x_put (q := 64) (st' := (sG st (4) (0))) (v := .int (ii (0))) (ty := .int) E iX6_cut_X6 tyX6 tyX6_ok nmX6 (0) rfl rfl 13 (by decide) (by decide +kernel) rfl (by decide +kernel) rfl rfl (Nat.le_of_ble_eq_true rfl) dX6_cut_61 (ms_4 _) rfl ?_
          refine x_iload_n (q := 65) E dX6_cut_64 1 rfl rfl ?_
          refine x_istore (q := 67) (lv' := [(4, .int (ii (0))), (3, .int (ii (st.1 (5)))), (2, .int (ii (0))), (0, .ref (ad 0)), (1, .int (ii (g0)))]) E dX6_cut_65 (by decide) rfl rfl ?_
          have L67 : ∀ (n : Nat) (i : Int) (k : Int) (t : Int → Int), ((st.1 (5)) - i).toNat < n → (0 ≤ k ∧ k ≤ i ∧ i ≤ (0) + k ∧ (0) + k ≤ i ∧ k ≤ st.1 5) → (wl t k = wl (fun j => st.2 9 ((0) + j)) k) → (k = 0 ∨ i ≤ (st.1 (5))) → XJ p l e (rmX 0 0) s m args below meth c D (MW T ad) A 5 Q 0 0 (sF (sG st (4) (k)) (8) (t)) 67 [(0, .ref (ad 0)), (1, .int (ii (g0))), (2, .int (ii (0))), (3, .int (ii (st.1 (5)))), (4, .int (ii (i)))] [] := by
            intro n
            induction n with
            | zero => intro i k t hn; exact absurd hn (Nat.not_lt_zero _)
            | succ n ih67 =>
              intro i k t hn67 a1 a2 a3
              refine x_iload (q := 69) E dX6_cut_67 4 rfl rfl ?_
              refine x_iload_n (q := 70) E dX6_cut_69 3 rfl rfl ?_
              refine x_icmp_ge (tgt := 105) (q := 73) E dX6_cut_70 (by decide) rfl (by omega) (by omega) (fun c70 => ?_) (fun c70 => ?_)
              · exact RET _ _ _ dX6_cut_105 (⟨k, t, by refine Prod.ext (funext fun k9 => ?_) (funext fun q9 => ?_) <;> simp only [sG_1, sG_2, sA_1, sA_2, sF_1, sF_2, reduceIte] <;> (repeat' split) <;> first | rfl | omega | (subst_vars; first | rfl | omega) | simp_all, by rw [sh_wl g0 (st.2 9) (fr := 0) (to := st.1 (5)) (by omega) (by first | (exfalso; omega) | (rw [if_pos (by omega)]) | (rw [if_neg (by omega)])) (by first | (exfalso; omega) | (rw [if_pos (by omega)]) | (rw [if_neg (by omega)])), a2]; by_cases hk : k = st.1 (5) - 0; rw [hk]; (unfold wl; rw [show k.toNat = 0 from by omega, show (st.1 (5) - 0).toNat = 0 from by omega]), by omega⟩)
              · refine x_aload_n (q := 74) E dX6_cut_73 0 rfl rfl ?_
                refine x_get (q := 77) E iX6_cut_X6 (0) rfl rfl 12 (by decide) (by decide +kernel) rfl dX6_cut_74 rfl ?_
                refine x_aload_n (q := 78) E dX6_cut_77 0 rfl rfl ?_
                refine x_get (q := 81) E iX6_cut_X6 (0) rfl rfl 13 (by decide) (by decide +kernel) rfl dX6_cut_78 rfl ?_
                refine x_ti (show (sF (sG st (4) (k)) (8) (t)).1 (4) = k by rw [sF_1, sG_s]) ?_
                refine x_aload_n (q := 82) E dX6_cut_81 0 rfl rfl ?_
                refine x_get (q := 85) E iX6_cut_X6 (0) rfl rfl 14 (by decide) (by decide +kernel) rfl dX6_cut_82 rfl ?_
                refine x_iload (q := 87) E dX6_cut_85 4 rfl rfl ?_
                refine x_iald (q := 88) (f := (sF (sG st (4) (k)) (8) (t)).2 (9)) E (10) rfl 0 rfl (by omega) (by omega) (by decide) dX6_cut_87 rfl ?_
                refine x_ti (show (sF (sG st (4) (k)) (8) (t)).2 (9) (i) = st.2 (9) (i) by rw [sF_n _ _ (by omega), sG_2]) ?_
                refine x_iast (q := 89) (st' := (sA (sF (sG st (4) (k)) (8) (t)) (8) (k) (st.2 (9) (i)))) (f := (sF (sG st (4) (k)) (8) (t)).2 (8)) E (9) rfl 0 rfl (by omega) (by omega) (by decide) dX6_cut_88 (ma_8 _ _) rfl ?_
                refine x_aload_n (q := 90) E dX6_cut_89 0 rfl rfl ?_
                refine x_dup (q := 91) E dX6_cut_90 rfl rfl ?_
                refine x_get (q := 94) E iX6_cut_X6 (0) rfl rfl 13 (by decide) (by decide +kernel) rfl dX6_cut_91 rfl ?_
                refine x_ti (show (sA (sF (sG st (4) (k)) (8) (t)) (8) (k) (st.2 (9) (i))).1 (4) = k by rw [sA_1, sF_1, sG_s]) ?_
                refine x_iconst (q := 95) E dX6_cut_94 rfl ?_
                refine x_iadd (q := 96) E dX6_cut_95 rfl ?_
                refine x_put (q := 99) (st' := (sG (sA (sF (sG st (4) (k)) (8) (t)) (8) (k) (st.2 (9) (i))) (4) ((k) + (1)))) (v := .int (ii ((k) + (1)))) (ty := .int) E iX6_cut_X6 tyX6 tyX6_ok nmX6 (0) rfl rfl 13 (by decide) (by decide +kernel) rfl (by decide +kernel) rfl rfl (Nat.le_of_ble_eq_true rfl) dX6_cut_96 (ms_4 _) rfl ?_
                refine x_iinc (q := 102) (k := 4) (lv' := [(4, .int (ii (i + 1))), (0, .ref (ad 0)), (1, .int (ii (g0))), (2, .int (ii (0))), (3, .int (ii (st.1 (5))))]) E dX6_cut_99 rfl (by decide) rfl rfl ?_
                refine x_goto (tgt := 67) E dX6_cut_102 (by decide) ?_
                refine x_st E (st' := (sF (sG st (4) ((k) + (1))) (8) (zup (t) (k) (st.2 (9) (i))))) (by refine Prod.ext (funext fun k9 => ?_) (funext fun q9 => ?_) <;> simp only [sG_1, sG_2, sA_1, sA_2, sF_1, sF_2, reduceIte] <;> (repeat' split) <;> first | rfl | omega | (subst_vars; first | rfl | omega) | simp_all) ?_
                refine x_lv E (lv' := [(0, .ref (ad 0)), (1, .int (ii (g0))), (2, .int (ii (0))), (3, .int (ii (st.1 (5)))), (4, .int (ii (i + 1)))]) [1, 2, 3, 4, 0] rfl ?_
                exact ih67 (i + 1) ((k) + (1)) (zup (t) (k) (st.2 (9) (i))) (by omega) (by omega) (by rw [wl_put _ _ (by omega), wl_s _ (by omega), a2, show (0) + k = i from by omega]) (Or.inr (by omega))
          refine x_lv E (lv' := [(0, .ref (ad 0)), (1, .int (ii (g0))), (2, .int (ii (0))), (3, .int (ii (st.1 (5)))), (4, .int (ii (0)))]) [3, 4, 2, 1, 0] rfl ?_
          refine x_st E (st' := (sF (sG st (4) (0)) (8) (st.2 (8)))) (by refine Prod.ext (funext fun k9 => ?_) (funext fun q9 => ?_) <;> simp only [sG_1, sG_2, sA_1, sA_2, sF_1, sF_2, reduceIte] <;> (repeat' split) <;> first | rfl | omega | (subst_vars; first | rfl | omega) | simp_all) ?_
          exact L67 _ (0) (0) (st.2 (8)) (Nat.lt_succ_self _) (by omega) (rfl) (Or.inl rfl)
        · refine x_aload_n (q := 46) E dX6_cut_45 1 rfl rfl ?_
          refine x_get (q := 49) E iX6_cut_X6 (0) rfl rfl 15 (by decide) (by decide +kernel) rfl dX6_cut_46 rfl ?_
          refine x_iconst (q := 50) E dX6_cut_49 rfl ?_
          refine x_isub (q := 51) E dX6_cut_50 rfl ?_
          refine x_goto (tgt := 58) E dX6_cut_51 (by decide) ?_
          refine x_istore_n (q := 59) (lv' := [(3, .int (ii ((st.1 (5)) - (1)))), (2, .int (ii (0))), (0, .ref (ad 0)), (1, .int (ii (g0)))]) E dX6_cut_58 (by decide) rfl rfl ?_
          refine x_aload_n (q := 60) E dX6_cut_59 2 rfl rfl ?_
          refine x_iconst (q := 61) E dX6_cut_60 rfl ?_
          refine x_put (q := 64) (st' := (sG st (4) (0))) (v := .int (ii (0))) (ty := .int) E iX6_cut_X6 tyX6 tyX6_ok nmX6 (0) rfl rfl 13 (by decide) (by decide +kernel) rfl (by decide +kernel) rfl rfl (Nat.le_of_ble_eq_true rfl) dX6_cut_61 (ms_4 _) rfl ?_
          refine x_iload_n (q := 65) E dX6_cut_64 1 rfl rfl ?_
          refine x_istore (q := 67) (lv' := [(4, .int (ii (0))), (3, .int (ii ((st.1 (5)) - (1)))), (2, .int (ii (0))), (0, .ref (ad 0)), (1, .int (ii (g0)))]) E dX6_cut_65 (by decide) rfl rfl ?_
          have L67 : ∀ (n : Nat) (i : Int) (k : Int) (t : Int → Int), (((st.1 (5)) - (1)) - i).toNat < n → (0 ≤ k ∧ k ≤ i ∧ i ≤ (0) + k ∧ (0) + k ≤ i ∧ k ≤ st.1 5) → (wl t k = wl (fun j => st.2 9 ((0) + j)) k) → (k = 0 ∨ i ≤ ((st.1 (5)) - (1))) → XJ p l e (rmX 0 0) s m args below meth c D (MW T ad) A 5 Q 0 0 (sF (sG st (4) (k)) (8) (t)) 67 [(0, .ref (ad 0)), (1, .int (ii (g0))), (2, .int (ii (0))), (3, .int (ii ((st.1 (5)) - (1)))), (4, .int (ii (i)))] [] := by
            intro n
            induction n with
            | zero => intro i k t hn; exact absurd hn (Nat.not_lt_zero _)
            | succ n ih67 =>
              intro i k t hn67 a1 a2 a3
              refine x_iload (q := 69) E dX6_cut_67 4 rfl rfl ?_
              refine x_iload_n (q := 70) E dX6_cut_69 3 rfl rfl ?_
              refine x_icmp_ge (tgt := 105) (q := 73) E dX6_cut_70 (by decide) rfl (by omega) (by omega) (fun c70 => ?_) (fun c70 => ?_)
              · exact RET _ _ _ dX6_cut_105 (⟨k, t, by refine Prod.ext (funext fun k9 => ?_) (funext fun q9 => ?_) <;> simp only [sG_1, sG_2, sA_1, sA_2, sF_1, sF_2, reduceIte] <;> (repeat' split) <;> first | rfl | omega | (subst_vars; first | rfl | omega) | simp_all, by rw [sh_wl g0 (st.2 9) (fr := 0) (to := (st.1 (5)) - (1)) (by omega) (by first | (exfalso; omega) | (rw [if_pos (by omega)]) | (rw [if_neg (by omega)])) (by first | (exfalso; omega) | (rw [if_pos (by omega)]) | (rw [if_neg (by omega)])), a2]; by_cases hk : k = (st.1 (5)) - (1) - 0; rw [hk]; (unfold wl; rw [show k.toNat = 0 from by omega, show ((st.1 (5)) - (1) - 0).toNat = 0 from by omega]), by omega⟩)
              · refine x_aload_n (q := 74) E dX6_cut_73 0 rfl rfl ?_
                refine x_get (q := 77) E iX6_cut_X6 (0) rfl rfl 12 (by decide) (by decide +kernel) rfl dX6_cut_74 rfl ?_
                refine x_aload_n (q := 78) E dX6_cut_77 0 rfl rfl ?_
                refine x_get (q := 81) E iX6_cut_X6 (0) rfl rfl 13 (by decide) (by decide +kernel) rfl dX6_cut_78 rfl ?_
                refine x_ti (show (sF (sG st (4) (k)) (8) (t)).1 (4) = k by rw [sF_1, sG_s]) ?_
                refine x_aload_n (q := 82) E dX6_cut_81 0 rfl rfl ?_
                refine x_get (q := 85) E iX6_cut_X6 (0) rfl rfl 14 (by decide) (by decide +kernel) rfl dX6_cut_82 rfl ?_
                refine x_iload (q := 87) E dX6_cut_85 4 rfl rfl ?_
                refine x_iald (q := 88) (f := (sF (sG st (4) (k)) (8) (t)).2 (9)) E (10) rfl 0 rfl (by omega) (by omega) (by decide) dX6_cut_87 rfl ?_
                refine x_ti (show (sF (sG st (4) (k)) (8) (t)).2 (9) (i) = st.2 (9) (i) by rw [sF_n _ _ (by omega), sG_2]) ?_
                refine x_iast (q := 89) (st' := (sA (sF (sG st (4) (k)) (8) (t)) (8) (k) (st.2 (9) (i)))) (f := (sF (sG st (4) (k)) (8) (t)).2 (8)) E (9) rfl 0 rfl (by omega) (by omega) (by decide) dX6_cut_88 (ma_8 _ _) rfl ?_
                refine x_aload_n (q := 90) E dX6_cut_89 0 rfl rfl ?_
                refine x_dup (q := 91) E dX6_cut_90 rfl rfl ?_
                refine x_get (q := 94) E iX6_cut_X6 (0) rfl rfl 13 (by decide) (by decide +kernel) rfl dX6_cut_91 rfl ?_
                refine x_ti (show (sA (sF (sG st (4) (k)) (8) (t)) (8) (k) (st.2 (9) (i))).1 (4) = k by rw [sA_1, sF_1, sG_s]) ?_
                refine x_iconst (q := 95) E dX6_cut_94 rfl ?_
                refine x_iadd (q := 96) E dX6_cut_95 rfl ?_
                refine x_put (q := 99) (st' := (sG (sA (sF (sG st (4) (k)) (8) (t)) (8) (k) (st.2 (9) (i))) (4) ((k) + (1)))) (v := .int (ii ((k) + (1)))) (ty := .int) E iX6_cut_X6 tyX6 tyX6_ok nmX6 (0) rfl rfl 13 (by decide) (by decide +kernel) rfl (by decide +kernel) rfl rfl (Nat.le_of_ble_eq_true rfl) dX6_cut_96 (ms_4 _) rfl ?_
                refine x_iinc (q := 102) (k := 4) (lv' := [(4, .int (ii (i + 1))), (0, .ref (ad 0)), (1, .int (ii (g0))), (2, .int (ii (0))), (3, .int (ii ((st.1 (5)) - (1))))]) E dX6_cut_99 rfl (by decide) rfl rfl ?_
                refine x_goto (tgt := 67) E dX6_cut_102 (by decide) ?_
                refine x_st E (st' := (sF (sG st (4) ((k) + (1))) (8) (zup (t) (k) (st.2 (9) (i))))) (by refine Prod.ext (funext fun k9 => ?_) (funext fun q9 => ?_) <;> simp only [sG_1, sG_2, sA_1, sA_2, sF_1, sF_2, reduceIte] <;> (repeat' split) <;> first | rfl | omega | (subst_vars; first | rfl | omega) | simp_all) ?_
                refine x_lv E (lv' := [(0, .ref (ad 0)), (1, .int (ii (g0))), (2, .int (ii (0))), (3, .int (ii ((st.1 (5)) - (1)))), (4, .int (ii (i + 1)))]) [1, 2, 3, 4, 0] rfl ?_
                exact ih67 (i + 1) ((k) + (1)) (zup (t) (k) (st.2 (9) (i))) (by omega) (by omega) (by rw [wl_put _ _ (by omega), wl_s _ (by omega), a2, show (0) + k = i from by omega]) (Or.inr (by omega))
          refine x_lv E (lv' := [(0, .ref (ad 0)), (1, .int (ii (g0))), (2, .int (ii (0))), (3, .int (ii ((st.1 (5)) - (1)))), (4, .int (ii (0)))]) [3, 4, 2, 1, 0] rfl ?_
          refine x_st E (st' := (sF (sG st (4) (0)) (8) (st.2 (8)))) (by refine Prod.ext (funext fun k9 => ?_) (funext fun q9 => ?_) <;> simp only [sG_1, sG_2, sA_1, sA_2, sF_1, sF_2, reduceIte] <;> (repeat' split) <;> first | rfl | omega | (subst_vars; first | rfl | omega) | simp_all) ?_
          exact L67 _ (0) (0) (st.2 (8)) (Nat.lt_succ_self _) (by omega) (rfl) (Or.inl rfl)
    · refine x_iconst (q := 18) E dX6_cut_17 rfl ?_
      refine x_goto (tgt := 22) E dX6_cut_18 (by decide) ?_
      refine x_istore_n (q := 23) (lv' := [(2, .int (ii (1))), (0, .ref (ad 0)), (1, .int (ii (g0)))]) E dX6_cut_22 (by decide) rfl rfl ?_
      refine x_aload_n (q := 24) E dX6_cut_23 1 rfl rfl ?_
      refine x_get (q := 27) E iX6_cut_X6 (0) rfl rfl 15 (by decide) (by decide +kernel) rfl dX6_cut_24 rfl ?_
      refine x_if_le (tgt := 54) (q := 30) E dX6_cut_27 (by decide) rfl (by omega) (fun c27 => ?_) (fun c27 => ?_)
      · refine x_aload_n (q := 55) E dX6_cut_54 1 rfl rfl ?_
        refine x_get (q := 58) E iX6_cut_X6 (0) rfl rfl 15 (by decide) (by decide +kernel) rfl dX6_cut_55 rfl ?_
        refine x_istore_n (q := 59) (lv' := [(3, .int (ii (st.1 (5)))), (2, .int (ii (1))), (0, .ref (ad 0)), (1, .int (ii (g0)))]) E dX6_cut_58 (by decide) rfl rfl ?_
        refine x_aload_n (q := 60) E dX6_cut_59 2 rfl rfl ?_
        refine x_iconst (q := 61) E dX6_cut_60 rfl ?_
        refine x_put (q := 64) (st' := (sG st (4) (0))) (v := .int (ii (0))) (ty := .int) E iX6_cut_X6 tyX6 tyX6_ok nmX6 (0) rfl rfl 13 (by decide) (by decide +kernel) rfl (by decide +kernel) rfl rfl (Nat.le_of_ble_eq_true rfl) dX6_cut_61 (ms_4 _) rfl ?_
        refine x_iload_n (q := 65) E dX6_cut_64 1 rfl rfl ?_
        refine x_istore (q := 67) (lv' := [(4, .int (ii (1))), (3, .int (ii (st.1 (5)))), (2, .int (ii (1))), (0, .ref (ad 0)), (1, .int (ii (g0)))]) E dX6_cut_65 (by decide) rfl rfl ?_
        have L67 : ∀ (n : Nat) (i : Int) (k : Int) (t : Int → Int), ((st.1 (5)) - i).toNat < n → (0 ≤ k ∧ k ≤ i ∧ i ≤ (1) + k ∧ (1) + k ≤ i ∧ k ≤ st.1 5) → (wl t k = wl (fun j => st.2 9 ((1) + j)) k) → (k = 0 ∨ i ≤ (st.1 (5))) → XJ p l e (rmX 0 0) s m args below meth c D (MW T ad) A 5 Q 0 0 (sF (sG st (4) (k)) (8) (t)) 67 [(0, .ref (ad 0)), (1, .int (ii (g0))), (2, .int (ii (1))), (3, .int (ii (st.1 (5)))), (4, .int (ii (i)))] [] := by
          intro n
          induction n with
          | zero => intro i k t hn; exact absurd hn (Nat.not_lt_zero _)
          | succ n ih67 =>
            intro i k t hn67 a1 a2 a3
            refine x_iload (q := 69) E dX6_cut_67 4 rfl rfl ?_
            refine x_iload_n (q := 70) E dX6_cut_69 3 rfl rfl ?_
            refine x_icmp_ge (tgt := 105) (q := 73) E dX6_cut_70 (by decide) rfl (by omega) (by omega) (fun c70 => ?_) (fun c70 => ?_)
            · exact RET _ _ _ dX6_cut_105 (⟨k, t, by refine Prod.ext (funext fun k9 => ?_) (funext fun q9 => ?_) <;> simp only [sG_1, sG_2, sA_1, sA_2, sF_1, sF_2, reduceIte] <;> (repeat' split) <;> first | rfl | omega | (subst_vars; first | rfl | omega) | simp_all, by rw [sh_wl g0 (st.2 9) (fr := 1) (to := st.1 (5)) (by omega) (by first | (exfalso; omega) | (rw [if_pos (by omega)]) | (rw [if_neg (by omega)])) (by first | (exfalso; omega) | (rw [if_pos (by omega)]) | (rw [if_neg (by omega)])), a2]; by_cases hk : k = st.1 (5) - 1; rw [hk]; (unfold wl; rw [show k.toNat = 0 from by omega, show (st.1 (5) - 1).toNat = 0 from by omega]), by omega⟩)
            · refine x_aload_n (q := 74) E dX6_cut_73 0 rfl rfl ?_
              refine x_get (q := 77) E iX6_cut_X6 (0) rfl rfl 12 (by decide) (by decide +kernel) rfl dX6_cut_74 rfl ?_
              refine x_aload_n (q := 78) E dX6_cut_77 0 rfl rfl ?_
              refine x_get (q := 81) E iX6_cut_X6 (0) rfl rfl 13 (by decide) (by decide +kernel) rfl dX6_cut_78 rfl ?_
              refine x_ti (show (sF (sG st (4) (k)) (8) (t)).1 (4) = k by rw [sF_1, sG_s]) ?_
              refine x_aload_n (q := 82) E dX6_cut_81 0 rfl rfl ?_
              refine x_get (q := 85) E iX6_cut_X6 (0) rfl rfl 14 (by decide) (by decide +kernel) rfl dX6_cut_82 rfl ?_
              refine x_iload (q := 87) E dX6_cut_85 4 rfl rfl ?_
              refine x_iald (q := 88) (f := (sF (sG st (4) (k)) (8) (t)).2 (9)) E (10) rfl 0 rfl (by omega) (by omega) (by decide) dX6_cut_87 rfl ?_
              refine x_ti (show (sF (sG st (4) (k)) (8) (t)).2 (9) (i) = st.2 (9) (i) by rw [sF_n _ _ (by omega), sG_2]) ?_
              refine x_iast (q := 89) (st' := (sA (sF (sG st (4) (k)) (8) (t)) (8) (k) (st.2 (9) (i)))) (f := (sF (sG st (4) (k)) (8) (t)).2 (8)) E (9) rfl 0 rfl (by omega) (by omega) (by decide) dX6_cut_88 (ma_8 _ _) rfl ?_
              refine x_aload_n (q := 90) E dX6_cut_89 0 rfl rfl ?_
              refine x_dup (q := 91) E dX6_cut_90 rfl rfl ?_
              refine x_get (q := 94) E iX6_cut_X6 (0) rfl rfl 13 (by decide) (by decide +kernel) rfl dX6_cut_91 rfl ?_
              refine x_ti (show (sA (sF (sG st (4) (k)) (8) (t)) (8) (k) (st.2 (9) (i))).1 (4) = k by rw [sA_1, sF_1, sG_s]) ?_
              refine x_iconst (q := 95) E dX6_cut_94 rfl ?_
              refine x_iadd (q := 96) E dX6_cut_95 rfl ?_
              refine x_put (q := 99) (st' := (sG (sA (sF (sG st (4) (k)) (8) (t)) (8) (k) (st.2 (9) (i))) (4) ((k) + (1)))) (v := .int (ii ((k) + (1)))) (ty := .int) E iX6_cut_X6 tyX6 tyX6_ok nmX6 (0) rfl rfl 13 (by decide) (by decide +kernel) rfl (by decide +kernel) rfl rfl (Nat.le_of_ble_eq_true rfl) dX6_cut_96 (ms_4 _) rfl ?_
              refine x_iinc (q := 102) (k := 4) (lv' := [(4, .int (ii (i + 1))), (0, .ref (ad 0)), (1, .int (ii (g0))), (2, .int (ii (1))), (3, .int (ii (st.1 (5))))]) E dX6_cut_99 rfl (by decide) rfl rfl ?_
              refine x_goto (tgt := 67) E dX6_cut_102 (by decide) ?_
              refine x_st E (st' := (sF (sG st (4) ((k) + (1))) (8) (zup (t) (k) (st.2 (9) (i))))) (by refine Prod.ext (funext fun k9 => ?_) (funext fun q9 => ?_) <;> simp only [sG_1, sG_2, sA_1, sA_2, sF_1, sF_2, reduceIte] <;> (repeat' split) <;> first | rfl | omega | (subst_vars; first | rfl | omega) | simp_all) ?_
              refine x_lv E (lv' := [(0, .ref (ad 0)), (1, .int (ii (g0))), (2, .int (ii (1))), (3, .int (ii (st.1 (5)))), (4, .int (ii (i + 1)))]) [1, 2, 3, 4, 0] rfl ?_
              exact ih67 (i + 1) ((k) + (1)) (zup (t) (k) (st.2 (9) (i))) (by omega) (by omega) (by rw [wl_put _ _ (by omega), wl_s _ (by omega), a2, show (1) + k = i from by omega]) (Or.inr (by omega))
        refine x_lv E (lv' := [(0, .ref (ad 0)), (1, .int (ii (g0))), (2, .int (ii (1))), (3, .int (ii (st.1 (5)))), (4, .int (ii (1)))]) [3, 4, 2, 1, 0] rfl ?_
        refine x_st E (st' := (sF (sG st (4) (0)) (8) (st.2 (8)))) (by refine Prod.ext (funext fun k9 => ?_) (funext fun q9 => ?_) <;> simp only [sG_1, sG_2, sA_1, sA_2, sF_1, sF_2, reduceIte] <;> (repeat' split) <;> first | rfl | omega | (subst_vars; first | rfl | omega) | simp_all) ?_
        exact L67 _ (1) (0) (st.2 (8)) (Nat.lt_succ_self _) (by omega) (rfl) (Or.inl rfl)
      · have q1 := hb (st.1 5 - 1) (by omega) (by omega)
        refine x_aload_n (q := 31) E dX6_cut_30 1 rfl rfl ?_
        refine x_get (q := 34) E iX6_cut_X6 (0) rfl rfl 14 (by decide) (by decide +kernel) rfl dX6_cut_31 rfl ?_
        refine x_aload_n (q := 35) E dX6_cut_34 1 rfl rfl ?_
        refine x_get (q := 38) E iX6_cut_X6 (0) rfl rfl 15 (by decide) (by decide +kernel) rfl dX6_cut_35 rfl ?_
        refine x_iconst (q := 39) E dX6_cut_38 rfl ?_
        refine x_isub (q := 40) E dX6_cut_39 rfl ?_
        refine x_iald (q := 41) (f := st.2 (9)) E (10) rfl 0 rfl (by omega) (by omega) (by decide) dX6_cut_40 rfl ?_
        refine x_iload_n (q := 42) E dX6_cut_41 2 rfl rfl ?_
        refine x_icmp_ge (tgt := 54) (q := 45) E dX6_cut_42 (by decide) rfl (by omega) (by omega) (fun c42 => ?_) (fun c42 => ?_)
        · refine x_aload_n (q := 55) E dX6_cut_54 1 rfl rfl ?_
          refine x_get (q := 58) E iX6_cut_X6 (0) rfl rfl 15 (by decide) (by decide +kernel) rfl dX6_cut_55 rfl ?_
          refine x_istore_n (q := 59) (lv' := [(3, .int (ii (st.1 (5)))), (2, .int (ii (1))), (0, .ref (ad 0)), (1, .int (ii (g0)))]) E dX6_cut_58 (by decide) rfl rfl ?_
          refine x_aload_n (q := 60) E dX6_cut_59 2 rfl rfl ?_
          refine x_iconst (q := 61) E dX6_cut_60 rfl ?_
          refine x_put (q := 64) (st' := (sG st (4) (0))) (v := .int (ii (0))) (ty := .int) E iX6_cut_X6 tyX6 tyX6_ok nmX6 (0) rfl rfl 13 (by decide) (by decide +kernel) rfl (by decide +kernel) rfl rfl (Nat.le_of_ble_eq_true rfl) dX6_cut_61 (ms_4 _) rfl ?_
          refine x_iload_n (q := 65) E dX6_cut_64 1 rfl rfl ?_
          refine x_istore (q := 67) (lv' := [(4, .int (ii (1))), (3, .int (ii (st.1 (5)))), (2, .int (ii (1))), (0, .ref (ad 0)), (1, .int (ii (g0)))]) E dX6_cut_65 (by decide) rfl rfl ?_
          have L67 : ∀ (n : Nat) (i : Int) (k : Int) (t : Int → Int), ((st.1 (5)) - i).toNat < n → (0 ≤ k ∧ k ≤ i ∧ i ≤ (1) + k ∧ (1) + k ≤ i ∧ k ≤ st.1 5) → (wl t k = wl (fun j => st.2 9 ((1) + j)) k) → (k = 0 ∨ i ≤ (st.1 (5))) → XJ p l e (rmX 0 0) s m args below meth c D (MW T ad) A 5 Q 0 0 (sF (sG st (4) (k)) (8) (t)) 67 [(0, .ref (ad 0)), (1, .int (ii (g0))), (2, .int (ii (1))), (3, .int (ii (st.1 (5)))), (4, .int (ii (i)))] [] := by
            intro n
            induction n with
            | zero => intro i k t hn; exact absurd hn (Nat.not_lt_zero _)
            | succ n ih67 =>
              intro i k t hn67 a1 a2 a3
              refine x_iload (q := 69) E dX6_cut_67 4 rfl rfl ?_
              refine x_iload_n (q := 70) E dX6_cut_69 3 rfl rfl ?_
              refine x_icmp_ge (tgt := 105) (q := 73) E dX6_cut_70 (by decide) rfl (by omega) (by omega) (fun c70 => ?_) (fun c70 => ?_)
              · exact RET _ _ _ dX6_cut_105 (⟨k, t, by refine Prod.ext (funext fun k9 => ?_) (funext fun q9 => ?_) <;> simp only [sG_1, sG_2, sA_1, sA_2, sF_1, sF_2, reduceIte] <;> (repeat' split) <;> first | rfl | omega | (subst_vars; first | rfl | omega) | simp_all, by rw [sh_wl g0 (st.2 9) (fr := 1) (to := st.1 (5)) (by omega) (by first | (exfalso; omega) | (rw [if_pos (by omega)]) | (rw [if_neg (by omega)])) (by first | (exfalso; omega) | (rw [if_pos (by omega)]) | (rw [if_neg (by omega)])), a2]; by_cases hk : k = st.1 (5) - 1; rw [hk]; (unfold wl; rw [show k.toNat = 0 from by omega, show (st.1 (5) - 1).toNat = 0 from by omega]), by omega⟩)
              · refine x_aload_n (q := 74) E dX6_cut_73 0 rfl rfl ?_
                refine x_get (q := 77) E iX6_cut_X6 (0) rfl rfl 12 (by decide) (by decide +kernel) rfl dX6_cut_74 rfl ?_
                refine x_aload_n (q := 78) E dX6_cut_77 0 rfl rfl ?_
                refine x_get (q := 81) E iX6_cut_X6 (0) rfl rfl 13 (by decide) (by decide +kernel) rfl dX6_cut_78 rfl ?_
                refine x_ti (show (sF (sG st (4) (k)) (8) (t)).1 (4) = k by rw [sF_1, sG_s]) ?_
                refine x_aload_n (q := 82) E dX6_cut_81 0 rfl rfl ?_
                refine x_get (q := 85) E iX6_cut_X6 (0) rfl rfl 14 (by decide) (by decide +kernel) rfl dX6_cut_82 rfl ?_
                refine x_iload (q := 87) E dX6_cut_85 4 rfl rfl ?_
                refine x_iald (q := 88) (f := (sF (sG st (4) (k)) (8) (t)).2 (9)) E (10) rfl 0 rfl (by omega) (by omega) (by decide) dX6_cut_87 rfl ?_
                refine x_ti (show (sF (sG st (4) (k)) (8) (t)).2 (9) (i) = st.2 (9) (i) by rw [sF_n _ _ (by omega), sG_2]) ?_
                refine x_iast (q := 89) (st' := (sA (sF (sG st (4) (k)) (8) (t)) (8) (k) (st.2 (9) (i)))) (f := (sF (sG st (4) (k)) (8) (t)).2 (8)) E (9) rfl 0 rfl (by omega) (by omega) (by decide) dX6_cut_88 (ma_8 _ _) rfl ?_
                refine x_aload_n (q := 90) E dX6_cut_89 0 rfl rfl ?_
                refine x_dup (q := 91) E dX6_cut_90 rfl rfl ?_
                refine x_get (q := 94) E iX6_cut_X6 (0) rfl rfl 13 (by decide) (by decide +kernel) rfl dX6_cut_91 rfl ?_
                refine x_ti (show (sA (sF (sG st (4) (k)) (8) (t)) (8) (k) (st.2 (9) (i))).1 (4) = k by rw [sA_1, sF_1, sG_s]) ?_
                refine x_iconst (q := 95) E dX6_cut_94 rfl ?_
                refine x_iadd (q := 96) E dX6_cut_95 rfl ?_
                refine x_put (q := 99) (st' := (sG (sA (sF (sG st (4) (k)) (8) (t)) (8) (k) (st.2 (9) (i))) (4) ((k) + (1)))) (v := .int (ii ((k) + (1)))) (ty := .int) E iX6_cut_X6 tyX6 tyX6_ok nmX6 (0) rfl rfl 13 (by decide) (by decide +kernel) rfl (by decide +kernel) rfl rfl (Nat.le_of_ble_eq_true rfl) dX6_cut_96 (ms_4 _) rfl ?_
                refine x_iinc (q := 102) (k := 4) (lv' := [(4, .int (ii (i + 1))), (0, .ref (ad 0)), (1, .int (ii (g0))), (2, .int (ii (1))), (3, .int (ii (st.1 (5))))]) E dX6_cut_99 rfl (by decide) rfl rfl ?_
                refine x_goto (tgt := 67) E dX6_cut_102 (by decide) ?_
                refine x_st E (st' := (sF (sG st (4) ((k) + (1))) (8) (zup (t) (k) (st.2 (9) (i))))) (by refine Prod.ext (funext fun k9 => ?_) (funext fun q9 => ?_) <;> simp only [sG_1, sG_2, sA_1, sA_2, sF_1, sF_2, reduceIte] <;> (repeat' split) <;> first | rfl | omega | (subst_vars; first | rfl | omega) | simp_all) ?_
                refine x_lv E (lv' := [(0, .ref (ad 0)), (1, .int (ii (g0))), (2, .int (ii (1))), (3, .int (ii (st.1 (5)))), (4, .int (ii (i + 1)))]) [1, 2, 3, 4, 0] rfl ?_
                exact ih67 (i + 1) ((k) + (1)) (zup (t) (k) (st.2 (9) (i))) (by omega) (by omega) (by rw [wl_put _ _ (by omega), wl_s _ (by omega), a2, show (1) + k = i from by omega]) (Or.inr (by omega))
          refine x_lv E (lv' := [(0, .ref (ad 0)), (1, .int (ii (g0))), (2, .int (ii (1))), (3, .int (ii (st.1 (5)))), (4, .int (ii (1)))]) [3, 4, 2, 1, 0] rfl ?_
          refine x_st E (st' := (sF (sG st (4) (0)) (8) (st.2 (8)))) (by refine Prod.ext (funext fun k9 => ?_) (funext fun q9 => ?_) <;> simp only [sG_1, sG_2, sA_1, sA_2, sF_1, sF_2, reduceIte] <;> (repeat' split) <;> first | rfl | omega | (subst_vars; first | rfl | omega) | simp_all) ?_
          exact L67 _ (1) (0) (st.2 (8)) (Nat.lt_succ_self _) (by omega) (rfl) (Or.inl rfl)
        · refine x_aload_n (q := 46) E dX6_cut_45 1 rfl rfl ?_
          refine x_get (q := 49) E iX6_cut_X6 (0) rfl rfl 15 (by decide) (by decide +kernel) rfl dX6_cut_46 rfl ?_
          refine x_iconst (q := 50) E dX6_cut_49 rfl ?_
          refine x_isub (q := 51) E dX6_cut_50 rfl ?_
          refine x_goto (tgt := 58) E dX6_cut_51 (by decide) ?_
          refine x_istore_n (q := 59) (lv' := [(3, .int (ii ((st.1 (5)) - (1)))), (2, .int (ii (1))), (0, .ref (ad 0)), (1, .int (ii (g0)))]) E dX6_cut_58 (by decide) rfl rfl ?_
          refine x_aload_n (q := 60) E dX6_cut_59 2 rfl rfl ?_
          refine x_iconst (q := 61) E dX6_cut_60 rfl ?_
          refine x_put (q := 64) (st' := (sG st (4) (0))) (v := .int (ii (0))) (ty := .int) E iX6_cut_X6 tyX6 tyX6_ok nmX6 (0) rfl rfl 13 (by decide) (by decide +kernel) rfl (by decide +kernel) rfl rfl (Nat.le_of_ble_eq_true rfl) dX6_cut_61 (ms_4 _) rfl ?_
          refine x_iload_n (q := 65) E dX6_cut_64 1 rfl rfl ?_
          refine x_istore (q := 67) (lv' := [(4, .int (ii (1))), (3, .int (ii ((st.1 (5)) - (1)))), (2, .int (ii (1))), (0, .ref (ad 0)), (1, .int (ii (g0)))]) E dX6_cut_65 (by decide) rfl rfl ?_
          have L67 : ∀ (n : Nat) (i : Int) (k : Int) (t : Int → Int), (((st.1 (5)) - (1)) - i).toNat < n → (0 ≤ k ∧ k ≤ i ∧ i ≤ (1) + k ∧ (1) + k ≤ i ∧ k ≤ st.1 5) → (wl t k = wl (fun j => st.2 9 ((1) + j)) k) → (k = 0 ∨ i ≤ ((st.1 (5)) - (1))) → XJ p l e (rmX 0 0) s m args below meth c D (MW T ad) A 5 Q 0 0 (sF (sG st (4) (k)) (8) (t)) 67 [(0, .ref (ad 0)), (1, .int (ii (g0))), (2, .int (ii (1))), (3, .int (ii ((st.1 (5)) - (1)))), (4, .int (ii (i)))] [] := by
            intro n
            induction n with
            | zero => intro i k t hn; exact absurd hn (Nat.not_lt_zero _)
            | succ n ih67 =>
              intro i k t hn67 a1 a2 a3
              refine x_iload (q := 69) E dX6_cut_67 4 rfl rfl ?_
              refine x_iload_n (q := 70) E dX6_cut_69 3 rfl rfl ?_
              refine x_icmp_ge (tgt := 105) (q := 73) E dX6_cut_70 (by decide) rfl (by omega) (by omega) (fun c70 => ?_) (fun c70 => ?_)
              · exact RET _ _ _ dX6_cut_105 (⟨k, t, by refine Prod.ext (funext fun k9 => ?_) (funext fun q9 => ?_) <;> simp only [sG_1, sG_2, sA_1, sA_2, sF_1, sF_2, reduceIte] <;> (repeat' split) <;> first | rfl | omega | (subst_vars; first | rfl | omega) | simp_all, by rw [sh_wl g0 (st.2 9) (fr := 1) (to := (st.1 (5)) - (1)) (by omega) (by first | (exfalso; omega) | (rw [if_pos (by omega)]) | (rw [if_neg (by omega)])) (by first | (exfalso; omega) | (rw [if_pos (by omega)]) | (rw [if_neg (by omega)])), a2]; by_cases hk : k = (st.1 (5)) - (1) - 1; rw [hk]; (unfold wl; rw [show k.toNat = 0 from by omega, show ((st.1 (5)) - (1) - 1).toNat = 0 from by omega]), by omega⟩)
              · refine x_aload_n (q := 74) E dX6_cut_73 0 rfl rfl ?_
                refine x_get (q := 77) E iX6_cut_X6 (0) rfl rfl 12 (by decide) (by decide +kernel) rfl dX6_cut_74 rfl ?_
                refine x_aload_n (q := 78) E dX6_cut_77 0 rfl rfl ?_
                refine x_get (q := 81) E iX6_cut_X6 (0) rfl rfl 13 (by decide) (by decide +kernel) rfl dX6_cut_78 rfl ?_
                refine x_ti (show (sF (sG st (4) (k)) (8) (t)).1 (4) = k by rw [sF_1, sG_s]) ?_
                refine x_aload_n (q := 82) E dX6_cut_81 0 rfl rfl ?_
                refine x_get (q := 85) E iX6_cut_X6 (0) rfl rfl 14 (by decide) (by decide +kernel) rfl dX6_cut_82 rfl ?_
                refine x_iload (q := 87) E dX6_cut_85 4 rfl rfl ?_
                refine x_iald (q := 88) (f := (sF (sG st (4) (k)) (8) (t)).2 (9)) E (10) rfl 0 rfl (by omega) (by omega) (by decide) dX6_cut_87 rfl ?_
                refine x_ti (show (sF (sG st (4) (k)) (8) (t)).2 (9) (i) = st.2 (9) (i) by rw [sF_n _ _ (by omega), sG_2]) ?_
                refine x_iast (q := 89) (st' := (sA (sF (sG st (4) (k)) (8) (t)) (8) (k) (st.2 (9) (i)))) (f := (sF (sG st (4) (k)) (8) (t)).2 (8)) E (9) rfl 0 rfl (by omega) (by omega) (by decide) dX6_cut_88 (ma_8 _ _) rfl ?_
                refine x_aload_n (q := 90) E dX6_cut_89 0 rfl rfl ?_
                refine x_dup (q := 91) E dX6_cut_90 rfl rfl ?_
                refine x_get (q := 94) E iX6_cut_X6 (0) rfl rfl 13 (by decide) (by decide +kernel) rfl dX6_cut_91 rfl ?_
                refine x_ti (show (sA (sF (sG st (4) (k)) (8) (t)) (8) (k) (st.2 (9) (i))).1 (4) = k by rw [sA_1, sF_1, sG_s]) ?_
                refine x_iconst (q := 95) E dX6_cut_94 rfl ?_
                refine x_iadd (q := 96) E dX6_cut_95 rfl ?_
                refine x_put (q := 99) (st' := (sG (sA (sF (sG st (4) (k)) (8) (t)) (8) (k) (st.2 (9) (i))) (4) ((k) + (1)))) (v := .int (ii ((k) + (1)))) (ty := .int) E iX6_cut_X6 tyX6 tyX6_ok nmX6 (0) rfl rfl 13 (by decide) (by decide +kernel) rfl (by decide +kernel) rfl rfl (Nat.le_of_ble_eq_true rfl) dX6_cut_96 (ms_4 _) rfl ?_
                refine x_iinc (q := 102) (k := 4) (lv' := [(4, .int (ii (i + 1))), (0, .ref (ad 0)), (1, .int (ii (g0))), (2, .int (ii (1))), (3, .int (ii ((st.1 (5)) - (1))))]) E dX6_cut_99 rfl (by decide) rfl rfl ?_
                refine x_goto (tgt := 67) E dX6_cut_102 (by decide) ?_
                refine x_st E (st' := (sF (sG st (4) ((k) + (1))) (8) (zup (t) (k) (st.2 (9) (i))))) (by refine Prod.ext (funext fun k9 => ?_) (funext fun q9 => ?_) <;> simp only [sG_1, sG_2, sA_1, sA_2, sF_1, sF_2, reduceIte] <;> (repeat' split) <;> first | rfl | omega | (subst_vars; first | rfl | omega) | simp_all) ?_
                refine x_lv E (lv' := [(0, .ref (ad 0)), (1, .int (ii (g0))), (2, .int (ii (1))), (3, .int (ii ((st.1 (5)) - (1)))), (4, .int (ii (i + 1)))]) [1, 2, 3, 4, 0] rfl ?_
                exact ih67 (i + 1) ((k) + (1)) (zup (t) (k) (st.2 (9) (i))) (by omega) (by omega) (by rw [wl_put _ _ (by omega), wl_s _ (by omega), a2, show (1) + k = i from by omega]) (Or.inr (by omega))
          refine x_lv E (lv' := [(0, .ref (ad 0)), (1, .int (ii (g0))), (2, .int (ii (1))), (3, .int (ii ((st.1 (5)) - (1)))), (4, .int (ii (1)))]) [3, 4, 2, 1, 0] rfl ?_
          refine x_st E (st' := (sF (sG st (4) (0)) (8) (st.2 (8)))) (by refine Prod.ext (funext fun k9 => ?_) (funext fun q9 => ?_) <;> simp only [sG_1, sG_2, sA_1, sA_2, sF_1, sF_2, reduceIte] <;> (repeat' split) <;> first | rfl | omega | (subst_vars; first | rfl | omega) | simp_all) ?_
          exact L67 _ (1) (0) (st.2 (8)) (Nat.lt_succ_self _) (by omega) (rfl) (Or.inl rfl)

