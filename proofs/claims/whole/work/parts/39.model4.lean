theorem iX6_runs_X6 : ∀ w ∈ wsX60, w ∈ wsX6_runs := by decide +kernel
set_option maxRecDepth 100000 in
set_option maxHeartbeats 4000000 in
theorem c_X6_runs (l : Launch) (D : va_G) (T : Nat → ClassId) (ad : Nat → Nat) (hN : ∀ i j, i < 13 → j < 13 → ad i = ad j → i = j) (st : St_) (a : AB_) (hI : MI st a) : CXi l yX6_runs wsX6_runs (rmX 1 22) [.ref (ad 0)] D (tyX T) (MW T ad) (alM ad) st (fun z st2 => z = chg (lf a.2) (a.2.length : Int) ∧ MI st2 a) := by
  refine mk_i (cc := cX6_runs) (nL := 2) rfl rfl (MW_ok hN) (Nat.le_of_ble_eq_true rfl) [(0, .ref (ad 0))] rfl (fun p e s m args below meth c A Q E RET => ?_)
  have k1 := hI.1
  have k2 := hI.2.1
  have k3 := hI.2.2.1
  have k4 := hI.2.2.2.1
  have k5 := hI.2.2.2.2.1
  have k6 := hI.2.2.2.2.2.1
  have k7 := hI.2.2.2.2.2.2.1
  have k8 := hI.2.2.2.2.2.2.2
  have hn := k7.2.1.1
  have hL := hI.len
  have hf := hI.lf
  have hf6 := hI.let6
  refine x_aload_n (q := 1) E dX6_runs_0 0 rfl rfl ?_
  refine x_callVv (q := 4) (n := 0) (As := []) (r := []) E (c_X6_load l D T ad hN st (k6)) gX6_runs_X6_load rfl rfl rfl (by decide +kernel) ⟨Nat.le_of_ble_eq_true rfl, Nat.le_of_ble_eq_true rfl⟩ (0) rfl rfl rfl rfl (Nat.le_of_ble_eq_true rfl) dX6_runs_1 rfl (fun s2 q3 => ?_)
  obtain ⟨f4, rfl, h15⟩ := q3
  have g1 := h15
  have gb : ∀ j : Int, 0 ≤ j → j < st.1 3 → 1 ≤ f4 j ∧ f4 j ≤ 6 := fun j j0 j1 => by rw [g1 j j0 j1]; exact hf6 j j0 j1
  have gl : ∀ j : Int, 0 ≤ j → j < st.1 3 → f4 j = lf a.2 j := fun j j0 j1 => by rw [g1 j j0 j1, hf j j0 j1]
  refine x_aload_n (q := 5) E dX6_runs_4 0 rfl rfl ?_
  refine x_callVi (q := 8) (n := 0) (As := []) (r := []) E (c_X6_measure l D T ad hN (sF (sG st (4) (st.1 (3))) (8) (f4)) (by rw [sF_1, sG_s]; exact k6) (by rw [sF_s, sF_1, sG_s]; intro j j0 j1; have := gb j j0 j1; omega)) gX6_runs_X6_measure rfl rfl rfl (by decide +kernel) ⟨Nat.le_of_ble_eq_true rfl, Nat.le_of_ble_eq_true rfl⟩ (0) rfl rfl rfl rfl (Nat.le_of_ble_eq_true rfl) dX6_runs_5 rfl (fun z6 s7 q8 => ?_)
  obtain ⟨rfl, k9, t10, rfl, h111, h212, h313⟩ := q8
  have m1 := h111
  have m2 := h212
  have m3 := h313
  rw [sF_s, sF_1, sG_s] at m1 m2
  rw [sF_1, sG_s] at m3
  have m4 := lg_b f4 (k := st.1 3) k6.1
  have m5 : ((sF (sG st (4) (st.1 (3))) (8) (f4)).2 8) = f4 := by rw [sF_s]
  have m6 : ((sF (sG st (4) (st.1 (3))) (8) (f4)).1 4) = st.1 3 := by rw [sF_1, sG_s]
  have m7 : lg f4 (st.1 3) = lg (lf a.2) (a.2.length : Int) := by rw [hL]; exact lg_congr gl
  have m8 : runs f4 (st.1 3) = runs (lf a.2) (a.2.length : Int) := by rw [hL]; exact runs_congr gl
  have m9 : chg f4 (st.1 3) = chg (lf a.2) (a.2.length : Int) := by rw [hL]; exact chg_congr gl
  refine x_ti (show lg ((sF (sG st (4) (st.1 (3))) (8) (f4)).2 8) ((sF (sG st (4) (st.1 (3))) (8) (f4)).1 4) = lg f4 (st.1 3) from by rw [m5, m6]) ?_
  refine x_istore_n (q := 9) (lv' := [(1, .int (ii (lg f4 (st.1 3)))), (0, .ref (ad 0))]) E dX6_runs_8 (by decide) rfl rfl ?_
  refine x_iload_n (q := 10) E dX6_runs_9 0 rfl rfl ?_
  refine x_if_ge (tgt := 17) (q := 13) E dX6_runs_10 (by decide) rfl (by omega) (fun c10 => ?_) (fun c10 => ?_)
  · refine x_aload_n (q := 18) E dX6_runs_17 1 rfl rfl ?_
    refine x_get (q := 21) E iX6_runs_X6 (0) rfl rfl 15 (by decide) (by decide +kernel) rfl dX6_runs_18 rfl ?_
    refine x_ti (show (sF (sG (sF (sG st (4) (st.1 (3))) (8) (f4)) (5) (k9)) (9) (t10)).1 (5) = k9 by rw [sF_1, sG_s]) ?_
    exact RET _ _ _ _ dX6_runs_21 (⟨by rw [m2, m9], MI_same hI (fun j hj => by rw [sF_1, sG_n _ _ (by omega), sF_1, sG_n _ _ (by omega)]) ⟨by rw [sF_1, sG_n _ _ (by omega), sF_1, sG_n _ _ (by omega)], by rw [sF_1, sG_n _ _ (by omega), sF_1, sG_n _ _ (by omega)]⟩ (fun q hq => by rw [sF_n _ _ (by omega), sG_2, sF_n _ _ (by omega), sG_2])⟩)
  · exfalso; omega

theorem iX6_shorten_X6 : ∀ w ∈ wsX60, w ∈ wsX6_shorten := by decide +kernel
set_option maxRecDepth 100000 in
set_option maxHeartbeats 4000000 in
theorem c_X6_shorten (l : Launch) (D : va_G) (T : Nat → ClassId) (ad : Nat → Nat) (hN : ∀ i j, i < 13 → j < 13 → ad i = ad j → i = j) (st : St_) (g0 : Int) (bg0 : -2147483648 ≤ g0 ∧ g0 < 2147483648) (a : AB_) (hI : MI st a) : CXi l yX6_shorten wsX6_shorten (rmX 1 25) [.ref (ad 0), .int (ii (g0))] D (tyX T) (MW T ad) (alM ad) st (fun z st2 => z = (if 1 ≤ g0 ∧ g0 ≤ 6 then (if 6 < lg (lf a.2) (a.2.length : Int) then -103 else ((sh g0 (runs (lf a.2) (a.2.length : Int))).length : Int)) else -102) ∧ MI st2 (if (1 ≤ g0 ∧ g0 ≤ 6) ∧ ¬ 6 < lg (lf a.2) (a.2.length : Int) then (a.1, sh g0 (runs (lf a.2) (a.2.length : Int))) else a)) := by
  refine mk_i (cc := cX6_shorten) (nL := 2) rfl rfl (MW_ok hN) (Nat.le_of_ble_eq_true rfl) [(0, .ref (ad 0)), (1, .int (ii (g0)))] rfl (fun p e s m args below meth c A Q E RET => ?_)
  have k1 := hI.1
  have k2 := hI.2.1
  have k3 := hI.2.2.1
  have k4 := hI.2.2.2.1
  have k5 := hI.2.2.2.2.1
  have k6 := hI.2.2.2.2.2.1
  have k7 := hI.2.2.2.2.2.2.1
  have k8 := hI.2.2.2.2.2.2.2
  have hn := k7.2.1.1
  have hL := hI.len
  have hf := hI.lf
  have hf6 := hI.let6
  refine x_iload_n (q := 1) E dX6_shorten_0 1 rfl rfl ?_
  refine x_i2l (q := 2) E dX6_shorten_1 (by omega) rfl ?_
  refine x_lconst (q := 3) (z := 1) E dX6_shorten_2 (by decide) rfl ?_
  refine x_ldc2 (q := 6) (v := 6) (z := 6) E (by decide +kernel) (by decide) dX6_shorten_3 rfl ?_
  refine x_callSi (q := 9) (n := 3) (As := [.long (jj (g0)), .long (jj (1)), .long (jj (6))]) (r := []) E (c_X6_in l D T ad hN st (g0) (1) (6) (by omega) (by omega) (by omega)) gX6_shorten_X6_in rfl rfl rfl (by decide +kernel) ⟨Nat.le_of_ble_eq_true rfl, Nat.le_of_ble_eq_true rfl⟩ rfl rfl (Nat.le_of_ble_eq_true rfl) dX6_shorten_6 rfl (fun z1 s2 q3 => ?_)
  obtain ⟨rfl, rfl⟩ := q3
  refine x_if_ne (tgt := 15) (q := 12) E dX6_shorten_9 (by decide) rfl (by omega) (fun c9 => ?_) (fun c9 => ?_)
  · refine x_aload_n (q := 16) E dX6_shorten_15 0 rfl rfl ?_
    refine x_callVv (q := 19) (n := 0) (As := []) (r := []) E (c_X6_load l D T ad hN st (k6)) gX6_shorten_X6_load rfl rfl rfl (by decide +kernel) ⟨Nat.le_of_ble_eq_true rfl, Nat.le_of_ble_eq_true rfl⟩ (0) rfl rfl rfl rfl (Nat.le_of_ble_eq_true rfl) dX6_shorten_16 rfl (fun s5 q6 => ?_)
    obtain ⟨f7, rfl, h18⟩ := q6
    have g1 := h18
    have gb : ∀ j : Int, 0 ≤ j → j < st.1 3 → 1 ≤ f7 j ∧ f7 j ≤ 6 := fun j j0 j1 => by rw [g1 j j0 j1]; exact hf6 j j0 j1
    have gl : ∀ j : Int, 0 ≤ j → j < st.1 3 → f7 j = lf a.2 j := fun j j0 j1 => by rw [g1 j j0 j1, hf j j0 j1]
    refine x_aload_n (q := 20) E dX6_shorten_19 0 rfl rfl ?_
    refine x_callVi (q := 23) (n := 0) (As := []) (r := []) E (c_X6_measure l D T ad hN (sF (sG st (4) (st.1 (3))) (8) (f7)) (by rw [sF_1, sG_s]; exact k6) (by rw [sF_s, sF_1, sG_s]; intro j j0 j1; have := gb j j0 j1; omega)) gX6_shorten_X6_measure rfl rfl rfl (by decide +kernel) ⟨Nat.le_of_ble_eq_true rfl, Nat.le_of_ble_eq_true rfl⟩ (0) rfl rfl rfl rfl (Nat.le_of_ble_eq_true rfl) dX6_shorten_20 rfl (fun z9 s10 q11 => ?_)
    obtain ⟨rfl, k12, t13, rfl, h114, h215, h316⟩ := q11
    have m1 := h114
    have m2 := h215
    have m3 := h316
    rw [sF_s, sF_1, sG_s] at m1 m2
    rw [sF_1, sG_s] at m3
    have m4 := lg_b f7 (k := st.1 3) k6.1
    have m5 : ((sF (sG st (4) (st.1 (3))) (8) (f7)).2 8) = f7 := by rw [sF_s]
    have m6 : ((sF (sG st (4) (st.1 (3))) (8) (f7)).1 4) = st.1 3 := by rw [sF_1, sG_s]
    have m7 : lg f7 (st.1 3) = lg (lf a.2) (a.2.length : Int) := by rw [hL]; exact lg_congr gl
    have m8 : runs f7 (st.1 3) = runs (lf a.2) (a.2.length : Int) := by rw [hL]; exact runs_congr gl
    have m9 : chg f7 (st.1 3) = chg (lf a.2) (a.2.length : Int) := by rw [hL]; exact chg_congr gl
    refine x_ti (show lg ((sF (sG st (4) (st.1 (3))) (8) (f7)).2 8) ((sF (sG st (4) (st.1 (3))) (8) (f7)).1 4) = lg f7 (st.1 3) from by rw [m5, m6]) ?_
    refine x_bipush (q := 25) E dX6_shorten_23 (by decide) rfl ?_
    refine x_icmp_le (tgt := 31) (q := 28) E dX6_shorten_25 (by decide) rfl (by omega) (by omega) (fun c25 => ?_) (fun c25 => ?_)
    · have m10 : ∀ j : Int, 0 ≤ j → j < k12 → 0 ≤ t13 j ∧ t13 j ≤ 60 := fun j j0 j1 => by have y1 : t13 j ∈ runs f7 (st.1 3) := (by rw [← m1]; exact mem_wl _ j0 j1); have y2 := (runs_facts f7 k6.1).1 _ y1; have y3 : ¬ 6 < t13 j := (fun y => absurd ((lg_lt f7 k6.1 (by omega)).mpr ⟨_, y1, y⟩) (by omega)); omega
      refine x_aload_n (q := 32) E dX6_shorten_31 0 rfl rfl ?_
      refine x_iload_n (q := 33) E dX6_shorten_32 1 rfl rfl ?_
      refine x_callVv (q := 36) (n := 1) (As := [.int (ii (g0))]) (r := []) E (c_X6_cut l D T ad hN (sF (sG (sF (sG st (4) (st.1 (3))) (8) (f7)) (5) (k12)) (9) (t13)) (g0) (by omega) (by rw [sF_1, sG_s]; omega) (by rw [sF_s, sF_1, sG_s]; exact m10)) gX6_shorten_X6_cut rfl rfl rfl (by decide +kernel) ⟨Nat.le_of_ble_eq_true rfl, Nat.le_of_ble_eq_true rfl⟩ (0) rfl rfl rfl rfl (Nat.le_of_ble_eq_true rfl) dX6_shorten_33 rfl (fun s18 q19 => ?_)
      obtain ⟨k20, t21, rfl, h122, h223⟩ := q19
      have n1 := h122
      have n2 := h223
      rw [sF_s, sF_1, sG_s] at n1
      rw [sF_1, sG_s] at n2
      refine x_aload_n (q := 37) E dX6_shorten_36 0 rfl rfl ?_
      refine x_callVv (q := 40) (n := 0) (As := []) (r := []) E (c_X6_keep l D T ad hN (sF (sG (sF (sG (sF (sG st (4) (st.1 (3))) (8) (f7)) (5) (k12)) (9) (t13)) (4) (k20)) (8) (t21)) (by rw [sF_1, sG_s]; omega)) gX6_shorten_X6_keep rfl rfl rfl (by decide +kernel) ⟨Nat.le_of_ble_eq_true rfl, Nat.le_of_ble_eq_true rfl⟩ (0) rfl rfl rfl rfl (Nat.le_of_ble_eq_true rfl) dX6_shorten_37 rfl (fun s25 q26 => ?_)
      obtain ⟨f27, rfl, h128⟩ := q26
      have p1 := h128
      rw [sF_1, sG_s, sF_s] at p1
      refine x_aload_n (q := 41) E dX6_shorten_40 0 rfl rfl ?_
      refine x_get (q := 44) E iX6_shorten_X6 (0) rfl rfl 11 (by decide) (by decide +kernel) rfl dX6_shorten_41 rfl ?_
      refine x_ti (show (sF (sG (sF (sG (sF (sG (sF (sG st (4) (st.1 (3))) (8) (f7)) (5) (k12)) (9) (t13)) (4) (k20)) (8) (t21)) (3) (k20)) (7) (f27)).1 (3) = k20 by rw [sF_1, sG_s]) ?_
      exact RET _ _ _ _ dX6_shorten_44 (by have r1 : wl f27 k20 = sh g0 (runs (lf a.2) (a.2.length : Int)) := (by rw [wl_congr p1, n1, m1, m8]); exact ⟨by rw [if_pos (by omega), if_neg (by omega), ← r1]; exact (wl_len _ n2.1).symm, by rw [if_pos (by omega)]; exact MI_w hI (fun j hj => by rw [sF_1, sG_n _ _ (by omega), sF_1, sG_n _ _ (by omega), sF_1, sG_n _ _ (by omega), sF_1, sG_n _ _ (by omega)]) ⟨by rw [sF_1, sG_n _ _ (by omega), sF_1, sG_n _ _ (by omega), sF_1, sG_n _ _ (by omega), sF_1, sG_n _ _ (by omega)], by rw [sF_1, sG_n _ _ (by omega), sF_1, sG_n _ _ (by omega), sF_1, sG_n _ _ (by omega), sF_1, sG_n _ _ (by omega)]⟩ (fun q hq => by rw [sF_n _ _ (by omega), sG_2, sF_n _ _ (by omega), sG_2, sF_n _ _ (by omega), sG_2, sF_n _ _ (by omega), sG_2]) (by rw [sF_s, sF_1, sG_s, sF_1, sG_s]; exact r1) (by rw [sF_1, sG_s, sF_1, sG_s]; omega) (by rw [← m8]; exact sh_letters k6.1 (by omega))⟩)
    · refine x_bipush (q := 30) E dX6_shorten_28 (by decide) rfl ?_
      exact RET _ _ _ _ dX6_shorten_30 (⟨by rw [if_pos (by omega), if_pos (by omega)], by rw [if_neg (by omega)]; exact MI_same hI (fun j hj => by rw [sF_1, sG_n _ _ (by omega), sF_1, sG_n _ _ (by omega)]) ⟨by rw [sF_1, sG_n _ _ (by omega), sF_1, sG_n _ _ (by omega)], by rw [sF_1, sG_n _ _ (by omega), sF_1, sG_n _ _ (by omega)]⟩ (fun q hq => by rw [sF_n _ _ (by omega), sG_2, sF_n _ _ (by omega), sG_2])⟩)
  · refine x_bipush (q := 14) E dX6_shorten_12 (by decide) rfl ?_
    exact RET _ _ _ _ dX6_shorten_14 (⟨by rw [if_neg (by omega)], by rw [if_neg (by omega)]; exact hI⟩)

theorem iX6_mirror_X6 : ∀ w ∈ wsX60, w ∈ wsX6_mirror := by decide +kernel
set_option maxRecDepth 100000 in
set_option maxHeartbeats 4000000 in
theorem c_X6_mirror (l : Launch) (D : va_G) (T : Nat → ClassId) (ad : Nat → Nat) (hN : ∀ i j, i < 13 → j < 13 → ad i = ad j → i = j) (st : St_) (a : AB_) (hI : MI st a) : CXi l yX6_mirror wsX6_mirror (rmX 1 21) [.ref (ad 0)] D (tyX T) (MW T ad) (alM ad) st (fun z st2 => z = (a.2.length : Int) ∧ MI st2 (a.1, wl (fun j => (lf a.2) ((a.2.length : Int) - 1 - j)) (a.2.length : Int))) := by
  refine mk_i (cc := cX6_mirror) (nL := 2) rfl rfl (MW_ok hN) (Nat.le_of_ble_eq_true rfl) [(0, .ref (ad 0))] rfl (fun p e s m args below meth c A Q E RET => ?_)
  have k1 := hI.1
  have k2 := hI.2.1
  have k3 := hI.2.2.1
  have k4 := hI.2.2.2.1
  have k5 := hI.2.2.2.2.1
  have k6 := hI.2.2.2.2.2.1
  have k7 := hI.2.2.2.2.2.2.1
  have k8 := hI.2.2.2.2.2.2.2
  have hn := k7.2.1.1
  have hL := hI.len
  have hf := hI.lf
  have hf6 := hI.let6
  refine x_aload_n (q := 1) E dX6_mirror_0 0 rfl rfl ?_
  refine x_callVv (q := 4) (n := 0) (As := []) (r := []) E (c_X6_load l D T ad hN st (k6)) gX6_mirror_X6_load rfl rfl rfl (by decide +kernel) ⟨Nat.le_of_ble_eq_true rfl, Nat.le_of_ble_eq_true rfl⟩ (0) rfl rfl rfl rfl (Nat.le_of_ble_eq_true rfl) dX6_mirror_1 rfl (fun s2 q3 => ?_)
  obtain ⟨f4, rfl, h15⟩ := q3
  have g1 := h15
  have gb : ∀ j : Int, 0 ≤ j → j < st.1 3 → 1 ≤ f4 j ∧ f4 j ≤ 6 := fun j j0 j1 => by rw [g1 j j0 j1]; exact hf6 j j0 j1
  have gl : ∀ j : Int, 0 ≤ j → j < st.1 3 → f4 j = lf a.2 j := fun j j0 j1 => by rw [g1 j j0 j1, hf j j0 j1]
  refine x_iconst (q := 5) E dX6_mirror_4 rfl ?_
  refine x_istore_n (q := 6) (lv' := [(1, .int (ii (0))), (0, .ref (ad 0))]) E dX6_mirror_5 (by decide) rfl rfl ?_
  have L6 : ∀ (n : Nat) (i : Int) (f7 : Int → Int), (st.1 3 - i).toNat < n → (0 ≤ i ∧ i ≤ st.1 3) → (∀ j : Int, 0 ≤ j → j < i → f7 j = lf a.2 (st.1 3 - 1 - j)) → XJ p l e (rmX 1 21) s m args below meth c D (MW T ad) A 2 Q 0 0 (sF (sF (sG st (4) (st.1 (3))) (7) (f7)) (8) (f4)) 6 [(0, .ref (ad 0)), (1, .int (ii (i)))] [] := by
    intro n
    induction n with
    | zero => intro i f7 hn; exact absurd hn (Nat.not_lt_zero _)
    | succ n ih6 =>
      intro i f7 hn6 a1 a2
      refine x_iload_n (q := 7) E dX6_mirror_6 1 rfl rfl ?_
      refine x_aload_n (q := 8) E dX6_mirror_7 0 rfl rfl ?_
      refine x_get (q := 11) E iX6_mirror_X6 (0) rfl rfl 11 (by decide) (by decide +kernel) rfl dX6_mirror_8 rfl ?_
      refine x_ti (show (sF (sF (sG st (4) (st.1 (3))) (7) (f7)) (8) (f4)).1 (3) = st.1 (3) by rw [sF_1, sF_1, sG_n _ _ (by omega)]) ?_
      refine x_icmp_ge (tgt := 39) (q := 14) E dX6_mirror_11 (by decide) rfl (by omega) (by omega) (fun c11 => ?_) (fun c11 => ?_)
      · refine x_aload_n (q := 40) E dX6_mirror_39 0 rfl rfl ?_
        refine x_get (q := 43) E iX6_mirror_X6 (0) rfl rfl 11 (by decide) (by decide +kernel) rfl dX6_mirror_40 rfl ?_
        refine x_ti (show (sF (sF (sG st (4) (st.1 (3))) (7) (f7)) (8) (f4)).1 (3) = st.1 (3) by rw [sF_1, sF_1, sG_n _ _ (by omega)]) ?_
        exact RET _ _ _ _ dX6_mirror_43 (⟨hL.symm, MI_w hI (fun j hj => by rw [sF_1, sF_1, sG_n _ _ (by omega)]) ⟨by rw [sF_1, sF_1, sG_n _ _ (by omega)], by rw [sF_1, sF_1, sG_n _ _ (by omega)]⟩ (fun q hq => by rw [sF_n _ _ (by omega), sF_n _ _ (by omega), sG_2]) (by rw [show (((sF (sF (sG st (4) (st.1 (3))) (7) (f7)) (8) (f4)) : St_)).2 7 = f7 from by rw [sF_n _ _ (by omega), sF_s], sF_1, sF_1, sG_n _ _ (by omega), hL]; exact wl_congr (fun j j0 j1 => a2 j j0 (by omega))) (by rw [sF_1, sF_1, sG_n _ _ (by omega)]; exact k6) (by rw [hL]; exact wl_letters (fun j j0 j1 => by rw [hf _ (by omega) (by omega)]; exact hf6 _ (by omega) (by omega)))⟩)
      · refine x_aload_n (q := 15) E dX6_mirror_14 0 rfl rfl ?_
        refine x_get (q := 18) E iX6_mirror_X6 (0) rfl rfl 10 (by decide) (by decide +kernel) rfl dX6_mirror_15 rfl ?_
        refine x_iload_n (q := 19) E dX6_mirror_18 1 rfl rfl ?_
        refine x_aload_n (q := 20) E dX6_mirror_19 0 rfl rfl ?_
        refine x_get (q := 23) E iX6_mirror_X6 (0) rfl rfl 12 (by decide) (by decide +kernel) rfl dX6_mirror_20 rfl ?_
        refine x_aload_n (q := 24) E dX6_mirror_23 0 rfl rfl ?_
        refine x_get (q := 27) E iX6_mirror_X6 (0) rfl rfl 11 (by decide) (by decide +kernel) rfl dX6_mirror_24 rfl ?_
        refine x_ti (show (sF (sF (sG st (4) (st.1 (3))) (7) (f7)) (8) (f4)).1 (3) = st.1 (3) by rw [sF_1, sF_1, sG_n _ _ (by omega)]) ?_
        refine x_iconst (q := 28) E dX6_mirror_27 rfl ?_
        refine x_isub (q := 29) E dX6_mirror_28 rfl ?_
        refine x_iload_n (q := 30) E dX6_mirror_29 1 rfl rfl ?_
        refine x_isub (q := 31) E dX6_mirror_30 rfl ?_
        refine x_iald (q := 32) (f := (sF (sF (sG st (4) (st.1 (3))) (7) (f7)) (8) (f4)).2 (8)) E (9) rfl 0 rfl (by omega) (by omega) (by decide) dX6_mirror_31 rfl ?_
        refine x_ti (show (sF (sF (sG st (4) (st.1 (3))) (7) (f7)) (8) (f4)).2 (8) (((st.1 (3)) - (1)) - (i)) = f4 (((st.1 (3)) - (1)) - (i)) by rw [sF_s]) ?_
        refine x_iast (q := 33) (st' := (sA (sF (sF (sG st (4) (st.1 (3))) (7) (f7)) (8) (f4)) (7) (i) (f4 (((st.1 (3)) - (1)) - (i))))) (f := (sF (sF (sG st (4) (st.1 (3))) (7) (f7)) (8) (f4)).2 (7)) E (8) rfl 0 rfl (by omega) (by omega) (by decide) dX6_mirror_32 (ma_7 _ _) rfl ?_
        refine x_iinc (q := 36) (k := 1) (lv' := [(1, .int (ii (i + 1))), (0, .ref (ad 0))]) E dX6_mirror_33 rfl (by decide) rfl rfl ?_
        refine x_goto (tgt := 6) E dX6_mirror_36 (by decide) ?_
        refine x_st E (st' := (sF (sF (sG st (4) (st.1 (3))) (7) (zup (f7) (i) (f4 (((st.1 (3)) - (1)) - (i))))) (8) (f4))) (by refine Prod.ext (funext fun k9 => ?_) (funext fun q9 => ?_) <;> simp only [sG_1, sG_2, sA_1, sA_2, sF_1, sF_2, reduceIte] <;> (repeat' split) <;> first | rfl | omega | (subst_vars; first | rfl | omega) | simp_all) ?_
        refine x_lv E (lv' := [(0, .ref (ad 0)), (1, .int (ii (i + 1)))]) [1, 0] rfl ?_
        exact ih6 (i + 1) (zup (f7) (i) (f4 (((st.1 (3)) - (1)) - (i)))) (by omega) (by omega) (fun j j0 j1 => if hj : j = i then (by rw [hj, zup_eq]; exact gl _ (by omega) (by omega)) else (by rw [zup_ne _ _ hj]; exact a2 j j0 (by omega)))
  refine x_lv E (lv' := [(0, .ref (ad 0)), (1, .int (ii (0)))]) [1, 0] rfl ?_
  refine x_st E (st' := (sF (sF (sG st (4) (st.1 (3))) (7) (st.2 (7))) (8) (f4))) (by refine Prod.ext (funext fun k9 => ?_) (funext fun q9 => ?_) <;> simp only [sG_1, sG_2, sA_1, sA_2, sF_1, sF_2, reduceIte] <;> (repeat' split) <;> first | rfl | omega | (subst_vars; first | rfl | omega) | simp_all) ?_
  exact L6 _ (0) (st.2 (7)) (Nat.lt_succ_self _) (by omega) (fun j j0 j1 => absurd j1 (by omega))

theorem iX6_isMirror_X6 : ∀ w ∈ wsX60, w ∈ wsX6_isMirror := by decide +kernel
set_option maxRecDepth 100000 in
set_option maxHeartbeats 4000000 in
theorem c_X6_isMirror (l : Launch) (D : va_G) (T : Nat → ClassId) (ad : Nat → Nat) (hN : ∀ i j, i < 13 → j < 13 → ad i = ad j → i = j) (st : St_) (a : AB_) (hI : MI st a) : CXi l yX6_isMirror wsX6_isMirror (rmX 0 0) [.ref (ad 0)] D (tyX T) (MW T ad) (alM ad) st (fun z st2 => z = ind (∀ k : Int, 0 ≤ k → k < (a.2.length : Int) → (lf a.2) k = (lf a.2) ((a.2.length : Int) - 1 - k)) ∧ MI st2 a) := by
  refine mk_i (cc := cX6_isMirror) (nL := 3) rfl rfl (MW_ok hN) (Nat.le_of_ble_eq_true rfl) [(0, .ref (ad 0))] rfl (fun p e s m args below meth c A Q E RET => ?_)
  have k1 := hI.1
  have k2 := hI.2.1
  have k3 := hI.2.2.1
  have k4 := hI.2.2.2.1
  have k5 := hI.2.2.2.2.1
  have k6 := hI.2.2.2.2.2.1
  have k7 := hI.2.2.2.2.2.2.1
  have k8 := hI.2.2.2.2.2.2.2
  have hn := k7.2.1.1
  have hL := hI.len
  have hf := hI.lf
  have hf6 := hI.let6
  refine x_iconst (q := 1) E dX6_isMirror_0 rfl ?_
  refine x_istore_n (q := 2) (lv' := [(1, .int (ii (1))), (0, .ref (ad 0))]) E dX6_isMirror_1 (by decide) rfl rfl ?_
  refine x_iconst (q := 3) E dX6_isMirror_2 rfl ?_
  refine x_istore_n (q := 4) (lv' := [(2, .int (ii (0))), (1, .int (ii (1))), (0, .ref (ad 0))]) E dX6_isMirror_3 (by decide) rfl rfl ?_
  have L4 : ∀ (n : Nat) (b : Int) (i : Int), (st.1 3 - i).toNat < n → (0 ≤ i ∧ i ≤ st.1 3 ∧ (b = 0 ∨ b = 1)) → (b = 1 → ∀ j : Int, 0 ≤ j → j < i → st.2 7 j = st.2 7 (st.1 3 - 1 - j)) → (b = 0 → ¬ ∀ j : Int, 0 ≤ j → j < st.1 3 → st.2 7 j = st.2 7 (st.1 3 - 1 - j)) → XJ p l e (rmX 0 0) s m args below meth c D (MW T ad) A 3 Q 0 0 st 4 [(0, .ref (ad 0)), (1, .int (ii (b))), (2, .int (ii (i)))] [] := by
    intro n
    induction n with
    | zero => intro b i hn; exact absurd hn (Nat.not_lt_zero _)
    | succ n ih4 =>
      intro b i hn4 a1 a2 a3
      refine x_iload_n (q := 5) E dX6_isMirror_4 2 rfl rfl ?_
      refine x_aload_n (q := 6) E dX6_isMirror_5 0 rfl rfl ?_
      refine x_get (q := 9) E iX6_isMirror_X6 (0) rfl rfl 11 (by decide) (by decide +kernel) rfl dX6_isMirror_6 rfl ?_
      refine x_icmp_ge (tgt := 50) (q := 12) E dX6_isMirror_9 (by decide) rfl (by omega) (by omega) (fun c9 => ?_) (fun c9 => ?_)
      · have e3 : (∀ k : Int, 0 ≤ k → k < (a.2.length : Int) → lf a.2 k = lf a.2 ((a.2.length : Int) - 1 - k)) ↔ ∀ j : Int, 0 ≤ j → j < st.1 3 → st.2 7 j = st.2 7 (st.1 3 - 1 - j) := by
          rw [hL]
          constructor
          · intro y k z0 z1; rw [← hf k z0 z1, ← hf _ (by omega) (by omega)]; exact y k z0 z1
          · intro y k z0 z1; rw [hf k z0 z1, hf _ (by omega) (by omega)]; exact y k z0 z1
        refine x_iload_n (q := 51) E dX6_isMirror_50 1 rfl rfl ?_
        refine x_if_eq (tgt := 58) (q := 54) E dX6_isMirror_51 (by decide) rfl (by omega) (fun c51 => ?_) (fun c51 => ?_)
        · refine x_iconst (q := 59) E dX6_isMirror_58 rfl ?_
          exact RET _ _ _ _ dX6_isMirror_59 (⟨(ind_f (fun y => a3 (by omega) (e3.mp y))).symm, hI⟩)
        · refine x_iconst (q := 55) E dX6_isMirror_54 rfl ?_
          refine x_goto (tgt := 59) E dX6_isMirror_55 (by decide) ?_
          exact RET _ _ _ _ dX6_isMirror_59 (⟨(ind_t (e3.mpr (fun j j0 j1 => a2 (by omega) j j0 (by omega)))).symm, hI⟩)
      · refine x_iload_n (q := 13) E dX6_isMirror_12 1 rfl rfl ?_
        refine x_if_eq (tgt := 42) (q := 16) E dX6_isMirror_13 (by decide) rfl (by omega) (fun c13 => ?_) (fun c13 => ?_)
        · refine x_iconst (q := 43) E dX6_isMirror_42 rfl ?_
          refine x_istore_n (q := 44) (lv' := [(1, .int (ii (0))), (0, .ref (ad 0)), (2, .int (ii (i)))]) E dX6_isMirror_43 (by decide) rfl rfl ?_
          refine x_iinc (q := 47) (k := 2) (lv' := [(2, .int (ii (i + 1))), (1, .int (ii (0))), (0, .ref (ad 0))]) E dX6_isMirror_44 rfl (by decide) rfl rfl ?_
          refine x_goto (tgt := 4) E dX6_isMirror_47 (by decide) ?_
          refine x_lv E (lv' := [(0, .ref (ad 0)), (1, .int (ii (0))), (2, .int (ii (i + 1)))]) [2, 1, 0] rfl ?_
          exact ih4 (0) (i + 1) (by omega) (by omega) (fun h => absurd h (by decide)) (fun _ => a3 (by omega))
        · have e1 := hf6 i (by omega) (by omega)
          have e2 := hf6 (st.1 3 - 1 - i) (by omega) (by omega)
          refine x_aload_n (q := 17) E dX6_isMirror_16 0 rfl rfl ?_
          refine x_get (q := 20) E iX6_isMirror_X6 (0) rfl rfl 10 (by decide) (by decide +kernel) rfl dX6_isMirror_17 rfl ?_
          refine x_iload_n (q := 21) E dX6_isMirror_20 2 rfl rfl ?_
          refine x_iald (q := 22) (f := st.2 (7)) E (8) rfl 0 rfl (by omega) (by omega) (by decide) dX6_isMirror_21 rfl ?_
          refine x_aload_n (q := 23) E dX6_isMirror_22 0 rfl rfl ?_
          refine x_get (q := 26) E iX6_isMirror_X6 (0) rfl rfl 10 (by decide) (by decide +kernel) rfl dX6_isMirror_23 rfl ?_
          refine x_aload_n (q := 27) E dX6_isMirror_26 0 rfl rfl ?_
          refine x_get (q := 30) E iX6_isMirror_X6 (0) rfl rfl 11 (by decide) (by decide +kernel) rfl dX6_isMirror_27 rfl ?_
          refine x_iconst (q := 31) E dX6_isMirror_30 rfl ?_
          refine x_isub (q := 32) E dX6_isMirror_31 rfl ?_
          refine x_iload_n (q := 33) E dX6_isMirror_32 2 rfl rfl ?_
          refine x_isub (q := 34) E dX6_isMirror_33 rfl ?_
          refine x_iald (q := 35) (f := st.2 (7)) E (8) rfl 0 rfl (by omega) (by omega) (by decide) dX6_isMirror_34 rfl ?_
          refine x_icmp_ne (tgt := 42) (q := 38) E dX6_isMirror_35 (by decide) rfl (by omega) (by omega) (fun c35 => ?_) (fun c35 => ?_)
          · refine x_iconst (q := 43) E dX6_isMirror_42 rfl ?_
            refine x_istore_n (q := 44) (lv' := [(1, .int (ii (0))), (0, .ref (ad 0)), (2, .int (ii (i)))]) E dX6_isMirror_43 (by decide) rfl rfl ?_
            refine x_iinc (q := 47) (k := 2) (lv' := [(2, .int (ii (i + 1))), (1, .int (ii (0))), (0, .ref (ad 0))]) E dX6_isMirror_44 rfl (by decide) rfl rfl ?_
            refine x_goto (tgt := 4) E dX6_isMirror_47 (by decide) ?_
            refine x_lv E (lv' := [(0, .ref (ad 0)), (1, .int (ii (0))), (2, .int (ii (i + 1)))]) [2, 1, 0] rfl ?_
            exact ih4 (0) (i + 1) (by omega) (by omega) (fun h => absurd h (by decide)) (fun _ y => c35 (y i (by omega) (by omega)))
          · refine x_iconst (q := 39) E dX6_isMirror_38 rfl ?_
            refine x_goto (tgt := 43) E dX6_isMirror_39 (by decide) ?_
            refine x_istore_n (q := 44) (lv' := [(1, .int (ii (1))), (0, .ref (ad 0)), (2, .int (ii (i)))]) E dX6_isMirror_43 (by decide) rfl rfl ?_
            refine x_iinc (q := 47) (k := 2) (lv' := [(2, .int (ii (i + 1))), (1, .int (ii (1))), (0, .ref (ad 0))]) E dX6_isMirror_44 rfl (by decide) rfl rfl ?_
            refine x_goto (tgt := 4) E dX6_isMirror_47 (by decide) ?_
            refine x_lv E (lv' := [(0, .ref (ad 0)), (1, .int (ii (1))), (2, .int (ii (i + 1)))]) [2, 1, 0] rfl ?_
            exact ih4 (1) (i + 1) (by omega) (by omega) (fun _ j j0 j1 => if hj : j = i then (by rw [hj]; exact Classical.byContradiction c35) else a2 (by omega) j j0 (by omega)) (fun h => absurd h (by decide))
  refine x_lv E (lv' := [(0, .ref (ad 0)), (1, .int (ii (1))), (2, .int (ii (0)))]) [2, 1, 0] rfl ?_
  exact L4 _ (1) (0) (Nat.lt_succ_self _) (by omega) (fun _ j j0 j1 => absurd j1 (by omega)) (fun h => absurd h (by decide))

theorem iX6_take_X6 : ∀ w ∈ wsX60, w ∈ wsX6_take := by decide +kernel
set_option maxRecDepth 100000 in
set_option maxHeartbeats 4000000 in
theorem c_X6_take (l : Launch) (D : va_G) (T : Nat → ClassId) (ad : Nat → Nat) (hN : ∀ i j, i < 13 → j < 13 → ad i = ad j → i = j) (st : St_) (r : Nat) (hr : r < 3) (k : Int) (bk : -2147483648 ≤ k ∧ k < 2147483648) (n0 : Int) (bn0 : -2147483648 ≤ n0 ∧ n0 < 2147483648) (hrn : (r : Int) < st.1 0) (a : AB_) (hI : MI st a) : CXi l yX6_take wsX6_take (rmX 2 50) [.ref (ad 0), .int (ii ((r : Int))), .int (ii (k)), .int (ii (n0))] D (tyX T) (MW T ad) (alM ad) st (fun z st2 => z = (if (0 ≤ k ∧ k ≤ 100000) ∧ (0 ≤ n0 ∧ n0 ≤ 60) ∧ k + n0 ≤ 100001 then n0 else -102) ∧ MI st2 (if (0 ≤ k ∧ k ≤ 100000) ∧ (0 ≤ n0 ∧ n0 ≤ 60) ∧ k + n0 ≤ 100001 then (a.1, wl (fun j => (SQ (lta a) (nxn (a.1.1 0)) r) (k + j)) n0) else a)) := by
  refine mk_i (cc := cX6_take) (nL := 5) rfl rfl (MW_ok hN) (Nat.le_of_ble_eq_true rfl) [(0, .ref (ad 0)), (1, .int (ii ((r : Int)))), (2, .int (ii (k))), (3, .int (ii (n0)))] rfl (fun p e s m args below meth c A Q E RET => ?_)
  have k1 := hI.1
  have k2 := hI.2.1
  have k3 := hI.2.2.1
  have k4 := hI.2.2.2.1
  have k5 := hI.2.2.2.2.1
  have k6 := hI.2.2.2.2.2.1
  have k7 := hI.2.2.2.2.2.2.1
  have k8 := hI.2.2.2.2.2.2.2
  have hn := k7.2.1.1
  have hL := hI.len
  have hf := hI.lf
  have hf6 := hI.let6
  refine x_aload_n (q := 1) E dX6_take_0 0 rfl rfl ?_
  refine x_iload_n (q := 2) E dX6_take_1 1 rfl rfl ?_
  refine x_callVi (q := 5) (n := 1) (As := [.int (ii ((r : Int)))]) (r := []) E (c_X6_isRow l D T ad hN st ((r : Int)) (by omega) (hn)) gX6_take_X6_isRow rfl rfl rfl (by decide +kernel) ⟨Nat.le_of_ble_eq_true rfl, Nat.le_of_ble_eq_true rfl⟩ (0) rfl rfl rfl rfl (Nat.le_of_ble_eq_true rfl) dX6_take_2 rfl (fun z1 s2 q3 => ?_)
  obtain ⟨rfl, rfl⟩ := q3
  refine x_if_ne (tgt := 11) (q := 8) E dX6_take_5 (by decide) rfl (by omega) (fun c5 => ?_) (fun c5 => ?_)
  · refine x_iload_n (q := 12) E dX6_take_11 3 rfl rfl ?_
    refine x_i2l (q := 13) E dX6_take_12 (by omega) rfl ?_
    refine x_lconst (q := 14) (z := 0) E dX6_take_13 (by decide) rfl ?_
    refine x_ldc2 (q := 17) (v := 60) (z := 60) E (by decide +kernel) (by decide) dX6_take_14 rfl ?_
    refine x_callSi (q := 20) (n := 3) (As := [.long (jj (n0)), .long (jj (0)), .long (jj (60))]) (r := []) E (c_X6_in l D T ad hN st (n0) (0) (60) (by omega) (by omega) (by omega)) gX6_take_X6_in rfl rfl rfl (by decide +kernel) ⟨Nat.le_of_ble_eq_true rfl, Nat.le_of_ble_eq_true rfl⟩ rfl rfl (Nat.le_of_ble_eq_true rfl) dX6_take_17 rfl (fun z4 s5 q6 => ?_)
    obtain ⟨rfl, rfl⟩ := q6
    refine x_if_eq (tgt := 38) (q := 23) E dX6_take_20 (by decide) rfl (by omega) (fun c20 => ?_) (fun c20 => ?_)
    · refine x_bipush (q := 40) E dX6_take_38 (by decide) rfl ?_
      exact RET _ _ _ _ dX6_take_40 (⟨by rw [if_neg (by omega)], by rw [if_neg (by omega)]; exact hI⟩)
    · refine x_iload_n (q := 24) E dX6_take_23 2 rfl rfl ?_
      refine x_callSi (q := 27) (n := 1) (As := [.int (ii (k))]) (r := []) E (c_X6_isPlace l D T ad hN st (k) (by omega)) gX6_take_X6_isPlace rfl rfl rfl (by decide +kernel) ⟨Nat.le_of_ble_eq_true rfl, Nat.le_of_ble_eq_true rfl⟩ rfl rfl (Nat.le_of_ble_eq_true rfl) dX6_take_24 rfl (fun z7 s8 q9 => ?_)
      obtain ⟨rfl, rfl⟩ := q9
      refine x_if_eq (tgt := 38) (q := 30) E dX6_take_27 (by decide) rfl (by omega) (fun c27 => ?_) (fun c27 => ?_)
      · refine x_bipush (q := 40) E dX6_take_38 (by decide) rfl ?_
        exact RET _ _ _ _ dX6_take_40 (⟨by rw [if_neg (by omega)], by rw [if_neg (by omega)]; exact hI⟩)
      · refine x_iload_n (q := 31) E dX6_take_30 2 rfl rfl ?_
        refine x_iload_n (q := 32) E dX6_take_31 3 rfl rfl ?_
        refine x_iadd (q := 33) E dX6_take_32 rfl ?_
        refine x_ldc (q := 35) (v := 100001) (z := 100001) E (by decide +kernel) (by decide) dX6_take_33 rfl ?_
        refine x_icmp_le (tgt := 41) (q := 38) E dX6_take_35 (by decide) rfl (by omega) (by omega) (fun c35 => ?_) (fun c35 => ?_)
        · refine x_aload_n (q := 42) E dX6_take_41 0 rfl rfl ?_
          refine x_iload_n (q := 43) E dX6_take_42 1 rfl rfl ?_
          refine x_iload_n (q := 44) E dX6_take_43 2 rfl rfl ?_
          refine x_iload_n (q := 45) E dX6_take_44 3 rfl rfl ?_
          refine x_iadd (q := 46) E dX6_take_45 rfl ?_
          refine x_iconst (q := 47) E dX6_take_46 rfl ?_
          refine x_isub (q := 48) E dX6_take_47 rfl ?_
          refine x_callVv (q := 51) (n := 2) (As := [.int (ii ((r : Int))), .int (ii (((k) + (n0)) - (1)))]) (r := []) E (c_X6_make l D T ad hN st r hr (((k) + (n0)) - (1)) (by omega) (by omega) (by omega) (lta a) k7) gX6_take_X6_make rfl rfl rfl (by decide +kernel) ⟨Nat.le_of_ble_eq_true rfl, Nat.le_of_ble_eq_true rfl⟩ (0) rfl rfl rfl rfl (Nat.le_of_ble_eq_true rfl) dX6_take_48 rfl (fun s11 q12 => ?_)
          obtain ⟨h113, h214, h315, h416⟩ := q12
          have g1 := h113
          have g2 := h214
          have g3 := h315
          have g4 := h416
          have hI1 := MI_frm hI g2 g1
          have e0 : s11.1 0 = a.1.1 0 := hI1.1
          have hr1 : (r : Int) < s11.1 0 := by rw [e0, ← k1]; exact hrn
          have hSq : ∀ j : Int, 0 ≤ j → j < s11.2 6 (r : Int) → s11.2 (3 + r) j = SQ (lta a) (nxn (a.1.1 0)) r j := fun j j0 j1 => by rw [MH.rows g1 g3 hr1 j j0 j1, e0]
          have hS6 : ∀ j : Int, 0 ≤ j → 1 ≤ SQ (lta a) (nxn (a.1.1 0)) r j ∧ SQ (lta a) (nxn (a.1.1 0)) r j ≤ 6 := fun j j0 => ⟨SQ_pos g1.1.pos r j j0, SQ_le (fun x y hy => (g1.1.1 x y hy).2) r j j0⟩
          refine x_iconst (q := 52) E dX6_take_51 rfl ?_
          refine x_istore (q := 54) (lv' := [(4, .int (ii (0))), (0, .ref (ad 0)), (1, .int (ii ((r : Int)))), (2, .int (ii (k))), (3, .int (ii (n0)))]) E dX6_take_52 (by decide) rfl rfl ?_
          have L54 : ∀ (n : Nat) (i : Int) (f : Int → Int), (n0 - i).toNat < n → (0 ≤ i ∧ i ≤ n0) → (wl f i = wl (fun j => SQ (lta a) (nxn (a.1.1 0)) r (k + j)) i) → XJ p l e (rmX 2 50) s m args below meth c D (MW T ad) A 5 Q 0 0 (sF s11 (7) (f)) 54 [(0, .ref (ad 0)), (1, .int (ii ((r : Int)))), (2, .int (ii (k))), (3, .int (ii (n0))), (4, .int (ii (i)))] [] := by
            intro n
            induction n with
            | zero => intro i f hn; exact absurd hn (Nat.not_lt_zero _)
            | succ n ih54 =>
              intro i f hn54 a1 a2
              refine x_iload (q := 56) E dX6_take_54 4 rfl rfl ?_
              refine x_iload_n (q := 57) E dX6_take_56 3 rfl rfl ?_
              refine x_icmp_ge (tgt := 82) (q := 60) E dX6_take_57 (by decide) rfl (by omega) (by omega) (fun c57 => ?_) (fun c57 => ?_)
              · refine x_aload_n (q := 83) E dX6_take_82 0 rfl rfl ?_
                refine x_iload_n (q := 84) E dX6_take_83 3 rfl rfl ?_
                refine x_put (q := 87) (st' := (sG (sF s11 (7) (f)) (3) (n0))) (v := .int (ii (n0))) (ty := .int) E iX6_take_X6 tyX6 tyX6_ok nmX6 (0) rfl rfl 11 (by decide) (by decide +kernel) rfl (by decide +kernel) rfl rfl (Nat.le_of_ble_eq_true rfl) dX6_take_84 (ms_3 _) rfl ?_
                refine x_iload_n (q := 88) E dX6_take_87 3 rfl rfl ?_
                exact RET _ _ _ _ dX6_take_88 (⟨by rw [if_pos (by omega)], by rw [if_pos (by omega)]; exact MI_w hI1 (fun j hj => by rw [sG_n _ _ (by omega), sF_1]) ⟨by rw [sG_n _ _ (by omega), sF_1], by rw [sG_n _ _ (by omega), sF_1]⟩ (fun q hq => by rw [sG_2, sF_n _ _ (by omega)]) (by rw [sG_2, sG_s, sF_s, ← show i = n0 from by omega]; exact a2) (by rw [sG_s]; omega) (wl_letters (fun j j0 j1 => hS6 (k + j) (by omega)))⟩)
              · refine x_aload_n (q := 61) E dX6_take_60 0 rfl rfl ?_
                refine x_get (q := 64) E iX6_take_X6 (0) rfl rfl 10 (by decide) (by decide +kernel) rfl dX6_take_61 rfl ?_
                refine x_iload (q := 66) E dX6_take_64 4 rfl rfl ?_
                refine x_aload_n (q := 67) E dX6_take_66 0 rfl rfl ?_
                refine x_iload_n (q := 68) E dX6_take_67 1 rfl rfl ?_
                refine x_iload_n (q := 69) E dX6_take_68 2 rfl rfl ?_
                refine x_iload (q := 71) E dX6_take_69 4 rfl rfl ?_
                refine x_iadd (q := 72) E dX6_take_71 rfl ?_
                refine x_callVi (q := 75) (n := 2) (As := [.int (ii ((r : Int))), .int (ii ((k) + (i)))]) (r := [.int (ii (i)), .ref (ad 8)]) E (c_X6_number l D T ad hN (sF s11 (7) (f)) r hr ((k) + (i)) (by omega) (by omega)) gX6_take_X6_number rfl rfl rfl (by decide +kernel) ⟨Nat.le_of_ble_eq_true rfl, Nat.le_of_ble_eq_true rfl⟩ (0) rfl rfl rfl rfl (Nat.le_of_ble_eq_true rfl) dX6_take_72 rfl (fun z17 s18 q19 => ?_)
                obtain ⟨rfl, rfl⟩ := q19
                refine x_ti (show (sF s11 (7) (f)).2 (3 + r) ((k) + (i)) = SQ (lta a) (nxn (a.1.1 0)) r (k + i) from by rw [sF_n _ _ (by omega)]; exact hSq _ (by omega) (by omega)) ?_
                refine x_iast (q := 76) (st' := (sA (sF s11 (7) (f)) (7) (i) (SQ (lta a) (nxn (a.1.1 0)) r (k + i)))) (f := (sF s11 (7) (f)).2 (7)) E (8) rfl 0 rfl (by omega) (by omega) (by decide) dX6_take_75 (ma_7 _ _) rfl ?_
                refine x_iinc (q := 79) (k := 4) (lv' := [(4, .int (ii (i + 1))), (0, .ref (ad 0)), (1, .int (ii ((r : Int)))), (2, .int (ii (k))), (3, .int (ii (n0)))]) E dX6_take_76 rfl (by decide) rfl rfl ?_
                refine x_goto (tgt := 54) E dX6_take_79 (by decide) ?_
                refine x_st E (st' := (sF s11 (7) (zup (f) (i) (SQ (lta a) (nxn (a.1.1 0)) r (k + i))))) (by refine Prod.ext (funext fun k9 => ?_) (funext fun q9 => ?_) <;> simp only [sG_1, sG_2, sA_1, sA_2, sF_1, sF_2, reduceIte] <;> (repeat' split) <;> first | rfl | omega | (subst_vars; first | rfl | omega) | simp_all) ?_
                refine x_lv E (lv' := [(0, .ref (ad 0)), (1, .int (ii ((r : Int)))), (2, .int (ii (k))), (3, .int (ii (n0))), (4, .int (ii (i + 1)))]) [1, 2, 3, 4, 0] rfl ?_
                exact ih54 (i + 1) (zup (f) (i) (SQ (lta a) (nxn (a.1.1 0)) r (k + i))) (by omega) (by omega) (by rw [wl_put _ _ (by omega), wl_s _ (by omega), a2])
          refine x_lv E (lv' := [(0, .ref (ad 0)), (1, .int (ii ((r : Int)))), (2, .int (ii (k))), (3, .int (ii (n0))), (4, .int (ii (0)))]) [1, 2, 3, 4, 0] rfl ?_
          refine x_st E (st' := (sF s11 (7) (s11.2 (7)))) (by refine Prod.ext (funext fun k9 => ?_) (funext fun q9 => ?_) <;> simp only [sG_1, sG_2, sA_1, sA_2, sF_1, sF_2, reduceIte] <;> (repeat' split) <;> first | rfl | omega | (subst_vars; first | rfl | omega) | simp_all) ?_
          exact L54 _ (0) (s11.2 (7)) (Nat.lt_succ_self _) (by omega) (rfl)
        · refine x_bipush (q := 40) E dX6_take_38 (by decide) rfl ?_
          exact RET _ _ _ _ dX6_take_40 (⟨by rw [if_neg (by omega)], by rw [if_neg (by omega)]; exact hI⟩)
  · exfalso; omega

set_option maxRecDepth 100000 in
set_option maxHeartbeats 4000000 in
theorem c_X6_take_n (l : Launch) (D : va_G) (T : Nat → ClassId) (ad : Nat → Nat) (hN : ∀ i j, i < 13 → j < 13 → ad i = ad j → i = j) (st : St_) (z0 : Int) (bz0 : -2147483648 ≤ z0 ∧ z0 < 2147483648) (k : Int) (bk : -2147483648 ≤ k ∧ k < 2147483648) (n0 : Int) (bn0 : -2147483648 ≤ n0 ∧ n0 < 2147483648) (hz : z0 < 0 ∨ st.1 0 ≤ z0) (a : AB_) (hI : MI st a) : CXi l yX6_take wsX6_take (rmX 2 46) [.ref (ad 0), .int (ii (z0)), .int (ii (k)), .int (ii (n0))] D (tyX T) (MW T ad) (alM ad) st (fun z st2 => z = -101 ∧ MI st2 a) := by
  refine mk_i (cc := cX6_take) (nL := 5) rfl rfl (MW_ok hN) (Nat.le_of_ble_eq_true rfl) [(0, .ref (ad 0)), (1, .int (ii (z0))), (2, .int (ii (k))), (3, .int (ii (n0)))] rfl (fun p e s m args below meth c A Q E RET => ?_)
  have k1 := hI.1
  have k2 := hI.2.1
  have k3 := hI.2.2.1
  have k4 := hI.2.2.2.1
  have k5 := hI.2.2.2.2.1
  have k6 := hI.2.2.2.2.2.1
  have k7 := hI.2.2.2.2.2.2.1
  have k8 := hI.2.2.2.2.2.2.2
  have hn := k7.2.1.1
  have hL := hI.len
  have hf := hI.lf
  have hf6 := hI.let6
  refine x_aload_n (q := 1) E dX6_take_0 0 rfl rfl ?_
  refine x_iload_n (q := 2) E dX6_take_1 1 rfl rfl ?_
  refine x_callVi (q := 5) (n := 1) (As := [.int (ii (z0))]) (r := []) E (c_X6_isRow l D T ad hN st (z0) (by omega) (hn)) gX6_take_X6_isRow rfl rfl rfl (by decide +kernel) ⟨Nat.le_of_ble_eq_true rfl, Nat.le_of_ble_eq_true rfl⟩ (0) rfl rfl rfl rfl (Nat.le_of_ble_eq_true rfl) dX6_take_2 rfl (fun z1 s2 q3 => ?_)
  obtain ⟨rfl, rfl⟩ := q3
  refine x_if_ne (tgt := 11) (q := 8) E dX6_take_5 (by decide) rfl (by omega) (fun c5 => ?_) (fun c5 => ?_)
  · exfalso; omega
  · refine x_bipush (q := 10) E dX6_take_8 (by decide) rfl ?_
    exact RET _ _ _ _ dX6_take_10 (⟨rfl, hI⟩)

