theorem iX6_twice_X6 : ∀ w ∈ wsX60, w ∈ wsX6_twice := by decide +kernel
set_option maxRecDepth 100000 in
set_option maxHeartbeats 4000000 in
theorem c_X6_twice (l : Launch) (D : va_G) (T : Nat → ClassId) (ad : Nat → Nat) (hN : ∀ i j, i < 13 → j < 13 → ad i = ad j → i = j) (st : St_) (a : AB_) (hI : MI st a) : CXi l yX6_twice wsX6_twice (rmX 0 0) [.ref (ad 0)] D (tyX T) (MW T ad) (alM ad) st (fun z st2 => z = epi (TWP (lf a.2) (a.2.length : Int)) ∧ MI st2 a) := by
  refine mk_i (cc := cX6_twice) (nL := 4) rfl rfl (MW_ok hN) (Nat.le_of_ble_eq_true rfl) [(0, .ref (ad 0))] rfl (fun p e s m args below meth c A Q E RET => ?_)
  have k1 := hI.1
  have k2 := hI.2.1
  have k3 := hI.2.2.1
  have k4 := hI.2.2.2.1
  have k5 := hI.2.2.2.2.1
  have k6 := hI.2.2.2.2.2.1
  have k7 := hI.2.2.2.2.2.2.1
  have k8 := hI.2.2.2.2.2.2.2
  have hn := k7.2.1.1
  have hL := hI.len
  have hf := hI.lf
  have hf6 := hI.let6
  refine x_iconst (q := 1) E dX6_twice_0 rfl ?_
  refine x_istore_n (q := 2) (lv' := [(1, .int (ii (1))), (0, .ref (ad 0))]) E dX6_twice_1 (by decide) rfl rfl ?_
  have L2 : ∀ (n : Nat) (v : Int), (40 - v).toNat < n → (1 ≤ v ∧ v ≤ 31) → (∀ x : Int, 1 ≤ x → x < v → ∀ i : Int, 0 ≤ i → i + 2 * x ≤ st.1 3 → ¬ tw (st.2 7) x i) → XJ p l e (rmX 0 0) s m args below meth c D (MW T ad) A 4 Q 0 0 st 2 [(0, .ref (ad 0)), (1, .int (ii (v)))] [] := by
    intro n
    induction n with
    | zero => intro v hn; exact absurd hn (Nat.not_lt_zero _)
    | succ n ih2 =>
      intro v hn2 a1 a2
      refine x_iconst (q := 3) E dX6_twice_2 rfl ?_
      refine x_iload_n (q := 4) E dX6_twice_3 1 rfl rfl ?_
      refine x_imul (q := 5) E dX6_twice_4 rfl ?_
      refine x_aload_n (q := 6) E dX6_twice_5 0 rfl rfl ?_
      refine x_get (q := 9) E iX6_twice_X6 (0) rfl rfl 11 (by decide) (by decide +kernel) rfl dX6_twice_6 rfl ?_
      refine x_icmp_gt (tgt := 79) (q := 12) E dX6_twice_9 (by decide) rfl (by omega) (by omega) (fun c9 => ?_) (fun c9 => ?_)
      · refine x_iconst (q := 80) E dX6_twice_79 rfl ?_
        exact RET _ _ _ _ dX6_twice_80 (⟨(epi_eq (TWP_congr (fun j j0 j1 => (hf j j0 (by omega)).symm) (show TWP (st.2 7) (a.2.length : Int) 0 from by rw [hL]; exact ⟨by omega, Or.inl rfl, fun x x0 x1 i i0 i1 => a2 x x0 (by omega) i i0 i1⟩)) (fun x y => TWP_u)).symm, hI⟩)
      · refine x_iconst (q := 13) E dX6_twice_12 rfl ?_
        refine x_istore_n (q := 14) (lv' := [(2, .int (ii (0))), (0, .ref (ad 0)), (1, .int (ii (v)))]) E dX6_twice_13 (by decide) rfl rfl ?_
        have L14 : ∀ (n : Nat) (i : Int), (70 - i).toNat < n → (0 ≤ i ∧ i ≤ 61) → (∀ x : Int, 0 ≤ x → x < i → ¬ tw (st.2 7) v x) → XJ p l e (rmX 0 0) s m args below meth c D (MW T ad) A 4 Q 0 0 st 14 [(0, .ref (ad 0)), (1, .int (ii (v))), (2, .int (ii (i)))] [] := by
          intro n
          induction n with
          | zero => intro i hn; exact absurd hn (Nat.not_lt_zero _)
          | succ n ih14 =>
            intro i hn14 b1 b2
            refine x_iload_n (q := 15) E dX6_twice_14 2 rfl rfl ?_
            refine x_iconst (q := 16) E dX6_twice_15 rfl ?_
            refine x_iload_n (q := 17) E dX6_twice_16 1 rfl rfl ?_
            refine x_imul (q := 18) E dX6_twice_17 rfl ?_
            refine x_iadd (q := 19) E dX6_twice_18 rfl ?_
            refine x_aload_n (q := 20) E dX6_twice_19 0 rfl rfl ?_
            refine x_get (q := 23) E iX6_twice_X6 (0) rfl rfl 11 (by decide) (by decide +kernel) rfl dX6_twice_20 rfl ?_
            refine x_icmp_gt (tgt := 73) (q := 26) E dX6_twice_23 (by decide) rfl (by omega) (by omega) (fun c23 => ?_) (fun c23 => ?_)
            · refine x_iinc (q := 76) (k := 1) (lv' := [(1, .int (ii (v + 1))), (0, .ref (ad 0)), (2, .int (ii (i)))]) E dX6_twice_73 rfl (by decide) rfl rfl ?_
              refine x_goto (tgt := 2) E dX6_twice_76 (by decide) ?_
              refine x_lv E (lv' := [(0, .ref (ad 0)), (1, .int (ii (v + 1)))]) [1, 0] rfl ?_
              exact ih2 (v + 1) (by omega) (by omega) (fun x h0 h1 => if hx : x = v then (by rw [hx]; exact fun i i0 i1 => b2 i i0 (by omega)) else a2 x h0 (by omega))
            · refine x_iconst (q := 27) E dX6_twice_26 rfl ?_
              refine x_istore_n (q := 28) (lv' := [(3, .int (ii (0))), (0, .ref (ad 0)), (1, .int (ii (v))), (2, .int (ii (i)))]) E dX6_twice_27 (by decide) rfl rfl ?_
              have L28 : ∀ (n : Nat) (k : Int), (v - k).toNat < n → (0 ≤ k ∧ k ≤ v) → (∀ t : Int, 0 ≤ t → t < k → st.2 7 (i + t) = st.2 7 (i + t + v)) → XJ p l e (rmX 0 0) s m args below meth c D (MW T ad) A 4 Q 0 0 st 28 [(0, .ref (ad 0)), (1, .int (ii (v))), (2, .int (ii (i))), (3, .int (ii (k)))] [] := by
                intro n
                induction n with
                | zero => intro k hn; exact absurd hn (Nat.not_lt_zero _)
                | succ n ih28 =>
                  intro k hn28 d1 d2
                  refine x_iload_n (q := 29) E dX6_twice_28 3 rfl rfl ?_
                  refine x_iload_n (q := 30) E dX6_twice_29 1 rfl rfl ?_
                  refine x_icmp_ge (tgt := 60) (q := 33) E dX6_twice_30 (by decide) rfl (by omega) (by omega) (fun c30 => ?_) (fun c30 => ?_)
                  · refine x_iload_n (q := 61) E dX6_twice_60 3 rfl rfl ?_
                    refine x_iload_n (q := 62) E dX6_twice_61 1 rfl rfl ?_
                    refine x_icmp_ne (tgt := 67) (q := 65) E dX6_twice_62 (by decide) rfl (by omega) (by omega) (fun c62 => ?_) (fun c62 => ?_)
                    · exfalso; omega
                    · refine x_iload_n (q := 66) E dX6_twice_65 1 rfl rfl ?_
                      exact RET _ _ _ _ dX6_twice_66 (⟨(epi_eq (TWP_congr (fun j j0 j1 => (hf j j0 (by omega)).symm) (show TWP (st.2 7) (a.2.length : Int) v from by rw [hL]; exact ⟨by omega, Or.inr ⟨i, by omega, by omega, fun t t0 t1 => d2 t t0 (by omega)⟩, fun x x0 x1 => a2 x x0 (by omega)⟩)) (fun x y => TWP_u)).symm, hI⟩)
                  · have e1 := hf6 (i + k) (by omega) (by omega)
                    have e2 := hf6 (i + v + k) (by omega) (by omega)
                    refine x_aload_n (q := 34) E dX6_twice_33 0 rfl rfl ?_
                    refine x_get (q := 37) E iX6_twice_X6 (0) rfl rfl 10 (by decide) (by decide +kernel) rfl dX6_twice_34 rfl ?_
                    refine x_iload_n (q := 38) E dX6_twice_37 2 rfl rfl ?_
                    refine x_iload_n (q := 39) E dX6_twice_38 3 rfl rfl ?_
                    refine x_iadd (q := 40) E dX6_twice_39 rfl ?_
                    refine x_iald (q := 41) (f := st.2 (7)) E (8) rfl 0 rfl (by omega) (by omega) (by decide) dX6_twice_40 rfl ?_
                    refine x_aload_n (q := 42) E dX6_twice_41 0 rfl rfl ?_
                    refine x_get (q := 45) E iX6_twice_X6 (0) rfl rfl 10 (by decide) (by decide +kernel) rfl dX6_twice_42 rfl ?_
                    refine x_iload_n (q := 46) E dX6_twice_45 2 rfl rfl ?_
                    refine x_iload_n (q := 47) E dX6_twice_46 1 rfl rfl ?_
                    refine x_iadd (q := 48) E dX6_twice_47 rfl ?_
                    refine x_iload_n (q := 49) E dX6_twice_48 3 rfl rfl ?_
                    refine x_iadd (q := 50) E dX6_twice_49 rfl ?_
                    refine x_iald (q := 51) (f := st.2 (7)) E (8) rfl 0 rfl (by omega) (by omega) (by decide) dX6_twice_50 rfl ?_
                    refine x_icmp_ne (tgt := 60) (q := 54) E dX6_twice_51 (by decide) rfl (by omega) (by omega) (fun c51 => ?_) (fun c51 => ?_)
                    · refine x_iload_n (q := 61) E dX6_twice_60 3 rfl rfl ?_
                      refine x_iload_n (q := 62) E dX6_twice_61 1 rfl rfl ?_
                      refine x_icmp_ne (tgt := 67) (q := 65) E dX6_twice_62 (by decide) rfl (by omega) (by omega) (fun c62 => ?_) (fun c62 => ?_)
                      · refine x_iinc (q := 70) (k := 2) (lv' := [(2, .int (ii (i + 1))), (0, .ref (ad 0)), (1, .int (ii (v))), (3, .int (ii (k)))]) E dX6_twice_67 rfl (by decide) rfl rfl ?_
                        refine x_goto (tgt := 14) E dX6_twice_70 (by decide) ?_
                        refine x_lv E (lv' := [(0, .ref (ad 0)), (1, .int (ii (v))), (2, .int (ii (i + 1)))]) [1, 2, 0] rfl ?_
                        exact ih14 (i + 1) (by omega) (by omega) (fun x h0 h1 => if hx : x = i then (by rw [hx]; exact fun y => c51 (by rw [y k (by omega) (by omega)]; exact congrArg _ (by omega))) else b2 x h0 (by omega))
                      · refine x_iload_n (q := 66) E dX6_twice_65 1 rfl rfl ?_
                        exact RET _ _ _ _ dX6_twice_66 (by exfalso; omega)
                    · refine x_iinc (q := 57) (k := 3) (lv' := [(3, .int (ii (k + 1))), (0, .ref (ad 0)), (1, .int (ii (v))), (2, .int (ii (i)))]) E dX6_twice_54 rfl (by decide) rfl rfl ?_
                      refine x_goto (tgt := 28) E dX6_twice_57 (by decide) ?_
                      refine x_lv E (lv' := [(0, .ref (ad 0)), (1, .int (ii (v))), (2, .int (ii (i))), (3, .int (ii (k + 1)))]) [1, 2, 3, 0] rfl ?_
                      exact ih28 (k + 1) (by omega) (by omega) (fun t h0 h1 => if ht : t = k then (by rw [ht, Classical.byContradiction c51]; exact congrArg _ (by omega)) else d2 t h0 (by omega))
              refine x_lv E (lv' := [(0, .ref (ad 0)), (1, .int (ii (v))), (2, .int (ii (i))), (3, .int (ii (0)))]) [1, 2, 3, 0] rfl ?_
              exact L28 _ (0) (Nat.lt_succ_self _) (by omega) (fun x h0 h1 => absurd h1 (by omega))
        refine x_lv E (lv' := [(0, .ref (ad 0)), (1, .int (ii (v))), (2, .int (ii (0)))]) [1, 2, 0] rfl ?_
        exact L14 _ (0) (Nat.lt_succ_self _) (by omega) (fun x h0 h1 => absurd h1 (by omega))
  refine x_lv E (lv' := [(0, .ref (ad 0)), (1, .int (ii (1)))]) [1, 0] rfl ?_
  exact L2 _ (1) (Nat.lt_succ_self _) (by omega) (fun x h0 h1 => absurd h1 (by omega))

theorem iX6_find_X6 : ∀ w ∈ wsX60, w ∈ wsX6_find := by decide +kernel
set_option maxRecDepth 100000 in
set_option maxHeartbeats 4000000 in
theorem c_X6_find (l : Launch) (D : va_G) (T : Nat → ClassId) (ad : Nat → Nat) (hN : ∀ i j, i < 13 → j < 13 → ad i = ad j → i = j) (st : St_) (r : Nat) (hr : r < 3) (k : Int) (bk : -2147483648 ≤ k ∧ k < 2147483648) (n0 : Int) (bn0 : -2147483648 ≤ n0 ∧ n0 < 2147483648) (hrn : (r : Int) < st.1 0) (a : AB_) (hI : MI st a) : CXi l yX6_find wsX6_find (rmX 2 50) [.ref (ad 0), .int (ii ((r : Int))), .int (ii (k)), .int (ii (n0))] D (tyX T) (MW T ad) (alM ad) st (fun z st2 => z = (if (0 ≤ k ∧ k ≤ 100000) ∧ (0 ≤ n0 ∧ n0 ≤ 100000) then epi (FDP (SQ (lta a) (nxn (a.1.1 0)) r) (lf a.2) (a.2.length : Int) k n0) else -102) ∧ MI st2 a) := by
  refine mk_i (cc := cX6_find) (nL := 6) rfl rfl (MW_ok hN) (Nat.le_of_ble_eq_true rfl) [(0, .ref (ad 0)), (1, .int (ii ((r : Int)))), (2, .int (ii (k))), (3, .int (ii (n0)))] rfl (fun p e s m args below meth c A Q E RET => ?_)
  have k1 := hI.1
  have k2 := hI.2.1
  have k3 := hI.2.2.1
  have k4 := hI.2.2.2.1
  have k5 := hI.2.2.2.2.1
  have k6 := hI.2.2.2.2.2.1
  have k7 := hI.2.2.2.2.2.2.1
  have k8 := hI.2.2.2.2.2.2.2
  have hn := k7.2.1.1
  have hL := hI.len
  have hf := hI.lf
  have hf6 := hI.let6
  refine x_aload_n (q := 1) E dX6_find_0 0 rfl rfl ?_
  refine x_iload_n (q := 2) E dX6_find_1 1 rfl rfl ?_
  refine x_callVi (q := 5) (n := 1) (As := [.int (ii ((r : Int)))]) (r := []) E (c_X6_isRow l D T ad hN st ((r : Int)) (by omega) (hn)) gX6_find_X6_isRow rfl rfl rfl (by decide +kernel) ⟨Nat.le_of_ble_eq_true rfl, Nat.le_of_ble_eq_true rfl⟩ (0) rfl rfl rfl rfl (Nat.le_of_ble_eq_true rfl) dX6_find_2 rfl (fun z1 s2 q3 => ?_)
  obtain ⟨rfl, rfl⟩ := q3
  refine x_if_ne (tgt := 11) (q := 8) E dX6_find_5 (by decide) rfl (by omega) (fun c5 => ?_) (fun c5 => ?_)
  · refine x_iload_n (q := 12) E dX6_find_11 2 rfl rfl ?_
    refine x_callSi (q := 15) (n := 1) (As := [.int (ii (k))]) (r := []) E (c_X6_isPlace l D T ad hN st (k) (by omega)) gX6_find_X6_isPlace rfl rfl rfl (by decide +kernel) ⟨Nat.le_of_ble_eq_true rfl, Nat.le_of_ble_eq_true rfl⟩ rfl rfl (Nat.le_of_ble_eq_true rfl) dX6_find_12 rfl (fun z4 s5 q6 => ?_)
    obtain ⟨rfl, rfl⟩ := q6
    refine x_if_eq (tgt := 25) (q := 18) E dX6_find_15 (by decide) rfl (by omega) (fun c15 => ?_) (fun c15 => ?_)
    · refine x_bipush (q := 27) E dX6_find_25 (by decide) rfl ?_
      exact RET _ _ _ _ dX6_find_27 (⟨by rw [if_neg (by omega)], hI⟩)
    · refine x_iload_n (q := 19) E dX6_find_18 3 rfl rfl ?_
      refine x_callSi (q := 22) (n := 1) (As := [.int (ii (n0))]) (r := []) E (c_X6_isPlace l D T ad hN st (n0) (by omega)) gX6_find_X6_isPlace rfl rfl rfl (by decide +kernel) ⟨Nat.le_of_ble_eq_true rfl, Nat.le_of_ble_eq_true rfl⟩ rfl rfl (Nat.le_of_ble_eq_true rfl) dX6_find_19 rfl (fun z7 s8 q9 => ?_)
      obtain ⟨rfl, rfl⟩ := q9
      refine x_if_ne (tgt := 28) (q := 25) E dX6_find_22 (by decide) rfl (by omega) (fun c22 => ?_) (fun c22 => ?_)
      · refine x_aload_n (q := 29) E dX6_find_28 0 rfl rfl ?_
        refine x_iload_n (q := 30) E dX6_find_29 1 rfl rfl ?_
        refine x_iload_n (q := 31) E dX6_find_30 3 rfl rfl ?_
        refine x_iconst (q := 32) E dX6_find_31 rfl ?_
        refine x_isub (q := 33) E dX6_find_32 rfl ?_
        refine x_callVv (q := 36) (n := 2) (As := [.int (ii ((r : Int))), .int (ii ((n0) - (1)))]) (r := []) E (c_X6_make l D T ad hN st r hr ((n0) - (1)) (by omega) (by omega) (by omega) (lta a) k7) gX6_find_X6_make rfl rfl rfl (by decide +kernel) ⟨Nat.le_of_ble_eq_true rfl, Nat.le_of_ble_eq_true rfl⟩ (0) rfl rfl rfl rfl (Nat.le_of_ble_eq_true rfl) dX6_find_33 rfl (fun s11 q12 => ?_)
        obtain ⟨h113, h214, h315, h416⟩ := q12
        have g1 := h113
        have g2 := h214
        have g3 := h315
        have g4 := h416
        have hI1 := MI_frm hI g2 g1
        have e0 : s11.1 0 = a.1.1 0 := hI1.1
        have hr1 : (r : Int) < s11.1 0 := by rw [e0, ← k1]; exact hrn
        have hSq : ∀ j : Int, 0 ≤ j → j < s11.2 6 (r : Int) → s11.2 (3 + r) j = SQ (lta a) (nxn (a.1.1 0)) r j := fun j j0 j1 => by rw [MH.rows g1 g3 hr1 j j0 j1, e0]
        have hS6 : ∀ j : Int, 0 ≤ j → 1 ≤ SQ (lta a) (nxn (a.1.1 0)) r j ∧ SQ (lta a) (nxn (a.1.1 0)) r j ≤ 6 := fun j j0 => ⟨SQ_pos g1.1.pos r j j0, SQ_le (fun x y hy => (g1.1.1 x y hy).2) r j j0⟩
        have e4 : s11.1 3 = st.1 3 := g2.1 3 (by omega) (by omega)
        have e5 : s11.2 7 = st.2 7 := g2.2 7 (by omega)
        refine x_iload_n (q := 37) E dX6_find_36 2 rfl rfl ?_
        refine x_istore (q := 39) (lv' := [(4, .int (ii (k))), (0, .ref (ad 0)), (1, .int (ii ((r : Int)))), (2, .int (ii (k))), (3, .int (ii (n0)))]) E dX6_find_37 (by decide) rfl rfl ?_
        have L39 : ∀ (n : Nat) (pl : Int), (100010 - pl).toNat < n → (k ≤ pl ∧ pl ≤ 100001) → (∀ x : Int, k ≤ x → x < pl → ¬ std (SQ (lta a) (nxn (a.1.1 0)) r) (lf a.2) (a.2.length : Int) x) → XJ p l e (rmX 2 50) s m args below meth c D (MW T ad) A 6 Q 0 0 s11 39 [(0, .ref (ad 0)), (1, .int (ii ((r : Int)))), (2, .int (ii (k))), (3, .int (ii (n0))), (4, .int (ii (pl)))] [] := by
          intro n
          induction n with
          | zero => intro pl hn; exact absurd hn (Nat.not_lt_zero _)
          | succ n ih39 =>
            intro pl hn39 a1 a2
            refine x_iload (q := 41) E dX6_find_39 4 rfl rfl ?_
            refine x_aload_n (q := 42) E dX6_find_41 0 rfl rfl ?_
            refine x_get (q := 45) E iX6_find_X6 (0) rfl rfl 11 (by decide) (by decide +kernel) rfl dX6_find_42 rfl ?_
            refine x_iadd (q := 46) E dX6_find_45 rfl ?_
            refine x_iload_n (q := 47) E dX6_find_46 3 rfl rfl ?_
            refine x_icmp_gt (tgt := 106) (q := 50) E dX6_find_47 (by decide) rfl (by omega) (by omega) (fun c47 => ?_) (fun c47 => ?_)
            · refine x_iconst (q := 107) E dX6_find_106 rfl ?_
              exact RET _ _ _ _ dX6_find_107 (⟨by rw [if_pos (by omega)]; refine (epi_eq ?_ (fun x y => FDP_u (by omega))).symm; exact Or.inl ⟨rfl, fun x x0 x1 => a2 x x0 (by rw [hL] at x1; omega)⟩, hI1⟩)
            · refine x_iconst (q := 51) E dX6_find_50 rfl ?_
              refine x_istore (q := 53) (lv' := [(5, .int (ii (0))), (0, .ref (ad 0)), (1, .int (ii ((r : Int)))), (2, .int (ii (k))), (3, .int (ii (n0))), (4, .int (ii (pl)))]) E dX6_find_51 (by decide) rfl rfl ?_
              have L53 : ∀ (n : Nat) (i : Int), (st.1 3 - i).toNat < n → (0 ≤ i ∧ i ≤ st.1 3) → (∀ j : Int, 0 ≤ j → j < i → SQ (lta a) (nxn (a.1.1 0)) r (pl + j) = lf a.2 j) → XJ p l e (rmX 2 50) s m args below meth c D (MW T ad) A 6 Q 0 0 s11 53 [(0, .ref (ad 0)), (1, .int (ii ((r : Int)))), (2, .int (ii (k))), (3, .int (ii (n0))), (4, .int (ii (pl))), (5, .int (ii (i)))] [] := by
                intro n
                induction n with
                | zero => intro i hn; exact absurd hn (Nat.not_lt_zero _)
                | succ n ih53 =>
                  intro i hn53 b1 b2
                  refine x_iload (q := 55) E dX6_find_53 5 rfl rfl ?_
                  refine x_aload_n (q := 56) E dX6_find_55 0 rfl rfl ?_
                  refine x_get (q := 59) E iX6_find_X6 (0) rfl rfl 11 (by decide) (by decide +kernel) rfl dX6_find_56 rfl ?_
                  refine x_icmp_ge (tgt := 88) (q := 62) E dX6_find_59 (by decide) rfl (by omega) (by omega) (fun c59 => ?_) (fun c59 => ?_)
                  · refine x_iload (q := 90) E dX6_find_88 5 rfl rfl ?_
                    refine x_aload_n (q := 91) E dX6_find_90 0 rfl rfl ?_
                    refine x_get (q := 94) E iX6_find_X6 (0) rfl rfl 11 (by decide) (by decide +kernel) rfl dX6_find_91 rfl ?_
                    refine x_icmp_ne (tgt := 100) (q := 97) E dX6_find_94 (by decide) rfl (by omega) (by omega) (fun c94 => ?_) (fun c94 => ?_)
                    · exfalso; omega
                    · refine x_iload (q := 99) E dX6_find_97 4 rfl rfl ?_
                      exact RET _ _ _ _ dX6_find_99 (⟨by rw [if_pos (by omega)]; refine (epi_eq ?_ (fun x y => FDP_u (by omega))).symm; exact Or.inr ⟨by omega, by rw [hL]; omega, fun j j0 j1 => b2 j j0 (by omega), fun x x0 x1 => a2 x x0 x1⟩, hI1⟩)
                  · have e6 := hf6 i (by omega) (by omega)
                    have e7 : s11.2 7 i = lf a.2 i := by rw [e5]; exact (hf i (by omega) (by omega)).symm
                    have e8 := hS6 (pl + i) (by omega)
                    rw [← e5] at e6
                    refine x_aload_n (q := 63) E dX6_find_62 0 rfl rfl ?_
                    refine x_iload_n (q := 64) E dX6_find_63 1 rfl rfl ?_
                    refine x_iload (q := 66) E dX6_find_64 4 rfl rfl ?_
                    refine x_iload (q := 68) E dX6_find_66 5 rfl rfl ?_
                    refine x_iadd (q := 69) E dX6_find_68 rfl ?_
                    refine x_callVi (q := 72) (n := 2) (As := [.int (ii ((r : Int))), .int (ii ((pl) + (i)))]) (r := []) E (c_X6_number l D T ad hN s11 r hr ((pl) + (i)) (by omega) (by omega)) gX6_find_X6_number rfl rfl rfl (by decide +kernel) ⟨Nat.le_of_ble_eq_true rfl, Nat.le_of_ble_eq_true rfl⟩ (0) rfl rfl rfl rfl (Nat.le_of_ble_eq_true rfl) dX6_find_69 rfl (fun z17 s18 q19 => ?_)
                    obtain ⟨rfl, rfl⟩ := q19
                    refine x_ti (show s11.2 (3 + r) ((pl) + (i)) = SQ (lta a) (nxn (a.1.1 0)) r (pl + i) from hSq _ (by omega) (by omega)) ?_
                    refine x_aload_n (q := 73) E dX6_find_72 0 rfl rfl ?_
                    refine x_get (q := 76) E iX6_find_X6 (0) rfl rfl 10 (by decide) (by decide +kernel) rfl dX6_find_73 rfl ?_
                    refine x_iload (q := 78) E dX6_find_76 5 rfl rfl ?_
                    refine x_iald (q := 79) (f := s11.2 (7)) E (8) rfl 0 rfl (by omega) (by omega) (by decide) dX6_find_78 rfl ?_
                    refine x_icmp_ne (tgt := 88) (q := 82) E dX6_find_79 (by decide) rfl (by omega) (by omega) (fun c79 => ?_) (fun c79 => ?_)
                    · refine x_iload (q := 90) E dX6_find_88 5 rfl rfl ?_
                      refine x_aload_n (q := 91) E dX6_find_90 0 rfl rfl ?_
                      refine x_get (q := 94) E iX6_find_X6 (0) rfl rfl 11 (by decide) (by decide +kernel) rfl dX6_find_91 rfl ?_
                      refine x_icmp_ne (tgt := 100) (q := 97) E dX6_find_94 (by decide) rfl (by omega) (by omega) (fun c94 => ?_) (fun c94 => ?_)
                      · refine x_iinc (q := 103) (k := 4) (lv' := [(4, .int (ii (pl + 1))), (0, .ref (ad 0)), (1, .int (ii ((r : Int)))), (2, .int (ii (k))), (3, .int (ii (n0))), (5, .int (ii (i)))]) E dX6_find_100 rfl (by decide) rfl rfl ?_
                        refine x_goto (tgt := 39) E dX6_find_103 (by decide) ?_
                        refine x_lv E (lv' := [(0, .ref (ad 0)), (1, .int (ii ((r : Int)))), (2, .int (ii (k))), (3, .int (ii (n0))), (4, .int (ii (pl + 1)))]) [1, 2, 3, 4, 0] rfl ?_
                        exact ih39 (pl + 1) (by omega) (by omega) (fun x h0 h1 => if hx : x = pl then (by rw [hx]; exact fun y => c79 (by rw [e7]; exact y i (by omega) (by omega))) else a2 x h0 (by omega))
                      · refine x_iload (q := 99) E dX6_find_97 4 rfl rfl ?_
                        exact RET _ _ _ _ dX6_find_99 (by exfalso; omega)
                    · refine x_iinc (q := 85) (k := 5) (lv' := [(5, .int (ii (i + 1))), (0, .ref (ad 0)), (1, .int (ii ((r : Int)))), (2, .int (ii (k))), (3, .int (ii (n0))), (4, .int (ii (pl)))]) E dX6_find_82 rfl (by decide) rfl rfl ?_
                      refine x_goto (tgt := 53) E dX6_find_85 (by decide) ?_
                      refine x_lv E (lv' := [(0, .ref (ad 0)), (1, .int (ii ((r : Int)))), (2, .int (ii (k))), (3, .int (ii (n0))), (4, .int (ii (pl))), (5, .int (ii (i + 1)))]) [1, 2, 3, 4, 5, 0] rfl ?_
                      exact ih53 (i + 1) (by omega) (by omega) (fun j h0 h1 => if hj : j = i then (by rw [hj, Classical.byContradiction c79]; exact e7) else b2 j h0 (by omega))
              refine x_lv E (lv' := [(0, .ref (ad 0)), (1, .int (ii ((r : Int)))), (2, .int (ii (k))), (3, .int (ii (n0))), (4, .int (ii (pl))), (5, .int (ii (0)))]) [1, 2, 3, 4, 5, 0] rfl ?_
              exact L53 _ (0) (Nat.lt_succ_self _) (by omega) (fun x h0 h1 => absurd h1 (by omega))
        refine x_lv E (lv' := [(0, .ref (ad 0)), (1, .int (ii ((r : Int)))), (2, .int (ii (k))), (3, .int (ii (n0))), (4, .int (ii (k)))]) [1, 2, 3, 4, 0] rfl ?_
        exact L39 _ (k) (Nat.lt_succ_self _) (by omega) (fun x h0 h1 => absurd h1 (by omega))
      · refine x_bipush (q := 27) E dX6_find_25 (by decide) rfl ?_
        exact RET _ _ _ _ dX6_find_27 (⟨by rw [if_neg (by omega)], hI⟩)
  · exfalso; omega

set_option maxRecDepth 100000 in
set_option maxHeartbeats 4000000 in
theorem c_X6_find_n (l : Launch) (D : va_G) (T : Nat → ClassId) (ad : Nat → Nat) (hN : ∀ i j, i < 13 → j < 13 → ad i = ad j → i = j) (st : St_) (z0 : Int) (bz0 : -2147483648 ≤ z0 ∧ z0 < 2147483648) (k : Int) (bk : -2147483648 ≤ k ∧ k < 2147483648) (n0 : Int) (bn0 : -2147483648 ≤ n0 ∧ n0 < 2147483648) (hz : z0 < 0 ∨ st.1 0 ≤ z0) (a : AB_) (hI : MI st a) : CXi l yX6_find wsX6_find (rmX 2 46) [.ref (ad 0), .int (ii (z0)), .int (ii (k)), .int (ii (n0))] D (tyX T) (MW T ad) (alM ad) st (fun z st2 => z = -101 ∧ MI st2 a) := by
  refine mk_i (cc := cX6_find) (nL := 6) rfl rfl (MW_ok hN) (Nat.le_of_ble_eq_true rfl) [(0, .ref (ad 0)), (1, .int (ii (z0))), (2, .int (ii (k))), (3, .int (ii (n0)))] rfl (fun p e s m args below meth c A Q E RET => ?_)
  have k1 := hI.1
  have k2 := hI.2.1
  have k3 := hI.2.2.1
  have k4 := hI.2.2.2.1
  have k5 := hI.2.2.2.2.1
  have k6 := hI.2.2.2.2.2.1
  have k7 := hI.2.2.2.2.2.2.1
  have k8 := hI.2.2.2.2.2.2.2
  have hn := k7.2.1.1
  have hL := hI.len
  have hf := hI.lf
  have hf6 := hI.let6
  refine x_aload_n (q := 1) E dX6_find_0 0 rfl rfl ?_
  refine x_iload_n (q := 2) E dX6_find_1 1 rfl rfl ?_
  refine x_callVi (q := 5) (n := 1) (As := [.int (ii (z0))]) (r := []) E (c_X6_isRow l D T ad hN st (z0) (by omega) (hn)) gX6_find_X6_isRow rfl rfl rfl (by decide +kernel) ⟨Nat.le_of_ble_eq_true rfl, Nat.le_of_ble_eq_true rfl⟩ (0) rfl rfl rfl rfl (Nat.le_of_ble_eq_true rfl) dX6_find_2 rfl (fun z1 s2 q3 => ?_)
  obtain ⟨rfl, rfl⟩ := q3
  refine x_if_ne (tgt := 11) (q := 8) E dX6_find_5 (by decide) rfl (by omega) (fun c5 => ?_) (fun c5 => ?_)
  · exfalso; omega
  · refine x_bipush (q := 10) E dX6_find_8 (by decide) rfl ?_
    exact RET _ _ _ _ dX6_find_10 (⟨rfl, hI⟩)

theorem iX6_digest_X6 : ∀ w ∈ wsX60, w ∈ wsX6_digest := by decide +kernel
set_option maxRecDepth 100000 in
set_option maxHeartbeats 4000000 in
theorem c_X6_digest (l : Launch) (D : va_G) (T : Nat → ClassId) (ad : Nat → Nat) (hN : ∀ i j, i < 13 → j < 13 → ad i = ad j → i = j) (st : St_) (a : AB_) (hI : MI st a) : CXl l yX6_digest wsX6_digest (rmX 0 0) [.ref (ad 0)] D (tyX T) (MW T ad) (alM ad) st (fun z st2 => z = 31 * (31 * mix (lf a.2) (mix (a.1.2 0) (mix (a.1.2 (1 + 3)) (mix (a.1.2 (1 + 2)) (mix (a.1.2 (1 + 1)) (mix (a.1.2 (1 + 0)) 163 (a.1.1 (4 + 0))) (a.1.1 (4 + 1))) (a.1.1 (4 + 2))) (a.1.1 (4 + 3))) (a.1.1 0)) (a.2.length : Int) + a.1.1 2) + a.1.1 3 ∧ MI st2 a) := by
  refine mk_l (cc := cX6_digest) (nL := 5) rfl rfl (MW_ok hN) (Nat.le_of_ble_eq_true rfl) [(0, .ref (ad 0))] rfl (fun p e s m args below meth c A Q E RET => ?_)
  have k1 := hI.1
  have k2 := hI.2.1
  have k3 := hI.2.2.1
  have k4 := hI.2.2.2.1
  have k5 := hI.2.2.2.2.1
  have k6 := hI.2.2.2.2.2.1
  have k7 := hI.2.2.2.2.2.2.1
  have k8 := hI.2.2.2.2.2.2.2
  have hn := k7.2.1.1
  have hL := hI.len
  have hf := hI.lf
  have hf6 := hI.let6
  refine x_ldc2 (q := 3) (v := 163) (z := 163) E (by decide +kernel) (by decide) dX6_digest_0 rfl ?_
  refine x_lstore_n (q := 4) (lv' := [(1, .long (jj (163))), (0, .ref (ad 0))]) E dX6_digest_3 (by decide) rfl rfl ?_
  refine x_iconst (q := 5) E dX6_digest_4 rfl ?_
  refine x_istore_n (q := 6) (lv' := [(3, .int (ii (0))), (1, .long (jj (163))), (0, .ref (ad 0))]) E dX6_digest_5 (by decide) rfl rfl ?_
  refine x_iload_n (q := 7) E dX6_digest_6 0 rfl rfl ?_
  refine x_iconst (q := 8) E dX6_digest_7 rfl ?_
  refine x_icmp_ge (tgt := 56) (q := 11) E dX6_digest_8 (by decide) rfl (by omega) (by omega) (fun h9 => absurd h9 (by decide)) (fun _ => ?_)
  refine x_iconst (q := 12) E dX6_digest_11 rfl ?_
  refine x_istore (q := 14) (lv' := [(4, .int (ii (0))), (3, .int (ii (0))), (1, .long (jj (163))), (0, .ref (ad 0))]) E dX6_digest_12 (by decide) rfl rfl ?_
  have hsz0 := k7.2.1.2.2 0 (by omega) (by omega)
  have hq0 : st.2 (1) (0) = a.1.1 (4 + 0) := (k4 0 (by omega)).1
  have hl0 : ∀ j : Int, 0 ≤ j → j < st.2 (1) (0) → st.2 (0) ((0) + j) = a.1.2 (1 + 0) j := (k4 0 (by omega)).2
  have hm0 : mix (fun x => st.2 (0) ((0) + (x))) (163) (st.2 (1) (0)) = mix (a.1.2 (1 + 0)) (163) (a.1.1 (4 + 0)) := by rw [← hq0]; exact mix_congr _ (fun j j0 j1 => hl0 j j0 j1)
  have L14 : ∀ (n : Nat) (t : Int) (j : Int), (st.2 (1) (0) - j).toNat < n → (0 ≤ j ∧ j ≤ st.2 (1) (0)) → (t = mix (fun x => st.2 (0) ((0) + (x))) (163) j) → XJ p l e (rmX 0 0) s m args below meth c D (MW T ad) A 5 Q 0 0 st 14 [(0, .ref (ad 0)), (1, .long (jj (t))), (3, .int (ii (0))), (4, .int (ii (j)))] [] := by
    intro n
    induction n with
    | zero => intro t j hn; exact absurd hn (Nat.not_lt_zero _)
    | succ n ih14 =>
      intro t j hn14 a1 a2
      refine x_iload (q := 16) E dX6_digest_14 3 rfl rfl ?_
      refine x_aload_n (q := 17) E dX6_digest_16 0 rfl rfl ?_
      refine x_get (q := 20) E iX6_digest_X6 (0) rfl rfl 1 (by decide) (by decide +kernel) rfl dX6_digest_17 rfl ?_
      refine x_iload_n (q := 21) E dX6_digest_20 2 rfl rfl ?_
      refine x_iald (q := 22) (f := st.2 (1)) E (2) rfl 0 rfl (by omega) (by omega) (by decide) dX6_digest_21 rfl ?_
      refine x_icmp_ge (tgt := 50) (q := 25) E dX6_digest_22 (by decide) rfl (by omega) (by omega) (fun c22 => ?_) (fun c22 => ?_)
      · have he0 : t = mix (a.1.2 (1 + 0)) (163) (a.1.1 (4 + 0)) := by rw [a2, ← hm0]; exact congrArg _ (by omega)
        rw [he0]
        refine x_iinc (q := 53) (k := 2) (lv' := [(3, .int (ii (1))), (0, .ref (ad 0)), (1, .long (jj (mix (a.1.2 (1 + 0)) (163) (a.1.1 (4 + 0))))), (4, .int (ii (j)))]) E dX6_digest_50 rfl (by decide) rfl rfl ?_
        refine x_goto (tgt := 6) E dX6_digest_53 (by decide) ?_
        refine x_iload_n (q := 7) E dX6_digest_6 0 rfl rfl ?_
        refine x_iconst (q := 8) E dX6_digest_7 rfl ?_
        refine x_icmp_ge (tgt := 56) (q := 11) E dX6_digest_8 (by decide) rfl (by omega) (by omega) (fun h9 => absurd h9 (by decide)) (fun _ => ?_)
        refine x_iconst (q := 12) E dX6_digest_11 rfl ?_
        refine x_istore (q := 14) (lv' := [(4, .int (ii (0))), (3, .int (ii (1))), (0, .ref (ad 0)), (1, .long (jj (mix (a.1.2 (1 + 0)) (163) (a.1.1 (4 + 0)))))]) E dX6_digest_12 (by decide) rfl rfl ?_
        have hsz1 := k7.2.1.2.2 1 (by omega) (by omega)
        have hq1 : st.2 (1) (1) = a.1.1 (4 + 1) := (k4 1 (by omega)).1
        have hl1 : ∀ j : Int, 0 ≤ j → j < st.2 (1) (1) → st.2 (0) ((4) + j) = a.1.2 (1 + 1) j := (k4 1 (by omega)).2
        have hm1 : mix (fun x => st.2 (0) ((4) + (x))) (mix (a.1.2 (1 + 0)) (163) (a.1.1 (4 + 0))) (st.2 (1) (1)) = mix (a.1.2 (1 + 1)) (mix (a.1.2 (1 + 0)) (163) (a.1.1 (4 + 0))) (a.1.1 (4 + 1)) := by rw [← hq1]; exact mix_congr _ (fun j j0 j1 => hl1 j j0 j1)
        have L14 : ∀ (n : Nat) (t : Int) (j : Int), (st.2 (1) (1) - j).toNat < n → (0 ≤ j ∧ j ≤ st.2 (1) (1)) → (t = mix (fun x => st.2 (0) ((4) + (x))) (mix (a.1.2 (1 + 0)) (163) (a.1.1 (4 + 0))) j) → XJ p l e (rmX 0 0) s m args below meth c D (MW T ad) A 5 Q 0 0 st 14 [(0, .ref (ad 0)), (1, .long (jj (t))), (3, .int (ii (1))), (4, .int (ii (j)))] [] := by
          intro n
          induction n with
          | zero => intro t j hn; exact absurd hn (Nat.not_lt_zero _)
          | succ n ih14 =>
            intro t j hn14 a1 a2
            refine x_iload (q := 16) E dX6_digest_14 3 rfl rfl ?_
            refine x_aload_n (q := 17) E dX6_digest_16 0 rfl rfl ?_
            refine x_get (q := 20) E iX6_digest_X6 (0) rfl rfl 1 (by decide) (by decide +kernel) rfl dX6_digest_17 rfl ?_
            refine x_iload_n (q := 21) E dX6_digest_20 2 rfl rfl ?_
            refine x_iald (q := 22) (f := st.2 (1)) E (2) rfl 0 rfl (by omega) (by omega) (by decide) dX6_digest_21 rfl ?_
            refine x_icmp_ge (tgt := 50) (q := 25) E dX6_digest_22 (by decide) rfl (by omega) (by omega) (fun c22 => ?_) (fun c22 => ?_)
            · have he1 : t = mix (a.1.2 (1 + 1)) (mix (a.1.2 (1 + 0)) (163) (a.1.1 (4 + 0))) (a.1.1 (4 + 1)) := by rw [a2, ← hm1]; exact congrArg _ (by omega)
              rw [he1]
              refine x_iinc (q := 53) (k := 2) (lv' := [(3, .int (ii (2))), (0, .ref (ad 0)), (1, .long (jj (mix (a.1.2 (1 + 1)) (mix (a.1.2 (1 + 0)) (163) (a.1.1 (4 + 0))) (a.1.1 (4 + 1))))), (4, .int (ii (j)))]) E dX6_digest_50 rfl (by decide) rfl rfl ?_
              refine x_goto (tgt := 6) E dX6_digest_53 (by decide) ?_
              refine x_iload_n (q := 7) E dX6_digest_6 0 rfl rfl ?_
              refine x_iconst (q := 8) E dX6_digest_7 rfl ?_
              refine x_icmp_ge (tgt := 56) (q := 11) E dX6_digest_8 (by decide) rfl (by omega) (by omega) (fun h9 => absurd h9 (by decide)) (fun _ => ?_)
              refine x_iconst (q := 12) E dX6_digest_11 rfl ?_
              refine x_istore (q := 14) (lv' := [(4, .int (ii (0))), (3, .int (ii (2))), (0, .ref (ad 0)), (1, .long (jj (mix (a.1.2 (1 + 1)) (mix (a.1.2 (1 + 0)) (163) (a.1.1 (4 + 0))) (a.1.1 (4 + 1)))))]) E dX6_digest_12 (by decide) rfl rfl ?_
              have hsz2 := k7.2.1.2.2 2 (by omega) (by omega)
              have hq2 : st.2 (1) (2) = a.1.1 (4 + 2) := (k4 2 (by omega)).1
              have hl2 : ∀ j : Int, 0 ≤ j → j < st.2 (1) (2) → st.2 (0) ((8) + j) = a.1.2 (1 + 2) j := (k4 2 (by omega)).2
              have hm2 : mix (fun x => st.2 (0) ((8) + (x))) (mix (a.1.2 (1 + 1)) (mix (a.1.2 (1 + 0)) (163) (a.1.1 (4 + 0))) (a.1.1 (4 + 1))) (st.2 (1) (2)) = mix (a.1.2 (1 + 2)) (mix (a.1.2 (1 + 1)) (mix (a.1.2 (1 + 0)) (163) (a.1.1 (4 + 0))) (a.1.1 (4 + 1))) (a.1.1 (4 + 2)) := by rw [← hq2]; exact mix_congr _ (fun j j0 j1 => hl2 j j0 j1)
              have L14 : ∀ (n : Nat) (t : Int) (j : Int), (st.2 (1) (2) - j).toNat < n → (0 ≤ j ∧ j ≤ st.2 (1) (2)) → (t = mix (fun x => st.2 (0) ((8) + (x))) (mix (a.1.2 (1 + 1)) (mix (a.1.2 (1 + 0)) (163) (a.1.1 (4 + 0))) (a.1.1 (4 + 1))) j) → XJ p l e (rmX 0 0) s m args below meth c D (MW T ad) A 5 Q 0 0 st 14 [(0, .ref (ad 0)), (1, .long (jj (t))), (3, .int (ii (2))), (4, .int (ii (j)))] [] := by
                intro n
                induction n with
                | zero => intro t j hn; exact absurd hn (Nat.not_lt_zero _)
                | succ n ih14 =>
                  intro t j hn14 a1 a2
                  refine x_iload (q := 16) E dX6_digest_14 3 rfl rfl ?_
                  refine x_aload_n (q := 17) E dX6_digest_16 0 rfl rfl ?_
                  refine x_get (q := 20) E iX6_digest_X6 (0) rfl rfl 1 (by decide) (by decide +kernel) rfl dX6_digest_17 rfl ?_
                  refine x_iload_n (q := 21) E dX6_digest_20 2 rfl rfl ?_
                  refine x_iald (q := 22) (f := st.2 (1)) E (2) rfl 0 rfl (by omega) (by omega) (by decide) dX6_digest_21 rfl ?_
                  refine x_icmp_ge (tgt := 50) (q := 25) E dX6_digest_22 (by decide) rfl (by omega) (by omega) (fun c22 => ?_) (fun c22 => ?_)
                  · have he2 : t = mix (a.1.2 (1 + 2)) (mix (a.1.2 (1 + 1)) (mix (a.1.2 (1 + 0)) (163) (a.1.1 (4 + 0))) (a.1.1 (4 + 1))) (a.1.1 (4 + 2)) := by rw [a2, ← hm2]; exact congrArg _ (by omega)
                    rw [he2]
                    refine x_iinc (q := 53) (k := 2) (lv' := [(3, .int (ii (3))), (0, .ref (ad 0)), (1, .long (jj (mix (a.1.2 (1 + 2)) (mix (a.1.2 (1 + 1)) (mix (a.1.2 (1 + 0)) (163) (a.1.1 (4 + 0))) (a.1.1 (4 + 1))) (a.1.1 (4 + 2))))), (4, .int (ii (j)))]) E dX6_digest_50 rfl (by decide) rfl rfl ?_
                    refine x_goto (tgt := 6) E dX6_digest_53 (by decide) ?_
                    refine x_iload_n (q := 7) E dX6_digest_6 0 rfl rfl ?_
                    refine x_iconst (q := 8) E dX6_digest_7 rfl ?_
                    refine x_icmp_ge (tgt := 56) (q := 11) E dX6_digest_8 (by decide) rfl (by omega) (by omega) (fun h9 => absurd h9 (by decide)) (fun _ => ?_)
                    refine x_iconst (q := 12) E dX6_digest_11 rfl ?_
                    refine x_istore (q := 14) (lv' := [(4, .int (ii (0))), (3, .int (ii (3))), (0, .ref (ad 0)), (1, .long (jj (mix (a.1.2 (1 + 2)) (mix (a.1.2 (1 + 1)) (mix (a.1.2 (1 + 0)) (163) (a.1.1 (4 + 0))) (a.1.1 (4 + 1))) (a.1.1 (4 + 2)))))]) E dX6_digest_12 (by decide) rfl rfl ?_
                    have hsz3 := k7.2.1.2.2 3 (by omega) (by omega)
                    have hq3 : st.2 (1) (3) = a.1.1 (4 + 3) := (k4 3 (by omega)).1
                    have hl3 : ∀ j : Int, 0 ≤ j → j < st.2 (1) (3) → st.2 (0) ((12) + j) = a.1.2 (1 + 3) j := (k4 3 (by omega)).2
                    have hm3 : mix (fun x => st.2 (0) ((12) + (x))) (mix (a.1.2 (1 + 2)) (mix (a.1.2 (1 + 1)) (mix (a.1.2 (1 + 0)) (163) (a.1.1 (4 + 0))) (a.1.1 (4 + 1))) (a.1.1 (4 + 2))) (st.2 (1) (3)) = mix (a.1.2 (1 + 3)) (mix (a.1.2 (1 + 2)) (mix (a.1.2 (1 + 1)) (mix (a.1.2 (1 + 0)) (163) (a.1.1 (4 + 0))) (a.1.1 (4 + 1))) (a.1.1 (4 + 2))) (a.1.1 (4 + 3)) := by rw [← hq3]; exact mix_congr _ (fun j j0 j1 => hl3 j j0 j1)
                    have L14 : ∀ (n : Nat) (t : Int) (j : Int), (st.2 (1) (3) - j).toNat < n → (0 ≤ j ∧ j ≤ st.2 (1) (3)) → (t = mix (fun x => st.2 (0) ((12) + (x))) (mix (a.1.2 (1 + 2)) (mix (a.1.2 (1 + 1)) (mix (a.1.2 (1 + 0)) (163) (a.1.1 (4 + 0))) (a.1.1 (4 + 1))) (a.1.1 (4 + 2))) j) → XJ p l e (rmX 0 0) s m args below meth c D (MW T ad) A 5 Q 0 0 st 14 [(0, .ref (ad 0)), (1, .long (jj (t))), (3, .int (ii (3))), (4, .int (ii (j)))] [] := by
                      intro n
                      induction n with
                      | zero => intro t j hn; exact absurd hn (Nat.not_lt_zero _)
                      | succ n ih14 =>
                        intro t j hn14 a1 a2
                        refine x_iload (q := 16) E dX6_digest_14 3 rfl rfl ?_
                        refine x_aload_n (q := 17) E dX6_digest_16 0 rfl rfl ?_
                        refine x_get (q := 20) E iX6_digest_X6 (0) rfl rfl 1 (by decide) (by decide +kernel) rfl dX6_digest_17 rfl ?_
                        refine x_iload_n (q := 21) E dX6_digest_20 2 rfl rfl ?_
                        refine x_iald (q := 22) (f := st.2 (1)) E (2) rfl 0 rfl (by omega) (by omega) (by decide) dX6_digest_21 rfl ?_
                        refine x_icmp_ge (tgt := 50) (q := 25) E dX6_digest_22 (by decide) rfl (by omega) (by omega) (fun c22 => ?_) (fun c22 => ?_)
                        · have he3 : t = mix (a.1.2 (1 + 3)) (mix (a.1.2 (1 + 2)) (mix (a.1.2 (1 + 1)) (mix (a.1.2 (1 + 0)) (163) (a.1.1 (4 + 0))) (a.1.1 (4 + 1))) (a.1.1 (4 + 2))) (a.1.1 (4 + 3)) := by rw [a2, ← hm3]; exact congrArg _ (by omega)
                          rw [he3]
                          refine x_iinc (q := 53) (k := 2) (lv' := [(3, .int (ii (4))), (0, .ref (ad 0)), (1, .long (jj (mix (a.1.2 (1 + 3)) (mix (a.1.2 (1 + 2)) (mix (a.1.2 (1 + 1)) (mix (a.1.2 (1 + 0)) (163) (a.1.1 (4 + 0))) (a.1.1 (4 + 1))) (a.1.1 (4 + 2))) (a.1.1 (4 + 3))))), (4, .int (ii (j)))]) E dX6_digest_50 rfl (by decide) rfl rfl ?_
                          refine x_goto (tgt := 6) E dX6_digest_53 (by decide) ?_
                          refine x_iload_n (q := 7) E dX6_digest_6 0 rfl rfl ?_
                          refine x_iconst (q := 8) E dX6_digest_7 rfl ?_
                          refine x_icmp_ge (tgt := 56) (q := 11) E dX6_digest_8 (by decide) rfl (by omega) (by omega) (fun _ => ?_) (fun h9 => absurd h9 (by decide))
                          refine x_iconst (q := 57) E dX6_digest_56 rfl ?_
                          refine x_istore_n (q := 58) (lv' := [(3, .int (ii (0))), (0, .ref (ad 0)), (1, .long (jj (mix (a.1.2 (1 + 3)) (mix (a.1.2 (1 + 2)) (mix (a.1.2 (1 + 1)) (mix (a.1.2 (1 + 0)) (163) (a.1.1 (4 + 0))) (a.1.1 (4 + 1))) (a.1.1 (4 + 2))) (a.1.1 (4 + 3))))), (4, .int (ii (j)))]) E dX6_digest_57 (by decide) rfl rfl ?_
                          have L58 : ∀ (n : Nat) (t : Int) (i : Int), (st.1 (0) - i).toNat < n → (0 ≤ i ∧ i ≤ st.1 (0)) → (t = mix (st.2 (2)) (mix (a.1.2 (1 + 3)) (mix (a.1.2 (1 + 2)) (mix (a.1.2 (1 + 1)) (mix (a.1.2 (1 + 0)) (163) (a.1.1 (4 + 0))) (a.1.1 (4 + 1))) (a.1.1 (4 + 2))) (a.1.1 (4 + 3))) i) → XJ p l e (rmX 0 0) s m args below meth c D (MW T ad) A 5 Q 0 0 st 58 [(0, .ref (ad 0)), (1, .long (jj (t))), (3, .int (ii (i)))] [] := by
                            intro n
                            induction n with
                            | zero => intro t i hn; exact absurd hn (Nat.not_lt_zero _)
                            | succ n ih58 =>
                              intro t i hn58 b1 b2
                              refine x_iload_n (q := 59) E dX6_digest_58 2 rfl rfl ?_
                              refine x_aload_n (q := 60) E dX6_digest_59 0 rfl rfl ?_
                              refine x_get (q := 63) E iX6_digest_X6 (0) rfl rfl 2 (by decide) (by decide +kernel) rfl dX6_digest_60 rfl ?_
                              refine x_icmp_ge (tgt := 86) (q := 66) E dX6_digest_63 (by decide) rfl (by omega) (by omega) (fun c63 => ?_) (fun c63 => ?_)
                              · have hf1 : t = mix (a.1.2 0) (mix (a.1.2 (1 + 3)) (mix (a.1.2 (1 + 2)) (mix (a.1.2 (1 + 1)) (mix (a.1.2 (1 + 0)) (163) (a.1.1 (4 + 0))) (a.1.1 (4 + 1))) (a.1.1 (4 + 2))) (a.1.1 (4 + 3))) (a.1.1 0) := by rw [b2, show i = st.1 0 from by omega, k1]; exact mix_congr _ (fun x x0 x1 => by have y := k5 x.toNat (by omega); rw [show ((x.toNat : Nat) : Int) = x from by omega] at y; exact y)
                                rw [hf1]
                                refine x_iconst (q := 87) E dX6_digest_86 rfl ?_
                                refine x_istore_n (q := 88) (lv' := [(3, .int (ii (0))), (0, .ref (ad 0)), (1, .long (jj (mix (a.1.2 0) (mix (a.1.2 (1 + 3)) (mix (a.1.2 (1 + 2)) (mix (a.1.2 (1 + 1)) (mix (a.1.2 (1 + 0)) (163) (a.1.1 (4 + 0))) (a.1.1 (4 + 1))) (a.1.1 (4 + 2))) (a.1.1 (4 + 3))) (a.1.1 0))))]) E dX6_digest_87 (by decide) rfl rfl ?_
                                have L88 : ∀ (n : Nat) (t : Int) (i : Int), (st.1 (3) - i).toNat < n → (0 ≤ i ∧ i ≤ st.1 (3)) → (t = mix (st.2 (7)) (mix (a.1.2 0) (mix (a.1.2 (1 + 3)) (mix (a.1.2 (1 + 2)) (mix (a.1.2 (1 + 1)) (mix (a.1.2 (1 + 0)) (163) (a.1.1 (4 + 0))) (a.1.1 (4 + 1))) (a.1.1 (4 + 2))) (a.1.1 (4 + 3))) (a.1.1 0)) i) → XJ p l e (rmX 0 0) s m args below meth c D (MW T ad) A 5 Q 0 0 st 88 [(0, .ref (ad 0)), (1, .long (jj (t))), (3, .int (ii (i)))] [] := by
                                  intro n
                                  induction n with
                                  | zero => intro t i hn; exact absurd hn (Nat.not_lt_zero _)
                                  | succ n ih88 =>
                                    intro t i hn88 d1 d2
                                    refine x_iload_n (q := 89) E dX6_digest_88 2 rfl rfl ?_
                                    refine x_aload_n (q := 90) E dX6_digest_89 0 rfl rfl ?_
                                    refine x_get (q := 93) E iX6_digest_X6 (0) rfl rfl 11 (by decide) (by decide +kernel) rfl dX6_digest_90 rfl ?_
                                    refine x_icmp_ge (tgt := 116) (q := 96) E dX6_digest_93 (by decide) rfl (by omega) (by omega) (fun c93 => ?_) (fun c93 => ?_)
                                    · have u1 := k8.2.2.2.2.2.1
                                      have u2 := k8.2.2.2.2.2.2
                                      refine x_ldc2 (q := 119) (v := 31) (z := 31) E (by decide +kernel) (by decide) dX6_digest_116 rfl ?_
                                      refine x_lload_n (q := 120) E dX6_digest_119 1 rfl rfl ?_
                                      refine x_lmul (q := 121) E dX6_digest_120 rfl ?_
                                      refine x_aload_n (q := 122) E dX6_digest_121 0 rfl rfl ?_
                                      refine x_get (q := 125) E iX6_digest_X6 (0) rfl rfl 16 (by decide) (by decide +kernel) rfl dX6_digest_122 rfl ?_
                                      refine x_i2l (q := 126) E dX6_digest_125 (by omega) rfl ?_
                                      refine x_ladd (q := 127) E dX6_digest_126 rfl ?_
                                      refine x_lstore_n (q := 128) (lv' := [(1, .long (jj (((31) * (t)) + (st.1 (6))))), (0, .ref (ad 0)), (3, .int (ii (i)))]) E dX6_digest_127 (by decide) rfl rfl ?_
                                      refine x_ldc2 (q := 131) (v := 31) (z := 31) E (by decide +kernel) (by decide) dX6_digest_128 rfl ?_
                                      refine x_lload_n (q := 132) E dX6_digest_131 0 rfl rfl ?_
                                      refine x_lmul (q := 133) E dX6_digest_132 rfl ?_
                                      refine x_aload_n (q := 134) E dX6_digest_133 1 rfl rfl ?_
                                      refine x_get (q := 137) E iX6_digest_X6 (0) rfl rfl 18 (by decide) (by decide +kernel) rfl dX6_digest_134 rfl ?_
                                      refine x_i2l (q := 138) E dX6_digest_137 (by omega) rfl ?_
                                      refine x_ladd (q := 139) E dX6_digest_138 rfl ?_
                                      exact RET _ _ _ _ dX6_digest_139 (⟨by rw [← k3.1, ← k3.2, d2, show i = st.1 3 from by omega, hL, mix_congr (f := lf a.2) (g := st.2 7) _ (fun j j0 j1 => hf j j0 j1)], hI⟩)
                                    · have hb3 := hf6 i (by omega) (by omega)
                                      refine x_ldc2 (q := 99) (v := 31) (z := 31) E (by decide +kernel) (by decide) dX6_digest_96 rfl ?_
                                      refine x_lload_n (q := 100) E dX6_digest_99 1 rfl rfl ?_
                                      refine x_lmul (q := 101) E dX6_digest_100 rfl ?_
                                      refine x_aload_n (q := 102) E dX6_digest_101 0 rfl rfl ?_
                                      refine x_get (q := 105) E iX6_digest_X6 (0) rfl rfl 10 (by decide) (by decide +kernel) rfl dX6_digest_102 rfl ?_
                                      refine x_iload_n (q := 106) E dX6_digest_105 2 rfl rfl ?_
                                      refine x_iald (q := 107) (f := st.2 (7)) E (8) rfl 0 rfl (by omega) (by omega) (by decide) dX6_digest_106 rfl ?_
                                      refine x_i2l (q := 108) E dX6_digest_107 (by omega) rfl ?_
                                      refine x_ladd (q := 109) E dX6_digest_108 rfl ?_
                                      refine x_lstore_n (q := 110) (lv' := [(1, .long (jj (((31) * (t)) + (st.2 (7) (i))))), (0, .ref (ad 0)), (3, .int (ii (i)))]) E dX6_digest_109 (by decide) rfl rfl ?_
                                      refine x_iinc (q := 113) (k := 2) (lv' := [(3, .int (ii (i + 1))), (1, .long (jj (((31) * (t)) + (st.2 (7) (i))))), (0, .ref (ad 0))]) E dX6_digest_110 rfl (by decide) rfl rfl ?_
                                      refine x_goto (tgt := 88) E dX6_digest_113 (by decide) ?_
                                      refine x_lv E (lv' := [(0, .ref (ad 0)), (1, .long (jj (((31) * (t)) + (st.2 (7) (i))))), (3, .int (ii (i + 1)))]) [2, 1, 0] rfl ?_
                                      exact ih88 (((31) * (t)) + (st.2 (7) (i))) (i + 1) (by omega) (by omega) (by rw [mix_s _ _ (by omega), ← d2])
                                refine x_lv E (lv' := [(0, .ref (ad 0)), (1, .long (jj (mix (a.1.2 0) (mix (a.1.2 (1 + 3)) (mix (a.1.2 (1 + 2)) (mix (a.1.2 (1 + 1)) (mix (a.1.2 (1 + 0)) (163) (a.1.1 (4 + 0))) (a.1.1 (4 + 1))) (a.1.1 (4 + 2))) (a.1.1 (4 + 3))) (a.1.1 0)))), (3, .int (ii (0)))]) [1, 2, 0] rfl ?_
                                exact L88 _ (mix (a.1.2 0) (mix (a.1.2 (1 + 3)) (mix (a.1.2 (1 + 2)) (mix (a.1.2 (1 + 1)) (mix (a.1.2 (1 + 0)) (163) (a.1.1 (4 + 0))) (a.1.1 (4 + 1))) (a.1.1 (4 + 2))) (a.1.1 (4 + 3))) (a.1.1 0)) (0) (Nat.lt_succ_self _) (by omega) ((mix_0 _ _).symm)
                              · have hb2 := k7.2.1.2.1 i.toNat (by omega)
                                rw [show ((i.toNat : Nat) : Int) = i from by omega] at hb2
                                refine x_ldc2 (q := 69) (v := 31) (z := 31) E (by decide +kernel) (by decide) dX6_digest_66 rfl ?_
                                refine x_lload_n (q := 70) E dX6_digest_69 1 rfl rfl ?_
                                refine x_lmul (q := 71) E dX6_digest_70 rfl ?_
                                refine x_aload_n (q := 72) E dX6_digest_71 0 rfl rfl ?_
                                refine x_get (q := 75) E iX6_digest_X6 (0) rfl rfl 3 (by decide) (by decide +kernel) rfl dX6_digest_72 rfl ?_
                                refine x_iload_n (q := 76) E dX6_digest_75 2 rfl rfl ?_
                                refine x_iald (q := 77) (f := st.2 (2)) E (3) rfl 0 rfl (by omega) (by omega) (by decide) dX6_digest_76 rfl ?_
                                refine x_i2l (q := 78) E dX6_digest_77 (by omega) rfl ?_
                                refine x_ladd (q := 79) E dX6_digest_78 rfl ?_
                                refine x_lstore_n (q := 80) (lv' := [(1, .long (jj (((31) * (t)) + (st.2 (2) (i))))), (0, .ref (ad 0)), (3, .int (ii (i)))]) E dX6_digest_79 (by decide) rfl rfl ?_
                                refine x_iinc (q := 83) (k := 2) (lv' := [(3, .int (ii (i + 1))), (1, .long (jj (((31) * (t)) + (st.2 (2) (i))))), (0, .ref (ad 0))]) E dX6_digest_80 rfl (by decide) rfl rfl ?_
                                refine x_goto (tgt := 58) E dX6_digest_83 (by decide) ?_
                                refine x_lv E (lv' := [(0, .ref (ad 0)), (1, .long (jj (((31) * (t)) + (st.2 (2) (i))))), (3, .int (ii (i + 1)))]) [2, 1, 0] rfl ?_
                                exact ih58 (((31) * (t)) + (st.2 (2) (i))) (i + 1) (by omega) (by omega) (by rw [mix_s _ _ (by omega), ← b2])
                          refine x_lv E (lv' := [(0, .ref (ad 0)), (1, .long (jj (mix (a.1.2 (1 + 3)) (mix (a.1.2 (1 + 2)) (mix (a.1.2 (1 + 1)) (mix (a.1.2 (1 + 0)) (163) (a.1.1 (4 + 0))) (a.1.1 (4 + 1))) (a.1.1 (4 + 2))) (a.1.1 (4 + 3))))), (3, .int (ii (0)))]) [1, 2, 0] rfl ?_
                          exact L58 _ (mix (a.1.2 (1 + 3)) (mix (a.1.2 (1 + 2)) (mix (a.1.2 (1 + 1)) (mix (a.1.2 (1 + 0)) (163) (a.1.1 (4 + 0))) (a.1.1 (4 + 1))) (a.1.1 (4 + 2))) (a.1.1 (4 + 3))) (0) (Nat.lt_succ_self _) (by omega) ((mix_0 _ _).symm)
                        · have hb1 := (k8.2.2.2.1 3 (by omega) j (by omega) (by rw [← hq3]; omega)).1
                          rw [← hl3 j (by omega) (by omega)] at hb1
                          refine x_ldc2 (q := 28) (v := 31) (z := 31) E (by decide +kernel) (by decide) dX6_digest_25 rfl ?_
                          refine x_lload_n (q := 29) E dX6_digest_28 1 rfl rfl ?_
                          refine x_lmul (q := 30) E dX6_digest_29 rfl ?_
                          refine x_aload_n (q := 31) E dX6_digest_30 0 rfl rfl ?_
                          refine x_get (q := 34) E iX6_digest_X6 (0) rfl rfl 0 (by decide) (by decide +kernel) rfl dX6_digest_31 rfl ?_
                          refine x_iconst (q := 35) E dX6_digest_34 rfl ?_
                          refine x_iload_n (q := 36) E dX6_digest_35 2 rfl rfl ?_
                          refine x_imul (q := 37) E dX6_digest_36 rfl ?_
                          refine x_ti (show (4) * (3) = 12 from rfl) ?_
                          refine x_iload (q := 39) E dX6_digest_37 3 rfl rfl ?_
                          refine x_iadd (q := 40) E dX6_digest_39 rfl ?_
                          refine x_iald (q := 41) (f := st.2 (0)) E (1) rfl 0 rfl (by omega) (by omega) (by decide) dX6_digest_40 rfl ?_
                          refine x_i2l (q := 42) E dX6_digest_41 (by omega) rfl ?_
                          refine x_ladd (q := 43) E dX6_digest_42 rfl ?_
                          refine x_lstore_n (q := 44) (lv' := [(1, .long (jj (((31) * (t)) + (st.2 (0) ((12) + (j)))))), (0, .ref (ad 0)), (3, .int (ii (3))), (4, .int (ii (j)))]) E dX6_digest_43 (by decide) rfl rfl ?_
                          refine x_iinc (q := 47) (k := 3) (lv' := [(4, .int (ii (j + 1))), (1, .long (jj (((31) * (t)) + (st.2 (0) ((12) + (j)))))), (0, .ref (ad 0)), (3, .int (ii (3)))]) E dX6_digest_44 rfl (by decide) rfl rfl ?_
                          refine x_goto (tgt := 14) E dX6_digest_47 (by decide) ?_
                          refine x_lv E (lv' := [(0, .ref (ad 0)), (1, .long (jj (((31) * (t)) + (st.2 (0) ((12) + (j)))))), (3, .int (ii (3))), (4, .int (ii (j + 1)))]) [2, 1, 3, 0] rfl ?_
                          exact ih14 (((31) * (t)) + (st.2 (0) ((12) + (j)))) (j + 1) (by omega) (by omega) (by rw [mix_s _ _ (by omega), ← a2])
                    refine x_lv E (lv' := [(0, .ref (ad 0)), (1, .long (jj (mix (a.1.2 (1 + 2)) (mix (a.1.2 (1 + 1)) (mix (a.1.2 (1 + 0)) (163) (a.1.1 (4 + 0))) (a.1.1 (4 + 1))) (a.1.1 (4 + 2))))), (3, .int (ii (3))), (4, .int (ii (0)))]) [2, 3, 1, 0] rfl ?_
                    exact L14 _ (mix (a.1.2 (1 + 2)) (mix (a.1.2 (1 + 1)) (mix (a.1.2 (1 + 0)) (163) (a.1.1 (4 + 0))) (a.1.1 (4 + 1))) (a.1.1 (4 + 2))) (0) (Nat.lt_succ_self _) (by omega) ((mix_0 _ _).symm)
                  · have hb1 := (k8.2.2.2.1 2 (by omega) j (by omega) (by rw [← hq2]; omega)).1
                    rw [← hl2 j (by omega) (by omega)] at hb1
                    refine x_ldc2 (q := 28) (v := 31) (z := 31) E (by decide +kernel) (by decide) dX6_digest_25 rfl ?_
                    refine x_lload_n (q := 29) E dX6_digest_28 1 rfl rfl ?_
                    refine x_lmul (q := 30) E dX6_digest_29 rfl ?_
                    refine x_aload_n (q := 31) E dX6_digest_30 0 rfl rfl ?_
                    refine x_get (q := 34) E iX6_digest_X6 (0) rfl rfl 0 (by decide) (by decide +kernel) rfl dX6_digest_31 rfl ?_
                    refine x_iconst (q := 35) E dX6_digest_34 rfl ?_
                    refine x_iload_n (q := 36) E dX6_digest_35 2 rfl rfl ?_
                    refine x_imul (q := 37) E dX6_digest_36 rfl ?_
                    refine x_ti (show (4) * (2) = 8 from rfl) ?_
                    refine x_iload (q := 39) E dX6_digest_37 3 rfl rfl ?_
                    refine x_iadd (q := 40) E dX6_digest_39 rfl ?_
                    refine x_iald (q := 41) (f := st.2 (0)) E (1) rfl 0 rfl (by omega) (by omega) (by decide) dX6_digest_40 rfl ?_
                    refine x_i2l (q := 42) E dX6_digest_41 (by omega) rfl ?_
                    refine x_ladd (q := 43) E dX6_digest_42 rfl ?_
                    refine x_lstore_n (q := 44) (lv' := [(1, .long (jj (((31) * (t)) + (st.2 (0) ((8) + (j)))))), (0, .ref (ad 0)), (3, .int (ii (2))), (4, .int (ii (j)))]) E dX6_digest_43 (by decide) rfl rfl ?_
                    refine x_iinc (q := 47) (k := 3) (lv' := [(4, .int (ii (j + 1))), (1, .long (jj (((31) * (t)) + (st.2 (0) ((8) + (j)))))), (0, .ref (ad 0)), (3, .int (ii (2)))]) E dX6_digest_44 rfl (by decide) rfl rfl ?_
                    refine x_goto (tgt := 14) E dX6_digest_47 (by decide) ?_
                    refine x_lv E (lv' := [(0, .ref (ad 0)), (1, .long (jj (((31) * (t)) + (st.2 (0) ((8) + (j)))))), (3, .int (ii (2))), (4, .int (ii (j + 1)))]) [2, 1, 3, 0] rfl ?_
                    exact ih14 (((31) * (t)) + (st.2 (0) ((8) + (j)))) (j + 1) (by omega) (by omega) (by rw [mix_s _ _ (by omega), ← a2])
              refine x_lv E (lv' := [(0, .ref (ad 0)), (1, .long (jj (mix (a.1.2 (1 + 1)) (mix (a.1.2 (1 + 0)) (163) (a.1.1 (4 + 0))) (a.1.1 (4 + 1))))), (3, .int (ii (2))), (4, .int (ii (0)))]) [2, 3, 1, 0] rfl ?_
              exact L14 _ (mix (a.1.2 (1 + 1)) (mix (a.1.2 (1 + 0)) (163) (a.1.1 (4 + 0))) (a.1.1 (4 + 1))) (0) (Nat.lt_succ_self _) (by omega) ((mix_0 _ _).symm)
            · have hb1 := (k8.2.2.2.1 1 (by omega) j (by omega) (by rw [← hq1]; omega)).1
              rw [← hl1 j (by omega) (by omega)] at hb1
              refine x_ldc2 (q := 28) (v := 31) (z := 31) E (by decide +kernel) (by decide) dX6_digest_25 rfl ?_
              refine x_lload_n (q := 29) E dX6_digest_28 1 rfl rfl ?_
              refine x_lmul (q := 30) E dX6_digest_29 rfl ?_
              refine x_aload_n (q := 31) E dX6_digest_30 0 rfl rfl ?_
              refine x_get (q := 34) E iX6_digest_X6 (0) rfl rfl 0 (by decide) (by decide +kernel) rfl dX6_digest_31 rfl ?_
              refine x_iconst (q := 35) E dX6_digest_34 rfl ?_
              refine x_iload_n (q := 36) E dX6_digest_35 2 rfl rfl ?_
              refine x_imul (q := 37) E dX6_digest_36 rfl ?_
              refine x_ti (show (4) * (1) = 4 from rfl) ?_
              refine x_iload (q := 39) E dX6_digest_37 3 rfl rfl ?_
              refine x_iadd (q := 40) E dX6_digest_39 rfl ?_
              refine x_iald (q := 41) (f := st.2 (0)) E (1) rfl 0 rfl (by omega) (by omega) (by decide) dX6_digest_40 rfl ?_
              refine x_i2l (q := 42) E dX6_digest_41 (by omega) rfl ?_
              refine x_ladd (q := 43) E dX6_digest_42 rfl ?_
              refine x_lstore_n (q := 44) (lv' := [(1, .long (jj (((31) * (t)) + (st.2 (0) ((4) + (j)))))), (0, .ref (ad 0)), (3, .int (ii (1))), (4, .int (ii (j)))]) E dX6_digest_43 (by decide) rfl rfl ?_
              refine x_iinc (q := 47) (k := 3) (lv' := [(4, .int (ii (j + 1))), (1, .long (jj (((31) * (t)) + (st.2 (0) ((4) + (j)))))), (0, .ref (ad 0)), (3, .int (ii (1)))]) E dX6_digest_44 rfl (by decide) rfl rfl ?_
              refine x_goto (tgt := 14) E dX6_digest_47 (by decide) ?_
              refine x_lv E (lv' := [(0, .ref (ad 0)), (1, .long (jj (((31) * (t)) + (st.2 (0) ((4) + (j)))))), (3, .int (ii (1))), (4, .int (ii (j + 1)))]) [2, 1, 3, 0] rfl ?_
              exact ih14 (((31) * (t)) + (st.2 (0) ((4) + (j)))) (j + 1) (by omega) (by omega) (by rw [mix_s _ _ (by omega), ← a2])
        refine x_lv E (lv' := [(0, .ref (ad 0)), (1, .long (jj (mix (a.1.2 (1 + 0)) (163) (a.1.1 (4 + 0))))), (3, .int (ii (1))), (4, .int (ii (0)))]) [2, 3, 1, 0] rfl ?_
        exact L14 _ (mix (a.1.2 (1 + 0)) (163) (a.1.1 (4 + 0))) (0) (Nat.lt_succ_self _) (by omega) ((mix_0 _ _).symm)
      · have hb1 := (k8.2.2.2.1 0 (by omega) j (by omega) (by rw [← hq0]; omega)).1
        rw [← hl0 j (by omega) (by omega)] at hb1
        refine x_ldc2 (q := 28) (v := 31) (z := 31) E (by decide +kernel) (by decide) dX6_digest_25 rfl ?_
        refine x_lload_n (q := 29) E dX6_digest_28 1 rfl rfl ?_
        refine x_lmul (q := 30) E dX6_digest_29 rfl ?_
        refine x_aload_n (q := 31) E dX6_digest_30 0 rfl rfl ?_
        refine x_get (q := 34) E iX6_digest_X6 (0) rfl rfl 0 (by decide) (by decide +kernel) rfl dX6_digest_31 rfl ?_
        refine x_iconst (q := 35) E dX6_digest_34 rfl ?_
        refine x_iload_n (q := 36) E dX6_digest_35 2 rfl rfl ?_
        refine x_imul (q := 37) E dX6_digest_36 rfl ?_
        refine x_ti (show (4) * (0) = 0 from rfl) ?_
        refine x_iload (q := 39) E dX6_digest_37 3 rfl rfl ?_
        refine x_iadd (q := 40) E dX6_digest_39 rfl ?_
        refine x_iald (q := 41) (f := st.2 (0)) E (1) rfl 0 rfl (by omega) (by omega) (by decide) dX6_digest_40 rfl ?_
        refine x_i2l (q := 42) E dX6_digest_41 (by omega) rfl ?_
        refine x_ladd (q := 43) E dX6_digest_42 rfl ?_
        refine x_lstore_n (q := 44) (lv' := [(1, .long (jj (((31) * (t)) + (st.2 (0) ((0) + (j)))))), (0, .ref (ad 0)), (3, .int (ii (0))), (4, .int (ii (j)))]) E dX6_digest_43 (by decide) rfl rfl ?_
        refine x_iinc (q := 47) (k := 3) (lv' := [(4, .int (ii (j + 1))), (1, .long (jj (((31) * (t)) + (st.2 (0) ((0) + (j)))))), (0, .ref (ad 0)), (3, .int (ii (0)))]) E dX6_digest_44 rfl (by decide) rfl rfl ?_
        refine x_goto (tgt := 14) E dX6_digest_47 (by decide) ?_
        refine x_lv E (lv' := [(0, .ref (ad 0)), (1, .long (jj (((31) * (t)) + (st.2 (0) ((0) + (j)))))), (3, .int (ii (0))), (4, .int (ii (j + 1)))]) [2, 1, 3, 0] rfl ?_
        exact ih14 (((31) * (t)) + (st.2 (0) ((0) + (j)))) (j + 1) (by omega) (by omega) (by rw [mix_s _ _ (by omega), ← a2])
  refine x_lv E (lv' := [(0, .ref (ad 0)), (1, .long (jj (163))), (3, .int (ii (0))), (4, .int (ii (0)))]) [3, 2, 1, 0] rfl ?_
  exact L14 _ (163) (0) (Nat.lt_succ_self _) (by omega) ((mix_0 _ _).symm)

theorem iX6_unlike_X6 : ∀ w ∈ wsX60, w ∈ wsX6_unlike := by decide +kernel
set_option maxRecDepth 100000 in
set_option maxHeartbeats 4000000 in
theorem c_X6_unlike (l : Launch) (D : va_G) (T : Nat → ClassId) (ad : Nat → Nat) (hN : ∀ i j, i < 13 → j < 13 → ad i = ad j → i = j) (st : St_) (r : Nat) (hr : r < 3) (m0 : Int) (bm0 : -2147483648 ≤ m0 ∧ m0 < 2147483648) (n0 : Int) (bn0 : -2147483648 ≤ n0 ∧ n0 < 2147483648) (hrn : (r : Int) < st.1 0) (a : AB_) (hI : MI st a) : CXi l yX6_unlike wsX6_unlike (rmX 2 50) [.ref (ad 0), .int (ii ((r : Int))), .int (ii (m0)), .int (ii (n0))] D (tyX T) (MW T ad) (alM ad) st (fun z st2 => z = (if (1 ≤ m0 ∧ m0 ≤ 20) ∧ (0 ≤ n0 ∧ n0 ≤ 2000) then (if 40 ≤ a.1.1 3 then -103 else unl (SQ (lta a) (nxn (a.1.1 0)) r) m0 (n0 - m0 + 1)) else -102) ∧ MI st2 (if ((1 ≤ m0 ∧ m0 ≤ 20) ∧ (0 ≤ n0 ∧ n0 ≤ 2000)) ∧ a.1.1 3 < 40 then aU a else a)) := by
  refine mk_i (cc := cX6_unlike) (nL := 11) rfl rfl (MW_ok hN) (Nat.le_of_ble_eq_true rfl) [(0, .ref (ad 0)), (1, .int (ii ((r : Int)))), (2, .int (ii (m0))), (3, .int (ii (n0)))] rfl (fun p e s m args below meth c A Q E RET => ?_)
  have k1 := hI.1
  have k2 := hI.2.1
  have k3 := hI.2.2.1
  have k4 := hI.2.2.2.1
  have k5 := hI.2.2.2.2.1
  have k6 := hI.2.2.2.2.2.1
  have k7 := hI.2.2.2.2.2.2.1
  have k8 := hI.2.2.2.2.2.2.2
  have hn := k7.2.1.1
  have hL := hI.len
  have hf := hI.lf
  have hf6 := hI.let6
  refine x_aload_n (q := 1) E dX6_unlike_0 0 rfl rfl ?_
  refine x_iload_n (q := 2) E dX6_unlike_1 1 rfl rfl ?_
  refine x_callVi (q := 5) (n := 1) (As := [.int (ii ((r : Int)))]) (r := []) E (c_X6_isRow l D T ad hN st ((r : Int)) (by omega) (hn)) gX6_unlike_X6_isRow rfl rfl rfl (by decide +kernel) ⟨Nat.le_of_ble_eq_true rfl, Nat.le_of_ble_eq_true rfl⟩ (0) rfl rfl rfl rfl (Nat.le_of_ble_eq_true rfl) dX6_unlike_2 rfl (fun z1 s2 q3 => ?_)
  obtain ⟨rfl, rfl⟩ := q3
  refine x_if_ne (tgt := 11) (q := 8) E dX6_unlike_5 (by decide) rfl (by omega) (fun c5 => ?_) (fun c5 => ?_)
  · refine x_iload_n (q := 12) E dX6_unlike_11 2 rfl rfl ?_
    refine x_i2l (q := 13) E dX6_unlike_12 (by omega) rfl ?_
    refine x_lconst (q := 14) (z := 1) E dX6_unlike_13 (by decide) rfl ?_
    refine x_ldc2 (q := 17) (v := 20) (z := 20) E (by decide +kernel) (by decide) dX6_unlike_14 rfl ?_
    refine x_callSi (q := 20) (n := 3) (As := [.long (jj (m0)), .long (jj (1)), .long (jj (20))]) (r := []) E (c_X6_in l D T ad hN st (m0) (1) (20) (by omega) (by omega) (by omega)) gX6_unlike_X6_in rfl rfl rfl (by decide +kernel) ⟨Nat.le_of_ble_eq_true rfl, Nat.le_of_ble_eq_true rfl⟩ rfl rfl (Nat.le_of_ble_eq_true rfl) dX6_unlike_17 rfl (fun z4 s5 q6 => ?_)
    obtain ⟨rfl, rfl⟩ := q6
    refine x_if_eq (tgt := 35) (q := 23) E dX6_unlike_20 (by decide) rfl (by omega) (fun c20 => ?_) (fun c20 => ?_)
    · refine x_bipush (q := 37) E dX6_unlike_35 (by decide) rfl ?_
      exact RET _ _ _ _ dX6_unlike_37 (⟨by rw [if_neg (by omega)], by rw [if_neg (by omega)]; exact hI⟩)
    · refine x_iload_n (q := 24) E dX6_unlike_23 3 rfl rfl ?_
      refine x_i2l (q := 25) E dX6_unlike_24 (by omega) rfl ?_
      refine x_lconst (q := 26) (z := 0) E dX6_unlike_25 (by decide) rfl ?_
      refine x_ldc2 (q := 29) (v := 2000) (z := 2000) E (by decide +kernel) (by decide) dX6_unlike_26 rfl ?_
      refine x_callSi (q := 32) (n := 3) (As := [.long (jj (n0)), .long (jj (0)), .long (jj (2000))]) (r := []) E (c_X6_in l D T ad hN st (n0) (0) (2000) (by omega) (by omega) (by omega)) gX6_unlike_X6_in rfl rfl rfl (by decide +kernel) ⟨Nat.le_of_ble_eq_true rfl, Nat.le_of_ble_eq_true rfl⟩ rfl rfl (Nat.le_of_ble_eq_true rfl) dX6_unlike_29 rfl (fun z7 s8 q9 => ?_)
      obtain ⟨rfl, rfl⟩ := q9
      refine x_if_ne (tgt := 38) (q := 35) E dX6_unlike_32 (by decide) rfl (by omega) (fun c32 => ?_) (fun c32 => ?_)
      · have u1 := k8.2.2.2.2.2.2
        refine x_aload_n (q := 39) E dX6_unlike_38 0 rfl rfl ?_
        refine x_get (q := 42) E iX6_unlike_X6 (0) rfl rfl 18 (by decide) (by decide +kernel) rfl dX6_unlike_39 rfl ?_
        refine x_bipush (q := 44) E dX6_unlike_42 (by decide) rfl ?_
        refine x_icmp_ne (tgt := 50) (q := 47) E dX6_unlike_44 (by decide) rfl (by omega) (by omega) (fun c44 => ?_) (fun c44 => ?_)
        · refine x_aload_n (q := 51) E dX6_unlike_50 0 rfl rfl ?_
          refine x_dup (q := 52) E dX6_unlike_51 rfl rfl ?_
          refine x_get (q := 55) E iX6_unlike_X6 (0) rfl rfl 18 (by decide) (by decide +kernel) rfl dX6_unlike_52 rfl ?_
          refine x_iconst (q := 56) E dX6_unlike_55 rfl ?_
          refine x_iadd (q := 57) E dX6_unlike_56 rfl ?_
          refine x_put (q := 60) (st' := (sG st (7) ((st.1 (7)) + (1)))) (v := .int (ii ((st.1 (7)) + (1)))) (ty := .int) E iX6_unlike_X6 tyX6 tyX6_ok nmX6 (0) rfl rfl 18 (by decide) (by decide +kernel) rfl (by decide +kernel) rfl rfl (Nat.le_of_ble_eq_true rfl) dX6_unlike_57 (ms_7 _) rfl ?_
          have hIu := MI_U hI (by omega)
          have hHu : MH (lta a) (sG st 7 (st.1 7 + 1)) := by have y := hIu.2.2.2.2.2.2.1; rw [lta_U] at y; exact y
          refine x_aload_n (q := 61) E dX6_unlike_60 0 rfl rfl ?_
          refine x_iload_n (q := 62) E dX6_unlike_61 1 rfl rfl ?_
          refine x_iload_n (q := 63) E dX6_unlike_62 3 rfl rfl ?_
          refine x_iconst (q := 64) E dX6_unlike_63 rfl ?_
          refine x_isub (q := 65) E dX6_unlike_64 rfl ?_
          refine x_callVv (q := 68) (n := 2) (As := [.int (ii ((r : Int))), .int (ii ((n0) - (1)))]) (r := []) E (c_X6_make l D T ad hN (sG st (7) ((st.1 (7)) + (1))) r hr ((n0) - (1)) (by omega) (by rw [sG_n _ _ (by omega)]; exact hrn) (by omega) (lta a) hHu) gX6_unlike_X6_make rfl rfl rfl (by decide +kernel) ⟨Nat.le_of_ble_eq_true rfl, Nat.le_of_ble_eq_true rfl⟩ (0) rfl rfl rfl rfl (Nat.le_of_ble_eq_true rfl) dX6_unlike_65 rfl (fun s11 q12 => ?_)
          obtain ⟨h113, h214, h315, h416⟩ := q12
          have g1 := h113
          have g2 := h214
          have g3 := h315
          have g4 := h416
          have hI1 := MI_frm hIu g2 (by rw [lta_U]; exact g1)
          have e0 : s11.1 0 = a.1.1 0 := by rw [g2.1 0 (by omega) (by omega), sG_n _ _ (by omega)]; exact k1
          have hr1 : (r : Int) < s11.1 0 := by rw [e0, ← k1]; exact hrn
          have hSq : ∀ j : Int, 0 ≤ j → j < s11.2 6 (r : Int) → s11.2 (3 + r) j = SQ (lta a) (nxn (a.1.1 0)) r j := fun j j0 j1 => by rw [MH.rows g1 g3 hr1 j j0 j1, e0]
          have hS6 : ∀ j : Int, 0 ≤ j → 1 ≤ SQ (lta a) (nxn (a.1.1 0)) r j ∧ SQ (lta a) (nxn (a.1.1 0)) r j ≤ 6 := fun j j0 => ⟨SQ_pos g1.1.pos r j j0, SQ_le (fun x y hy => (g1.1.1 x y hy).2) r j j0⟩
          refine x_iconst (q := 69) E dX6_unlike_68 rfl ?_
          refine x_istore (q := 71) (lv' := [(4, .int (ii (0))), (0, .ref (ad 0)), (1, .int (ii ((r : Int)))), (2, .int (ii (m0))), (3, .int (ii (n0)))]) E dX6_unlike_69 (by decide) rfl rfl ?_
          refine x_iconst (q := 72) E dX6_unlike_71 rfl ?_
          refine x_istore (q := 74) (lv' := [(5, .int (ii (0))), (4, .int (ii (0))), (0, .ref (ad 0)), (1, .int (ii ((r : Int)))), (2, .int (ii (m0))), (3, .int (ii (n0)))]) E dX6_unlike_72 (by decide) rfl rfl ?_
          have L74 : ∀ (n : Nat) (mn : Int) (pl : Int) (ky : Int → Int), (3000 - pl).toNat < n → (0 ≤ pl ∧ 0 ≤ mn ∧ mn ≤ pl ∧ (pl = 0 ∨ pl + m0 ≤ n0 + 1)) → (mn = unl (SQ (lta a) (nxn (a.1.1 0)) r) m0 pl) → (KS ky mn (EK (SQ (lta a) (nxn (a.1.1 0)) r) m0 pl)) → XJ p l e (rmX 2 50) s m args below meth c D (MW T ad) A 11 Q 0 0 (sF s11 (11) (ky)) 74 [(0, .ref (ad 0)), (1, .int (ii ((r : Int)))), (2, .int (ii (m0))), (3, .int (ii (n0))), (4, .int (ii (mn))), (5, .int (ii (pl)))] [] := by
            intro n
            induction n with
            | zero => intro mn pl ky hn; exact absurd hn (Nat.not_lt_zero _)
            | succ n ih74 =>
              intro mn pl ky hn74 a1 a3 a4
              refine x_iload (q := 76) E dX6_unlike_74 5 rfl rfl ?_
              refine x_iload_n (q := 77) E dX6_unlike_76 2 rfl rfl ?_
              refine x_iadd (q := 78) E dX6_unlike_77 rfl ?_
              refine x_iload_n (q := 79) E dX6_unlike_78 3 rfl rfl ?_
              refine x_icmp_gt (tgt := 243) (q := 82) E dX6_unlike_79 (by decide) rfl (by omega) (by omega) (fun c79 => ?_) (fun c79 => ?_)
              · refine x_iload (q := 245) E dX6_unlike_243 4 rfl rfl ?_
                exact RET _ _ _ _ dX6_unlike_245 (⟨by rw [if_pos (by omega), if_neg (by omega), a3]; rcases (show pl = n0 - m0 + 1 ∨ (pl = 0 ∧ n0 - m0 + 1 ≤ 0) by omega) with y | y; rw [y]; rw [unl_0 _ _ (by omega), unl_0 _ _ (by omega)], by rw [if_pos (by omega)]; exact MI_same hI1 (fun j hj => by rw [sF_1]) ⟨by rw [sF_1], by rw [sF_1]⟩ (fun q hq => by rw [sF_n _ _ (by omega)])⟩)
              · refine x_lconst (q := 83) (z := 0) E dX6_unlike_82 (by decide) rfl ?_
                refine x_lstore (q := 85) (lv' := [(6, .long (jj (0))), (0, .ref (ad 0)), (1, .int (ii ((r : Int)))), (2, .int (ii (m0))), (3, .int (ii (n0))), (4, .int (ii (mn))), (5, .int (ii (pl)))]) E dX6_unlike_83 (by decide) rfl rfl ?_
                refine x_iconst (q := 86) E dX6_unlike_85 rfl ?_
                refine x_istore (q := 88) (lv' := [(8, .int (ii (0))), (6, .long (jj (0))), (0, .ref (ad 0)), (1, .int (ii ((r : Int)))), (2, .int (ii (m0))), (3, .int (ii (n0))), (4, .int (ii (mn))), (5, .int (ii (pl)))]) E dX6_unlike_86 (by decide) rfl rfl ?_
                have L88 : ∀ (n : Nat) (key : Int) (i : Int), (m0 - i).toNat < n → (0 ≤ i ∧ i ≤ m0) → (key = enc 7 (SQ (lta a) (nxn (a.1.1 0)) r) pl i) → XJ p l e (rmX 2 50) s m args below meth c D (MW T ad) A 11 Q 0 0 (sF s11 (11) (ky)) 88 [(0, .ref (ad 0)), (1, .int (ii ((r : Int)))), (2, .int (ii (m0))), (3, .int (ii (n0))), (4, .int (ii (mn))), (5, .int (ii (pl))), (6, .long (jj (key))), (8, .int (ii (i)))] [] := by
                  intro n
                  induction n with
                  | zero => intro key i hn; exact absurd hn (Nat.not_lt_zero _)
                  | succ n ih88 =>
                    intro key i hn88 d1 d2
                    refine x_iload (q := 90) E dX6_unlike_88 7 rfl rfl ?_
                    refine x_iload_n (q := 91) E dX6_unlike_90 2 rfl rfl ?_
                    refine x_icmp_ge (tgt := 120) (q := 94) E dX6_unlike_91 (by decide) rfl (by omega) (by omega) (fun c91 => ?_) (fun c91 => ?_)
                    · have q1 : key = enc 7 (SQ (lta a) (nxn (a.1.1 0)) r) pl m0 := by rw [d2]; exact congrArg _ (by omega)
                      have q2 := enc_bd (f := SQ (lta a) (nxn (a.1.1 0)) r) (p := pl) (j := m0) (by omega) (by omega) hS6
                      rw [← q1] at q2
                      refine x_iconst (q := 121) E dX6_unlike_120 rfl ?_
                      refine x_istore (q := 123) (lv' := [(8, .int (ii (0))), (0, .ref (ad 0)), (1, .int (ii ((r : Int)))), (2, .int (ii (m0))), (3, .int (ii (n0))), (4, .int (ii (mn))), (5, .int (ii (pl))), (6, .long (jj (key)))]) E dX6_unlike_121 (by decide) rfl rfl ?_
                      refine x_iload (q := 125) E dX6_unlike_123 5 rfl rfl ?_
                      refine x_istore (q := 127) (lv' := [(9, .int (ii (mn))), (8, .int (ii (0))), (0, .ref (ad 0)), (1, .int (ii ((r : Int)))), (2, .int (ii (m0))), (3, .int (ii (n0))), (4, .int (ii (mn))), (5, .int (ii (pl))), (6, .long (jj (key)))]) E dX6_unlike_125 (by decide) rfl rfl ?_
                      have L127 : ∀ (n : Nat) (low : Int) (high : Int), (high - low).toNat < n → (0 ≤ low ∧ low ≤ high ∧ high ≤ mn) → (∀ x : Int, 0 ≤ x → x < low → ky x < key) → (∀ x : Int, high ≤ x → x < mn → key ≤ ky x) → XJ p l e (rmX 2 50) s m args below meth c D (MW T ad) A 11 Q 0 0 (sF s11 (11) (ky)) 127 [(0, .ref (ad 0)), (1, .int (ii ((r : Int)))), (2, .int (ii (m0))), (3, .int (ii (n0))), (4, .int (ii (mn))), (5, .int (ii (pl))), (6, .long (jj (key))), (8, .int (ii (low))), (9, .int (ii (high)))] [] := by
                        intro n
                        induction n with
                        | zero => intro low high hn; exact absurd hn (Nat.not_lt_zero _)
                        | succ n ih127 =>
                          intro low high hn127 m1 m3 m4
                          refine x_iload (q := 129) E dX6_unlike_127 7 rfl rfl ?_
                          refine x_iload (q := 131) E dX6_unlike_129 8 rfl rfl ?_
                          refine x_icmp_ge (tgt := 172) (q := 134) E dX6_unlike_131 (by decide) rfl (by omega) (by omega) (fun c131 => ?_) (fun c131 => ?_)
                          · refine x_iload (q := 174) E dX6_unlike_172 7 rfl rfl ?_
                            refine x_iload (q := 176) E dX6_unlike_174 4 rfl rfl ?_
                            refine x_icmp_eq (tgt := 192) (q := 179) E dX6_unlike_176 (by decide) rfl (by omega) (by omega) (fun c176 => ?_) (fun c176 => ?_)
                            · have hgt : ∀ x : Int, low ≤ x → x < mn → key < ky x := fun x x0 x1 => absurd x1 (by omega)
                              have hnk : ¬ EK (SQ (lta a) (nxn (a.1.1 0)) r) m0 pl (enc 7 (SQ (lta a) (nxn (a.1.1 0)) r) pl m0) := by rw [← q1]; exact KS_not a4 m3 hgt
                              refine x_iload (q := 194) E dX6_unlike_192 4 rfl rfl ?_
                              refine x_istore (q := 196) (lv' := [(10, .int (ii (mn))), (0, .ref (ad 0)), (1, .int (ii ((r : Int)))), (2, .int (ii (m0))), (3, .int (ii (n0))), (4, .int (ii (mn))), (5, .int (ii (pl))), (6, .long (jj (key))), (8, .int (ii (low))), (9, .int (ii (high)))]) E dX6_unlike_194 (by decide) rfl rfl ?_
                              have L196 : ∀ (n : Nat) (i : Int) (k2 : Int → Int), (i - low).toNat < n → (low ≤ i ∧ i ≤ mn) → (∀ j : Int, 0 ≤ j → j < i → k2 j = ky j) → (∀ j : Int, i < j → j ≤ mn → k2 j = ky (j - 1)) → XJ p l e (rmX 2 50) s m args below meth c D (MW T ad) A 11 Q 0 0 (sF s11 (11) (k2)) 196 [(0, .ref (ad 0)), (1, .int (ii ((r : Int)))), (2, .int (ii (m0))), (3, .int (ii (n0))), (4, .int (ii (mn))), (5, .int (ii (pl))), (6, .long (jj (key))), (8, .int (ii (low))), (9, .int (ii (high))), (10, .int (ii (i)))] [] := by
                                intro n
                                induction n with
                                | zero => intro i k2 hn; exact absurd hn (Nat.not_lt_zero _)
                                | succ n ih196 =>
                                  intro i k2 hn196 w1 w2 w3
                                  refine x_iload (q := 198) E dX6_unlike_196 9 rfl rfl ?_
                                  refine x_iload (q := 200) E dX6_unlike_198 7 rfl rfl ?_
                                  refine x_icmp_le (tgt := 225) (q := 203) E dX6_unlike_200 (by decide) rfl (by omega) (by omega) (fun c200 => ?_) (fun c200 => ?_)
                                  · refine x_aload_n (q := 226) E dX6_unlike_225 0 rfl rfl ?_
                                    refine x_get (q := 229) E iX6_unlike_X6 (0) rfl rfl 19 (by decide) (by decide +kernel) rfl dX6_unlike_226 rfl ?_
                                    refine x_iload (q := 231) E dX6_unlike_229 7 rfl rfl ?_
                                    refine x_lload (q := 233) E dX6_unlike_231 6 rfl rfl ?_
                                    refine x_last (q := 234) (st' := (sA (sF s11 (11) (k2)) (11) (low) (key))) (f := (sF s11 (11) (k2)).2 (11)) E (12) rfl 2 rfl (by omega) (by omega) (by decide) dX6_unlike_233 (ma_11 _ _) rfl ?_
                                    refine x_iinc (q := 237) (k := 4) (lv' := [(4, .int (ii (mn + 1))), (0, .ref (ad 0)), (1, .int (ii ((r : Int)))), (2, .int (ii (m0))), (3, .int (ii (n0))), (5, .int (ii (pl))), (6, .long (jj (key))), (8, .int (ii (low))), (9, .int (ii (high))), (10, .int (ii (i)))]) E dX6_unlike_234 rfl (by decide) rfl rfl ?_
                                    refine x_iinc (q := 240) (k := 5) (lv' := [(5, .int (ii (pl + 1))), (4, .int (ii (mn + 1))), (0, .ref (ad 0)), (1, .int (ii ((r : Int)))), (2, .int (ii (m0))), (3, .int (ii (n0))), (6, .long (jj (key))), (8, .int (ii (low))), (9, .int (ii (high))), (10, .int (ii (i)))]) E dX6_unlike_237 rfl (by decide) rfl rfl ?_
                                    refine x_goto (tgt := 74) E dX6_unlike_240 (by decide) ?_
                                    refine x_st E (st' := (sF s11 (11) (zup (k2) (low) (key)))) (by refine Prod.ext (funext fun k9 => ?_) (funext fun q9 => ?_) <;> simp only [sG_1, sG_2, sA_1, sA_2, sF_1, sF_2, reduceIte] <;> (repeat' split) <;> first | rfl | omega | (subst_vars; first | rfl | omega) | simp_all) ?_
                                    refine x_lv E (lv' := [(0, .ref (ad 0)), (1, .int (ii ((r : Int)))), (2, .int (ii (m0))), (3, .int (ii (n0))), (4, .int (ii (mn + 1))), (5, .int (ii (pl + 1)))]) [2, 3, 4, 5, 1, 0] rfl ?_
                                    exact ih74 (mn + 1) (pl + 1) (zup (k2) (low) (key)) (by omega) (by omega) (by rw [unl_new (by omega) (by omega) hS6 hnk, ← a3]) (KS_iff (KS_put (lo := low) (x := key) a4 (by omega) (by omega) m3 hgt (fun j j0 j1 => by rw [zup_ne _ _ (by omega)]; exact w2 j j0 (by omega)) (by rw [zup_eq]) (fun j j0 j1 => by rw [zup_ne _ _ (by omega)]; exact w3 j (by omega) j1)) (fun x => by rw [q1]; exact EK_s _ _ (by omega) x))
                                  · refine x_aload_n (q := 204) E dX6_unlike_203 0 rfl rfl ?_
                                    refine x_get (q := 207) E iX6_unlike_X6 (0) rfl rfl 19 (by decide) (by decide +kernel) rfl dX6_unlike_204 rfl ?_
                                    refine x_iload (q := 209) E dX6_unlike_207 9 rfl rfl ?_
                                    refine x_aload_n (q := 210) E dX6_unlike_209 0 rfl rfl ?_
                                    refine x_get (q := 213) E iX6_unlike_X6 (0) rfl rfl 19 (by decide) (by decide +kernel) rfl dX6_unlike_210 rfl ?_
                                    refine x_iload (q := 215) E dX6_unlike_213 9 rfl rfl ?_
                                    refine x_iconst (q := 216) E dX6_unlike_215 rfl ?_
                                    refine x_isub (q := 217) E dX6_unlike_216 rfl ?_
                                    refine x_lald (q := 218) (f := (sF s11 (11) (k2)).2 (11)) E (12) rfl 2 rfl (by omega) (by omega) (by decide) dX6_unlike_217 rfl ?_
                                    refine x_tl (show (sF s11 (11) (k2)).2 (11) ((i) - (1)) = k2 ((i) - (1)) by rw [sF_s]) ?_
                                    refine x_last (q := 219) (st' := (sA (sF s11 (11) (k2)) (11) (i) (k2 ((i) - (1))))) (f := (sF s11 (11) (k2)).2 (11)) E (12) rfl 2 rfl (by omega) (by omega) (by decide) dX6_unlike_218 (ma_11 _ _) rfl ?_
                                    refine x_iinc (q := 222) (k := 9) (lv' := [(10, .int (ii (i + (-1)))), (0, .ref (ad 0)), (1, .int (ii ((r : Int)))), (2, .int (ii (m0))), (3, .int (ii (n0))), (4, .int (ii (mn))), (5, .int (ii (pl))), (6, .long (jj (key))), (8, .int (ii (low))), (9, .int (ii (high)))]) E dX6_unlike_219 rfl (by decide) rfl rfl ?_
                                    refine x_goto (tgt := 196) E dX6_unlike_222 (by decide) ?_
                                    refine x_st E (st' := (sF s11 (11) (zup (k2) (i) (k2 ((i) - (1)))))) (by refine Prod.ext (funext fun k9 => ?_) (funext fun q9 => ?_) <;> simp only [sG_1, sG_2, sA_1, sA_2, sF_1, sF_2, reduceIte] <;> (repeat' split) <;> first | rfl | omega | (subst_vars; first | rfl | omega) | simp_all) ?_
                                    refine x_lv E (lv' := [(0, .ref (ad 0)), (1, .int (ii ((r : Int)))), (2, .int (ii (m0))), (3, .int (ii (n0))), (4, .int (ii (mn))), (5, .int (ii (pl))), (6, .long (jj (key))), (8, .int (ii (low))), (9, .int (ii (high))), (10, .int (ii (i + (-1))))]) [1, 2, 3, 4, 5, 6, 7, 8, 9, 0] rfl ?_
                                    exact ih196 (i + (-1)) (zup (k2) (i) (k2 ((i) - (1)))) (by omega) (by omega) (fun j h0 h1 => by rw [zup_ne _ _ (by omega)]; exact w2 j h0 (by omega)) (fun j h0 h1 => if hj : j = i then (by rw [hj, zup_eq]; exact w2 (i - 1) (by omega) (by omega)) else (by rw [zup_ne _ _ hj]; exact w3 j (by omega) h1))
                              refine x_lv E (lv' := [(0, .ref (ad 0)), (1, .int (ii ((r : Int)))), (2, .int (ii (m0))), (3, .int (ii (n0))), (4, .int (ii (mn))), (5, .int (ii (pl))), (6, .long (jj (key))), (8, .int (ii (low))), (9, .int (ii (high))), (10, .int (ii (mn)))]) [1, 2, 3, 4, 5, 6, 7, 8, 9, 0] rfl ?_
                              exact L196 _ (mn) (ky) (Nat.lt_succ_self _) (by omega) (fun _ _ _ => rfl) (fun j h0 h1 => absurd h1 (by omega))
                            · have y2 := EK_bd (by omega) hS6 (a4.2.1 low (by omega) (by omega))
                              refine x_aload_n (q := 180) E dX6_unlike_179 0 rfl rfl ?_
                              refine x_get (q := 183) E iX6_unlike_X6 (0) rfl rfl 19 (by decide) (by decide +kernel) rfl dX6_unlike_180 rfl ?_
                              refine x_iload (q := 185) E dX6_unlike_183 7 rfl rfl ?_
                              refine x_lald (q := 186) (f := (sF s11 (11) (ky)).2 (11)) E (12) rfl 2 rfl (by omega) (by omega) (by decide) dX6_unlike_185 rfl ?_
                              refine x_tl (show (sF s11 (11) (ky)).2 (11) (low) = ky (low) by rw [sF_s]) ?_
                              refine x_lload (q := 188) E dX6_unlike_186 6 rfl rfl ?_
                              refine x_lcmp (q := 189) E dX6_unlike_188 (by omega) (by omega) rfl ?_
                              refine x_if_eq (tgt := 237) (q := 192) E dX6_unlike_189 (by decide) rfl (by omega) (fun c189 => ?_) (fun c189 => ?_)
                              · have hek : EK (SQ (lta a) (nxn (a.1.1 0)) r) m0 pl (enc 7 (SQ (lta a) (nxn (a.1.1 0)) r) pl m0) := by rw [← q1, ← show ky low = key from by omega]; exact a4.2.1 low (by omega) (by omega)
                                refine x_iinc (q := 240) (k := 5) (lv' := [(5, .int (ii (pl + 1))), (0, .ref (ad 0)), (1, .int (ii ((r : Int)))), (2, .int (ii (m0))), (3, .int (ii (n0))), (4, .int (ii (mn))), (6, .long (jj (key))), (8, .int (ii (low))), (9, .int (ii (high)))]) E dX6_unlike_237 rfl (by decide) rfl rfl ?_
                                refine x_goto (tgt := 74) E dX6_unlike_240 (by decide) ?_
                                refine x_lv E (lv' := [(0, .ref (ad 0)), (1, .int (ii ((r : Int)))), (2, .int (ii (m0))), (3, .int (ii (n0))), (4, .int (ii (mn))), (5, .int (ii (pl + 1)))]) [1, 2, 3, 4, 5, 0] rfl ?_
                                exact ih74 (mn) (pl + 1) (ky) (by omega) (by omega) (by rw [unl_old (by omega) (by omega) hS6 hek]; exact a3) (KS_iff a4 (EK_o _ _ (by omega) hek))
                              · have hgt : ∀ x : Int, low ≤ x → x < mn → key < ky x := fun x x0 x1 => by have y := m4 low (by omega) (by omega); by_cases hx : x = low; rw [hx]; omega; have z := a4.1 low x (by omega) (by omega) x1; omega
                                have hnk : ¬ EK (SQ (lta a) (nxn (a.1.1 0)) r) m0 pl (enc 7 (SQ (lta a) (nxn (a.1.1 0)) r) pl m0) := by rw [← q1]; exact KS_not a4 m3 hgt
                                refine x_iload (q := 194) E dX6_unlike_192 4 rfl rfl ?_
                                refine x_istore (q := 196) (lv' := [(10, .int (ii (mn))), (0, .ref (ad 0)), (1, .int (ii ((r : Int)))), (2, .int (ii (m0))), (3, .int (ii (n0))), (4, .int (ii (mn))), (5, .int (ii (pl))), (6, .long (jj (key))), (8, .int (ii (low))), (9, .int (ii (high)))]) E dX6_unlike_194 (by decide) rfl rfl ?_
                                have L196 : ∀ (n : Nat) (i : Int) (k2 : Int → Int), (i - low).toNat < n → (low ≤ i ∧ i ≤ mn) → (∀ j : Int, 0 ≤ j → j < i → k2 j = ky j) → (∀ j : Int, i < j → j ≤ mn → k2 j = ky (j - 1)) → XJ p l e (rmX 2 50) s m args below meth c D (MW T ad) A 11 Q 0 0 (sF s11 (11) (k2)) 196 [(0, .ref (ad 0)), (1, .int (ii ((r : Int)))), (2, .int (ii (m0))), (3, .int (ii (n0))), (4, .int (ii (mn))), (5, .int (ii (pl))), (6, .long (jj (key))), (8, .int (ii (low))), (9, .int (ii (high))), (10, .int (ii (i)))] [] := by
                                  intro n
                                  induction n with
                                  | zero => intro i k2 hn; exact absurd hn (Nat.not_lt_zero _)
                                  | succ n ih196 =>
                                    intro i k2 hn196 w1 w2 w3
                                    refine x_iload (q := 198) E dX6_unlike_196 9 rfl rfl ?_
                                    refine x_iload (q := 200) E dX6_unlike_198 7 rfl rfl ?_
                                    refine x_icmp_le (tgt := 225) (q := 203) E dX6_unlike_200 (by decide) rfl (by omega) (by omega) (fun c200 => ?_) (fun c200 => ?_)
                                    · refine x_aload_n (q := 226) E dX6_unlike_225 0 rfl rfl ?_
                                      refine x_get (q := 229) E iX6_unlike_X6 (0) rfl rfl 19 (by decide) (by decide +kernel) rfl dX6_unlike_226 rfl ?_
                                      refine x_iload (q := 231) E dX6_unlike_229 7 rfl rfl ?_
                                      refine x_lload (q := 233) E dX6_unlike_231 6 rfl rfl ?_
                                      refine x_last (q := 234) (st' := (sA (sF s11 (11) (k2)) (11) (low) (key))) (f := (sF s11 (11) (k2)).2 (11)) E (12) rfl 2 rfl (by omega) (by omega) (by decide) dX6_unlike_233 (ma_11 _ _) rfl ?_
                                      refine x_iinc (q := 237) (k := 4) (lv' := [(4, .int (ii (mn + 1))), (0, .ref (ad 0)), (1, .int (ii ((r : Int)))), (2, .int (ii (m0))), (3, .int (ii (n0))), (5, .int (ii (pl))), (6, .long (jj (key))), (8, .int (ii (low))), (9, .int (ii (high))), (10, .int (ii (i)))]) E dX6_unlike_234 rfl (by decide) rfl rfl ?_
                                      refine x_iinc (q := 240) (k := 5) (lv' := [(5, .int (ii (pl + 1))), (4, .int (ii (mn + 1))), (0, .ref (ad 0)), (1, .int (ii ((r : Int)))), (2, .int (ii (m0))), (3, .int (ii (n0))), (6, .long (jj (key))), (8, .int (ii (low))), (9, .int (ii (high))), (10, .int (ii (i)))]) E dX6_unlike_237 rfl (by decide) rfl rfl ?_
                                      refine x_goto (tgt := 74) E dX6_unlike_240 (by decide) ?_
                                      refine x_st E (st' := (sF s11 (11) (zup (k2) (low) (key)))) (by refine Prod.ext (funext fun k9 => ?_) (funext fun q9 => ?_) <;> simp only [sG_1, sG_2, sA_1, sA_2, sF_1, sF_2, reduceIte] <;> (repeat' split) <;> first | rfl | omega | (subst_vars; first | rfl | omega) | simp_all) ?_
                                      refine x_lv E (lv' := [(0, .ref (ad 0)), (1, .int (ii ((r : Int)))), (2, .int (ii (m0))), (3, .int (ii (n0))), (4, .int (ii (mn + 1))), (5, .int (ii (pl + 1)))]) [2, 3, 4, 5, 1, 0] rfl ?_
                                      exact ih74 (mn + 1) (pl + 1) (zup (k2) (low) (key)) (by omega) (by omega) (by rw [unl_new (by omega) (by omega) hS6 hnk, ← a3]) (KS_iff (KS_put (lo := low) (x := key) a4 (by omega) (by omega) m3 hgt (fun j j0 j1 => by rw [zup_ne _ _ (by omega)]; exact w2 j j0 (by omega)) (by rw [zup_eq]) (fun j j0 j1 => by rw [zup_ne _ _ (by omega)]; exact w3 j (by omega) j1)) (fun x => by rw [q1]; exact EK_s _ _ (by omega) x))
                                    · refine x_aload_n (q := 204) E dX6_unlike_203 0 rfl rfl ?_
                                      refine x_get (q := 207) E iX6_unlike_X6 (0) rfl rfl 19 (by decide) (by decide +kernel) rfl dX6_unlike_204 rfl ?_
                                      refine x_iload (q := 209) E dX6_unlike_207 9 rfl rfl ?_
                                      refine x_aload_n (q := 210) E dX6_unlike_209 0 rfl rfl ?_
                                      refine x_get (q := 213) E iX6_unlike_X6 (0) rfl rfl 19 (by decide) (by decide +kernel) rfl dX6_unlike_210 rfl ?_
                                      refine x_iload (q := 215) E dX6_unlike_213 9 rfl rfl ?_
                                      refine x_iconst (q := 216) E dX6_unlike_215 rfl ?_
                                      refine x_isub (q := 217) E dX6_unlike_216 rfl ?_
                                      refine x_lald (q := 218) (f := (sF s11 (11) (k2)).2 (11)) E (12) rfl 2 rfl (by omega) (by omega) (by decide) dX6_unlike_217 rfl ?_
                                      refine x_tl (show (sF s11 (11) (k2)).2 (11) ((i) - (1)) = k2 ((i) - (1)) by rw [sF_s]) ?_
                                      refine x_last (q := 219) (st' := (sA (sF s11 (11) (k2)) (11) (i) (k2 ((i) - (1))))) (f := (sF s11 (11) (k2)).2 (11)) E (12) rfl 2 rfl (by omega) (by omega) (by decide) dX6_unlike_218 (ma_11 _ _) rfl ?_
                                      refine x_iinc (q := 222) (k := 9) (lv' := [(10, .int (ii (i + (-1)))), (0, .ref (ad 0)), (1, .int (ii ((r : Int)))), (2, .int (ii (m0))), (3, .int (ii (n0))), (4, .int (ii (mn))), (5, .int (ii (pl))), (6, .long (jj (key))), (8, .int (ii (low))), (9, .int (ii (high)))]) E dX6_unlike_219 rfl (by decide) rfl rfl ?_
                                      refine x_goto (tgt := 196) E dX6_unlike_222 (by decide) ?_
                                      refine x_st E (st' := (sF s11 (11) (zup (k2) (i) (k2 ((i) - (1)))))) (by refine Prod.ext (funext fun k9 => ?_) (funext fun q9 => ?_) <;> simp only [sG_1, sG_2, sA_1, sA_2, sF_1, sF_2, reduceIte] <;> (repeat' split) <;> first | rfl | omega | (subst_vars; first | rfl | omega) | simp_all) ?_
                                      refine x_lv E (lv' := [(0, .ref (ad 0)), (1, .int (ii ((r : Int)))), (2, .int (ii (m0))), (3, .int (ii (n0))), (4, .int (ii (mn))), (5, .int (ii (pl))), (6, .long (jj (key))), (8, .int (ii (low))), (9, .int (ii (high))), (10, .int (ii (i + (-1))))]) [1, 2, 3, 4, 5, 6, 7, 8, 9, 0] rfl ?_
                                      exact ih196 (i + (-1)) (zup (k2) (i) (k2 ((i) - (1)))) (by omega) (by omega) (fun j h0 h1 => by rw [zup_ne _ _ (by omega)]; exact w2 j h0 (by omega)) (fun j h0 h1 => if hj : j = i then (by rw [hj, zup_eq]; exact w2 (i - 1) (by omega) (by omega)) else (by rw [zup_ne _ _ hj]; exact w3 j (by omega) h1))
                                refine x_lv E (lv' := [(0, .ref (ad 0)), (1, .int (ii ((r : Int)))), (2, .int (ii (m0))), (3, .int (ii (n0))), (4, .int (ii (mn))), (5, .int (ii (pl))), (6, .long (jj (key))), (8, .int (ii (low))), (9, .int (ii (high))), (10, .int (ii (mn)))]) [1, 2, 3, 4, 5, 6, 7, 8, 9, 0] rfl ?_
                                exact L196 _ (mn) (ky) (Nat.lt_succ_self _) (by omega) (fun _ _ _ => rfl) (fun j h0 h1 => absurd h1 (by omega))
                          · refine x_iload (q := 136) E dX6_unlike_134 7 rfl rfl ?_
                            refine x_iload (q := 138) E dX6_unlike_136 8 rfl rfl ?_
                            refine x_iadd (q := 139) E dX6_unlike_138 rfl ?_
                            refine x_iconst (q := 140) E dX6_unlike_139 rfl ?_
                            refine x_idiv (q := 141) E dX6_unlike_140 (by omega) (by omega) (by omega) (by omega) rfl ?_
                            refine x_istore (q := 143) (lv' := [(10, .int (ii (((low) + (high)) / (2)))), (0, .ref (ad 0)), (1, .int (ii ((r : Int)))), (2, .int (ii (m0))), (3, .int (ii (n0))), (4, .int (ii (mn))), (5, .int (ii (pl))), (6, .long (jj (key))), (8, .int (ii (low))), (9, .int (ii (high)))]) E dX6_unlike_141 (by decide) rfl rfl ?_
                            have y1 := EK_bd (by omega) hS6 (a4.2.1 ((low + high) / 2) (by omega) (by omega))
                            refine x_aload_n (q := 144) E dX6_unlike_143 1 rfl rfl ?_
                            refine x_get (q := 147) E iX6_unlike_X6 (0) rfl rfl 19 (by decide) (by decide +kernel) rfl dX6_unlike_144 rfl ?_
                            refine x_iload (q := 149) E dX6_unlike_147 0 rfl rfl ?_
                            refine x_lald (q := 150) (f := (sF s11 (11) (ky)).2 (11)) E (12) rfl 2 rfl (by omega) (by omega) (by decide) dX6_unlike_149 rfl ?_
                            refine x_tl (show (sF s11 (11) (ky)).2 (11) (((low) + (high)) / (2)) = ky (((low) + (high)) / (2)) by rw [sF_s]) ?_
                            refine x_lload (q := 152) E dX6_unlike_150 7 rfl rfl ?_
                            refine x_lcmp (q := 153) E dX6_unlike_152 (by omega) (by omega) rfl ?_
                            refine x_if_ge (tgt := 165) (q := 156) E dX6_unlike_153 (by decide) rfl (by omega) (fun c153 => ?_) (fun c153 => ?_)
                            · refine x_iload (q := 167) E dX6_unlike_165 0 rfl rfl ?_
                              refine x_istore (q := 169) (lv' := [(9, .int (ii (((low) + (high)) / (2)))), (10, .int (ii (((low) + (high)) / (2)))), (0, .ref (ad 0)), (1, .int (ii ((r : Int)))), (2, .int (ii (m0))), (3, .int (ii (n0))), (4, .int (ii (mn))), (5, .int (ii (pl))), (6, .long (jj (key))), (8, .int (ii (low)))]) E dX6_unlike_167 (by decide) rfl rfl ?_
                              refine x_goto (tgt := 127) E dX6_unlike_169 (by decide) ?_
                              refine x_lv E (lv' := [(0, .ref (ad 0)), (1, .int (ii ((r : Int)))), (2, .int (ii (m0))), (3, .int (ii (n0))), (4, .int (ii (mn))), (5, .int (ii (pl))), (6, .long (jj (key))), (8, .int (ii (low))), (9, .int (ii (((low) + (high)) / (2))))]) [2, 3, 4, 5, 6, 7, 8, 9, 0] rfl ?_
                              exact ih127 (low) (((low) + (high)) / (2)) (by omega) (by omega) (m3) (fun x h0 h1 => by by_cases hx : x = (low + high) / 2; rw [hx]; omega; have z := a4.1 ((low + high) / 2) x (by omega) (by omega) h1; omega)
                            · refine x_iload (q := 158) E dX6_unlike_156 0 rfl rfl ?_
                              refine x_iconst (q := 159) E dX6_unlike_158 rfl ?_
                              refine x_iadd (q := 160) E dX6_unlike_159 rfl ?_
                              refine x_istore (q := 162) (lv' := [(8, .int (ii ((((low) + (high)) / (2)) + (1)))), (10, .int (ii (((low) + (high)) / (2)))), (0, .ref (ad 0)), (1, .int (ii ((r : Int)))), (2, .int (ii (m0))), (3, .int (ii (n0))), (4, .int (ii (mn))), (5, .int (ii (pl))), (6, .long (jj (key))), (9, .int (ii (high)))]) E dX6_unlike_160 (by decide) rfl rfl ?_
                              refine x_goto (tgt := 169) E dX6_unlike_162 (by decide) ?_
                              refine x_goto (tgt := 127) E dX6_unlike_169 (by decide) ?_
                              refine x_lv E (lv' := [(0, .ref (ad 0)), (1, .int (ii ((r : Int)))), (2, .int (ii (m0))), (3, .int (ii (n0))), (4, .int (ii (mn))), (5, .int (ii (pl))), (6, .long (jj (key))), (8, .int (ii ((((low) + (high)) / (2)) + (1)))), (9, .int (ii (high)))]) [2, 3, 4, 5, 6, 7, 8, 0, 9] rfl ?_
                              exact ih127 ((((low) + (high)) / (2)) + (1)) (high) (by omega) (by omega) (fun x h0 h1 => by by_cases hx : x = (low + high) / 2; rw [hx]; omega; have z := a4.1 x ((low + high) / 2) h0 (by omega) (by omega); omega) (m4)
                      refine x_lv E (lv' := [(0, .ref (ad 0)), (1, .int (ii ((r : Int)))), (2, .int (ii (m0))), (3, .int (ii (n0))), (4, .int (ii (mn))), (5, .int (ii (pl))), (6, .long (jj (key))), (8, .int (ii (0))), (9, .int (ii (mn)))]) [2, 3, 4, 5, 6, 7, 8, 1, 0] rfl ?_
                      exact L127 _ (0) (mn) (Nat.lt_succ_self _) (by omega) (fun x h0 h1 => absurd h1 (by omega)) (fun x h0 h1 => absurd h1 (by omega))
                    · have q0 := hS6 (pl + i) (by omega)
                      refine x_ldc2 (q := 97) (v := 7) (z := 7) E (by decide +kernel) (by decide) dX6_unlike_94 rfl ?_
                      refine x_lload (q := 99) E dX6_unlike_97 6 rfl rfl ?_
                      refine x_lmul (q := 100) E dX6_unlike_99 rfl ?_
                      refine x_aload_n (q := 101) E dX6_unlike_100 0 rfl rfl ?_
                      refine x_iload_n (q := 102) E dX6_unlike_101 1 rfl rfl ?_
                      refine x_iload (q := 104) E dX6_unlike_102 5 rfl rfl ?_
                      refine x_iload (q := 106) E dX6_unlike_104 7 rfl rfl ?_
                      refine x_iadd (q := 107) E dX6_unlike_106 rfl ?_
                      refine x_callVi (q := 110) (n := 2) (As := [.int (ii ((r : Int))), .int (ii ((pl) + (i)))]) (r := [.long (jj ((7) * (key)))]) E (c_X6_number l D T ad hN (sF s11 (11) (ky)) r hr ((pl) + (i)) (by omega) (by omega)) gX6_unlike_X6_number rfl rfl rfl (by decide +kernel) ⟨Nat.le_of_ble_eq_true rfl, Nat.le_of_ble_eq_true rfl⟩ (0) rfl rfl rfl rfl (Nat.le_of_ble_eq_true rfl) dX6_unlike_107 rfl (fun z17 s18 q19 => ?_)
                      obtain ⟨rfl, rfl⟩ := q19
                      refine x_ti (show (sF s11 (11) (ky)).2 (3 + r) ((pl) + (i)) = SQ (lta a) (nxn (a.1.1 0)) r (pl + i) from by first | exact hSq _ (by omega) (by omega) | (rw [sF_n _ _ (by omega)]; exact hSq _ (by omega) (by omega))) ?_
                      refine x_i2l (q := 111) E dX6_unlike_110 (by omega) rfl ?_
                      refine x_ladd (q := 112) E dX6_unlike_111 rfl ?_
                      refine x_lstore (q := 114) (lv' := [(6, .long (jj (((7) * (key)) + (SQ (lta a) (nxn (a.1.1 0)) r (pl + i))))), (0, .ref (ad 0)), (1, .int (ii ((r : Int)))), (2, .int (ii (m0))), (3, .int (ii (n0))), (4, .int (ii (mn))), (5, .int (ii (pl))), (8, .int (ii (i)))]) E dX6_unlike_112 (by decide) rfl rfl ?_
                      refine x_iinc (q := 117) (k := 7) (lv' := [(8, .int (ii (i + 1))), (6, .long (jj (((7) * (key)) + (SQ (lta a) (nxn (a.1.1 0)) r (pl + i))))), (0, .ref (ad 0)), (1, .int (ii ((r : Int)))), (2, .int (ii (m0))), (3, .int (ii (n0))), (4, .int (ii (mn))), (5, .int (ii (pl)))]) E dX6_unlike_114 rfl (by decide) rfl rfl ?_
                      refine x_goto (tgt := 88) E dX6_unlike_117 (by decide) ?_
                      refine x_lv E (lv' := [(0, .ref (ad 0)), (1, .int (ii ((r : Int)))), (2, .int (ii (m0))), (3, .int (ii (n0))), (4, .int (ii (mn))), (5, .int (ii (pl))), (6, .long (jj (((7) * (key)) + (SQ (lta a) (nxn (a.1.1 0)) r (pl + i))))), (8, .int (ii (i + 1)))]) [2, 3, 4, 5, 6, 7, 1, 0] rfl ?_
                      exact ih88 (((7) * (key)) + (SQ (lta a) (nxn (a.1.1 0)) r (pl + i))) (i + 1) (by omega) (by omega) (by rw [enc_s _ _ _ (by omega), ← d2]; omega)
                refine x_lv E (lv' := [(0, .ref (ad 0)), (1, .int (ii ((r : Int)))), (2, .int (ii (m0))), (3, .int (ii (n0))), (4, .int (ii (mn))), (5, .int (ii (pl))), (6, .long (jj (0))), (8, .int (ii (0)))]) [2, 3, 4, 5, 6, 7, 1, 0] rfl ?_
                exact L88 _ (0) (0) (Nat.lt_succ_self _) (by omega) (rfl)
          refine x_lv E (lv' := [(0, .ref (ad 0)), (1, .int (ii ((r : Int)))), (2, .int (ii (m0))), (3, .int (ii (n0))), (4, .int (ii (0))), (5, .int (ii (0)))]) [2, 3, 4, 5, 1, 0] rfl ?_
          refine x_st E (st' := (sF s11 (11) (s11.2 (11)))) (by refine Prod.ext (funext fun k9 => ?_) (funext fun q9 => ?_) <;> simp only [sG_1, sG_2, sA_1, sA_2, sF_1, sF_2, reduceIte] <;> (repeat' split) <;> first | rfl | omega | (subst_vars; first | rfl | omega) | simp_all) ?_
          exact L74 _ (0) (0) (s11.2 (11)) (Nat.lt_succ_self _) (by omega) ((unl_0 _ _ (by omega)).symm) (KS_iff (KS_0 _) (EK_0 _ _))
        · refine x_bipush (q := 49) E dX6_unlike_47 (by decide) rfl ?_
          exact RET _ _ _ _ dX6_unlike_49 (⟨by rw [if_pos (by omega), if_pos (by omega)], by rw [if_neg (by omega)]; exact hI⟩)
      · refine x_bipush (q := 37) E dX6_unlike_35 (by decide) rfl ?_
        exact RET _ _ _ _ dX6_unlike_37 (⟨by rw [if_neg (by omega)], by rw [if_neg (by omega)]; exact hI⟩)
  · exfalso; omega

set_option maxRecDepth 100000 in
set_option maxHeartbeats 4000000 in
theorem c_X6_unlike_n (l : Launch) (D : va_G) (T : Nat → ClassId) (ad : Nat → Nat) (hN : ∀ i j, i < 13 → j < 13 → ad i = ad j → i = j) (st : St_) (z0 : Int) (bz0 : -2147483648 ≤ z0 ∧ z0 < 2147483648) (m0 : Int) (bm0 : -2147483648 ≤ m0 ∧ m0 < 2147483648) (n0 : Int) (bn0 : -2147483648 ≤ n0 ∧ n0 < 2147483648) (hz : z0 < 0 ∨ st.1 0 ≤ z0) (a : AB_) (hI : MI st a) : CXi l yX6_unlike wsX6_unlike (rmX 2 46) [.ref (ad 0), .int (ii (z0)), .int (ii (m0)), .int (ii (n0))] D (tyX T) (MW T ad) (alM ad) st (fun z st2 => z = -101 ∧ MI st2 a) := by
  refine mk_i (cc := cX6_unlike) (nL := 11) rfl rfl (MW_ok hN) (Nat.le_of_ble_eq_true rfl) [(0, .ref (ad 0)), (1, .int (ii (z0))), (2, .int (ii (m0))), (3, .int (ii (n0)))] rfl (fun p e s m args below meth c A Q E RET => ?_)
  have k1 := hI.1
  have k2 := hI.2.1
  have k3 := hI.2.2.1
  have k4 := hI.2.2.2.1
  have k5 := hI.2.2.2.2.1
  have k6 := hI.2.2.2.2.2.1
  have k7 := hI.2.2.2.2.2.2.1
  have k8 := hI.2.2.2.2.2.2.2
  have hn := k7.2.1.1
  have hL := hI.len
  have hf := hI.lf
  have hf6 := hI.let6
  refine x_aload_n (q := 1) E dX6_unlike_0 0 rfl rfl ?_
  refine x_iload_n (q := 2) E dX6_unlike_1 1 rfl rfl ?_
  refine x_callVi (q := 5) (n := 1) (As := [.int (ii (z0))]) (r := []) E (c_X6_isRow l D T ad hN st (z0) (by omega) (hn)) gX6_unlike_X6_isRow rfl rfl rfl (by decide +kernel) ⟨Nat.le_of_ble_eq_true rfl, Nat.le_of_ble_eq_true rfl⟩ (0) rfl rfl rfl rfl (Nat.le_of_ble_eq_true rfl) dX6_unlike_2 rfl (fun z1 s2 q3 => ?_)
  obtain ⟨rfl, rfl⟩ := q3
  refine x_if_ne (tgt := 11) (q := 8) E dX6_unlike_5 (by decide) rfl (by omega) (fun c5 => ?_) (fun c5 => ?_)
  · exfalso; omega
  · refine x_bipush (q := 10) E dX6_unlike_8 (by decide) rfl ?_
    exact RET _ _ _ _ dX6_unlike_10 (⟨rfl, hI⟩)

