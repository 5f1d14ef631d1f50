theorem iX6_many_X6 : ∀ w ∈ wsX60, w ∈ wsX6_many := by decide +kernel
set_option maxRecDepth 100000 in
set_option maxHeartbeats 4000000 in
theorem c_X6_many (l : Launch) (D : va_G) (T : Nat → ClassId) (ad : Nat → Nat) (hN : ∀ i j, i < 13 → j < 13 → ad i = ad j → i = j) (st : St_) (n0 : Int) (bn0 : -2147483648 ≤ n0 ∧ n0 < 2147483648) (g0 : Int) (bg0 : -2147483648 ≤ g0 ∧ g0 < 2147483648) (a : AB_) (hI : MI st a) : CXi l yX6_many wsX6_many (rmX 2 47) [.ref (ad 0), .int (ii (n0)), .int (ii (g0))] D (tyX T) (MW T ad) (alM ad) st (fun z st2 => z = (if ((g0 = 2 ∧ 0 ≤ n0 ∧ n0 ≤ 14) ∨ (g0 = 3 ∧ 0 ≤ n0 ∧ n0 ≤ 9)) then (if 10 ≤ a.1.1 2 then -103 else EX g0 n0.toNat []) else -102) ∧ MI st2 (if ((g0 = 2 ∧ 0 ≤ n0 ∧ n0 ≤ 14) ∨ (g0 = 3 ∧ 0 ≤ n0 ∧ n0 ≤ 9)) ∧ a.1.1 2 < 10 then aM a else a)) := by
  refine mk_i (cc := cX6_many) (nL := 6) rfl rfl (MW_ok hN) (Nat.le_of_ble_eq_true rfl) [(0, .ref (ad 0)), (1, .int (ii (n0))), (2, .int (ii (g0)))] rfl (fun p e s m args below meth c A Q E RET => ?_)
  have k1 := hI.1
  have k2 := hI.2.1
  have k3 := hI.2.2.1
  have k4 := hI.2.2.2.1
  have k5 := hI.2.2.2.2.1
  have k6 := hI.2.2.2.2.2.1
  have k7 := hI.2.2.2.2.2.2.1
  have k8 := hI.2.2.2.2.2.2.2
  have hn := k7.2.1.1
  have hL := hI.len
  have hf := hI.lf
  have hf6 := hI.let6
  refine x_iload_n (q := 1) E dX6_many_0 2 rfl rfl ?_
  refine x_i2l (q := 2) E dX6_many_1 (by omega) rfl ?_
  refine x_ldc2 (q := 5) (v := 2) (z := 2) E (by decide +kernel) (by decide) dX6_many_2 rfl ?_
  refine x_ldc2 (q := 8) (v := 3) (z := 3) E (by decide +kernel) (by decide) dX6_many_5 rfl ?_
  refine x_callSi (q := 11) (n := 3) (As := [.long (jj (g0)), .long (jj (2)), .long (jj (3))]) (r := []) E (c_X6_in l D T ad hN st (g0) (2) (3) (by omega) (by omega) (by omega)) gX6_many_X6_in rfl rfl rfl (by decide +kernel) ⟨Nat.le_of_ble_eq_true rfl, Nat.le_of_ble_eq_true rfl⟩ rfl rfl (Nat.le_of_ble_eq_true rfl) dX6_many_8 rfl (fun z1 s2 q3 => ?_)
  obtain ⟨rfl, rfl⟩ := q3
  refine x_if_eq (tgt := 37) (q := 14) E dX6_many_11 (by decide) rfl (by omega) (fun c11 => ?_) (fun c11 => ?_)
  · refine x_bipush (q := 39) E dX6_many_37 (by decide) rfl ?_
    exact RET _ _ _ _ dX6_many_39 (⟨by rw [if_neg (by omega)], by rw [if_neg (by omega)]; exact hI⟩)
  · refine x_iload_n (q := 15) E dX6_many_14 1 rfl rfl ?_
    refine x_i2l (q := 16) E dX6_many_15 (by omega) rfl ?_
    refine x_lconst (q := 17) (z := 0) E dX6_many_16 (by decide) rfl ?_
    refine x_iload_n (q := 18) E dX6_many_17 2 rfl rfl ?_
    refine x_iconst (q := 19) E dX6_many_18 rfl ?_
    refine x_icmp_ne (tgt := 28) (q := 22) E dX6_many_19 (by decide) rfl (by omega) (by omega) (fun c19 => ?_) (fun c19 => ?_)
    · refine x_ldc2 (q := 31) (v := 9) (z := 9) E (by decide +kernel) (by decide) dX6_many_28 rfl ?_
      refine x_callSi (q := 34) (n := 3) (As := [.long (jj (n0)), .long (jj (0)), .long (jj (9))]) (r := []) E (c_X6_in l D T ad hN st (n0) (0) (9) (by omega) (by omega) (by omega)) gX6_many_X6_in rfl rfl rfl (by decide +kernel) ⟨Nat.le_of_ble_eq_true rfl, Nat.le_of_ble_eq_true rfl⟩ rfl rfl (Nat.le_of_ble_eq_true rfl) dX6_many_31 rfl (fun z4 s5 q6 => ?_)
      obtain ⟨rfl, rfl⟩ := q6
      refine x_if_ne (tgt := 40) (q := 37) E dX6_many_34 (by decide) rfl (by omega) (fun c34 => ?_) (fun c34 => ?_)
      · have u1 := k8.2.2.2.2.2.1
        have hg3 : g0 = 2 ∨ g0 = 3 := by omega
        refine x_aload_n (q := 41) E dX6_many_40 0 rfl rfl ?_
        refine x_get (q := 44) E iX6_many_X6 (0) rfl rfl 16 (by decide) (by decide +kernel) rfl dX6_many_41 rfl ?_
        refine x_bipush (q := 46) E dX6_many_44 (by decide) rfl ?_
        refine x_icmp_ne (tgt := 52) (q := 49) E dX6_many_46 (by decide) rfl (by omega) (by omega) (fun c46 => ?_) (fun c46 => ?_)
        · refine x_aload_n (q := 53) E dX6_many_52 0 rfl rfl ?_
          refine x_dup (q := 54) E dX6_many_53 rfl rfl ?_
          refine x_get (q := 57) E iX6_many_X6 (0) rfl rfl 16 (by decide) (by decide +kernel) rfl dX6_many_54 rfl ?_
          refine x_iconst (q := 58) E dX6_many_57 rfl ?_
          refine x_iadd (q := 59) E dX6_many_58 rfl ?_
          refine x_put (q := 62) (st' := (sG st (6) ((st.1 (6)) + (1)))) (v := .int (ii ((st.1 (6)) + (1)))) (ty := .int) E iX6_many_X6 tyX6 tyX6_ok nmX6 (0) rfl rfl 16 (by decide) (by decide +kernel) rfl (by decide +kernel) rfl rfl (Nat.le_of_ble_eq_true rfl) dX6_many_59 (ms_6 _) rfl ?_
          refine x_iload_n (q := 63) E dX6_many_62 1 rfl rfl ?_
          refine x_if_ne (tgt := 68) (q := 66) E dX6_many_63 (by decide) rfl (by omega) (fun c63 => ?_) (fun c63 => ?_)
          · refine x_iconst (q := 69) E dX6_many_68 rfl ?_
            refine x_istore_n (q := 70) (lv' := [(3, .int (ii (0))), (0, .ref (ad 0)), (1, .int (ii (n0))), (2, .int (ii (g0)))]) E dX6_many_69 (by decide) rfl rfl ?_
            refine x_iconst (q := 71) E dX6_many_70 rfl ?_
            refine x_istore (q := 73) (lv' := [(4, .int (ii (0))), (3, .int (ii (0))), (0, .ref (ad 0)), (1, .int (ii (n0))), (2, .int (ii (g0)))]) E dX6_many_71 (by decide) rfl rfl ?_
            refine x_aload_n (q := 74) E dX6_many_73 2 rfl rfl ?_
            refine x_get (q := 77) E iX6_many_X6 (0) rfl rfl 17 (by decide) (by decide +kernel) rfl dX6_many_74 rfl ?_
            refine x_iconst (q := 78) E dX6_many_77 rfl ?_
            refine x_iconst (q := 79) E dX6_many_78 rfl ?_
            refine x_iast (q := 80) (st' := (sA (sG st (6) ((st.1 (6)) + (1))) (10) (0) (0))) (f := (sG st (6) ((st.1 (6)) + (1))).2 (10)) E (11) rfl 0 rfl (by omega) (by omega) (by decide) dX6_many_79 (ma_10 _ _) rfl ?_
            have L80 : ∀ (n : Nat) (fd : Int) (at_ : Int) (k4 : Int) (k5 : Int) (f8 : Int → Int) (f9 : Int → Int) (f : Int → Int), (MU g0 n0 f (at_ + 1)).toNat < n → (-1 ≤ at_ ∧ at_ < n0) → (∀ i : Int, 0 ≤ i → i < at_ → 1 ≤ f i ∧ f i ≤ g0) → (0 ≤ at_ → 0 ≤ f at_ ∧ f at_ ≤ g0) → (fd + RQ g0 n0 f (at_ + 1) = EX g0 n0.toNat []) → XJ p l e (rmX 2 47) s m args below meth c D (MW T ad) A 6 Q 0 0 (sF (sF (sF (sG (sG (sG st (4) (k4)) (5) (k5)) (6) ((st.1 (6)) + (1))) (10) (f)) (8) (f8)) (9) (f9)) 80 [(0, .ref (ad 0)), (1, .int (ii (n0))), (2, .int (ii (g0))), (3, .int (ii (fd))), (4, .int (ii (at_)))] [] := by
              intro n
              induction n with
              | zero => intro fd at_ k4 k5 f8 f9 f hn; exact absurd hn (Nat.not_lt_zero _)
              | succ n ih80 =>
                intro fd at_ k4 k5 f8 f9 f hn80 c1 c2 c3 c4
                refine x_iload (q := 82) E dX6_many_80 4 rfl rfl ?_
                refine x_if_lt (tgt := 188) (q := 85) E dX6_many_82 (by decide) rfl (by omega) (fun c82 => ?_) (fun c82 => ?_)
                · refine x_iload_n (q := 189) E dX6_many_188 3 rfl rfl ?_
                  exact RET _ _ _ _ dX6_many_189 (⟨by rw [if_pos (by omega), if_neg (by omega), ← c4, show at_ + 1 = 0 from by omega]; exact (Int.add_zero _).symm, by rw [if_pos (by omega)]; exact MI_same (MI_M hI (by omega)) (fun j hj => by rw [sF_1, sF_1, sF_1, sG_n _ _ (by omega), sG_n _ _ (by omega), sG_n _ _ (by omega), sG_n _ _ (by omega)]) ⟨by rw [sF_1, sF_1, sF_1, sG_s, sG_s], by rw [sF_1, sF_1, sF_1, sG_n _ _ (by omega), sG_n _ _ (by omega), sG_n _ _ (by omega), sG_n _ _ (by omega)]⟩ (fun q hq => by rw [sF_n _ _ (by omega), sF_n _ _ (by omega), sF_n _ _ (by omega), sG_2, sG_2, sG_2, sG_2])⟩)
                · refine x_aload_n (q := 86) E dX6_many_85 0 rfl rfl ?_
                  refine x_get (q := 89) E iX6_many_X6 (0) rfl rfl 17 (by decide) (by decide +kernel) rfl dX6_many_86 rfl ?_
                  refine x_iload (q := 91) E dX6_many_89 4 rfl rfl ?_
                  refine x_dup2 (q := 92) E dX6_many_91 rfl rfl rfl ?_
                  refine x_iald (q := 93) (f := (sF (sF (sF (sG (sG (sG st (4) (k4)) (5) (k5)) (6) ((st.1 (6)) + (1))) (10) (f)) (8) (f8)) (9) (f9)).2 (10)) E (11) rfl 0 rfl (by omega) (by omega) (by decide) dX6_many_92 rfl ?_
                  refine x_ti (show (sF (sF (sF (sG (sG (sG st (4) (k4)) (5) (k5)) (6) ((st.1 (6)) + (1))) (10) (f)) (8) (f8)) (9) (f9)).2 (10) (at_) = f (at_) by rw [sF_n _ _ (by omega), sF_n _ _ (by omega), sF_s]) ?_
                  refine x_iconst (q := 94) E dX6_many_93 rfl ?_
                  refine x_iadd (q := 95) E dX6_many_94 rfl ?_
                  refine x_iast (q := 96) (st' := (sA (sF (sF (sF (sG (sG (sG st (4) (k4)) (5) (k5)) (6) ((st.1 (6)) + (1))) (10) (f)) (8) (f8)) (9) (f9)) (10) (at_) ((f (at_)) + (1)))) (f := (sF (sF (sF (sG (sG (sG st (4) (k4)) (5) (k5)) (6) ((st.1 (6)) + (1))) (10) (f)) (8) (f8)) (9) (f9)).2 (10)) E (11) rfl 0 rfl (by omega) (by omega) (by decide) dX6_many_95 (ma_10 _ _) rfl ?_
                  refine x_aload_n (q := 97) E dX6_many_96 0 rfl rfl ?_
                  refine x_get (q := 100) E iX6_many_X6 (0) rfl rfl 17 (by decide) (by decide +kernel) rfl dX6_many_97 rfl ?_
                  refine x_iload (q := 102) E dX6_many_100 4 rfl rfl ?_
                  refine x_iald (q := 103) (f := (sA (sF (sF (sF (sG (sG (sG st (4) (k4)) (5) (k5)) (6) ((st.1 (6)) + (1))) (10) (f)) (8) (f8)) (9) (f9)) (10) (at_) ((f (at_)) + (1))).2 (10)) E (11) rfl 0 rfl (by omega) (by omega) (by decide) dX6_many_102 rfl ?_
                  refine x_ti (show (sA (sF (sF (sF (sG (sG (sG st (4) (k4)) (5) (k5)) (6) ((st.1 (6)) + (1))) (10) (f)) (8) (f8)) (9) (f9)) (10) (at_) ((f (at_)) + (1))).2 (10) (at_) = (zup (f) (at_) ((f (at_)) + (1))) (at_) by rw [sA_s, sF_n _ _ (by omega), sF_n _ _ (by omega), sF_s]) ?_
                  refine x_ti (show (zup (f) (at_) ((f (at_)) + (1))) (at_) = f at_ + 1 from zup_eq _ _ _) ?_
                  refine x_iload_n (q := 104) E dX6_many_103 2 rfl rfl ?_
                  refine x_icmp_le (tgt := 113) (q := 107) E dX6_many_104 (by decide) rfl (by omega) (by omega) (fun c104 => ?_) (fun c104 => ?_)
                  · have y1 := mu_in (g := g0) (n := n0) (f := f) (k := at_) (by omega) (fun i i0 i1 => (c2 i i0 i1).2) (by omega)
                    have y2 := rq_in (n := n0) hg3 (f := f) (k := at_) (by omega) (by omega) (by omega)
                    have y3 : ∀ i : Int, 0 ≤ i → i < at_ + 1 → 1 ≤ (zup f at_ (f at_ + 1)) i ∧ (zup f at_ (f at_ + 1)) i ≤ g0 := fun i i0 i1 => if hi : i = at_ then (by rw [hi, zup_eq]; omega) else (by rw [zup_ne _ _ hi]; exact c2 i i0 (by omega))
                    refine x_aload_n (q := 114) E dX6_many_113 0 rfl rfl ?_
                    refine x_iload (q := 116) E dX6_many_114 4 rfl rfl ?_
                    refine x_iconst (q := 117) E dX6_many_116 rfl ?_
                    refine x_iadd (q := 118) E dX6_many_117 rfl ?_
                    refine x_put (q := 121) (st' := (sG (sA (sF (sF (sF (sG (sG (sG st (4) (k4)) (5) (k5)) (6) ((st.1 (6)) + (1))) (10) (f)) (8) (f8)) (9) (f9)) (10) (at_) ((f (at_)) + (1))) (4) ((at_) + (1)))) (v := .int (ii ((at_) + (1)))) (ty := .int) E iX6_many_X6 tyX6 tyX6_ok nmX6 (0) rfl rfl 13 (by decide) (by decide +kernel) rfl (by decide +kernel) rfl rfl (Nat.le_of_ble_eq_true rfl) dX6_many_118 (ms_4 _) rfl ?_
                    refine x_iconst (q := 122) E dX6_many_121 rfl ?_
                    refine x_istore (q := 124) (lv' := [(5, .int (ii (0))), (0, .ref (ad 0)), (1, .int (ii (n0))), (2, .int (ii (g0))), (3, .int (ii (fd))), (4, .int (ii (at_)))]) E dX6_many_122 (by decide) rfl rfl ?_
                    have L124 : ∀ (n : Nat) (i : Int) (h8 : Int → Int), (at_ + 1 - i).toNat < n → (0 ≤ i ∧ i ≤ at_ + 1) → (∀ j : Int, 0 ≤ j → j < i → h8 j = (zup f at_ (f at_ + 1)) j) → XJ p l e (rmX 2 47) s m args below meth c D (MW T ad) A 6 Q 0 0 (sF (sF (sF (sG (sG (sG st (4) ((at_) + (1))) (5) (k5)) (6) ((st.1 (6)) + (1))) (10) (zup (f) (at_) ((f (at_)) + (1)))) (8) (h8)) (9) (f9)) 124 [(0, .ref (ad 0)), (1, .int (ii (n0))), (2, .int (ii (g0))), (3, .int (ii (fd))), (4, .int (ii (at_))), (5, .int (ii (i)))] [] := by
                      intro n
                      induction n with
                      | zero => intro i h8 hn; exact absurd hn (Nat.not_lt_zero _)
                      | succ n ih124 =>
                        intro i h8 hn124 d1 d2
                        refine x_iload (q := 126) E dX6_many_124 5 rfl rfl ?_
                        refine x_iload (q := 128) E dX6_many_126 4 rfl rfl ?_
                        refine x_icmp_gt (tgt := 151) (q := 131) E dX6_many_128 (by decide) rfl (by omega) (by omega) (fun c128 => ?_) (fun c128 => ?_)
                        · have y4 : i = at_ + 1 := by omega
                          rw [y4] at d2
                          refine x_aload_n (q := 152) E dX6_many_151 0 rfl rfl ?_
                          refine x_iload_n (q := 153) E dX6_many_152 2 rfl rfl ?_
                          refine x_callVi (q := 156) (n := 1) (As := [.int (ii (g0))]) (r := []) E (c_X6_depthOf l D T ad hN (sF (sF (sF (sG (sG (sG st (4) ((at_) + (1))) (5) (k5)) (6) ((st.1 (6)) + (1))) (10) (zup (f) (at_) ((f (at_)) + (1)))) (8) (h8)) (9) (f9)) (g0) (by omega) (by rw [sF_1, sF_1, sF_1, sG_n _ _ (by omega), sG_n _ _ (by omega), sG_s]; omega) (by rw [sF_n _ _ (by omega), sF_s, sF_1, sF_1, sF_1, sG_n _ _ (by omega), sG_n _ _ (by omega), sG_s]; intro j j0 j1; rw [d2 j j0 (by omega)]; have y := y3 j j0 (by omega); omega) (by omega)) gX6_many_X6_depthOf rfl rfl rfl (by decide +kernel) ⟨Nat.le_of_ble_eq_true rfl, Nat.le_of_ble_eq_true rfl⟩ (0) rfl rfl rfl rfl (Nat.le_of_ble_eq_true rfl) dX6_many_153 rfl (fun z7 s8 q9 => ?_)
                          obtain ⟨k10, k511, f12, t13, rfl, h114, h215, h316⟩ := q9
                          have y5 := h114
                          rw [sF_n _ _ (by omega), sF_s, sF_1, sF_1, sF_1, sG_n _ _ (by omega), sG_n _ _ (by omega), sG_s] at y5
                          have y6 : z7 = dpt g0 (wl (zup f at_ (f at_ + 1)) (at_ + 1)) := by rw [y5]; exact congrArg _ (wl_congr (fun j j0 j1 => d2 j j0 (by omega)))
                          refine x_iconst (q := 157) E dX6_many_156 rfl ?_
                          refine x_icmp_eq (tgt := 80) (q := 160) E dX6_many_157 (by decide) rfl (by omega) (by omega) (fun c157 => ?_) (fun c157 => ?_)
                          · refine x_st E (st' := (sF (sF (sF (sG (sG (sG st (4) (k10)) (5) (k511)) (6) ((st.1 (6)) + (1))) (10) (zup (f) (at_) ((f (at_)) + (1)))) (8) (f12)) (9) (t13))) (by refine Prod.ext (funext fun k9 => ?_) (funext fun q9 => ?_) <;> simp only [sG_1, sG_2, sA_1, sA_2, sF_1, sF_2, reduceIte] <;> (repeat' split) <;> first | rfl | omega | (subst_vars; first | rfl | omega) | simp_all) ?_
                            refine x_lv E (lv' := [(0, .ref (ad 0)), (1, .int (ii (n0))), (2, .int (ii (g0))), (3, .int (ii (fd))), (4, .int (ii (at_)))]) [0, 1, 2, 3, 4] rfl ?_
                            exact ih80 (fd) (at_) (k10) (k511) (f12) (t13) (zup (f) (at_) ((f (at_)) + (1))) (by have y := pw5_pos (n0 - at_).toNat; omega) (by omega) (fun i i0 i1 => (y3 i i0 (by omega))) (fun h => by have y := y3 at_ (by omega) (by omega); omega) (by rw [EX_bad (by omega) _ _ (by rw [← y6]; omega), Int.zero_add] at y2; rw [← y2]; exact c4)
                          · refine x_iload (q := 162) E dX6_many_160 4 rfl rfl ?_
                            refine x_iload_n (q := 163) E dX6_many_162 1 rfl rfl ?_
                            refine x_iconst (q := 164) E dX6_many_163 rfl ?_
                            refine x_isub (q := 165) E dX6_many_164 rfl ?_
                            refine x_icmp_ne (tgt := 174) (q := 168) E dX6_many_165 (by decide) rfl (by omega) (by omega) (fun c165 => ?_) (fun c165 => ?_)
                            · refine x_iinc (q := 177) (k := 4) (lv' := [(4, .int (ii (at_ + 1))), (0, .ref (ad 0)), (1, .int (ii (n0))), (2, .int (ii (g0))), (3, .int (ii (fd))), (5, .int (ii (i)))]) E dX6_many_174 rfl (by decide) rfl rfl ?_
                              refine x_aload_n (q := 178) E dX6_many_177 1 rfl rfl ?_
                              refine x_get (q := 181) E iX6_many_X6 (0) rfl rfl 17 (by decide) (by decide +kernel) rfl dX6_many_178 rfl ?_
                              refine x_iload (q := 183) E dX6_many_181 0 rfl rfl ?_
                              refine x_iconst (q := 184) E dX6_many_183 rfl ?_
                              refine x_iast (q := 185) (st' := (sA (sF (sF (sG (sG (sF (sF (sF (sG (sG (sG st (4) ((at_) + (1))) (5) (k5)) (6) ((st.1 (6)) + (1))) (10) (zup (f) (at_) ((f (at_)) + (1)))) (8) (h8)) (9) (f9)) (4) (k10)) (5) (k511)) (8) (f12)) (9) (t13)) (10) (at_ + 1) (0))) (f := (sF (sF (sG (sG (sF (sF (sF (sG (sG (sG st (4) ((at_) + (1))) (5) (k5)) (6) ((st.1 (6)) + (1))) (10) (zup (f) (at_) ((f (at_)) + (1)))) (8) (h8)) (9) (f9)) (4) (k10)) (5) (k511)) (8) (f12)) (9) (t13)).2 (10)) E (11) rfl 0 rfl (by omega) (by omega) (by decide) dX6_many_184 (ma_10 _ _) rfl ?_
                              refine x_goto (tgt := 80) E dX6_many_185 (by decide) ?_
                              refine x_st E (st' := (sF (sF (sF (sG (sG (sG st (4) (k10)) (5) (k511)) (6) ((st.1 (6)) + (1))) (10) (zup (zup (f) (at_) ((f (at_)) + (1))) (at_ + 1) (0))) (8) (f12)) (9) (t13))) (by refine Prod.ext (funext fun k9 => ?_) (funext fun q9 => ?_) <;> simp only [sG_1, sG_2, sA_1, sA_2, sF_1, sF_2, reduceIte] <;> (repeat' split) <;> first | rfl | omega | (subst_vars; first | rfl | omega) | simp_all) ?_
                              refine x_lv E (lv' := [(0, .ref (ad 0)), (1, .int (ii (n0))), (2, .int (ii (g0))), (3, .int (ii (fd))), (4, .int (ii (at_ + 1)))]) [1, 2, 3, 4, 0] rfl ?_
                              exact ih80 (fd) (at_ + 1) (k10) (k511) (f12) (t13) (zup (zup (f) (at_) ((f (at_)) + (1))) (at_ + 1) (0)) (by have y := mu_dn (g := g0) (n := n0) (f := (zup f at_ (f at_ + 1))) (k := at_) (by omega) (by omega); omega) (by omega) (fun i i0 i1 => by rw [zup_ne _ _ (by omega)]; exact y3 i i0 (by omega)) (fun h => by rw [zup_eq]; omega) (by rw [rq_dn (g := g0) (n := n0) (f := (zup f at_ (f at_ + 1))) (k := at_) (by omega)]; omega)
                            · refine x_iinc (q := 171) (k := 3) (lv' := [(3, .int (ii (fd + 1))), (0, .ref (ad 0)), (1, .int (ii (n0))), (2, .int (ii (g0))), (4, .int (ii (at_))), (5, .int (ii (i)))]) E dX6_many_168 rfl (by decide) rfl rfl ?_
                              refine x_goto (tgt := 80) E dX6_many_171 (by decide) ?_
                              refine x_st E (st' := (sF (sF (sF (sG (sG (sG st (4) (k10)) (5) (k511)) (6) ((st.1 (6)) + (1))) (10) (zup (f) (at_) ((f (at_)) + (1)))) (8) (f12)) (9) (t13))) (by refine Prod.ext (funext fun k9 => ?_) (funext fun q9 => ?_) <;> simp only [sG_1, sG_2, sA_1, sA_2, sF_1, sF_2, reduceIte] <;> (repeat' split) <;> first | rfl | omega | (subst_vars; first | rfl | omega) | simp_all) ?_
                              refine x_lv E (lv' := [(0, .ref (ad 0)), (1, .int (ii (n0))), (2, .int (ii (g0))), (3, .int (ii (fd + 1))), (4, .int (ii (at_)))]) [1, 2, 3, 0, 4] rfl ?_
                              exact ih80 (fd + 1) (at_) (k10) (k511) (f12) (t13) (zup (f) (at_) ((f (at_)) + (1))) (by have y := pw5_pos (n0 - at_).toNat; omega) (by omega) (fun i i0 i1 => (y3 i i0 (by omega))) (fun h => by have y := y3 at_ (by omega) (by omega); omega) (by rw [show (n0 - 1 - at_).toNat = 0 from by omega, EX_0, if_neg (by rw [← y6]; omega)] at y2; omega)
                        · refine x_aload_n (q := 132) E dX6_many_131 0 rfl rfl ?_
                          refine x_get (q := 135) E iX6_many_X6 (0) rfl rfl 12 (by decide) (by decide +kernel) rfl dX6_many_132 rfl ?_
                          refine x_iload (q := 137) E dX6_many_135 5 rfl rfl ?_
                          refine x_aload_n (q := 138) E dX6_many_137 0 rfl rfl ?_
                          refine x_get (q := 141) E iX6_many_X6 (0) rfl rfl 17 (by decide) (by decide +kernel) rfl dX6_many_138 rfl ?_
                          refine x_iload (q := 143) E dX6_many_141 5 rfl rfl ?_
                          refine x_iald (q := 144) (f := (sF (sF (sF (sG (sG (sG st (4) ((at_) + (1))) (5) (k5)) (6) ((st.1 (6)) + (1))) (10) (zup (f) (at_) ((f (at_)) + (1)))) (8) (h8)) (9) (f9)).2 (10)) E (11) rfl 0 rfl (by omega) (by omega) (by decide) dX6_many_143 rfl ?_
                          refine x_ti (show (sF (sF (sF (sG (sG (sG st (4) ((at_) + (1))) (5) (k5)) (6) ((st.1 (6)) + (1))) (10) (zup (f) (at_) ((f (at_)) + (1)))) (8) (h8)) (9) (f9)).2 (10) (i) = (zup (f) (at_) ((f (at_)) + (1))) (i) by rw [sF_n _ _ (by omega), sF_n _ _ (by omega), sF_s]) ?_
                          refine x_iast (q := 145) (st' := (sA (sF (sF (sF (sG (sG (sG st (4) ((at_) + (1))) (5) (k5)) (6) ((st.1 (6)) + (1))) (10) (zup (f) (at_) ((f (at_)) + (1)))) (8) (h8)) (9) (f9)) (8) (i) ((zup (f) (at_) ((f (at_)) + (1))) (i)))) (f := (sF (sF (sF (sG (sG (sG st (4) ((at_) + (1))) (5) (k5)) (6) ((st.1 (6)) + (1))) (10) (zup (f) (at_) ((f (at_)) + (1)))) (8) (h8)) (9) (f9)).2 (8)) E (9) rfl 0 rfl (by omega) (by omega) (by decide) dX6_many_144 (ma_8 _ _) rfl ?_
                          refine x_iinc (q := 148) (k := 5) (lv' := [(5, .int (ii (i + 1))), (0, .ref (ad 0)), (1, .int (ii (n0))), (2, .int (ii (g0))), (3, .int (ii (fd))), (4, .int (ii (at_)))]) E dX6_many_145 rfl (by decide) rfl rfl ?_
                          refine x_goto (tgt := 124) E dX6_many_148 (by decide) ?_
                          refine x_st E (st' := (sF (sF (sF (sG (sG (sG st (4) ((at_) + (1))) (5) (k5)) (6) ((st.1 (6)) + (1))) (10) (zup (f) (at_) ((f (at_)) + (1)))) (8) (zup (h8) (i) ((zup (f) (at_) ((f (at_)) + (1))) (i)))) (9) (f9))) (by refine Prod.ext (funext fun k9 => ?_) (funext fun q9 => ?_) <;> simp only [sG_1, sG_2, sA_1, sA_2, sF_1, sF_2, reduceIte] <;> (repeat' split) <;> first | rfl | omega | (subst_vars; first | rfl | omega) | simp_all) ?_
                          refine x_lv E (lv' := [(0, .ref (ad 0)), (1, .int (ii (n0))), (2, .int (ii (g0))), (3, .int (ii (fd))), (4, .int (ii (at_))), (5, .int (ii (i + 1)))]) [1, 2, 3, 4, 5, 0] rfl ?_
                          exact ih124 (i + 1) (zup (h8) (i) ((zup (f) (at_) ((f (at_)) + (1))) (i))) (by omega) (by omega) (fun j j0 j1 => if hj : j = i then (by rw [hj, zup_eq]) else (by rw [zup_ne _ _ hj]; exact d2 j j0 (by omega)))
                    refine x_lv E (lv' := [(0, .ref (ad 0)), (1, .int (ii (n0))), (2, .int (ii (g0))), (3, .int (ii (fd))), (4, .int (ii (at_))), (5, .int (ii (0)))]) [1, 2, 3, 4, 5, 0] rfl ?_
                    refine x_st E (st' := (sF (sF (sF (sG (sG (sG st (4) ((at_) + (1))) (5) (k5)) (6) ((st.1 (6)) + (1))) (10) (zup (f) (at_) ((f (at_)) + (1)))) (8) (f8)) (9) (f9))) (by refine Prod.ext (funext fun k9 => ?_) (funext fun q9 => ?_) <;> simp only [sG_1, sG_2, sA_1, sA_2, sF_1, sF_2, reduceIte] <;> (repeat' split) <;> first | rfl | omega | (subst_vars; first | rfl | omega) | simp_all) ?_
                    exact L124 _ (0) (f8) (Nat.lt_succ_self _) (by omega) (fun j j0 j1 => absurd j1 (by omega))
                  · refine x_iinc (q := 110) (k := 4) (lv' := [(4, .int (ii (at_ + (-1)))), (0, .ref (ad 0)), (1, .int (ii (n0))), (2, .int (ii (g0))), (3, .int (ii (fd)))]) E dX6_many_107 rfl (by decide) rfl rfl ?_
                    refine x_goto (tgt := 80) E dX6_many_110 (by decide) ?_
                    refine x_st E (st' := (sF (sF (sF (sG (sG (sG st (4) (k4)) (5) (k5)) (6) ((st.1 (6)) + (1))) (10) (zup (f) (at_) ((f (at_)) + (1)))) (8) (f8)) (9) (f9))) (by refine Prod.ext (funext fun k9 => ?_) (funext fun q9 => ?_) <;> simp only [sG_1, sG_2, sA_1, sA_2, sF_1, sF_2, reduceIte] <;> (repeat' split) <;> first | rfl | omega | (subst_vars; first | rfl | omega) | simp_all) ?_
                    refine x_lv E (lv' := [(0, .ref (ad 0)), (1, .int (ii (n0))), (2, .int (ii (g0))), (3, .int (ii (fd))), (4, .int (ii (at_ + (-1))))]) [1, 2, 3, 4, 0] rfl ?_
                    exact ih80 (fd) (at_ + (-1)) (k4) (k5) (f8) (f9) (zup (f) (at_) ((f (at_)) + (1))) (by have y := mu_in (g := g0) (n := n0) (f := f) (k := at_) (by omega) (fun i i0 i1 => (c2 i i0 i1).2) (by omega); rw [show at_ + (-1) + 1 = at_ from by omega, MU_zup _ _ _ _ (Int.le_refl at_)]; omega) (by omega) (fun i i0 i1 => by rw [zup_ne _ _ (by omega)]; exact c2 i i0 (by omega)) (fun h => by rw [zup_ne _ _ (by omega)]; have y := c2 (at_ + (-1)) (by omega) (by omega); omega) (by rw [show at_ + (-1) + 1 = at_ from by omega, ← rq_up (n := n0) hg3 (f := f) (k := at_) (by omega) (by omega)]; exact c4)
            refine x_lv E (lv' := [(0, .ref (ad 0)), (1, .int (ii (n0))), (2, .int (ii (g0))), (3, .int (ii (0))), (4, .int (ii (0)))]) [2, 3, 4, 1, 0] rfl ?_
            refine x_st E (st' := (sF (sF (sF (sG (sG (sG st (4) (st.1 (4))) (5) (st.1 (5))) (6) ((st.1 (6)) + (1))) (10) (zup (st.2 (10)) (0) (0))) (8) (st.2 (8))) (9) (st.2 (9)))) (by refine Prod.ext (funext fun k9 => ?_) (funext fun q9 => ?_) <;> simp only [sG_1, sG_2, sA_1, sA_2, sF_1, sF_2, reduceIte] <;> (repeat' split) <;> first | rfl | omega | (subst_vars; first | rfl | omega) | simp_all) ?_
            exact L80 _ (0) (0) (st.1 (4)) (st.1 (5)) (st.2 (8)) (st.2 (9)) (zup (st.2 (10)) (0) (0)) (Nat.lt_succ_self _) (by omega) (fun i i0 i1 => absurd i1 (by omega)) (fun _ => by rw [zup_eq]; omega) (by rw [show (0 : Int) + 1 = 1 from rfl, rq_0 _ (by omega) (zup_eq _ _ _), Int.zero_add])
          · refine x_iconst (q := 67) E dX6_many_66 rfl ?_
            exact RET _ _ _ _ dX6_many_67 (⟨by rw [if_pos (by omega), if_neg (by omega), show n0 = 0 from by omega]; show (1 : Int) = EX g0 0 []; rw [EX_0, dpt_0]; rfl, by rw [if_pos (by omega)]; exact MI_M hI (by omega)⟩)
        · refine x_bipush (q := 51) E dX6_many_49 (by decide) rfl ?_
          exact RET _ _ _ _ dX6_many_51 (⟨by rw [if_pos (by omega), if_pos (by omega)], by rw [if_neg (by omega)]; exact hI⟩)
      · refine x_bipush (q := 39) E dX6_many_37 (by decide) rfl ?_
        exact RET _ _ _ _ dX6_many_39 (⟨by rw [if_neg (by omega)], by rw [if_neg (by omega)]; exact hI⟩)
    · refine x_ldc2 (q := 25) (v := 14) (z := 14) E (by decide +kernel) (by decide) dX6_many_22 rfl ?_
      refine x_goto (tgt := 31) E dX6_many_25 (by decide) ?_
      refine x_callSi (q := 34) (n := 3) (As := [.long (jj (n0)), .long (jj (0)), .long (jj (14))]) (r := []) E (c_X6_in l D T ad hN st (n0) (0) (14) (by omega) (by omega) (by omega)) gX6_many_X6_in rfl rfl rfl (by decide +kernel) ⟨Nat.le_of_ble_eq_true rfl, Nat.le_of_ble_eq_true rfl⟩ rfl rfl (Nat.le_of_ble_eq_true rfl) dX6_many_31 rfl (fun z17 s18 q19 => ?_)
      obtain ⟨rfl, rfl⟩ := q19
      refine x_if_ne (tgt := 40) (q := 37) E dX6_many_34 (by decide) rfl (by omega) (fun c34 => ?_) (fun c34 => ?_)
      · have u1 := k8.2.2.2.2.2.1
        have hg3 : g0 = 2 ∨ g0 = 3 := by omega
        refine x_aload_n (q := 41) E dX6_many_40 0 rfl rfl ?_
        refine x_get (q := 44) E iX6_many_X6 (0) rfl rfl 16 (by decide) (by decide +kernel) rfl dX6_many_41 rfl ?_
        refine x_bipush (q := 46) E dX6_many_44 (by decide) rfl ?_
        refine x_icmp_ne (tgt := 52) (q := 49) E dX6_many_46 (by decide) rfl (by omega) (by omega) (fun c46 => ?_) (fun c46 => ?_)
        · refine x_aload_n (q := 53) E dX6_many_52 0 rfl rfl ?_
          refine x_dup (q := 54) E dX6_many_53 rfl rfl ?_
          refine x_get (q := 57) E iX6_many_X6 (0) rfl rfl 16 (by decide) (by decide +kernel) rfl dX6_many_54 rfl ?_
          refine x_iconst (q := 58) E dX6_many_57 rfl ?_
          refine x_iadd (q := 59) E dX6_many_58 rfl ?_
          refine x_put (q := 62) (st' := (sG st (6) ((st.1 (6)) + (1)))) (v := .int (ii ((st.1 (6)) + (1)))) (ty := .int) E iX6_many_X6 tyX6 tyX6_ok nmX6 (0) rfl rfl 16 (by decide) (by decide +kernel) rfl (by decide +kernel) rfl rfl (Nat.le_of_ble_eq_true rfl) dX6_many_59 (ms_6 _) rfl ?_
          refine x_iload_n (q := 63) E dX6_many_62 1 rfl rfl ?_
          refine x_if_ne (tgt := 68) (q := 66) E dX6_many_63 (by decide) rfl (by omega) (fun c63 => ?_) (fun c63 => ?_)
          · refine x_iconst (q := 69) E dX6_many_68 rfl ?_
            refine x_istore_n (q := 70) (lv' := [(3, .int (ii (0))), (0, .ref (ad 0)), (1, .int (ii (n0))), (2, .int (ii (g0)))]) E dX6_many_69 (by decide) rfl rfl ?_
            refine x_iconst (q := 71) E dX6_many_70 rfl ?_
            refine x_istore (q := 73) (lv' := [(4, .int (ii (0))), (3, .int (ii (0))), (0, .ref (ad 0)), (1, .int (ii (n0))), (2, .int (ii (g0)))]) E dX6_many_71 (by decide) rfl rfl ?_
            refine x_aload_n (q := 74) E dX6_many_73 2 rfl rfl ?_
            refine x_get (q := 77) E iX6_many_X6 (0) rfl rfl 17 (by decide) (by decide +kernel) rfl dX6_many_74 rfl ?_
            refine x_iconst (q := 78) E dX6_many_77 rfl ?_
            refine x_iconst (q := 79) E dX6_many_78 rfl ?_
            refine x_iast (q := 80) (st' := (sA (sG st (6) ((st.1 (6)) + (1))) (10) (0) (0))) (f := (sG st (6) ((st.1 (6)) + (1))).2 (10)) E (11) rfl 0 rfl (by omega) (by omega) (by decide) dX6_many_79 (ma_10 _ _) rfl ?_
            have L80 : ∀ (n : Nat) (fd : Int) (at_ : Int) (k4 : Int) (k5 : Int) (f8 : Int → Int) (f9 : Int → Int) (f : Int → Int), (MU g0 n0 f (at_ + 1)).toNat < n → (-1 ≤ at_ ∧ at_ < n0) → (∀ i : Int, 0 ≤ i → i < at_ → 1 ≤ f i ∧ f i ≤ g0) → (0 ≤ at_ → 0 ≤ f at_ ∧ f at_ ≤ g0) → (fd + RQ g0 n0 f (at_ + 1) = EX g0 n0.toNat []) → XJ p l e (rmX 2 47) s m args below meth c D (MW T ad) A 6 Q 0 0 (sF (sF (sF (sG (sG (sG st (4) (k4)) (5) (k5)) (6) ((st.1 (6)) + (1))) (10) (f)) (8) (f8)) (9) (f9)) 80 [(0, .ref (ad 0)), (1, .int (ii (n0))), (2, .int (ii (g0))), (3, .int (ii (fd))), (4, .int (ii (at_)))] [] := by
              intro n
              induction n with
              | zero => intro fd at_ k4 k5 f8 f9 f hn; exact absurd hn (Nat.not_lt_zero _)
              | succ n ih80 =>
                intro fd at_ k4 k5 f8 f9 f hn80 c1 c2 c3 c4
                refine x_iload (q := 82) E dX6_many_80 4 rfl rfl ?_
                refine x_if_lt (tgt := 188) (q := 85) E dX6_many_82 (by decide) rfl (by omega) (fun c82 => ?_) (fun c82 => ?_)
                · refine x_iload_n (q := 189) E dX6_many_188 3 rfl rfl ?_
                  exact RET _ _ _ _ dX6_many_189 (⟨by rw [if_pos (by omega), if_neg (by omega), ← c4, show at_ + 1 = 0 from by omega]; exact (Int.add_zero _).symm, by rw [if_pos (by omega)]; exact MI_same (MI_M hI (by omega)) (fun j hj => by rw [sF_1, sF_1, sF_1, sG_n _ _ (by omega), sG_n _ _ (by omega), sG_n _ _ (by omega), sG_n _ _ (by omega)]) ⟨by rw [sF_1, sF_1, sF_1, sG_s, sG_s], by rw [sF_1, sF_1, sF_1, sG_n _ _ (by omega), sG_n _ _ (by omega), sG_n _ _ (by omega), sG_n _ _ (by omega)]⟩ (fun q hq => by rw [sF_n _ _ (by omega), sF_n _ _ (by omega), sF_n _ _ (by omega), sG_2, sG_2, sG_2, sG_2])⟩)
                · refine x_aload_n (q := 86) E dX6_many_85 0 rfl rfl ?_
                  refine x_get (q := 89) E iX6_many_X6 (0) rfl rfl 17 (by decide) (by decide +kernel) rfl dX6_many_86 rfl ?_
                  refine x_iload (q := 91) E dX6_many_89 4 rfl rfl ?_
                  refine x_dup2 (q := 92) E dX6_many_91 rfl rfl rfl ?_
                  refine x_iald (q := 93) (f := (sF (sF (sF (sG (sG (sG st (4) (k4)) (5) (k5)) (6) ((st.1 (6)) + (1))) (10) (f)) (8) (f8)) (9) (f9)).2 (10)) E (11) rfl 0 rfl (by omega) (by omega) (by decide) dX6_many_92 rfl ?_
                  refine x_ti (show (sF (sF (sF (sG (sG (sG st (4) (k4)) (5) (k5)) (6) ((st.1 (6)) + (1))) (10) (f)) (8) (f8)) (9) (f9)).2 (10) (at_) = f (at_) by rw [sF_n _ _ (by omega), sF_n _ _ (by omega), sF_s]) ?_
                  refine x_iconst (q := 94) E dX6_many_93 rfl ?_
                  refine x_iadd (q := 95) E dX6_many_94 rfl ?_
                  refine x_iast (q := 96) (st' := (sA (sF (sF (sF (sG (sG (sG st (4) (k4)) (5) (k5)) (6) ((st.1 (6)) + (1))) (10) (f)) (8) (f8)) (9) (f9)) (10) (at_) ((f (at_)) + (1)))) (f := (sF (sF (sF (sG (sG (sG st (4) (k4)) (5) (k5)) (6) ((st.1 (6)) + (1))) (10) (f)) (8) (f8)) (9) (f9)).2 (10)) E (11) rfl 0 rfl (by omega) (by omega) (by decide) dX6_many_95 (ma_10 _ _) rfl ?_
                  refine x_aload_n (q := 97) E dX6_many_96 0 rfl rfl ?_
                  refine x_get (q := 100) E iX6_many_X6 (0) rfl rfl 17 (by decide) (by decide +kernel) rfl dX6_many_97 rfl ?_
                  refine x_iload (q := 102) E dX6_many_100 4 rfl rfl ?_
                  refine x_iald (q := 103) (f := (sA (sF (sF (sF (sG (sG (sG st (4) (k4)) (5) (k5)) (6) ((st.1 (6)) + (1))) (10) (f)) (8) (f8)) (9) (f9)) (10) (at_) ((f (at_)) + (1))).2 (10)) E (11) rfl 0 rfl (by omega) (by omega) (by decide) dX6_many_102 rfl ?_
                  refine x_ti (show (sA (sF (sF (sF (sG (sG (sG st (4) (k4)) (5) (k5)) (6) ((st.1 (6)) + (1))) (10) (f)) (8) (f8)) (9) (f9)) (10) (at_) ((f (at_)) + (1))).2 (10) (at_) = (zup (f) (at_) ((f (at_)) + (1))) (at_) by rw [sA_s, sF_n _ _ (by omega), sF_n _ _ (by omega), sF_s]) ?_
                  refine x_ti (show (zup (f) (at_) ((f (at_)) + (1))) (at_) = f at_ + 1 from zup_eq _ _ _) ?_
                  refine x_iload_n (q := 104) E dX6_many_103 2 rfl rfl ?_
                  refine x_icmp_le (tgt := 113) (q := 107) E dX6_many_104 (by decide) rfl (by omega) (by omega) (fun c104 => ?_) (fun c104 => ?_)
                  · have y1 := mu_in (g := g0) (n := n0) (f := f) (k := at_) (by omega) (fun i i0 i1 => (c2 i i0 i1).2) (by omega)
                    have y2 := rq_in (n := n0) hg3 (f := f) (k := at_) (by omega) (by omega) (by omega)
                    have y3 : ∀ i : Int, 0 ≤ i → i < at_ + 1 → 1 ≤ (zup f at_ (f at_ + 1)) i ∧ (zup f at_ (f at_ + 1)) i ≤ g0 := fun i i0 i1 => if hi : i = at_ then (by rw [hi, zup_eq]; omega) else (by rw [zup_ne _ _ hi]; exact c2 i i0 (by omega))
                    refine x_aload_n (q := 114) E dX6_many_113 0 rfl rfl ?_
                    refine x_iload (q := 116) E dX6_many_114 4 rfl rfl ?_
                    refine x_iconst (q := 117) E dX6_many_116 rfl ?_
                    refine x_iadd (q := 118) E dX6_many_117 rfl ?_
                    refine x_put (q := 121) (st' := (sG (sA (sF (sF (sF (sG (sG (sG st (4) (k4)) (5) (k5)) (6) ((st.1 (6)) + (1))) (10) (f)) (8) (f8)) (9) (f9)) (10) (at_) ((f (at_)) + (1))) (4) ((at_) + (1)))) (v := .int (ii ((at_) + (1)))) (ty := .int) E iX6_many_X6 tyX6 tyX6_ok nmX6 (0) rfl rfl 13 (by decide) (by decide +kernel) rfl (by decide +kernel) rfl rfl (Nat.le_of_ble_eq_true rfl) dX6_many_118 (ms_4 _) rfl ?_
                    refine x_iconst (q := 122) E dX6_many_121 rfl ?_
                    refine x_istore (q := 124) (lv' := [(5, .int (ii (0))), (0, .ref (ad 0)), (1, .int (ii (n0))), (2, .int (ii (g0))), (3, .int (ii (fd))), (4, .int (ii (at_)))]) E dX6_many_122 (by decide) rfl rfl ?_
                    have L124 : ∀ (n : Nat) (i : Int) (h8 : Int → Int), (at_ + 1 - i).toNat < n → (0 ≤ i ∧ i ≤ at_ + 1) → (∀ j : Int, 0 ≤ j → j < i → h8 j = (zup f at_ (f at_ + 1)) j) → XJ p l e (rmX 2 47) s m args below meth c D (MW T ad) A 6 Q 0 0 (sF (sF (sF (sG (sG (sG st (4) ((at_) + (1))) (5) (k5)) (6) ((st.1 (6)) + (1))) (10) (zup (f) (at_) ((f (at_)) + (1)))) (8) (h8)) (9) (f9)) 124 [(0, .ref (ad 0)), (1, .int (ii (n0))), (2, .int (ii (g0))), (3, .int (ii (fd))), (4, .int (ii (at_))), (5, .int (ii (i)))] [] := by
                      intro n
                      induction n with
                      | zero => intro i h8 hn; exact absurd hn (Nat.not_lt_zero _)
                      | succ n ih124 =>
                        intro i h8 hn124 d1 d2
                        refine x_iload (q := 126) E dX6_many_124 5 rfl rfl ?_
                        refine x_iload (q := 128) E dX6_many_126 4 rfl rfl ?_
                        refine x_icmp_gt (tgt := 151) (q := 131) E dX6_many_128 (by decide) rfl (by omega) (by omega) (fun c128 => ?_) (fun c128 => ?_)
                        · have y4 : i = at_ + 1 := by omega
                          rw [y4] at d2
                          refine x_aload_n (q := 152) E dX6_many_151 0 rfl rfl ?_
                          refine x_iload_n (q := 153) E dX6_many_152 2 rfl rfl ?_
                          refine x_callVi (q := 156) (n := 1) (As := [.int (ii (g0))]) (r := []) E (c_X6_depthOf l D T ad hN (sF (sF (sF (sG (sG (sG st (4) ((at_) + (1))) (5) (k5)) (6) ((st.1 (6)) + (1))) (10) (zup (f) (at_) ((f (at_)) + (1)))) (8) (h8)) (9) (f9)) (g0) (by omega) (by rw [sF_1, sF_1, sF_1, sG_n _ _ (by omega), sG_n _ _ (by omega), sG_s]; omega) (by rw [sF_n _ _ (by omega), sF_s, sF_1, sF_1, sF_1, sG_n _ _ (by omega), sG_n _ _ (by omega), sG_s]; intro j j0 j1; rw [d2 j j0 (by omega)]; have y := y3 j j0 (by omega); omega) (by omega)) gX6_many_X6_depthOf rfl rfl rfl (by decide +kernel) ⟨Nat.le_of_ble_eq_true rfl, Nat.le_of_ble_eq_true rfl⟩ (0) rfl rfl rfl rfl (Nat.le_of_ble_eq_true rfl) dX6_many_153 rfl (fun z20 s21 q22 => ?_)
                          obtain ⟨k23, k524, f25, t26, rfl, h127, h228, h329⟩ := q22
                          have y5 := h127
                          rw [sF_n _ _ (by omega), sF_s, sF_1, sF_1, sF_1, sG_n _ _ (by omega), sG_n _ _ (by omega), sG_s] at y5
                          have y6 : z20 = dpt g0 (wl (zup f at_ (f at_ + 1)) (at_ + 1)) := by rw [y5]; exact congrArg _ (wl_congr (fun j j0 j1 => d2 j j0 (by omega)))
                          refine x_iconst (q := 157) E dX6_many_156 rfl ?_
                          refine x_icmp_eq (tgt := 80) (q := 160) E dX6_many_157 (by decide) rfl (by omega) (by omega) (fun c157 => ?_) (fun c157 => ?_)
                          · refine x_st E (st' := (sF (sF (sF (sG (sG (sG st (4) (k23)) (5) (k524)) (6) ((st.1 (6)) + (1))) (10) (zup (f) (at_) ((f (at_)) + (1)))) (8) (f25)) (9) (t26))) (by refine Prod.ext (funext fun k9 => ?_) (funext fun q9 => ?_) <;> simp only [sG_1, sG_2, sA_1, sA_2, sF_1, sF_2, reduceIte] <;> (repeat' split) <;> first | rfl | omega | (subst_vars; first | rfl | omega) | simp_all) ?_
                            refine x_lv E (lv' := [(0, .ref (ad 0)), (1, .int (ii (n0))), (2, .int (ii (g0))), (3, .int (ii (fd))), (4, .int (ii (at_)))]) [0, 1, 2, 3, 4] rfl ?_
                            exact ih80 (fd) (at_) (k23) (k524) (f25) (t26) (zup (f) (at_) ((f (at_)) + (1))) (by have y := pw5_pos (n0 - at_).toNat; omega) (by omega) (fun i i0 i1 => (y3 i i0 (by omega))) (fun h => by have y := y3 at_ (by omega) (by omega); omega) (by rw [EX_bad (by omega) _ _ (by rw [← y6]; omega), Int.zero_add] at y2; rw [← y2]; exact c4)
                          · refine x_iload (q := 162) E dX6_many_160 4 rfl rfl ?_
                            refine x_iload_n (q := 163) E dX6_many_162 1 rfl rfl ?_
                            refine x_iconst (q := 164) E dX6_many_163 rfl ?_
                            refine x_isub (q := 165) E dX6_many_164 rfl ?_
                            refine x_icmp_ne (tgt := 174) (q := 168) E dX6_many_165 (by decide) rfl (by omega) (by omega) (fun c165 => ?_) (fun c165 => ?_)
                            · refine x_iinc (q := 177) (k := 4) (lv' := [(4, .int (ii (at_ + 1))), (0, .ref (ad 0)), (1, .int (ii (n0))), (2, .int (ii (g0))), (3, .int (ii (fd))), (5, .int (ii (i)))]) E dX6_many_174 rfl (by decide) rfl rfl ?_
                              refine x_aload_n (q := 178) E dX6_many_177 1 rfl rfl ?_
                              refine x_get (q := 181) E iX6_many_X6 (0) rfl rfl 17 (by decide) (by decide +kernel) rfl dX6_many_178 rfl ?_
                              refine x_iload (q := 183) E dX6_many_181 0 rfl rfl ?_
                              refine x_iconst (q := 184) E dX6_many_183 rfl ?_
                              refine x_iast (q := 185) (st' := (sA (sF (sF (sG (sG (sF (sF (sF (sG (sG (sG st (4) ((at_) + (1))) (5) (k5)) (6) ((st.1 (6)) + (1))) (10) (zup (f) (at_) ((f (at_)) + (1)))) (8) (h8)) (9) (f9)) (4) (k23)) (5) (k524)) (8) (f25)) (9) (t26)) (10) (at_ + 1) (0))) (f := (sF (sF (sG (sG (sF (sF (sF (sG (sG (sG st (4) ((at_) + (1))) (5) (k5)) (6) ((st.1 (6)) + (1))) (10) (zup (f) (at_) ((f (at_)) + (1)))) (8) (h8)) (9) (f9)) (4) (k23)) (5) (k524)) (8) (f25)) (9) (t26)).2 (10)) E (11) rfl 0 rfl (by omega) (by omega) (by decide) dX6_many_184 (ma_10 _ _) rfl ?_
                              refine x_goto (tgt := 80) E dX6_many_185 (by decide) ?_
                              refine x_st E (st' := (sF (sF (sF (sG (sG (sG st (4) (k23)) (5) (k524)) (6) ((st.1 (6)) + (1))) (10) (zup (zup (f) (at_) ((f (at_)) + (1))) (at_ + 1) (0))) (8) (f25)) (9) (t26))) (by refine Prod.ext (funext fun k9 => ?_) (funext fun q9 => ?_) <;> simp only [sG_1, sG_2, sA_1, sA_2, sF_1, sF_2, reduceIte] <;> (repeat' split) <;> first | rfl | omega | (subst_vars; first | rfl | omega) | simp_all) ?_
                              refine x_lv E (lv' := [(0, .ref (ad 0)), (1, .int (ii (n0))), (2, .int (ii (g0))), (3, .int (ii (fd))), (4, .int (ii (at_ + 1)))]) [1, 2, 3, 4, 0] rfl ?_
                              exact ih80 (fd) (at_ + 1) (k23) (k524) (f25) (t26) (zup (zup (f) (at_) ((f (at_)) + (1))) (at_ + 1) (0)) (by have y := mu_dn (g := g0) (n := n0) (f := (zup f at_ (f at_ + 1))) (k := at_) (by omega) (by omega); omega) (by omega) (fun i i0 i1 => by rw [zup_ne _ _ (by omega)]; exact y3 i i0 (by omega)) (fun h => by rw [zup_eq]; omega) (by rw [rq_dn (g := g0) (n := n0) (f := (zup f at_ (f at_ + 1))) (k := at_) (by omega)]; omega)
                            · refine x_iinc (q := 171) (k := 3) (lv' := [(3, .int (ii (fd + 1))), (0, .ref (ad 0)), (1, .int (ii (n0))), (2, .int (ii (g0))), (4, .int (ii (at_))), (5, .int (ii (i)))]) E dX6_many_168 rfl (by decide) rfl rfl ?_
                              refine x_goto (tgt := 80) E dX6_many_171 (by decide) ?_
                              refine x_st E (st' := (sF (sF (sF (sG (sG (sG st (4) (k23)) (5) (k524)) (6) ((st.1 (6)) + (1))) (10) (zup (f) (at_) ((f (at_)) + (1)))) (8) (f25)) (9) (t26))) (by refine Prod.ext (funext fun k9 => ?_) (funext fun q9 => ?_) <;> simp only [sG_1, sG_2, sA_1, sA_2, sF_1, sF_2, reduceIte] <;> (repeat' split) <;> first | rfl | omega | (subst_vars; first | rfl | omega) | simp_all) ?_
                              refine x_lv E (lv' := [(0, .ref (ad 0)), (1, .int (ii (n0))), (2, .int (ii (g0))), (3, .int (ii (fd + 1))), (4, .int (ii (at_)))]) [1, 2, 3, 0, 4] rfl ?_
                              exact ih80 (fd + 1) (at_) (k23) (k524) (f25) (t26) (zup (f) (at_) ((f (at_)) + (1))) (by have y := pw5_pos (n0 - at_).toNat; omega) (by omega) (fun i i0 i1 => (y3 i i0 (by omega))) (fun h => by have y := y3 at_ (by omega) (by omega); omega) (by rw [show (n0 - 1 - at_).toNat = 0 from by omega, EX_0, if_neg (by rw [← y6]; omega)] at y2; omega)
                        · refine x_aload_n (q := 132) E dX6_many_131 0 rfl rfl ?_
                          refine x_get (q := 135) E iX6_many_X6 (0) rfl rfl 12 (by decide) (by decide +kernel) rfl dX6_many_132 rfl ?_
                          refine x_iload (q := 137) E dX6_many_135 5 rfl rfl ?_
                          refine x_aload_n (q := 138) E dX6_many_137 0 rfl rfl ?_
                          refine x_get (q := 141) E iX6_many_X6 (0) rfl rfl 17 (by decide) (by decide +kernel) rfl dX6_many_138 rfl ?_
                          refine x_iload (q := 143) E dX6_many_141 5 rfl rfl ?_
                          refine x_iald (q := 144) (f := (sF (sF (sF (sG (sG (sG st (4) ((at_) + (1))) (5) (k5)) (6) ((st.1 (6)) + (1))) (10) (zup (f) (at_) ((f (at_)) + (1)))) (8) (h8)) (9) (f9)).2 (10)) E (11) rfl 0 rfl (by omega) (by omega) (by decide) dX6_many_143 rfl ?_
                          refine x_ti (show (sF (sF (sF (sG (sG (sG st (4) ((at_) + (1))) (5) (k5)) (6) ((st.1 (6)) + (1))) (10) (zup (f) (at_) ((f (at_)) + (1)))) (8) (h8)) (9) (f9)).2 (10) (i) = (zup (f) (at_) ((f (at_)) + (1))) (i) by rw [sF_n _ _ (by omega), sF_n _ _ (by omega), sF_s]) ?_
                          refine x_iast (q := 145) (st' := (sA (sF (sF (sF (sG (sG (sG st (4) ((at_) + (1))) (5) (k5)) (6) ((st.1 (6)) + (1))) (10) (zup (f) (at_) ((f (at_)) + (1)))) (8) (h8)) (9) (f9)) (8) (i) ((zup (f) (at_) ((f (at_)) + (1))) (i)))) (f := (sF (sF (sF (sG (sG (sG st (4) ((at_) + (1))) (5) (k5)) (6) ((st.1 (6)) + (1))) (10) (zup (f) (at_) ((f (at_)) + (1)))) (8) (h8)) (9) (f9)).2 (8)) E (9) rfl 0 rfl (by omega) (by omega) (by decide) dX6_many_144 (ma_8 _ _) rfl ?_
                          refine x_iinc (q := 148) (k := 5) (lv' := [(5, .int (ii (i + 1))), (0, .ref (ad 0)), (1, .int (ii (n0))), (2, .int (ii (g0))), (3, .int (ii (fd))), (4, .int (ii (at_)))]) E dX6_many_145 rfl (by decide) rfl rfl ?_
                          refine x_goto (tgt := 124) E dX6_many_148 (by decide) ?_
                          refine x_st E (st' := (sF (sF (sF (sG (sG (sG st (4) ((at_) + (1))) (5) (k5)) (6) ((st.1 (6)) + (1))) (10) (zup (f) (at_) ((f (at_)) + (1)))) (8) (zup (h8) (i) ((zup (f) (at_) ((f (at_)) + (1))) (i)))) (9) (f9))) (by refine Prod.ext (funext fun k9 => ?_) (funext fun q9 => ?_) <;> simp only [sG_1, sG_2, sA_1, sA_2, sF_1, sF_2, reduceIte] <;> (repeat' split) <;> first | rfl | omega | (subst_vars; first | rfl | omega) | simp_all) ?_
                          refine x_lv E (lv' := [(0, .ref (ad 0)), (1, .int (ii (n0))), (2, .int (ii (g0))), (3, .int (ii (fd))), (4, .int (ii (at_))), (5, .int (ii (i + 1)))]) [1, 2, 3, 4, 5, 0] rfl ?_
                          exact ih124 (i + 1) (zup (h8) (i) ((zup (f) (at_) ((f (at_)) + (1))) (i))) (by omega) (by omega) (fun j j0 j1 => if hj : j = i then (by rw [hj, zup_eq]) else (by rw [zup_ne _ _ hj]; exact d2 j j0 (by omega)))
                    refine x_lv E (lv' := [(0, .ref (ad 0)), (1, .int (ii (n0))), (2, .int (ii (g0))), (3, .int (ii (fd))), (4, .int (ii (at_))), (5, .int (ii (0)))]) [1, 2, 3, 4, 5, 0] rfl ?_
                    refine x_st E (st' := (sF (sF (sF (sG (sG (sG st (4) ((at_) + (1))) (5) (k5)) (6) ((st.1 (6)) + (1))) (10) (zup (f) (at_) ((f (at_)) + (1)))) (8) (f8)) (9) (f9))) (by refine Prod.ext (funext fun k9 => ?_) (funext fun q9 => ?_) <;> simp only [sG_1, sG_2, sA_1, sA_2, sF_1, sF_2, reduceIte] <;> (repeat' split) <;> first | rfl | omega | (subst_vars; first | rfl | omega) | simp_all) ?_
                    exact L124 _ (0) (f8) (Nat.lt_succ_self _) (by omega) (fun j j0 j1 => absurd j1 (by omega))
                  · refine x_iinc (q := 110) (k := 4) (lv' := [(4, .int (ii (at_ + (-1)))), (0, .ref (ad 0)), (1, .int (ii (n0))), (2, .int (ii (g0))), (3, .int (ii (fd)))]) E dX6_many_107 rfl (by decide) rfl rfl ?_
                    refine x_goto (tgt := 80) E dX6_many_110 (by decide) ?_
                    refine x_st E (st' := (sF (sF (sF (sG (sG (sG st (4) (k4)) (5) (k5)) (6) ((st.1 (6)) + (1))) (10) (zup (f) (at_) ((f (at_)) + (1)))) (8) (f8)) (9) (f9))) (by refine Prod.ext (funext fun k9 => ?_) (funext fun q9 => ?_) <;> simp only [sG_1, sG_2, sA_1, sA_2, sF_1, sF_2, reduceIte] <;> (repeat' split) <;> first | rfl | omega | (subst_vars; first | rfl | omega) | simp_all) ?_
                    refine x_lv E (lv' := [(0, .ref (ad 0)), (1, .int (ii (n0))), (2, .int (ii (g0))), (3, .int (ii (fd))), (4, .int (ii (at_ + (-1))))]) [1, 2, 3, 4, 0] rfl ?_
                    exact ih80 (fd) (at_ + (-1)) (k4) (k5) (f8) (f9) (zup (f) (at_) ((f (at_)) + (1))) (by have y := mu_in (g := g0) (n := n0) (f := f) (k := at_) (by omega) (fun i i0 i1 => (c2 i i0 i1).2) (by omega); rw [show at_ + (-1) + 1 = at_ from by omega, MU_zup _ _ _ _ (Int.le_refl at_)]; omega) (by omega) (fun i i0 i1 => by rw [zup_ne _ _ (by omega)]; exact c2 i i0 (by omega)) (fun h => by rw [zup_ne _ _ (by omega)]; have y := c2 (at_ + (-1)) (by omega) (by omega); omega) (by rw [show at_ + (-1) + 1 = at_ from by omega, ← rq_up (n := n0) hg3 (f := f) (k := at_) (by omega) (by omega)]; exact c4)
            refine x_lv E (lv' := [(0, .ref (ad 0)), (1, .int (ii (n0))), (2, .int (ii (g0))), (3, .int (ii (0))), (4, .int (ii (0)))]) [2, 3, 4, 1, 0] rfl ?_
            refine x_st E (st' := (sF (sF (sF (sG (sG (sG st (4) (st.1 (4))) (5) (st.1 (5))) (6) ((st.1 (6)) + (1))) (10) (zup (st.2 (10)) (0) (0))) (8) (st.2 (8))) (9) (st.2 (9)))) (by refine Prod.ext (funext fun k9 => ?_) (funext fun q9 => ?_) <;> simp only [sG_1, sG_2, sA_1, sA_2, sF_1, sF_2, reduceIte] <;> (repeat' split) <;> first | rfl | omega | (subst_vars; first | rfl | omega) | simp_all) ?_
            exact L80 _ (0) (0) (st.1 (4)) (st.1 (5)) (st.2 (8)) (st.2 (9)) (zup (st.2 (10)) (0) (0)) (Nat.lt_succ_self _) (by omega) (fun i i0 i1 => absurd i1 (by omega)) (fun _ => by rw [zup_eq]; omega) (by rw [show (0 : Int) + 1 = 1 from rfl, rq_0 _ (by omega) (zup_eq _ _ _), Int.zero_add])
          · refine x_iconst (q := 67) E dX6_many_66 rfl ?_
            exact RET _ _ _ _ dX6_many_67 (⟨by rw [if_pos (by omega), if_neg (by omega), show n0 = 0 from by omega]; show (1 : Int) = EX g0 0 []; rw [EX_0, dpt_0]; rfl, by rw [if_pos (by omega)]; exact MI_M hI (by omega)⟩)
        · refine x_bipush (q := 51) E dX6_many_49 (by decide) rfl ?_
          exact RET _ _ _ _ dX6_many_51 (⟨by rw [if_pos (by omega), if_pos (by omega)], by rw [if_neg (by omega)]; exact hI⟩)
      · refine x_bipush (q := 39) E dX6_many_37 (by decide) rfl ?_
        exact RET _ _ _ _ dX6_many_39 (⟨by rw [if_neg (by omega)], by rw [if_neg (by omega)]; exact hI⟩)

