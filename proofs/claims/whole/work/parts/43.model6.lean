theorem iX6_alphabet_X6 : ∀ w ∈ wsX60, w ∈ wsX6_alphabet := by decide +kernel
set_option maxRecDepth 100000 in
set_option maxHeartbeats 4000000 in
theorem c_X6_alphabet (l : Launch) (D : va_G) (T : Nat → ClassId) (ad : Nat → Nat) (hN : ∀ i j, i < 13 → j < 13 → ad i = ad j → i = j) (st : St_) (q : Nat) (hq : q < 4) (n0 : Int) (bn0 : -2147483648 ≤ n0 ∧ n0 < 2147483648) (wa : Int) (bwa : -2147483648 ≤ wa ∧ wa < 2147483648) (xa : Int) (bxa : -2147483648 ≤ xa ∧ xa < 2147483648) (ya : Int) (bya : -2147483648 ≤ ya ∧ ya < 2147483648) (za : Int) (bza : -2147483648 ≤ za ∧ za < 2147483648) (a : AB_) (hI : MI st a) : CXi l yX6_alphabet wsX6_alphabet (rmX 2 45) [.ref (ad 0), .int (ii ((q : Int))), .int (ii (n0)), .int (ii (wa)), .int (ii (xa)), .int (ii (ya)), .int (ii (za))] D (tyX T) (MW T ad) (alM ad) st (fun z st2 => z = (@ite Int (okA n0 wa xa ya za) (Classical.propDecidable _) n0 (-102)) ∧ MI st2 (@ite AB_ (okA n0 wa xa ya za) (Classical.propDecidable _) (aA a q n0 wa xa ya za) a)) := by
  refine mk_i (cc := cX6_alphabet) (nL := 11) rfl rfl (MW_ok hN) (Nat.le_of_ble_eq_true rfl) [(0, .ref (ad 0)), (1, .int (ii ((q : Int)))), (2, .int (ii (n0))), (3, .int (ii (wa))), (4, .int (ii (xa))), (5, .int (ii (ya))), (6, .int (ii (za)))] rfl (fun p e s m args below meth c A Q E RET => ?_)
  have k1 := hI.1
  have k2 := hI.2.1
  have k3 := hI.2.2.1
  have k4 := hI.2.2.2.1
  have k5 := hI.2.2.2.2.1
  have k6 := hI.2.2.2.2.2.1
  have k7 := hI.2.2.2.2.2.2.1
  have k8 := hI.2.2.2.2.2.2.2
  have hn := k7.2.1.1
  have hL := hI.len
  have hf := hI.lf
  have hf6 := hI.let6
  refine x_iload_n (q := 1) E dX6_alphabet_0 1 rfl rfl ?_
  refine x_callSi (q := 4) (n := 1) (As := [.int (ii ((q : Int)))]) (r := []) E (c_X6_isAlphabet l D T ad hN st ((q : Int)) (by omega)) gX6_alphabet_X6_isAlphabet rfl rfl rfl (by decide +kernel) ⟨Nat.le_of_ble_eq_true rfl, Nat.le_of_ble_eq_true rfl⟩ rfl rfl (Nat.le_of_ble_eq_true rfl) dX6_alphabet_1 rfl (fun z1 s2 q3 => ?_)
  obtain ⟨rfl, rfl⟩ := q3
  refine x_if_ne (tgt := 10) (q := 7) E dX6_alphabet_4 (by decide) rfl (by omega) (fun c4 => ?_) (fun c4 => ?_)
  · refine x_iload_n (q := 11) E dX6_alphabet_10 2 rfl rfl ?_
    refine x_i2l (q := 12) E dX6_alphabet_11 (by omega) rfl ?_
    refine x_ldc2 (q := 15) (v := 2) (z := 2) E (by decide +kernel) (by decide) dX6_alphabet_12 rfl ?_
    refine x_ldc2 (q := 18) (v := 4) (z := 4) E (by decide +kernel) (by decide) dX6_alphabet_15 rfl ?_
    refine x_callSi (q := 21) (n := 3) (As := [.long (jj (n0)), .long (jj (2)), .long (jj (4))]) (r := []) E (c_X6_in l D T ad hN st (n0) (2) (4) (by omega) (by omega) (by omega)) gX6_alphabet_X6_in rfl rfl rfl (by decide +kernel) ⟨Nat.le_of_ble_eq_true rfl, Nat.le_of_ble_eq_true rfl⟩ rfl rfl (Nat.le_of_ble_eq_true rfl) dX6_alphabet_18 rfl (fun z4 s5 q6 => ?_)
    obtain ⟨rfl, rfl⟩ := q6
    refine x_if_ne (tgt := 27) (q := 24) E dX6_alphabet_21 (by decide) rfl (by omega) (fun c21 => ?_) (fun c21 => ?_)
    · rcases (show n0 = 2 ∨ n0 = 3 ∨ n0 = 4 by omega) with rfl | rfl | rfl
      · refine x_iconst (q := 28) E dX6_alphabet_27 rfl ?_
        refine x_istore (q := 30) (lv' := [(7, .int (ii (1))), (0, .ref (ad 0)), (1, .int (ii ((q : Int)))), (2, .int (ii (2))), (3, .int (ii (wa))), (4, .int (ii (xa))), (5, .int (ii (ya))), (6, .int (ii (za)))]) E dX6_alphabet_28 (by decide) rfl rfl ?_
        refine x_iconst (q := 31) E dX6_alphabet_30 rfl ?_
        refine x_istore (q := 33) (lv' := [(8, .int (ii (0))), (7, .int (ii (1))), (0, .ref (ad 0)), (1, .int (ii ((q : Int)))), (2, .int (ii (2))), (3, .int (ii (wa))), (4, .int (ii (xa))), (5, .int (ii (ya))), (6, .int (ii (za)))]) E dX6_alphabet_31 (by decide) rfl rfl ?_
        refine x_iload (q := 35) E dX6_alphabet_33 0 rfl rfl ?_
        refine x_iload_n (q := 36) E dX6_alphabet_35 4 rfl rfl ?_
        refine x_icmp_ge (tgt := 149) (q := 39) E dX6_alphabet_36 (by decide) rfl (by omega) (by omega) (fun h9 => absurd h9 (by decide)) (fun _ => ?_)
        refine x_iload (q := 41) E dX6_alphabet_39 0 rfl rfl ?_
        refine x_if_ne (tgt := 48) (q := 44) E dX6_alphabet_41 (by decide) rfl (by omega) (fun h9 => absurd h9 (by decide)) (fun _ => ?_)
        refine x_iload_n (q := 45) E dX6_alphabet_44 5 rfl rfl ?_
        refine x_goto (tgt := 72) E dX6_alphabet_45 (by decide) ?_
        refine x_istore (q := 74) (lv' := [(9, .int (ii (wa))), (8, .int (ii (0))), (7, .int (ii (1))), (0, .ref (ad 0)), (1, .int (ii ((q : Int)))), (2, .int (ii (2))), (3, .int (ii (wa))), (4, .int (ii (xa))), (5, .int (ii (ya))), (6, .int (ii (za)))]) E dX6_alphabet_72 (by decide) rfl rfl ?_
        refine x_iload (q := 76) E dX6_alphabet_74 1 rfl rfl ?_
        refine x_iload_n (q := 77) E dX6_alphabet_76 5 rfl rfl ?_
        refine x_iconst (q := 78) E dX6_alphabet_77 rfl ?_
        refine x_isub (q := 79) E dX6_alphabet_78 rfl ?_
        refine x_ti (show (2) - (1) = 1 from rfl) ?_
        refine x_icmp_ne (tgt := 86) (q := 82) E dX6_alphabet_79 (by decide) rfl (by omega) (by omega) (fun _ => ?_) (fun h9 => absurd h9 (by decide))
        refine x_iload (q := 88) E dX6_alphabet_86 1 rfl rfl ?_
        refine x_if_ne (tgt := 96) (q := 91) E dX6_alphabet_88 (by decide) rfl (by omega) (fun h9 => absurd h9 (by decide)) (fun _ => ?_)
        refine x_iload (q := 93) E dX6_alphabet_91 7 rfl rfl ?_
        refine x_goto (tgt := 109) E dX6_alphabet_93 (by decide) ?_
        refine x_istore (q := 111) (lv' := [(10, .int (ii (xa))), (9, .int (ii (wa))), (8, .int (ii (0))), (7, .int (ii (1))), (0, .ref (ad 0)), (1, .int (ii ((q : Int)))), (2, .int (ii (2))), (3, .int (ii (wa))), (4, .int (ii (xa))), (5, .int (ii (ya))), (6, .int (ii (za)))]) E dX6_alphabet_109 (by decide) rfl rfl ?_
        refine x_iload (q := 113) E dX6_alphabet_111 3 rfl rfl ?_
        refine x_if_eq (tgt := 140) (q := 116) E dX6_alphabet_113 (by decide) rfl (by omega) (fun h9 => absurd h9 (by decide)) (fun _ => ?_)
        refine x_iload (q := 118) E dX6_alphabet_116 1 rfl rfl ?_
        refine x_i2l (q := 119) E dX6_alphabet_118 (by omega) rfl ?_
        refine x_lconst (q := 120) (z := 1) E dX6_alphabet_119 (by decide) rfl ?_
        refine x_ldc2 (q := 123) (v := 6) (z := 6) E (by decide +kernel) (by decide) dX6_alphabet_120 rfl ?_
        refine x_callSi (q := 126) (n := 3) (As := [.long (jj (wa)), .long (jj (1)), .long (jj (6))]) (r := []) E (c_X6_in l D T ad hN st (wa) (1) (6) (by omega) (by omega) (by omega)) gX6_alphabet_X6_in rfl rfl rfl (by decide +kernel) ⟨Nat.le_of_ble_eq_true rfl, Nat.le_of_ble_eq_true rfl⟩ rfl rfl (Nat.le_of_ble_eq_true rfl) dX6_alphabet_123 rfl (fun z7 s8 q9 => ?_)
        obtain ⟨rfl, rfl⟩ := q9
        refine x_if_eq (tgt := 140) (q := 129) E dX6_alphabet_126 (by decide) rfl (by omega) (fun c126 => ?_) (fun c126 => ?_)
        · refine x_iconst (q := 141) E dX6_alphabet_140 rfl ?_
          refine x_istore (q := 143) (lv' := [(7, .int (ii (0))), (10, .int (ii (xa))), (9, .int (ii (wa))), (8, .int (ii (0))), (0, .ref (ad 0)), (1, .int (ii ((q : Int)))), (2, .int (ii (2))), (3, .int (ii (wa))), (4, .int (ii (xa))), (5, .int (ii (ya))), (6, .int (ii (za)))]) E dX6_alphabet_141 (by decide) rfl rfl ?_
          refine x_iinc (q := 146) (k := 3) (lv' := [(8, .int (ii (1))), (7, .int (ii (0))), (10, .int (ii (xa))), (9, .int (ii (wa))), (0, .ref (ad 0)), (1, .int (ii ((q : Int)))), (2, .int (ii (2))), (3, .int (ii (wa))), (4, .int (ii (xa))), (5, .int (ii (ya))), (6, .int (ii (za)))]) E dX6_alphabet_143 rfl (by decide) rfl rfl ?_
          refine x_goto (tgt := 33) E dX6_alphabet_146 (by decide) ?_
          refine x_iload (q := 35) E dX6_alphabet_33 0 rfl rfl ?_
          refine x_iload_n (q := 36) E dX6_alphabet_35 6 rfl rfl ?_
          refine x_icmp_ge (tgt := 149) (q := 39) E dX6_alphabet_36 (by decide) rfl (by omega) (by omega) (fun h9 => absurd h9 (by decide)) (fun _ => ?_)
          refine x_iload (q := 41) E dX6_alphabet_39 0 rfl rfl ?_
          refine x_if_ne (tgt := 48) (q := 44) E dX6_alphabet_41 (by decide) rfl (by omega) (fun _ => ?_) (fun h9 => absurd h9 (by decide))
          refine x_iload (q := 50) E dX6_alphabet_48 0 rfl rfl ?_
          refine x_iconst (q := 51) E dX6_alphabet_50 rfl ?_
          refine x_icmp_ne (tgt := 59) (q := 54) E dX6_alphabet_51 (by decide) rfl (by omega) (by omega) (fun h9 => absurd h9 (by decide)) (fun _ => ?_)
          refine x_iload (q := 56) E dX6_alphabet_54 8 rfl rfl ?_
          refine x_goto (tgt := 72) E dX6_alphabet_56 (by decide) ?_
          refine x_istore (q := 74) (lv' := [(9, .int (ii (xa))), (8, .int (ii (1))), (7, .int (ii (0))), (10, .int (ii (xa))), (0, .ref (ad 0)), (1, .int (ii ((q : Int)))), (2, .int (ii (2))), (3, .int (ii (wa))), (4, .int (ii (xa))), (5, .int (ii (ya))), (6, .int (ii (za)))]) E dX6_alphabet_72 (by decide) rfl rfl ?_
          refine x_iload (q := 76) E dX6_alphabet_74 1 rfl rfl ?_
          refine x_iload_n (q := 77) E dX6_alphabet_76 6 rfl rfl ?_
          refine x_iconst (q := 78) E dX6_alphabet_77 rfl ?_
          refine x_isub (q := 79) E dX6_alphabet_78 rfl ?_
          refine x_ti (show (2) - (1) = 1 from rfl) ?_
          refine x_icmp_ne (tgt := 86) (q := 82) E dX6_alphabet_79 (by decide) rfl (by omega) (by omega) (fun h9 => absurd h9 (by decide)) (fun _ => ?_)
          refine x_iload_n (q := 83) E dX6_alphabet_82 7 rfl rfl ?_
          refine x_goto (tgt := 109) E dX6_alphabet_83 (by decide) ?_
          refine x_istore (q := 111) (lv' := [(10, .int (ii (wa))), (9, .int (ii (xa))), (8, .int (ii (1))), (7, .int (ii (0))), (0, .ref (ad 0)), (1, .int (ii ((q : Int)))), (2, .int (ii (2))), (3, .int (ii (wa))), (4, .int (ii (xa))), (5, .int (ii (ya))), (6, .int (ii (za)))]) E dX6_alphabet_109 (by decide) rfl rfl ?_
          refine x_iload (q := 113) E dX6_alphabet_111 3 rfl rfl ?_
          refine x_if_eq (tgt := 140) (q := 116) E dX6_alphabet_113 (by decide) rfl (by omega) (fun _ => ?_) (fun h9 => absurd h9 (by decide))
          refine x_iconst (q := 141) E dX6_alphabet_140 rfl ?_
          refine x_istore (q := 143) (lv' := [(7, .int (ii (0))), (10, .int (ii (wa))), (9, .int (ii (xa))), (8, .int (ii (1))), (0, .ref (ad 0)), (1, .int (ii ((q : Int)))), (2, .int (ii (2))), (3, .int (ii (wa))), (4, .int (ii (xa))), (5, .int (ii (ya))), (6, .int (ii (za)))]) E dX6_alphabet_141 (by decide) rfl rfl ?_
          refine x_iinc (q := 146) (k := 3) (lv' := [(8, .int (ii (2))), (7, .int (ii (0))), (10, .int (ii (wa))), (9, .int (ii (xa))), (0, .ref (ad 0)), (1, .int (ii ((q : Int)))), (2, .int (ii (2))), (3, .int (ii (wa))), (4, .int (ii (xa))), (5, .int (ii (ya))), (6, .int (ii (za)))]) E dX6_alphabet_143 rfl (by decide) rfl rfl ?_
          refine x_goto (tgt := 33) E dX6_alphabet_146 (by decide) ?_
          refine x_iload (q := 35) E dX6_alphabet_33 0 rfl rfl ?_
          refine x_iload_n (q := 36) E dX6_alphabet_35 6 rfl rfl ?_
          refine x_icmp_ge (tgt := 149) (q := 39) E dX6_alphabet_36 (by decide) rfl (by omega) (by omega) (fun _ => ?_) (fun h9 => absurd h9 (by decide))
          refine x_iload (q := 151) E dX6_alphabet_149 1 rfl rfl ?_
          refine x_if_ne (tgt := 157) (q := 154) E dX6_alphabet_151 (by decide) rfl (by omega) (fun h9 => absurd h9 (by decide)) (fun _ => ?_)
          refine x_bipush (q := 156) E dX6_alphabet_154 (by decide) rfl ?_
          exact RET _ _ _ _ dX6_alphabet_156 (by have o1 : ¬ okA 2 wa xa ya za := (by unfold okA; omega); exact ⟨by rw [if_neg o1], by rw [if_neg o1]; exact hI⟩)
        · refine x_iload (q := 131) E dX6_alphabet_129 1 rfl rfl ?_
          refine x_iload (q := 133) E dX6_alphabet_131 0 rfl rfl ?_
          refine x_icmp_eq (tgt := 140) (q := 136) E dX6_alphabet_133 (by decide) rfl (by omega) (by omega) (fun c133 => ?_) (fun c133 => ?_)
          · refine x_iconst (q := 141) E dX6_alphabet_140 rfl ?_
            refine x_istore (q := 143) (lv' := [(7, .int (ii (0))), (10, .int (ii (xa))), (9, .int (ii (wa))), (8, .int (ii (0))), (0, .ref (ad 0)), (1, .int (ii ((q : Int)))), (2, .int (ii (2))), (3, .int (ii (wa))), (4, .int (ii (xa))), (5, .int (ii (ya))), (6, .int (ii (za)))]) E dX6_alphabet_141 (by decide) rfl rfl ?_
            refine x_iinc (q := 146) (k := 3) (lv' := [(8, .int (ii (1))), (7, .int (ii (0))), (10, .int (ii (xa))), (9, .int (ii (wa))), (0, .ref (ad 0)), (1, .int (ii ((q : Int)))), (2, .int (ii (2))), (3, .int (ii (wa))), (4, .int (ii (xa))), (5, .int (ii (ya))), (6, .int (ii (za)))]) E dX6_alphabet_143 rfl (by decide) rfl rfl ?_
            refine x_goto (tgt := 33) E dX6_alphabet_146 (by decide) ?_
            refine x_iload (q := 35) E dX6_alphabet_33 0 rfl rfl ?_
            refine x_iload_n (q := 36) E dX6_alphabet_35 6 rfl rfl ?_
            refine x_icmp_ge (tgt := 149) (q := 39) E dX6_alphabet_36 (by decide) rfl (by omega) (by omega) (fun h9 => absurd h9 (by decide)) (fun _ => ?_)
            refine x_iload (q := 41) E dX6_alphabet_39 0 rfl rfl ?_
            refine x_if_ne (tgt := 48) (q := 44) E dX6_alphabet_41 (by decide) rfl (by omega) (fun _ => ?_) (fun h9 => absurd h9 (by decide))
            refine x_iload (q := 50) E dX6_alphabet_48 0 rfl rfl ?_
            refine x_iconst (q := 51) E dX6_alphabet_50 rfl ?_
            refine x_icmp_ne (tgt := 59) (q := 54) E dX6_alphabet_51 (by decide) rfl (by omega) (by omega) (fun h9 => absurd h9 (by decide)) (fun _ => ?_)
            refine x_iload (q := 56) E dX6_alphabet_54 8 rfl rfl ?_
            refine x_goto (tgt := 72) E dX6_alphabet_56 (by decide) ?_
            refine x_istore (q := 74) (lv' := [(9, .int (ii (xa))), (8, .int (ii (1))), (7, .int (ii (0))), (10, .int (ii (xa))), (0, .ref (ad 0)), (1, .int (ii ((q : Int)))), (2, .int (ii (2))), (3, .int (ii (wa))), (4, .int (ii (xa))), (5, .int (ii (ya))), (6, .int (ii (za)))]) E dX6_alphabet_72 (by decide) rfl rfl ?_
            refine x_iload (q := 76) E dX6_alphabet_74 1 rfl rfl ?_
            refine x_iload_n (q := 77) E dX6_alphabet_76 6 rfl rfl ?_
            refine x_iconst (q := 78) E dX6_alphabet_77 rfl ?_
            refine x_isub (q := 79) E dX6_alphabet_78 rfl ?_
            refine x_ti (show (2) - (1) = 1 from rfl) ?_
            refine x_icmp_ne (tgt := 86) (q := 82) E dX6_alphabet_79 (by decide) rfl (by omega) (by omega) (fun h9 => absurd h9 (by decide)) (fun _ => ?_)
            refine x_iload_n (q := 83) E dX6_alphabet_82 7 rfl rfl ?_
            refine x_goto (tgt := 109) E dX6_alphabet_83 (by decide) ?_
            refine x_istore (q := 111) (lv' := [(10, .int (ii (wa))), (9, .int (ii (xa))), (8, .int (ii (1))), (7, .int (ii (0))), (0, .ref (ad 0)), (1, .int (ii ((q : Int)))), (2, .int (ii (2))), (3, .int (ii (wa))), (4, .int (ii (xa))), (5, .int (ii (ya))), (6, .int (ii (za)))]) E dX6_alphabet_109 (by decide) rfl rfl ?_
            refine x_iload (q := 113) E dX6_alphabet_111 3 rfl rfl ?_
            refine x_if_eq (tgt := 140) (q := 116) E dX6_alphabet_113 (by decide) rfl (by omega) (fun _ => ?_) (fun h9 => absurd h9 (by decide))
            refine x_iconst (q := 141) E dX6_alphabet_140 rfl ?_
            refine x_istore (q := 143) (lv' := [(7, .int (ii (0))), (10, .int (ii (wa))), (9, .int (ii (xa))), (8, .int (ii (1))), (0, .ref (ad 0)), (1, .int (ii ((q : Int)))), (2, .int (ii (2))), (3, .int (ii (wa))), (4, .int (ii (xa))), (5, .int (ii (ya))), (6, .int (ii (za)))]) E dX6_alphabet_141 (by decide) rfl rfl ?_
            refine x_iinc (q := 146) (k := 3) (lv' := [(8, .int (ii (2))), (7, .int (ii (0))), (10, .int (ii (wa))), (9, .int (ii (xa))), (0, .ref (ad 0)), (1, .int (ii ((q : Int)))), (2, .int (ii (2))), (3, .int (ii (wa))), (4, .int (ii (xa))), (5, .int (ii (ya))), (6, .int (ii (za)))]) E dX6_alphabet_143 rfl (by decide) rfl rfl ?_
            refine x_goto (tgt := 33) E dX6_alphabet_146 (by decide) ?_
            refine x_iload (q := 35) E dX6_alphabet_33 0 rfl rfl ?_
            refine x_iload_n (q := 36) E dX6_alphabet_35 6 rfl rfl ?_
            refine x_icmp_ge (tgt := 149) (q := 39) E dX6_alphabet_36 (by decide) rfl (by omega) (by omega) (fun _ => ?_) (fun h9 => absurd h9 (by decide))
            refine x_iload (q := 151) E dX6_alphabet_149 1 rfl rfl ?_
            refine x_if_ne (tgt := 157) (q := 154) E dX6_alphabet_151 (by decide) rfl (by omega) (fun h9 => absurd h9 (by decide)) (fun _ => ?_)
            refine x_bipush (q := 156) E dX6_alphabet_154 (by decide) rfl ?_
            exact RET _ _ _ _ dX6_alphabet_156 (by have o1 : ¬ okA 2 wa xa ya za := (by unfold okA; omega); exact ⟨by rw [if_neg o1], by rw [if_neg o1]; exact hI⟩)
          · refine x_iconst (q := 137) E dX6_alphabet_136 rfl ?_
            refine x_goto (tgt := 141) E dX6_alphabet_137 (by decide) ?_
            refine x_istore (q := 143) (lv' := [(7, .int (ii (1))), (10, .int (ii (xa))), (9, .int (ii (wa))), (8, .int (ii (0))), (0, .ref (ad 0)), (1, .int (ii ((q : Int)))), (2, .int (ii (2))), (3, .int (ii (wa))), (4, .int (ii (xa))), (5, .int (ii (ya))), (6, .int (ii (za)))]) E dX6_alphabet_141 (by decide) rfl rfl ?_
            refine x_iinc (q := 146) (k := 3) (lv' := [(8, .int (ii (1))), (7, .int (ii (1))), (10, .int (ii (xa))), (9, .int (ii (wa))), (0, .ref (ad 0)), (1, .int (ii ((q : Int)))), (2, .int (ii (2))), (3, .int (ii (wa))), (4, .int (ii (xa))), (5, .int (ii (ya))), (6, .int (ii (za)))]) E dX6_alphabet_143 rfl (by decide) rfl rfl ?_
            refine x_goto (tgt := 33) E dX6_alphabet_146 (by decide) ?_
            refine x_iload (q := 35) E dX6_alphabet_33 0 rfl rfl ?_
            refine x_iload_n (q := 36) E dX6_alphabet_35 6 rfl rfl ?_
            refine x_icmp_ge (tgt := 149) (q := 39) E dX6_alphabet_36 (by decide) rfl (by omega) (by omega) (fun h9 => absurd h9 (by decide)) (fun _ => ?_)
            refine x_iload (q := 41) E dX6_alphabet_39 0 rfl rfl ?_
            refine x_if_ne (tgt := 48) (q := 44) E dX6_alphabet_41 (by decide) rfl (by omega) (fun _ => ?_) (fun h9 => absurd h9 (by decide))
            refine x_iload (q := 50) E dX6_alphabet_48 0 rfl rfl ?_
            refine x_iconst (q := 51) E dX6_alphabet_50 rfl ?_
            refine x_icmp_ne (tgt := 59) (q := 54) E dX6_alphabet_51 (by decide) rfl (by omega) (by omega) (fun h9 => absurd h9 (by decide)) (fun _ => ?_)
            refine x_iload (q := 56) E dX6_alphabet_54 8 rfl rfl ?_
            refine x_goto (tgt := 72) E dX6_alphabet_56 (by decide) ?_
            refine x_istore (q := 74) (lv' := [(9, .int (ii (xa))), (8, .int (ii (1))), (7, .int (ii (1))), (10, .int (ii (xa))), (0, .ref (ad 0)), (1, .int (ii ((q : Int)))), (2, .int (ii (2))), (3, .int (ii (wa))), (4, .int (ii (xa))), (5, .int (ii (ya))), (6, .int (ii (za)))]) E dX6_alphabet_72 (by decide) rfl rfl ?_
            refine x_iload (q := 76) E dX6_alphabet_74 1 rfl rfl ?_
            refine x_iload_n (q := 77) E dX6_alphabet_76 6 rfl rfl ?_
            refine x_iconst (q := 78) E dX6_alphabet_77 rfl ?_
            refine x_isub (q := 79) E dX6_alphabet_78 rfl ?_
            refine x_ti (show (2) - (1) = 1 from rfl) ?_
            refine x_icmp_ne (tgt := 86) (q := 82) E dX6_alphabet_79 (by decide) rfl (by omega) (by omega) (fun h9 => absurd h9 (by decide)) (fun _ => ?_)
            refine x_iload_n (q := 83) E dX6_alphabet_82 7 rfl rfl ?_
            refine x_goto (tgt := 109) E dX6_alphabet_83 (by decide) ?_
            refine x_istore (q := 111) (lv' := [(10, .int (ii (wa))), (9, .int (ii (xa))), (8, .int (ii (1))), (7, .int (ii (1))), (0, .ref (ad 0)), (1, .int (ii ((q : Int)))), (2, .int (ii (2))), (3, .int (ii (wa))), (4, .int (ii (xa))), (5, .int (ii (ya))), (6, .int (ii (za)))]) E dX6_alphabet_109 (by decide) rfl rfl ?_
            refine x_iload (q := 113) E dX6_alphabet_111 3 rfl rfl ?_
            refine x_if_eq (tgt := 140) (q := 116) E dX6_alphabet_113 (by decide) rfl (by omega) (fun h9 => absurd h9 (by decide)) (fun _ => ?_)
            refine x_iload (q := 118) E dX6_alphabet_116 1 rfl rfl ?_
            refine x_i2l (q := 119) E dX6_alphabet_118 (by omega) rfl ?_
            refine x_lconst (q := 120) (z := 1) E dX6_alphabet_119 (by decide) rfl ?_
            refine x_ldc2 (q := 123) (v := 6) (z := 6) E (by decide +kernel) (by decide) dX6_alphabet_120 rfl ?_
            refine x_callSi (q := 126) (n := 3) (As := [.long (jj (xa)), .long (jj (1)), .long (jj (6))]) (r := []) E (c_X6_in l D T ad hN st (xa) (1) (6) (by omega) (by omega) (by omega)) gX6_alphabet_X6_in rfl rfl rfl (by decide +kernel) ⟨Nat.le_of_ble_eq_true rfl, Nat.le_of_ble_eq_true rfl⟩ rfl rfl (Nat.le_of_ble_eq_true rfl) dX6_alphabet_123 rfl (fun z10 s11 q12 => ?_)
            obtain ⟨rfl, rfl⟩ := q12
            refine x_if_eq (tgt := 140) (q := 129) E dX6_alphabet_126 (by decide) rfl (by omega) (fun c126 => ?_) (fun c126 => ?_)
            · refine x_iconst (q := 141) E dX6_alphabet_140 rfl ?_
              refine x_istore (q := 143) (lv' := [(7, .int (ii (0))), (10, .int (ii (wa))), (9, .int (ii (xa))), (8, .int (ii (1))), (0, .ref (ad 0)), (1, .int (ii ((q : Int)))), (2, .int (ii (2))), (3, .int (ii (wa))), (4, .int (ii (xa))), (5, .int (ii (ya))), (6, .int (ii (za)))]) E dX6_alphabet_141 (by decide) rfl rfl ?_
              refine x_iinc (q := 146) (k := 3) (lv' := [(8, .int (ii (2))), (7, .int (ii (0))), (10, .int (ii (wa))), (9, .int (ii (xa))), (0, .ref (ad 0)), (1, .int (ii ((q : Int)))), (2, .int (ii (2))), (3, .int (ii (wa))), (4, .int (ii (xa))), (5, .int (ii (ya))), (6, .int (ii (za)))]) E dX6_alphabet_143 rfl (by decide) rfl rfl ?_
              refine x_goto (tgt := 33) E dX6_alphabet_146 (by decide) ?_
              refine x_iload (q := 35) E dX6_alphabet_33 0 rfl rfl ?_
              refine x_iload_n (q := 36) E dX6_alphabet_35 6 rfl rfl ?_
              refine x_icmp_ge (tgt := 149) (q := 39) E dX6_alphabet_36 (by decide) rfl (by omega) (by omega) (fun _ => ?_) (fun h9 => absurd h9 (by decide))
              refine x_iload (q := 151) E dX6_alphabet_149 1 rfl rfl ?_
              refine x_if_ne (tgt := 157) (q := 154) E dX6_alphabet_151 (by decide) rfl (by omega) (fun h9 => absurd h9 (by decide)) (fun _ => ?_)
              refine x_bipush (q := 156) E dX6_alphabet_154 (by decide) rfl ?_
              exact RET _ _ _ _ dX6_alphabet_156 (by have o1 : ¬ okA 2 wa xa ya za := (by unfold okA; omega); exact ⟨by rw [if_neg o1], by rw [if_neg o1]; exact hI⟩)
            · refine x_iload (q := 131) E dX6_alphabet_129 1 rfl rfl ?_
              refine x_iload (q := 133) E dX6_alphabet_131 0 rfl rfl ?_
              refine x_icmp_eq (tgt := 140) (q := 136) E dX6_alphabet_133 (by decide) rfl (by omega) (by omega) (fun c133 => ?_) (fun c133 => ?_)
              · refine x_iconst (q := 141) E dX6_alphabet_140 rfl ?_
                refine x_istore (q := 143) (lv' := [(7, .int (ii (0))), (10, .int (ii (wa))), (9, .int (ii (xa))), (8, .int (ii (1))), (0, .ref (ad 0)), (1, .int (ii ((q : Int)))), (2, .int (ii (2))), (3, .int (ii (wa))), (4, .int (ii (xa))), (5, .int (ii (ya))), (6, .int (ii (za)))]) E dX6_alphabet_141 (by decide) rfl rfl ?_
                refine x_iinc (q := 146) (k := 3) (lv' := [(8, .int (ii (2))), (7, .int (ii (0))), (10, .int (ii (wa))), (9, .int (ii (xa))), (0, .ref (ad 0)), (1, .int (ii ((q : Int)))), (2, .int (ii (2))), (3, .int (ii (wa))), (4, .int (ii (xa))), (5, .int (ii (ya))), (6, .int (ii (za)))]) E dX6_alphabet_143 rfl (by decide) rfl rfl ?_
                refine x_goto (tgt := 33) E dX6_alphabet_146 (by decide) ?_
                refine x_iload (q := 35) E dX6_alphabet_33 0 rfl rfl ?_
                refine x_iload_n (q := 36) E dX6_alphabet_35 6 rfl rfl ?_
                refine x_icmp_ge (tgt := 149) (q := 39) E dX6_alphabet_36 (by decide) rfl (by omega) (by omega) (fun _ => ?_) (fun h9 => absurd h9 (by decide))
                refine x_iload (q := 151) E dX6_alphabet_149 1 rfl rfl ?_
                refine x_if_ne (tgt := 157) (q := 154) E dX6_alphabet_151 (by decide) rfl (by omega) (fun h9 => absurd h9 (by decide)) (fun _ => ?_)
                refine x_bipush (q := 156) E dX6_alphabet_154 (by decide) rfl ?_
                exact RET _ _ _ _ dX6_alphabet_156 (by have o1 : ¬ okA 2 wa xa ya za := (by unfold okA; omega); exact ⟨by rw [if_neg o1], by rw [if_neg o1]; exact hI⟩)
              · refine x_iconst (q := 137) E dX6_alphabet_136 rfl ?_
                refine x_goto (tgt := 141) E dX6_alphabet_137 (by decide) ?_
                refine x_istore (q := 143) (lv' := [(7, .int (ii (1))), (10, .int (ii (wa))), (9, .int (ii (xa))), (8, .int (ii (1))), (0, .ref (ad 0)), (1, .int (ii ((q : Int)))), (2, .int (ii (2))), (3, .int (ii (wa))), (4, .int (ii (xa))), (5, .int (ii (ya))), (6, .int (ii (za)))]) E dX6_alphabet_141 (by decide) rfl rfl ?_
                refine x_iinc (q := 146) (k := 3) (lv' := [(8, .int (ii (2))), (7, .int (ii (1))), (10, .int (ii (wa))), (9, .int (ii (xa))), (0, .ref (ad 0)), (1, .int (ii ((q : Int)))), (2, .int (ii (2))), (3, .int (ii (wa))), (4, .int (ii (xa))), (5, .int (ii (ya))), (6, .int (ii (za)))]) E dX6_alphabet_143 rfl (by decide) rfl rfl ?_
                refine x_goto (tgt := 33) E dX6_alphabet_146 (by decide) ?_
                refine x_iload (q := 35) E dX6_alphabet_33 0 rfl rfl ?_
                refine x_iload_n (q := 36) E dX6_alphabet_35 6 rfl rfl ?_
                refine x_icmp_ge (tgt := 149) (q := 39) E dX6_alphabet_36 (by decide) rfl (by omega) (by omega) (fun _ => ?_) (fun h9 => absurd h9 (by decide))
                refine x_iload (q := 151) E dX6_alphabet_149 1 rfl rfl ?_
                refine x_if_ne (tgt := 157) (q := 154) E dX6_alphabet_151 (by decide) rfl (by omega) (fun _ => ?_) (fun h9 => absurd h9 (by decide))
                refine x_aload_n (q := 158) E dX6_alphabet_157 4 rfl rfl ?_
                refine x_get (q := 161) E iX6_alphabet_X6 (0) rfl rfl 0 (by decide) (by decide +kernel) rfl dX6_alphabet_158 rfl ?_
                refine x_iconst (q := 162) E dX6_alphabet_161 rfl ?_
                refine x_iload_n (q := 163) E dX6_alphabet_162 5 rfl rfl ?_
                refine x_imul (q := 164) E dX6_alphabet_163 rfl ?_
                refine x_iload_n (q := 165) E dX6_alphabet_164 7 rfl rfl ?_
                refine x_iast (q := 166) (st' := (sA st (0) ((4) * ((q : Int))) (wa))) (f := st.2 (0)) E (1) rfl 0 rfl (by omega) (by omega) (by decide) dX6_alphabet_165 (ma_0 _ _) rfl ?_
                refine x_aload_n (q := 167) E dX6_alphabet_166 4 rfl rfl ?_
                refine x_get (q := 170) E iX6_alphabet_X6 (0) rfl rfl 0 (by decide) (by decide +kernel) rfl dX6_alphabet_167 rfl ?_
                refine x_iconst (q := 171) E dX6_alphabet_170 rfl ?_
                refine x_iload_n (q := 172) E dX6_alphabet_171 5 rfl rfl ?_
                refine x_imul (q := 173) E dX6_alphabet_172 rfl ?_
                refine x_iconst (q := 174) E dX6_alphabet_173 rfl ?_
                refine x_iadd (q := 175) E dX6_alphabet_174 rfl ?_
                refine x_iload (q := 177) E dX6_alphabet_175 8 rfl rfl ?_
                refine x_iast (q := 178) (st' := (sA (sA st (0) ((4) * ((q : Int))) (wa)) (0) (((4) * ((q : Int))) + (1)) (xa))) (f := (sA st (0) ((4) * ((q : Int))) (wa)).2 (0)) E (1) rfl 0 rfl (by omega) (by omega) (by decide) dX6_alphabet_177 (ma_0 _ _) rfl ?_
                refine x_aload_n (q := 179) E dX6_alphabet_178 4 rfl rfl ?_
                refine x_get (q := 182) E iX6_alphabet_X6 (0) rfl rfl 0 (by decide) (by decide +kernel) rfl dX6_alphabet_179 rfl ?_
                refine x_iconst (q := 183) E dX6_alphabet_182 rfl ?_
                refine x_iload_n (q := 184) E dX6_alphabet_183 5 rfl rfl ?_
                refine x_imul (q := 185) E dX6_alphabet_184 rfl ?_
                refine x_iconst (q := 186) E dX6_alphabet_185 rfl ?_
                refine x_iadd (q := 187) E dX6_alphabet_186 rfl ?_
                refine x_iload (q := 189) E dX6_alphabet_187 9 rfl rfl ?_
                refine x_iast (q := 190) (st' := (sA (sA (sA st (0) ((4) * ((q : Int))) (wa)) (0) (((4) * ((q : Int))) + (1)) (xa)) (0) (((4) * ((q : Int))) + (2)) (ya))) (f := (sA (sA st (0) ((4) * ((q : Int))) (wa)) (0) (((4) * ((q : Int))) + (1)) (xa)).2 (0)) E (1) rfl 0 rfl (by omega) (by omega) (by decide) dX6_alphabet_189 (ma_0 _ _) rfl ?_
                refine x_aload_n (q := 191) E dX6_alphabet_190 4 rfl rfl ?_
                refine x_get (q := 194) E iX6_alphabet_X6 (0) rfl rfl 0 (by decide) (by decide +kernel) rfl dX6_alphabet_191 rfl ?_
                refine x_iconst (q := 195) E dX6_alphabet_194 rfl ?_
                refine x_iload_n (q := 196) E dX6_alphabet_195 5 rfl rfl ?_
                refine x_imul (q := 197) E dX6_alphabet_196 rfl ?_
                refine x_iconst (q := 198) E dX6_alphabet_197 rfl ?_
                refine x_iadd (q := 199) E dX6_alphabet_198 rfl ?_
                refine x_iload (q := 201) E dX6_alphabet_199 10 rfl rfl ?_
                refine x_iast (q := 202) (st' := (sA (sA (sA (sA st (0) ((4) * ((q : Int))) (wa)) (0) (((4) * ((q : Int))) + (1)) (xa)) (0) (((4) * ((q : Int))) + (2)) (ya)) (0) (((4) * ((q : Int))) + (3)) (za))) (f := (sA (sA (sA st (0) ((4) * ((q : Int))) (wa)) (0) (((4) * ((q : Int))) + (1)) (xa)) (0) (((4) * ((q : Int))) + (2)) (ya)).2 (0)) E (1) rfl 0 rfl (by omega) (by omega) (by decide) dX6_alphabet_201 (ma_0 _ _) rfl ?_
                refine x_aload_n (q := 203) E dX6_alphabet_202 4 rfl rfl ?_
                refine x_get (q := 206) E iX6_alphabet_X6 (0) rfl rfl 1 (by decide) (by decide +kernel) rfl dX6_alphabet_203 rfl ?_
                refine x_iload_n (q := 207) E dX6_alphabet_206 5 rfl rfl ?_
                refine x_iload_n (q := 208) E dX6_alphabet_207 6 rfl rfl ?_
                refine x_iast (q := 209) (st' := (sA (sA (sA (sA (sA st (0) ((4) * ((q : Int))) (wa)) (0) (((4) * ((q : Int))) + (1)) (xa)) (0) (((4) * ((q : Int))) + (2)) (ya)) (0) (((4) * ((q : Int))) + (3)) (za)) (1) ((q : Int)) (2))) (f := (sA (sA (sA (sA st (0) ((4) * ((q : Int))) (wa)) (0) (((4) * ((q : Int))) + (1)) (xa)) (0) (((4) * ((q : Int))) + (2)) (ya)) (0) (((4) * ((q : Int))) + (3)) (za)).2 (1)) E (2) rfl 0 rfl (by omega) (by omega) (by decide) dX6_alphabet_208 (ma_1 _ _) rfl ?_
                refine x_aload_n (q := 210) E dX6_alphabet_209 4 rfl rfl ?_
                refine x_iconst (q := 211) E dX6_alphabet_210 rfl ?_
                refine x_put (q := 214) (st' := (sG (sA (sA (sA (sA (sA st (0) ((4) * ((q : Int))) (wa)) (0) (((4) * ((q : Int))) + (1)) (xa)) (0) (((4) * ((q : Int))) + (2)) (ya)) (0) (((4) * ((q : Int))) + (3)) (za)) (1) ((q : Int)) (2)) (1) (1))) (v := .int (ii (1))) (ty := .boolean) E iX6_alphabet_X6 tyX6 tyX6_ok nmX6 (0) rfl rfl 4 (by decide) (by decide +kernel) rfl (by decide +kernel) (by decide) (by decide) (Nat.le_of_ble_eq_true rfl) dX6_alphabet_211 (ms_1 _) rfl ?_
                refine x_iload_n (q := 215) E dX6_alphabet_214 6 rfl rfl ?_
                exact RET _ _ _ _ dX6_alphabet_215 (by have o1 : okA 2 wa xa ya za := (by unfold okA; omega); exact ⟨by rw [if_pos o1], by rw [if_pos o1]; exact MI_alph hI hq o1⟩)
      · refine x_iconst (q := 28) E dX6_alphabet_27 rfl ?_
        refine x_istore (q := 30) (lv' := [(7, .int (ii (1))), (0, .ref (ad 0)), (1, .int (ii ((q : Int)))), (2, .int (ii (3))), (3, .int (ii (wa))), (4, .int (ii (xa))), (5, .int (ii (ya))), (6, .int (ii (za)))]) E dX6_alphabet_28 (by decide) rfl rfl ?_
        refine x_iconst (q := 31) E dX6_alphabet_30 rfl ?_
        refine x_istore (q := 33) (lv' := [(8, .int (ii (0))), (7, .int (ii (1))), (0, .ref (ad 0)), (1, .int (ii ((q : Int)))), (2, .int (ii (3))), (3, .int (ii (wa))), (4, .int (ii (xa))), (5, .int (ii (ya))), (6, .int (ii (za)))]) E dX6_alphabet_31 (by decide) rfl rfl ?_
        refine x_iload (q := 35) E dX6_alphabet_33 0 rfl rfl ?_
        refine x_iload_n (q := 36) E dX6_alphabet_35 4 rfl rfl ?_
        refine x_icmp_ge (tgt := 149) (q := 39) E dX6_alphabet_36 (by decide) rfl (by omega) (by omega) (fun h9 => absurd h9 (by decide)) (fun _ => ?_)
        refine x_iload (q := 41) E dX6_alphabet_39 0 rfl rfl ?_
        refine x_if_ne (tgt := 48) (q := 44) E dX6_alphabet_41 (by decide) rfl (by omega) (fun h9 => absurd h9 (by decide)) (fun _ => ?_)
        refine x_iload_n (q := 45) E dX6_alphabet_44 5 rfl rfl ?_
        refine x_goto (tgt := 72) E dX6_alphabet_45 (by decide) ?_
        refine x_istore (q := 74) (lv' := [(9, .int (ii (wa))), (8, .int (ii (0))), (7, .int (ii (1))), (0, .ref (ad 0)), (1, .int (ii ((q : Int)))), (2, .int (ii (3))), (3, .int (ii (wa))), (4, .int (ii (xa))), (5, .int (ii (ya))), (6, .int (ii (za)))]) E dX6_alphabet_72 (by decide) rfl rfl ?_
        refine x_iload (q := 76) E dX6_alphabet_74 1 rfl rfl ?_
        refine x_iload_n (q := 77) E dX6_alphabet_76 5 rfl rfl ?_
        refine x_iconst (q := 78) E dX6_alphabet_77 rfl ?_
        refine x_isub (q := 79) E dX6_alphabet_78 rfl ?_
        refine x_ti (show (3) - (1) = 2 from rfl) ?_
        refine x_icmp_ne (tgt := 86) (q := 82) E dX6_alphabet_79 (by decide) rfl (by omega) (by omega) (fun _ => ?_) (fun h9 => absurd h9 (by decide))
        refine x_iload (q := 88) E dX6_alphabet_86 1 rfl rfl ?_
        refine x_if_ne (tgt := 96) (q := 91) E dX6_alphabet_88 (by decide) rfl (by omega) (fun h9 => absurd h9 (by decide)) (fun _ => ?_)
        refine x_iload (q := 93) E dX6_alphabet_91 7 rfl rfl ?_
        refine x_goto (tgt := 109) E dX6_alphabet_93 (by decide) ?_
        refine x_istore (q := 111) (lv' := [(10, .int (ii (xa))), (9, .int (ii (wa))), (8, .int (ii (0))), (7, .int (ii (1))), (0, .ref (ad 0)), (1, .int (ii ((q : Int)))), (2, .int (ii (3))), (3, .int (ii (wa))), (4, .int (ii (xa))), (5, .int (ii (ya))), (6, .int (ii (za)))]) E dX6_alphabet_109 (by decide) rfl rfl ?_
        refine x_iload (q := 113) E dX6_alphabet_111 3 rfl rfl ?_
        refine x_if_eq (tgt := 140) (q := 116) E dX6_alphabet_113 (by decide) rfl (by omega) (fun h9 => absurd h9 (by decide)) (fun _ => ?_)
        refine x_iload (q := 118) E dX6_alphabet_116 1 rfl rfl ?_
        refine x_i2l (q := 119) E dX6_alphabet_118 (by omega) rfl ?_
        refine x_lconst (q := 120) (z := 1) E dX6_alphabet_119 (by decide) rfl ?_
        refine x_ldc2 (q := 123) (v := 6) (z := 6) E (by decide +kernel) (by decide) dX6_alphabet_120 rfl ?_
        refine x_callSi (q := 126) (n := 3) (As := [.long (jj (wa)), .long (jj (1)), .long (jj (6))]) (r := []) E (c_X6_in l D T ad hN st (wa) (1) (6) (by omega) (by omega) (by omega)) gX6_alphabet_X6_in rfl rfl rfl (by decide +kernel) ⟨Nat.le_of_ble_eq_true rfl, Nat.le_of_ble_eq_true rfl⟩ rfl rfl (Nat.le_of_ble_eq_true rfl) dX6_alphabet_123 rfl (fun z13 s14 q15 => ?_)
        obtain ⟨rfl, rfl⟩ := q15
        refine x_if_eq (tgt := 140) (q := 129) E dX6_alphabet_126 (by decide) rfl (by omega) (fun c126 => ?_) (fun c126 => ?_)
        · refine x_iconst (q := 141) E dX6_alphabet_140 rfl ?_
          refine x_istore (q := 143) (lv' := [(7, .int (ii (0))), (10, .int (ii (xa))), (9, .int (ii (wa))), (8, .int (ii (0))), (0, .ref (ad 0)), (1, .int (ii ((q : Int)))), (2, .int (ii (3))), (3, .int (ii (wa))), (4, .int (ii (xa))), (5, .int (ii (ya))), (6, .int (ii (za)))]) E dX6_alphabet_141 (by decide) rfl rfl ?_
          refine x_iinc (q := 146) (k := 3) (lv' := [(8, .int (ii (1))), (7, .int (ii (0))), (10, .int (ii (xa))), (9, .int (ii (wa))), (0, .ref (ad 0)), (1, .int (ii ((q : Int)))), (2, .int (ii (3))), (3, .int (ii (wa))), (4, .int (ii (xa))), (5, .int (ii (ya))), (6, .int (ii (za)))]) E dX6_alphabet_143 rfl (by decide) rfl rfl ?_
          refine x_goto (tgt := 33) E dX6_alphabet_146 (by decide) ?_
          refine x_iload (q := 35) E dX6_alphabet_33 0 rfl rfl ?_
          refine x_iload_n (q := 36) E dX6_alphabet_35 6 rfl rfl ?_
          refine x_icmp_ge (tgt := 149) (q := 39) E dX6_alphabet_36 (by decide) rfl (by omega) (by omega) (fun h9 => absurd h9 (by decide)) (fun _ => ?_)
          refine x_iload (q := 41) E dX6_alphabet_39 0 rfl rfl ?_
          refine x_if_ne (tgt := 48) (q := 44) E dX6_alphabet_41 (by decide) rfl (by omega) (fun _ => ?_) (fun h9 => absurd h9 (by decide))
          refine x_iload (q := 50) E dX6_alphabet_48 0 rfl rfl ?_
          refine x_iconst (q := 51) E dX6_alphabet_50 rfl ?_
          refine x_icmp_ne (tgt := 59) (q := 54) E dX6_alphabet_51 (by decide) rfl (by omega) (by omega) (fun h9 => absurd h9 (by decide)) (fun _ => ?_)
          refine x_iload (q := 56) E dX6_alphabet_54 8 rfl rfl ?_
          refine x_goto (tgt := 72) E dX6_alphabet_56 (by decide) ?_
          refine x_istore (q := 74) (lv' := [(9, .int (ii (xa))), (8, .int (ii (1))), (7, .int (ii (0))), (10, .int (ii (xa))), (0, .ref (ad 0)), (1, .int (ii ((q : Int)))), (2, .int (ii (3))), (3, .int (ii (wa))), (4, .int (ii (xa))), (5, .int (ii (ya))), (6, .int (ii (za)))]) E dX6_alphabet_72 (by decide) rfl rfl ?_
          refine x_iload (q := 76) E dX6_alphabet_74 1 rfl rfl ?_
          refine x_iload_n (q := 77) E dX6_alphabet_76 6 rfl rfl ?_
          refine x_iconst (q := 78) E dX6_alphabet_77 rfl ?_
          refine x_isub (q := 79) E dX6_alphabet_78 rfl ?_
          refine x_ti (show (3) - (1) = 2 from rfl) ?_
          refine x_icmp_ne (tgt := 86) (q := 82) E dX6_alphabet_79 (by decide) rfl (by omega) (by omega) (fun _ => ?_) (fun h9 => absurd h9 (by decide))
          refine x_iload (q := 88) E dX6_alphabet_86 1 rfl rfl ?_
          refine x_if_ne (tgt := 96) (q := 91) E dX6_alphabet_88 (by decide) rfl (by omega) (fun _ => ?_) (fun h9 => absurd h9 (by decide))
          refine x_iload (q := 98) E dX6_alphabet_96 1 rfl rfl ?_
          refine x_iconst (q := 99) E dX6_alphabet_98 rfl ?_
          refine x_icmp_ne (tgt := 107) (q := 102) E dX6_alphabet_99 (by decide) rfl (by omega) (by omega) (fun h9 => absurd h9 (by decide)) (fun _ => ?_)
          refine x_iload (q := 104) E dX6_alphabet_102 9 rfl rfl ?_
          refine x_goto (tgt := 109) E dX6_alphabet_104 (by decide) ?_
          refine x_istore (q := 111) (lv' := [(10, .int (ii (ya))), (9, .int (ii (xa))), (8, .int (ii (1))), (7, .int (ii (0))), (0, .ref (ad 0)), (1, .int (ii ((q : Int)))), (2, .int (ii (3))), (3, .int (ii (wa))), (4, .int (ii (xa))), (5, .int (ii (ya))), (6, .int (ii (za)))]) E dX6_alphabet_109 (by decide) rfl rfl ?_
          refine x_iload (q := 113) E dX6_alphabet_111 3 rfl rfl ?_
          refine x_if_eq (tgt := 140) (q := 116) E dX6_alphabet_113 (by decide) rfl (by omega) (fun _ => ?_) (fun h9 => absurd h9 (by decide))
          refine x_iconst (q := 141) E dX6_alphabet_140 rfl ?_
          refine x_istore (q := 143) (lv' := [(7, .int (ii (0))), (10, .int (ii (ya))), (9, .int (ii (xa))), (8, .int (ii (1))), (0, .ref (ad 0)), (1, .int (ii ((q : Int)))), (2, .int (ii (3))), (3, .int (ii (wa))), (4, .int (ii (xa))), (5, .int (ii (ya))), (6, .int (ii (za)))]) E dX6_alphabet_141 (by decide) rfl rfl ?_
          refine x_iinc (q := 146) (k := 3) (lv' := [(8, .int (ii (2))), (7, .int (ii (0))), (10, .int (ii (ya))), (9, .int (ii (xa))), (0, .ref (ad 0)), (1, .int (ii ((q : Int)))), (2, .int (ii (3))), (3, .int (ii (wa))), (4, .int (ii (xa))), (5, .int (ii (ya))), (6, .int (ii (za)))]) E dX6_alphabet_143 rfl (by decide) rfl rfl ?_
          refine x_goto (tgt := 33) E dX6_alphabet_146 (by decide) ?_
          refine x_iload (q := 35) E dX6_alphabet_33 0 rfl rfl ?_
          refine x_iload_n (q := 36) E dX6_alphabet_35 6 rfl rfl ?_
          refine x_icmp_ge (tgt := 149) (q := 39) E dX6_alphabet_36 (by decide) rfl (by omega) (by omega) (fun h9 => absurd h9 (by decide)) (fun _ => ?_)
          refine x_iload (q := 41) E dX6_alphabet_39 0 rfl rfl ?_
          refine x_if_ne (tgt := 48) (q := 44) E dX6_alphabet_41 (by decide) rfl (by omega) (fun _ => ?_) (fun h9 => absurd h9 (by decide))
          refine x_iload (q := 50) E dX6_alphabet_48 0 rfl rfl ?_
          refine x_iconst (q := 51) E dX6_alphabet_50 rfl ?_
          refine x_icmp_ne (tgt := 59) (q := 54) E dX6_alphabet_51 (by decide) rfl (by omega) (by omega) (fun _ => ?_) (fun h9 => absurd h9 (by decide))
          refine x_iload (q := 61) E dX6_alphabet_59 0 rfl rfl ?_
          refine x_iconst (q := 62) E dX6_alphabet_61 rfl ?_
          refine x_icmp_ne (tgt := 70) (q := 65) E dX6_alphabet_62 (by decide) rfl (by omega) (by omega) (fun h9 => absurd h9 (by decide)) (fun _ => ?_)
          refine x_iload (q := 67) E dX6_alphabet_65 9 rfl rfl ?_
          refine x_goto (tgt := 72) E dX6_alphabet_67 (by decide) ?_
          refine x_istore (q := 74) (lv' := [(9, .int (ii (ya))), (8, .int (ii (2))), (7, .int (ii (0))), (10, .int (ii (ya))), (0, .ref (ad 0)), (1, .int (ii ((q : Int)))), (2, .int (ii (3))), (3, .int (ii (wa))), (4, .int (ii (xa))), (5, .int (ii (ya))), (6, .int (ii (za)))]) E dX6_alphabet_72 (by decide) rfl rfl ?_
          refine x_iload (q := 76) E dX6_alphabet_74 1 rfl rfl ?_
          refine x_iload_n (q := 77) E dX6_alphabet_76 6 rfl rfl ?_
          refine x_iconst (q := 78) E dX6_alphabet_77 rfl ?_
          refine x_isub (q := 79) E dX6_alphabet_78 rfl ?_
          refine x_ti (show (3) - (1) = 2 from rfl) ?_
          refine x_icmp_ne (tgt := 86) (q := 82) E dX6_alphabet_79 (by decide) rfl (by omega) (by omega) (fun h9 => absurd h9 (by decide)) (fun _ => ?_)
          refine x_iload_n (q := 83) E dX6_alphabet_82 7 rfl rfl ?_
          refine x_goto (tgt := 109) E dX6_alphabet_83 (by decide) ?_
          refine x_istore (q := 111) (lv' := [(10, .int (ii (wa))), (9, .int (ii (ya))), (8, .int (ii (2))), (7, .int (ii (0))), (0, .ref (ad 0)), (1, .int (ii ((q : Int)))), (2, .int (ii (3))), (3, .int (ii (wa))), (4, .int (ii (xa))), (5, .int (ii (ya))), (6, .int (ii (za)))]) E dX6_alphabet_109 (by decide) rfl rfl ?_
          refine x_iload (q := 113) E dX6_alphabet_111 3 rfl rfl ?_
          refine x_if_eq (tgt := 140) (q := 116) E dX6_alphabet_113 (by decide) rfl (by omega) (fun _ => ?_) (fun h9 => absurd h9 (by decide))
          refine x_iconst (q := 141) E dX6_alphabet_140 rfl ?_
          refine x_istore (q := 143) (lv' := [(7, .int (ii (0))), (10, .int (ii (wa))), (9, .int (ii (ya))), (8, .int (ii (2))), (0, .ref (ad 0)), (1, .int (ii ((q : Int)))), (2, .int (ii (3))), (3, .int (ii (wa))), (4, .int (ii (xa))), (5, .int (ii (ya))), (6, .int (ii (za)))]) E dX6_alphabet_141 (by decide) rfl rfl ?_
          refine x_iinc (q := 146) (k := 3) (lv' := [(8, .int (ii (3))), (7, .int (ii (0))), (10, .int (ii (wa))), (9, .int (ii (ya))), (0, .ref (ad 0)), (1, .int (ii ((q : Int)))), (2, .int (ii (3))), (3, .int (ii (wa))), (4, .int (ii (xa))), (5, .int (ii (ya))), (6, .int (ii (za)))]) E dX6_alphabet_143 rfl (by decide) rfl rfl ?_
          refine x_goto (tgt := 33) E dX6_alphabet_146 (by decide) ?_
          refine x_iload (q := 35) E dX6_alphabet_33 0 rfl rfl ?_
          refine x_iload_n (q := 36) E dX6_alphabet_35 6 rfl rfl ?_
          refine x_icmp_ge (tgt := 149) (q := 39) E dX6_alphabet_36 (by decide) rfl (by omega) (by omega) (fun _ => ?_) (fun h9 => absurd h9 (by decide))
          refine x_iload (q := 151) E dX6_alphabet_149 1 rfl rfl ?_
          refine x_if_ne (tgt := 157) (q := 154) E dX6_alphabet_151 (by decide) rfl (by omega) (fun h9 => absurd h9 (by decide)) (fun _ => ?_)
          refine x_bipush (q := 156) E dX6_alphabet_154 (by decide) rfl ?_
          exact RET _ _ _ _ dX6_alphabet_156 (by have o1 : ¬ okA 3 wa xa ya za := (by unfold okA; omega); exact ⟨by rw [if_neg o1], by rw [if_neg o1]; exact hI⟩)
        · refine x_iload (q := 131) E dX6_alphabet_129 1 rfl rfl ?_
          refine x_iload (q := 133) E dX6_alphabet_131 0 rfl rfl ?_
          refine x_icmp_eq (tgt := 140) (q := 136) E dX6_alphabet_133 (by decide) rfl (by omega) (by omega) (fun c133 => ?_) (fun c133 => ?_)
          · refine x_iconst (q := 141) E dX6_alphabet_140 rfl ?_
            refine x_istore (q := 143) (lv' := [(7, .int (ii (0))), (10, .int (ii (xa))), (9, .int (ii (wa))), (8, .int (ii (0))), (0, .ref (ad 0)), (1, .int (ii ((q : Int)))), (2, .int (ii (3))), (3, .int (ii (wa))), (4, .int (ii (xa))), (5, .int (ii (ya))), (6, .int (ii (za)))]) E dX6_alphabet_141 (by decide) rfl rfl ?_
            refine x_iinc (q := 146) (k := 3) (lv' := [(8, .int (ii (1))), (7, .int (ii (0))), (10, .int (ii (xa))), (9, .int (ii (wa))), (0, .ref (ad 0)), (1, .int (ii ((q : Int)))), (2, .int (ii (3))), (3, .int (ii (wa))), (4, .int (ii (xa))), (5, .int (ii (ya))), (6, .int (ii (za)))]) E dX6_alphabet_143 rfl (by decide) rfl rfl ?_
            refine x_goto (tgt := 33) E dX6_alphabet_146 (by decide) ?_
            refine x_iload (q := 35) E dX6_alphabet_33 0 rfl rfl ?_
            refine x_iload_n (q := 36) E dX6_alphabet_35 6 rfl rfl ?_
            refine x_icmp_ge (tgt := 149) (q := 39) E dX6_alphabet_36 (by decide) rfl (by omega) (by omega) (fun h9 => absurd h9 (by decide)) (fun _ => ?_)
            refine x_iload (q := 41) E dX6_alphabet_39 0 rfl rfl ?_
            refine x_if_ne (tgt := 48) (q := 44) E dX6_alphabet_41 (by decide) rfl (by omega) (fun _ => ?_) (fun h9 => absurd h9 (by decide))
            refine x_iload (q := 50) E dX6_alphabet_48 0 rfl rfl ?_
            refine x_iconst (q := 51) E dX6_alphabet_50 rfl ?_
            refine x_icmp_ne (tgt := 59) (q := 54) E dX6_alphabet_51 (by decide) rfl (by omega) (by omega) (fun h9 => absurd h9 (by decide)) (fun _ => ?_)
            refine x_iload (q := 56) E dX6_alphabet_54 8 rfl rfl ?_
            refine x_goto (tgt := 72) E dX6_alphabet_56 (by decide) ?_
            refine x_istore (q := 74) (lv' := [(9, .int (ii (xa))), (8, .int (ii (1))), (7, .int (ii (0))), (10, .int (ii (xa))), (0, .ref (ad 0)), (1, .int (ii ((q : Int)))), (2, .int (ii (3))), (3, .int (ii (wa))), (4, .int (ii (xa))), (5, .int (ii (ya))), (6, .int (ii (za)))]) E dX6_alphabet_72 (by decide) rfl rfl ?_
            refine x_iload (q := 76) E dX6_alphabet_74 1 rfl rfl ?_
            refine x_iload_n (q := 77) E dX6_alphabet_76 6 rfl rfl ?_
            refine x_iconst (q := 78) E dX6_alphabet_77 rfl ?_
            refine x_isub (q := 79) E dX6_alphabet_78 rfl ?_
            refine x_ti (show (3) - (1) = 2 from rfl) ?_
            refine x_icmp_ne (tgt := 86) (q := 82) E dX6_alphabet_79 (by decide) rfl (by omega) (by omega) (fun _ => ?_) (fun h9 => absurd h9 (by decide))
            refine x_iload (q := 88) E dX6_alphabet_86 1 rfl rfl ?_
            refine x_if_ne (tgt := 96) (q := 91) E dX6_alphabet_88 (by decide) rfl (by omega) (fun _ => ?_) (fun h9 => absurd h9 (by decide))
            refine x_iload (q := 98) E dX6_alphabet_96 1 rfl rfl ?_
            refine x_iconst (q := 99) E dX6_alphabet_98 rfl ?_
            refine x_icmp_ne (tgt := 107) (q := 102) E dX6_alphabet_99 (by decide) rfl (by omega) (by omega) (fun h9 => absurd h9 (by decide)) (fun _ => ?_)
            refine x_iload (q := 104) E dX6_alphabet_102 9 rfl rfl ?_
            refine x_goto (tgt := 109) E dX6_alphabet_104 (by decide) ?_
            refine x_istore (q := 111) (lv' := [(10, .int (ii (ya))), (9, .int (ii (xa))), (8, .int (ii (1))), (7, .int (ii (0))), (0, .ref (ad 0)), (1, .int (ii ((q : Int)))), (2, .int (ii (3))), (3, .int (ii (wa))), (4, .int (ii (xa))), (5, .int (ii (ya))), (6, .int (ii (za)))]) E dX6_alphabet_109 (by decide) rfl rfl ?_
            refine x_iload (q := 113) E dX6_alphabet_111 3 rfl rfl ?_
            refine x_if_eq (tgt := 140) (q := 116) E dX6_alphabet_113 (by decide) rfl (by omega) (fun _ => ?_) (fun h9 => absurd h9 (by decide))
            refine x_iconst (q := 141) E dX6_alphabet_140 rfl ?_
            refine x_istore (q := 143) (lv' := [(7, .int (ii (0))), (10, .int (ii (ya))), (9, .int (ii (xa))), (8, .int (ii (1))), (0, .ref (ad 0)), (1, .int (ii ((q : Int)))), (2, .int (ii (3))), (3, .int (ii (wa))), (4, .int (ii (xa))), (5, .int (ii (ya))), (6, .int (ii (za)))]) E dX6_alphabet_141 (by decide) rfl rfl ?_
            refine x_iinc (q := 146) (k := 3) (lv' := [(8, .int (ii (2))), (7, .int (ii (0))), (10, .int (ii (ya))), (9, .int (ii (xa))), (0, .ref (ad 0)), (1, .int (ii ((q : Int)))), (2, .int (ii (3))), (3, .int (ii (wa))), (4, .int (ii (xa))), (5, .int (ii (ya))), (6, .int (ii (za)))]) E dX6_alphabet_143 rfl (by decide) rfl rfl ?_
            refine x_goto (tgt := 33) E dX6_alphabet_146 (by decide) ?_
            refine x_iload (q := 35) E dX6_alphabet_33 0 rfl rfl ?_
            refine x_iload_n (q := 36) E dX6_alphabet_35 6 rfl rfl ?_
            refine x_icmp_ge (tgt := 149) (q := 39) E dX6_alphabet_36 (by decide) rfl (by omega) (by omega) (fun h9 => absurd h9 (by decide)) (fun _ => ?_)
            refine x_iload (q := 41) E dX6_alphabet_39 0 rfl rfl ?_
            refine x_if_ne (tgt := 48) (q := 44) E dX6_alphabet_41 (by decide) rfl (by omega) (fun _ => ?_) (fun h9 => absurd h9 (by decide))
            refine x_iload (q := 50) E dX6_alphabet_48 0 rfl rfl ?_
            refine x_iconst (q := 51) E dX6_alphabet_50 rfl ?_
            refine x_icmp_ne (tgt := 59) (q := 54) E dX6_alphabet_51 (by decide) rfl (by omega) (by omega) (fun _ => ?_) (fun h9 => absurd h9 (by decide))
            refine x_iload (q := 61) E dX6_alphabet_59 0 rfl rfl ?_
            refine x_iconst (q := 62) E dX6_alphabet_61 rfl ?_
            refine x_icmp_ne (tgt := 70) (q := 65) E dX6_alphabet_62 (by decide) rfl (by omega) (by omega) (fun h9 => absurd h9 (by decide)) (fun _ => ?_)
            refine x_iload (q := 67) E dX6_alphabet_65 9 rfl rfl ?_
            refine x_goto (tgt := 72) E dX6_alphabet_67 (by decide) ?_
            refine x_istore (q := 74) (lv' := [(9, .int (ii (ya))), (8, .int (ii (2))), (7, .int (ii (0))), (10, .int (ii (ya))), (0, .ref (ad 0)), (1, .int (ii ((q : Int)))), (2, .int (ii (3))), (3, .int (ii (wa))), (4, .int (ii (xa))), (5, .int (ii (ya))), (6, .int (ii (za)))]) E dX6_alphabet_72 (by decide) rfl rfl ?_
            refine x_iload (q := 76) E dX6_alphabet_74 1 rfl rfl ?_
            refine x_iload_n (q := 77) E dX6_alphabet_76 6 rfl rfl ?_
            refine x_iconst (q := 78) E dX6_alphabet_77 rfl ?_
            refine x_isub (q := 79) E dX6_alphabet_78 rfl ?_
            refine x_ti (show (3) - (1) = 2 from rfl) ?_
            refine x_icmp_ne (tgt := 86) (q := 82) E dX6_alphabet_79 (by decide) rfl (by omega) (by omega) (fun h9 => absurd h9 (by decide)) (fun _ => ?_)
            refine x_iload_n (q := 83) E dX6_alphabet_82 7 rfl rfl ?_
            refine x_goto (tgt := 109) E dX6_alphabet_83 (by decide) ?_
            refine x_istore (q := 111) (lv' := [(10, .int (ii (wa))), (9, .int (ii (ya))), (8, .int (ii (2))), (7, .int (ii (0))), (0, .ref (ad 0)), (1, .int (ii ((q : Int)))), (2, .int (ii (3))), (3, .int (ii (wa))), (4, .int (ii (xa))), (5, .int (ii (ya))), (6, .int (ii (za)))]) E dX6_alphabet_109 (by decide) rfl rfl ?_
            refine x_iload (q := 113) E dX6_alphabet_111 3 rfl rfl ?_
            refine x_if_eq (tgt := 140) (q := 116) E dX6_alphabet_113 (by decide) rfl (by omega) (fun _ => ?_) (fun h9 => absurd h9 (by decide))
            refine x_iconst (q := 141) E dX6_alphabet_140 rfl ?_
            refine x_istore (q := 143) (lv' := [(7, .int (ii (0))), (10, .int (ii (wa))), (9, .int (ii (ya))), (8, .int (ii (2))), (0, .ref (ad 0)), (1, .int (ii ((q : Int)))), (2, .int (ii (3))), (3, .int (ii (wa))), (4, .int (ii (xa))), (5, .int (ii (ya))), (6, .int (ii (za)))]) E dX6_alphabet_141 (by decide) rfl rfl ?_
            refine x_iinc (q := 146) (k := 3) (lv' := [(8, .int (ii (3))), (7, .int (ii (0))), (10, .int (ii (wa))), (9, .int (ii (ya))), (0, .ref (ad 0)), (1, .int (ii ((q : Int)))), (2, .int (ii (3))), (3, .int (ii (wa))), (4, .int (ii (xa))), (5, .int (ii (ya))), (6, .int (ii (za)))]) E dX6_alphabet_143 rfl (by decide) rfl rfl ?_
            refine x_goto (tgt := 33) E dX6_alphabet_146 (by decide) ?_
            refine x_iload (q := 35) E dX6_alphabet_33 0 rfl rfl ?_
            refine x_iload_n (q := 36) E dX6_alphabet_35 6 rfl rfl ?_
            refine x_icmp_ge (tgt := 149) (q := 39) E dX6_alphabet_36 (by decide) rfl (by omega) (by omega) (fun _ => ?_) (fun h9 => absurd h9 (by decide))
            refine x_iload (q := 151) E dX6_alphabet_149 1 rfl rfl ?_
            refine x_if_ne (tgt := 157) (q := 154) E dX6_alphabet_151 (by decide) rfl (by omega) (fun h9 => absurd h9 (by decide)) (fun _ => ?_)
            refine x_bipush (q := 156) E dX6_alphabet_154 (by decide) rfl ?_
            exact RET _ _ _ _ dX6_alphabet_156 (by have o1 : ¬ okA 3 wa xa ya za := (by unfold okA; omega); exact ⟨by rw [if_neg o1], by rw [if_neg o1]; exact hI⟩)
          · refine x_iconst (q := 137) E dX6_alphabet_136 rfl ?_
            refine x_goto (tgt := 141) E dX6_alphabet_137 (by decide) ?_
            refine x_istore (q := 143) (lv' := [(7, .int (ii (1))), (10, .int (ii (xa))), (9, .int (ii (wa))), (8, .int (ii (0))), (0, .ref (ad 0)), (1, .int (ii ((q : Int)))), (2, .int (ii (3))), (3, .int (ii (wa))), (4, .int (ii (xa))), (5, .int (ii (ya))), (6, .int (ii (za)))]) E dX6_alphabet_141 (by decide) rfl rfl ?_
            refine x_iinc (q := 146) (k := 3) (lv' := [(8, .int (ii (1))), (7, .int (ii (1))), (10, .int (ii (xa))), (9, .int (ii (wa))), (0, .ref (ad 0)), (1, .int (ii ((q : Int)))), (2, .int (ii (3))), (3, .int (ii (wa))), (4, .int (ii (xa))), (5, .int (ii (ya))), (6, .int (ii (za)))]) E dX6_alphabet_143 rfl (by decide) rfl rfl ?_
            refine x_goto (tgt := 33) E dX6_alphabet_146 (by decide) ?_
            refine x_iload (q := 35) E dX6_alphabet_33 0 rfl rfl ?_
            refine x_iload_n (q := 36) E dX6_alphabet_35 6 rfl rfl ?_
            refine x_icmp_ge (tgt := 149) (q := 39) E dX6_alphabet_36 (by decide) rfl (by omega) (by omega) (fun h9 => absurd h9 (by decide)) (fun _ => ?_)
            refine x_iload (q := 41) E dX6_alphabet_39 0 rfl rfl ?_
            refine x_if_ne (tgt := 48) (q := 44) E dX6_alphabet_41 (by decide) rfl (by omega) (fun _ => ?_) (fun h9 => absurd h9 (by decide))
            refine x_iload (q := 50) E dX6_alphabet_48 0 rfl rfl ?_
            refine x_iconst (q := 51) E dX6_alphabet_50 rfl ?_
            refine x_icmp_ne (tgt := 59) (q := 54) E dX6_alphabet_51 (by decide) rfl (by omega) (by omega) (fun h9 => absurd h9 (by decide)) (fun _ => ?_)
            refine x_iload (q := 56) E dX6_alphabet_54 8 rfl rfl ?_
            refine x_goto (tgt := 72) E dX6_alphabet_56 (by decide) ?_
            refine x_istore (q := 74) (lv' := [(9, .int (ii (xa))), (8, .int (ii (1))), (7, .int (ii (1))), (10, .int (ii (xa))), (0, .ref (ad 0)), (1, .int (ii ((q : Int)))), (2, .int (ii (3))), (3, .int (ii (wa))), (4, .int (ii (xa))), (5, .int (ii (ya))), (6, .int (ii (za)))]) E dX6_alphabet_72 (by decide) rfl rfl ?_
            refine x_iload (q := 76) E dX6_alphabet_74 1 rfl rfl ?_
            refine x_iload_n (q := 77) E dX6_alphabet_76 6 rfl rfl ?_
            refine x_iconst (q := 78) E dX6_alphabet_77 rfl ?_
            refine x_isub (q := 79) E dX6_alphabet_78 rfl ?_
            refine x_ti (show (3) - (1) = 2 from rfl) ?_
            refine x_icmp_ne (tgt := 86) (q := 82) E dX6_alphabet_79 (by decide) rfl (by omega) (by omega) (fun _ => ?_) (fun h9 => absurd h9 (by decide))
            refine x_iload (q := 88) E dX6_alphabet_86 1 rfl rfl ?_
            refine x_if_ne (tgt := 96) (q := 91) E dX6_alphabet_88 (by decide) rfl (by omega) (fun _ => ?_) (fun h9 => absurd h9 (by decide))
            refine x_iload (q := 98) E dX6_alphabet_96 1 rfl rfl ?_
            refine x_iconst (q := 99) E dX6_alphabet_98 rfl ?_
            refine x_icmp_ne (tgt := 107) (q := 102) E dX6_alphabet_99 (by decide) rfl (by omega) (by omega) (fun h9 => absurd h9 (by decide)) (fun _ => ?_)
            refine x_iload (q := 104) E dX6_alphabet_102 9 rfl rfl ?_
            refine x_goto (tgt := 109) E dX6_alphabet_104 (by decide) ?_
            refine x_istore (q := 111) (lv' := [(10, .int (ii (ya))), (9, .int (ii (xa))), (8, .int (ii (1))), (7, .int (ii (1))), (0, .ref (ad 0)), (1, .int (ii ((q : Int)))), (2, .int (ii (3))), (3, .int (ii (wa))), (4, .int (ii (xa))), (5, .int (ii (ya))), (6, .int (ii (za)))]) E dX6_alphabet_109 (by decide) rfl rfl ?_
            refine x_iload (q := 113) E dX6_alphabet_111 3 rfl rfl ?_
            refine x_if_eq (tgt := 140) (q := 116) E dX6_alphabet_113 (by decide) rfl (by omega) (fun h9 => absurd h9 (by decide)) (fun _ => ?_)
            refine x_iload (q := 118) E dX6_alphabet_116 1 rfl rfl ?_
            refine x_i2l (q := 119) E dX6_alphabet_118 (by omega) rfl ?_
            refine x_lconst (q := 120) (z := 1) E dX6_alphabet_119 (by decide) rfl ?_
            refine x_ldc2 (q := 123) (v := 6) (z := 6) E (by decide +kernel) (by decide) dX6_alphabet_120 rfl ?_
            refine x_callSi (q := 126) (n := 3) (As := [.long (jj (xa)), .long (jj (1)), .long (jj (6))]) (r := []) E (c_X6_in l D T ad hN st (xa) (1) (6) (by omega) (by omega) (by omega)) gX6_alphabet_X6_in rfl rfl rfl (by decide +kernel) ⟨Nat.le_of_ble_eq_true rfl, Nat.le_of_ble_eq_true rfl⟩ rfl rfl (Nat.le_of_ble_eq_true rfl) dX6_alphabet_123 rfl (fun z16 s17 q18 => ?_)
            obtain ⟨rfl, rfl⟩ := q18
            refine x_if_eq (tgt := 140) (q := 129) E dX6_alphabet_126 (by decide) rfl (by omega) (fun c126 => ?_) (fun c126 => ?_)
            · refine x_iconst (q := 141) E dX6_alphabet_140 rfl ?_
              refine x_istore (q := 143) (lv' := [(7, .int (ii (0))), (10, .int (ii (ya))), (9, .int (ii (xa))), (8, .int (ii (1))), (0, .ref (ad 0)), (1, .int (ii ((q : Int)))), (2, .int (ii (3))), (3, .int (ii (wa))), (4, .int (ii (xa))), (5, .int (ii (ya))), (6, .int (ii (za)))]) E dX6_alphabet_141 (by decide) rfl rfl ?_
              refine x_iinc (q := 146) (k := 3) (lv' := [(8, .int (ii (2))), (7, .int (ii (0))), (10, .int (ii (ya))), (9, .int (ii (xa))), (0, .ref (ad 0)), (1, .int (ii ((q : Int)))), (2, .int (ii (3))), (3, .int (ii (wa))), (4, .int (ii (xa))), (5, .int (ii (ya))), (6, .int (ii (za)))]) E dX6_alphabet_143 rfl (by decide) rfl rfl ?_
              refine x_goto (tgt := 33) E dX6_alphabet_146 (by decide) ?_
              refine x_iload (q := 35) E dX6_alphabet_33 0 rfl rfl ?_
              refine x_iload_n (q := 36) E dX6_alphabet_35 6 rfl rfl ?_
              refine x_icmp_ge (tgt := 149) (q := 39) E dX6_alphabet_36 (by decide) rfl (by omega) (by omega) (fun h9 => absurd h9 (by decide)) (fun _ => ?_)
              refine x_iload (q := 41) E dX6_alphabet_39 0 rfl rfl ?_
              refine x_if_ne (tgt := 48) (q := 44) E dX6_alphabet_41 (by decide) rfl (by omega) (fun _ => ?_) (fun h9 => absurd h9 (by decide))
              refine x_iload (q := 50) E dX6_alphabet_48 0 rfl rfl ?_
              refine x_iconst (q := 51) E dX6_alphabet_50 rfl ?_
              refine x_icmp_ne (tgt := 59) (q := 54) E dX6_alphabet_51 (by decide) rfl (by omega) (by omega) (fun _ => ?_) (fun h9 => absurd h9 (by decide))
              refine x_iload (q := 61) E dX6_alphabet_59 0 rfl rfl ?_
              refine x_iconst (q := 62) E dX6_alphabet_61 rfl ?_
              refine x_icmp_ne (tgt := 70) (q := 65) E dX6_alphabet_62 (by decide) rfl (by omega) (by omega) (fun h9 => absurd h9 (by decide)) (fun _ => ?_)
              refine x_iload (q := 67) E dX6_alphabet_65 9 rfl rfl ?_
              refine x_goto (tgt := 72) E dX6_alphabet_67 (by decide) ?_
              refine x_istore (q := 74) (lv' := [(9, .int (ii (ya))), (8, .int (ii (2))), (7, .int (ii (0))), (10, .int (ii (ya))), (0, .ref (ad 0)), (1, .int (ii ((q : Int)))), (2, .int (ii (3))), (3, .int (ii (wa))), (4, .int (ii (xa))), (5, .int (ii (ya))), (6, .int (ii (za)))]) E dX6_alphabet_72 (by decide) rfl rfl ?_
              refine x_iload (q := 76) E dX6_alphabet_74 1 rfl rfl ?_
              refine x_iload_n (q := 77) E dX6_alphabet_76 6 rfl rfl ?_
              refine x_iconst (q := 78) E dX6_alphabet_77 rfl ?_
              refine x_isub (q := 79) E dX6_alphabet_78 rfl ?_
              refine x_ti (show (3) - (1) = 2 from rfl) ?_
              refine x_icmp_ne (tgt := 86) (q := 82) E dX6_alphabet_79 (by decide) rfl (by omega) (by omega) (fun h9 => absurd h9 (by decide)) (fun _ => ?_)
              refine x_iload_n (q := 83) E dX6_alphabet_82 7 rfl rfl ?_
              refine x_goto (tgt := 109) E dX6_alphabet_83 (by decide) ?_
              refine x_istore (q := 111) (lv' := [(10, .int (ii (wa))), (9, .int (ii (ya))), (8, .int (ii (2))), (7, .int (ii (0))), (0, .ref (ad 0)), (1, .int (ii ((q : Int)))), (2, .int (ii (3))), (3, .int (ii (wa))), (4, .int (ii (xa))), (5, .int (ii (ya))), (6, .int (ii (za)))]) E dX6_alphabet_109 (by decide) rfl rfl ?_
              refine x_iload (q := 113) E dX6_alphabet_111 3 rfl rfl ?_
              refine x_if_eq (tgt := 140) (q := 116) E dX6_alphabet_113 (by decide) rfl (by omega) (fun _ => ?_) (fun h9 => absurd h9 (by decide))
              refine x_iconst (q := 141) E dX6_alphabet_140 rfl ?_
              refine x_istore (q := 143) (lv' := [(7, .int (ii (0))), (10, .int (ii (wa))), (9, .int (ii (ya))), (8, .int (ii (2))), (0, .ref (ad 0)), (1, .int (ii ((q : Int)))), (2, .int (ii (3))), (3, .int (ii (wa))), (4, .int (ii (xa))), (5, .int (ii (ya))), (6, .int (ii (za)))]) E dX6_alphabet_141 (by decide) rfl rfl ?_
              refine x_iinc (q := 146) (k := 3) (lv' := [(8, .int (ii (3))), (7, .int (ii (0))), (10, .int (ii (wa))), (9, .int (ii (ya))), (0, .ref (ad 0)), (1, .int (ii ((q : Int)))), (2, .int (ii (3))), (3, .int (ii (wa))), (4, .int (ii (xa))), (5, .int (ii (ya))), (6, .int (ii (za)))]) E dX6_alphabet_143 rfl (by decide) rfl rfl ?_
              refine x_goto (tgt := 33) E dX6_alphabet_146 (by decide) ?_
              refine x_iload (q := 35) E dX6_alphabet_33 0 rfl rfl ?_
              refine x_iload_n (q := 36) E dX6_alphabet_35 6 rfl rfl ?_
              refine x_icmp_ge (tgt := 149) (q := 39) E dX6_alphabet_36 (by decide) rfl (by omega) (by omega) (fun _ => ?_) (fun h9 => absurd h9 (by decide))
              refine x_iload (q := 151) E dX6_alphabet_149 1 rfl rfl ?_
              refine x_if_ne (tgt := 157) (q := 154) E dX6_alphabet_151 (by decide) rfl (by omega) (fun h9 => absurd h9 (by decide)) (fun _ => ?_)
              refine x_bipush (q := 156) E dX6_alphabet_154 (by decide) rfl ?_
              exact RET _ _ _ _ dX6_alphabet_156 (by have o1 : ¬ okA 3 wa xa ya za := (by unfold okA; omega); exact ⟨by rw [if_neg o1], by rw [if_neg o1]; exact hI⟩)
            · refine x_iload (q := 131) E dX6_alphabet_129 1 rfl rfl ?_
              refine x_iload (q := 133) E dX6_alphabet_131 0 rfl rfl ?_
              refine x_icmp_eq (tgt := 140) (q := 136) E dX6_alphabet_133 (by decide) rfl (by omega) (by omega) (fun c133 => ?_) (fun c133 => ?_)
              · refine x_iconst (q := 141) E dX6_alphabet_140 rfl ?_
                refine x_istore (q := 143) (lv' := [(7, .int (ii (0))), (10, .int (ii (ya))), (9, .int (ii (xa))), (8, .int (ii (1))), (0, .ref (ad 0)), (1, .int (ii ((q : Int)))), (2, .int (ii (3))), (3, .int (ii (wa))), (4, .int (ii (xa))), (5, .int (ii (ya))), (6, .int (ii (za)))]) E dX6_alphabet_141 (by decide) rfl rfl ?_
                refine x_iinc (q := 146) (k := 3) (lv' := [(8, .int (ii (2))), (7, .int (ii (0))), (10, .int (ii (ya))), (9, .int (ii (xa))), (0, .ref (ad 0)), (1, .int (ii ((q : Int)))), (2, .int (ii (3))), (3, .int (ii (wa))), (4, .int (ii (xa))), (5, .int (ii (ya))), (6, .int (ii (za)))]) E dX6_alphabet_143 rfl (by decide) rfl rfl ?_
                refine x_goto (tgt := 33) E dX6_alphabet_146 (by decide) ?_
                refine x_iload (q := 35) E dX6_alphabet_33 0 rfl rfl ?_
                refine x_iload_n (q := 36) E dX6_alphabet_35 6 rfl rfl ?_
                refine x_icmp_ge (tgt := 149) (q := 39) E dX6_alphabet_36 (by decide) rfl (by omega) (by omega) (fun h9 => absurd h9 (by decide)) (fun _ => ?_)
                refine x_iload (q := 41) E dX6_alphabet_39 0 rfl rfl ?_
                refine x_if_ne (tgt := 48) (q := 44) E dX6_alphabet_41 (by decide) rfl (by omega) (fun _ => ?_) (fun h9 => absurd h9 (by decide))
                refine x_iload (q := 50) E dX6_alphabet_48 0 rfl rfl ?_
                refine x_iconst (q := 51) E dX6_alphabet_50 rfl ?_
                refine x_icmp_ne (tgt := 59) (q := 54) E dX6_alphabet_51 (by decide) rfl (by omega) (by omega) (fun _ => ?_) (fun h9 => absurd h9 (by decide))
                refine x_iload (q := 61) E dX6_alphabet_59 0 rfl rfl ?_
                refine x_iconst (q := 62) E dX6_alphabet_61 rfl ?_
                refine x_icmp_ne (tgt := 70) (q := 65) E dX6_alphabet_62 (by decide) rfl (by omega) (by omega) (fun h9 => absurd h9 (by decide)) (fun _ => ?_)
                refine x_iload (q := 67) E dX6_alphabet_65 9 rfl rfl ?_
                refine x_goto (tgt := 72) E dX6_alphabet_67 (by decide) ?_
                refine x_istore (q := 74) (lv' := [(9, .int (ii (ya))), (8, .int (ii (2))), (7, .int (ii (0))), (10, .int (ii (ya))), (0, .ref (ad 0)), (1, .int (ii ((q : Int)))), (2, .int (ii (3))), (3, .int (ii (wa))), (4, .int (ii (xa))), (5, .int (ii (ya))), (6, .int (ii (za)))]) E dX6_alphabet_72 (by decide) rfl rfl ?_
                refine x_iload (q := 76) E dX6_alphabet_74 1 rfl rfl ?_
                refine x_iload_n (q := 77) E dX6_alphabet_76 6 rfl rfl ?_
                refine x_iconst (q := 78) E dX6_alphabet_77 rfl ?_
                refine x_isub (q := 79) E dX6_alphabet_78 rfl ?_
                refine x_ti (show (3) - (1) = 2 from rfl) ?_
                refine x_icmp_ne (tgt := 86) (q := 82) E dX6_alphabet_79 (by decide) rfl (by omega) (by omega) (fun h9 => absurd h9 (by decide)) (fun _ => ?_)
                refine x_iload_n (q := 83) E dX6_alphabet_82 7 rfl rfl ?_
                refine x_goto (tgt := 109) E dX6_alphabet_83 (by decide) ?_
                refine x_istore (q := 111) (lv' := [(10, .int (ii (wa))), (9, .int (ii (ya))), (8, .int (ii (2))), (7, .int (ii (0))), (0, .ref (ad 0)), (1, .int (ii ((q : Int)))), (2, .int (ii (3))), (3, .int (ii (wa))), (4, .int (ii (xa))), (5, .int (ii (ya))), (6, .int (ii (za)))]) E dX6_alphabet_109 (by decide) rfl rfl ?_
                refine x_iload (q := 113) E dX6_alphabet_111 3 rfl rfl ?_
                refine x_if_eq (tgt := 140) (q := 116) E dX6_alphabet_113 (by decide) rfl (by omega) (fun _ => ?_) (fun h9 => absurd h9 (by decide))
                refine x_iconst (q := 141) E dX6_alphabet_140 rfl ?_
                refine x_istore (q := 143) (lv' := [(7, .int (ii (0))), (10, .int (ii (wa))), (9, .int (ii (ya))), (8, .int (ii (2))), (0, .ref (ad 0)), (1, .int (ii ((q : Int)))), (2, .int (ii (3))), (3, .int (ii (wa))), (4, .int (ii (xa))), (5, .int (ii (ya))), (6, .int (ii (za)))]) E dX6_alphabet_141 (by decide) rfl rfl ?_
                refine x_iinc (q := 146) (k := 3) (lv' := [(8, .int (ii (3))), (7, .int (ii (0))), (10, .int (ii (wa))), (9, .int (ii (ya))), (0, .ref (ad 0)), (1, .int (ii ((q : Int)))), (2, .int (ii (3))), (3, .int (ii (wa))), (4, .int (ii (xa))), (5, .int (ii (ya))), (6, .int (ii (za)))]) E dX6_alphabet_143 rfl (by decide) rfl rfl ?_
                refine x_goto (tgt := 33) E dX6_alphabet_146 (by decide) ?_
                refine x_iload (q := 35) E dX6_alphabet_33 0 rfl rfl ?_
                refine x_iload_n (q := 36) E dX6_alphabet_35 6 rfl rfl ?_
                refine x_icmp_ge (tgt := 149) (q := 39) E dX6_alphabet_36 (by decide) rfl (by omega) (by omega) (fun _ => ?_) (fun h9 => absurd h9 (by decide))
                refine x_iload (q := 151) E dX6_alphabet_149 1 rfl rfl ?_
                refine x_if_ne (tgt := 157) (q := 154) E dX6_alphabet_151 (by decide) rfl (by omega) (fun h9 => absurd h9 (by decide)) (fun _ => ?_)
                refine x_bipush (q := 156) E dX6_alphabet_154 (by decide) rfl ?_
                exact RET _ _ _ _ dX6_alphabet_156 (by have o1 : ¬ okA 3 wa xa ya za := (by unfold okA; omega); exact ⟨by rw [if_neg o1], by rw [if_neg o1]; exact hI⟩)
              · refine x_iconst (q := 137) E dX6_alphabet_136 rfl ?_
                refine x_goto (tgt := 141) E dX6_alphabet_137 (by decide) ?_
                refine x_istore (q := 143) (lv' := [(7, .int (ii (1))), (10, .int (ii (ya))), (9, .int (ii (xa))), (8, .int (ii (1))), (0, .ref (ad 0)), (1, .int (ii ((q : Int)))), (2, .int (ii (3))), (3, .int (ii (wa))), (4, .int (ii (xa))), (5, .int (ii (ya))), (6, .int (ii (za)))]) E dX6_alphabet_141 (by decide) rfl rfl ?_
                refine x_iinc (q := 146) (k := 3) (lv' := [(8, .int (ii (2))), (7, .int (ii (1))), (10, .int (ii (ya))), (9, .int (ii (xa))), (0, .ref (ad 0)), (1, .int (ii ((q : Int)))), (2, .int (ii (3))), (3, .int (ii (wa))), (4, .int (ii (xa))), (5, .int (ii (ya))), (6, .int (ii (za)))]) E dX6_alphabet_143 rfl (by decide) rfl rfl ?_
                refine x_goto (tgt := 33) E dX6_alphabet_146 (by decide) ?_
                refine x_iload (q := 35) E dX6_alphabet_33 0 rfl rfl ?_
                refine x_iload_n (q := 36) E dX6_alphabet_35 6 rfl rfl ?_
                refine x_icmp_ge (tgt := 149) (q := 39) E dX6_alphabet_36 (by decide) rfl (by omega) (by omega) (fun h9 => absurd h9 (by decide)) (fun _ => ?_)
                refine x_iload (q := 41) E dX6_alphabet_39 0 rfl rfl ?_
                refine x_if_ne (tgt := 48) (q := 44) E dX6_alphabet_41 (by decide) rfl (by omega) (fun _ => ?_) (fun h9 => absurd h9 (by decide))
                refine x_iload (q := 50) E dX6_alphabet_48 0 rfl rfl ?_
                refine x_iconst (q := 51) E dX6_alphabet_50 rfl ?_
                refine x_icmp_ne (tgt := 59) (q := 54) E dX6_alphabet_51 (by decide) rfl (by omega) (by omega) (fun _ => ?_) (fun h9 => absurd h9 (by decide))
                refine x_iload (q := 61) E dX6_alphabet_59 0 rfl rfl ?_
                refine x_iconst (q := 62) E dX6_alphabet_61 rfl ?_
                refine x_icmp_ne (tgt := 70) (q := 65) E dX6_alphabet_62 (by decide) rfl (by omega) (by omega) (fun h9 => absurd h9 (by decide)) (fun _ => ?_)
                refine x_iload (q := 67) E dX6_alphabet_65 9 rfl rfl ?_
                refine x_goto (tgt := 72) E dX6_alphabet_67 (by decide) ?_
                refine x_istore (q := 74) (lv' := [(9, .int (ii (ya))), (8, .int (ii (2))), (7, .int (ii (1))), (10, .int (ii (ya))), (0, .ref (ad 0)), (1, .int (ii ((q : Int)))), (2, .int (ii (3))), (3, .int (ii (wa))), (4, .int (ii (xa))), (5, .int (ii (ya))), (6, .int (ii (za)))]) E dX6_alphabet_72 (by decide) rfl rfl ?_
                refine x_iload (q := 76) E dX6_alphabet_74 1 rfl rfl ?_
                refine x_iload_n (q := 77) E dX6_alphabet_76 6 rfl rfl ?_
                refine x_iconst (q := 78) E dX6_alphabet_77 rfl ?_
                refine x_isub (q := 79) E dX6_alphabet_78 rfl ?_
                refine x_ti (show (3) - (1) = 2 from rfl) ?_
                refine x_icmp_ne (tgt := 86) (q := 82) E dX6_alphabet_79 (by decide) rfl (by omega) (by omega) (fun h9 => absurd h9 (by decide)) (fun _ => ?_)
                refine x_iload_n (q := 83) E dX6_alphabet_82 7 rfl rfl ?_
                refine x_goto (tgt := 109) E dX6_alphabet_83 (by decide) ?_
                refine x_istore (q := 111) (lv' := [(10, .int (ii (wa))), (9, .int (ii (ya))), (8, .int (ii (2))), (7, .int (ii (1))), (0, .ref (ad 0)), (1, .int (ii ((q : Int)))), (2, .int (ii (3))), (3, .int (ii (wa))), (4, .int (ii (xa))), (5, .int (ii (ya))), (6, .int (ii (za)))]) E dX6_alphabet_109 (by decide) rfl rfl ?_
                refine x_iload (q := 113) E dX6_alphabet_111 3 rfl rfl ?_
                refine x_if_eq (tgt := 140) (q := 116) E dX6_alphabet_113 (by decide) rfl (by omega) (fun h9 => absurd h9 (by decide)) (fun _ => ?_)
                refine x_iload (q := 118) E dX6_alphabet_116 1 rfl rfl ?_
                refine x_i2l (q := 119) E dX6_alphabet_118 (by omega) rfl ?_
                refine x_lconst (q := 120) (z := 1) E dX6_alphabet_119 (by decide) rfl ?_
                refine x_ldc2 (q := 123) (v := 6) (z := 6) E (by decide +kernel) (by decide) dX6_alphabet_120 rfl ?_
                refine x_callSi (q := 126) (n := 3) (As := [.long (jj (ya)), .long (jj (1)), .long (jj (6))]) (r := []) E (c_X6_in l D T ad hN st (ya) (1) (6) (by omega) (by omega) (by omega)) gX6_alphabet_X6_in rfl rfl rfl (by decide +kernel) ⟨Nat.le_of_ble_eq_true rfl, Nat.le_of_ble_eq_true rfl⟩ rfl rfl (Nat.le_of_ble_eq_true rfl) dX6_alphabet_123 rfl (fun z19 s20 q21 => ?_)
                obtain ⟨rfl, rfl⟩ := q21
                refine x_if_eq (tgt := 140) (q := 129) E dX6_alphabet_126 (by decide) rfl (by omega) (fun c126 => ?_) (fun c126 => ?_)
                · refine x_iconst (q := 141) E dX6_alphabet_140 rfl ?_
                  refine x_istore (q := 143) (lv' := [(7, .int (ii (0))), (10, .int (ii (wa))), (9, .int (ii (ya))), (8, .int (ii (2))), (0, .ref (ad 0)), (1, .int (ii ((q : Int)))), (2, .int (ii (3))), (3, .int (ii (wa))), (4, .int (ii (xa))), (5, .int (ii (ya))), (6, .int (ii (za)))]) E dX6_alphabet_141 (by decide) rfl rfl ?_
                  refine x_iinc (q := 146) (k := 3) (lv' := [(8, .int (ii (3))), (7, .int (ii (0))), (10, .int (ii (wa))), (9, .int (ii (ya))), (0, .ref (ad 0)), (1, .int (ii ((q : Int)))), (2, .int (ii (3))), (3, .int (ii (wa))), (4, .int (ii (xa))), (5, .int (ii (ya))), (6, .int (ii (za)))]) E dX6_alphabet_143 rfl (by decide) rfl rfl ?_
                  refine x_goto (tgt := 33) E dX6_alphabet_146 (by decide) ?_
                  refine x_iload (q := 35) E dX6_alphabet_33 0 rfl rfl ?_
                  refine x_iload_n (q := 36) E dX6_alphabet_35 6 rfl rfl ?_
                  refine x_icmp_ge (tgt := 149) (q := 39) E dX6_alphabet_36 (by decide) rfl (by omega) (by omega) (fun _ => ?_) (fun h9 => absurd h9 (by decide))
                  refine x_iload (q := 151) E dX6_alphabet_149 1 rfl rfl ?_
                  refine x_if_ne (tgt := 157) (q := 154) E dX6_alphabet_151 (by decide) rfl (by omega) (fun h9 => absurd h9 (by decide)) (fun _ => ?_)
                  refine x_bipush (q := 156) E dX6_alphabet_154 (by decide) rfl ?_
                  exact RET _ _ _ _ dX6_alphabet_156 (by have o1 : ¬ okA 3 wa xa ya za := (by unfold okA; omega); exact ⟨by rw [if_neg o1], by rw [if_neg o1]; exact hI⟩)
                · refine x_iload (q := 131) E dX6_alphabet_129 1 rfl rfl ?_
                  refine x_iload (q := 133) E dX6_alphabet_131 0 rfl rfl ?_
                  refine x_icmp_eq (tgt := 140) (q := 136) E dX6_alphabet_133 (by decide) rfl (by omega) (by omega) (fun c133 => ?_) (fun c133 => ?_)
                  · refine x_iconst (q := 141) E dX6_alphabet_140 rfl ?_
                    refine x_istore (q := 143) (lv' := [(7, .int (ii (0))), (10, .int (ii (wa))), (9, .int (ii (ya))), (8, .int (ii (2))), (0, .ref (ad 0)), (1, .int (ii ((q : Int)))), (2, .int (ii (3))), (3, .int (ii (wa))), (4, .int (ii (xa))), (5, .int (ii (ya))), (6, .int (ii (za)))]) E dX6_alphabet_141 (by decide) rfl rfl ?_
                    refine x_iinc (q := 146) (k := 3) (lv' := [(8, .int (ii (3))), (7, .int (ii (0))), (10, .int (ii (wa))), (9, .int (ii (ya))), (0, .ref (ad 0)), (1, .int (ii ((q : Int)))), (2, .int (ii (3))), (3, .int (ii (wa))), (4, .int (ii (xa))), (5, .int (ii (ya))), (6, .int (ii (za)))]) E dX6_alphabet_143 rfl (by decide) rfl rfl ?_
                    refine x_goto (tgt := 33) E dX6_alphabet_146 (by decide) ?_
                    refine x_iload (q := 35) E dX6_alphabet_33 0 rfl rfl ?_
                    refine x_iload_n (q := 36) E dX6_alphabet_35 6 rfl rfl ?_
                    refine x_icmp_ge (tgt := 149) (q := 39) E dX6_alphabet_36 (by decide) rfl (by omega) (by omega) (fun _ => ?_) (fun h9 => absurd h9 (by decide))
                    refine x_iload (q := 151) E dX6_alphabet_149 1 rfl rfl ?_
                    refine x_if_ne (tgt := 157) (q := 154) E dX6_alphabet_151 (by decide) rfl (by omega) (fun h9 => absurd h9 (by decide)) (fun _ => ?_)
                    refine x_bipush (q := 156) E dX6_alphabet_154 (by decide) rfl ?_
                    exact RET _ _ _ _ dX6_alphabet_156 (by have o1 : ¬ okA 3 wa xa ya za := (by unfold okA; omega); exact ⟨by rw [if_neg o1], by rw [if_neg o1]; exact hI⟩)
                  · refine x_iconst (q := 137) E dX6_alphabet_136 rfl ?_
                    refine x_goto (tgt := 141) E dX6_alphabet_137 (by decide) ?_
                    refine x_istore (q := 143) (lv' := [(7, .int (ii (1))), (10, .int (ii (wa))), (9, .int (ii (ya))), (8, .int (ii (2))), (0, .ref (ad 0)), (1, .int (ii ((q : Int)))), (2, .int (ii (3))), (3, .int (ii (wa))), (4, .int (ii (xa))), (5, .int (ii (ya))), (6, .int (ii (za)))]) E dX6_alphabet_141 (by decide) rfl rfl ?_
                    refine x_iinc (q := 146) (k := 3) (lv' := [(8, .int (ii (3))), (7, .int (ii (1))), (10, .int (ii (wa))), (9, .int (ii (ya))), (0, .ref (ad 0)), (1, .int (ii ((q : Int)))), (2, .int (ii (3))), (3, .int (ii (wa))), (4, .int (ii (xa))), (5, .int (ii (ya))), (6, .int (ii (za)))]) E dX6_alphabet_143 rfl (by decide) rfl rfl ?_
                    refine x_goto (tgt := 33) E dX6_alphabet_146 (by decide) ?_
                    refine x_iload (q := 35) E dX6_alphabet_33 0 rfl rfl ?_
                    refine x_iload_n (q := 36) E dX6_alphabet_35 6 rfl rfl ?_
                    refine x_icmp_ge (tgt := 149) (q := 39) E dX6_alphabet_36 (by decide) rfl (by omega) (by omega) (fun _ => ?_) (fun h9 => absurd h9 (by decide))
                    refine x_iload (q := 151) E dX6_alphabet_149 1 rfl rfl ?_
                    refine x_if_ne (tgt := 157) (q := 154) E dX6_alphabet_151 (by decide) rfl (by omega) (fun _ => ?_) (fun h9 => absurd h9 (by decide))
                    refine x_aload_n (q := 158) E dX6_alphabet_157 4 rfl rfl ?_
                    refine x_get (q := 161) E iX6_alphabet_X6 (0) rfl rfl 0 (by decide) (by decide +kernel) rfl dX6_alphabet_158 rfl ?_
                    refine x_iconst (q := 162) E dX6_alphabet_161 rfl ?_
                    refine x_iload_n (q := 163) E dX6_alphabet_162 5 rfl rfl ?_
                    refine x_imul (q := 164) E dX6_alphabet_163 rfl ?_
                    refine x_iload_n (q := 165) E dX6_alphabet_164 7 rfl rfl ?_
                    refine x_iast (q := 166) (st' := (sA st (0) ((4) * ((q : Int))) (wa))) (f := st.2 (0)) E (1) rfl 0 rfl (by omega) (by omega) (by decide) dX6_alphabet_165 (ma_0 _ _) rfl ?_
                    refine x_aload_n (q := 167) E dX6_alphabet_166 4 rfl rfl ?_
                    refine x_get (q := 170) E iX6_alphabet_X6 (0) rfl rfl 0 (by decide) (by decide +kernel) rfl dX6_alphabet_167 rfl ?_
                    refine x_iconst (q := 171) E dX6_alphabet_170 rfl ?_
                    refine x_iload_n (q := 172) E dX6_alphabet_171 5 rfl rfl ?_
                    refine x_imul (q := 173) E dX6_alphabet_172 rfl ?_
                    refine x_iconst (q := 174) E dX6_alphabet_173 rfl ?_
                    refine x_iadd (q := 175) E dX6_alphabet_174 rfl ?_
                    refine x_iload (q := 177) E dX6_alphabet_175 8 rfl rfl ?_
                    refine x_iast (q := 178) (st' := (sA (sA st (0) ((4) * ((q : Int))) (wa)) (0) (((4) * ((q : Int))) + (1)) (xa))) (f := (sA st (0) ((4) * ((q : Int))) (wa)).2 (0)) E (1) rfl 0 rfl (by omega) (by omega) (by decide) dX6_alphabet_177 (ma_0 _ _) rfl ?_
                    refine x_aload_n (q := 179) E dX6_alphabet_178 4 rfl rfl ?_
                    refine x_get (q := 182) E iX6_alphabet_X6 (0) rfl rfl 0 (by decide) (by decide +kernel) rfl dX6_alphabet_179 rfl ?_
                    refine x_iconst (q := 183) E dX6_alphabet_182 rfl ?_
                    refine x_iload_n (q := 184) E dX6_alphabet_183 5 rfl rfl ?_
                    refine x_imul (q := 185) E dX6_alphabet_184 rfl ?_
                    refine x_iconst (q := 186) E dX6_alphabet_185 rfl ?_
                    refine x_iadd (q := 187) E dX6_alphabet_186 rfl ?_
                    refine x_iload (q := 189) E dX6_alphabet_187 9 rfl rfl ?_
                    refine x_iast (q := 190) (st' := (sA (sA (sA st (0) ((4) * ((q : Int))) (wa)) (0) (((4) * ((q : Int))) + (1)) (xa)) (0) (((4) * ((q : Int))) + (2)) (ya))) (f := (sA (sA st (0) ((4) * ((q : Int))) (wa)) (0) (((4) * ((q : Int))) + (1)) (xa)).2 (0)) E (1) rfl 0 rfl (by omega) (by omega) (by decide) dX6_alphabet_189 (ma_0 _ _) rfl ?_
                    refine x_aload_n (q := 191) E dX6_alphabet_190 4 rfl rfl ?_
                    refine x_get (q := 194) E iX6_alphabet_X6 (0) rfl rfl 0 (by decide) (by decide +kernel) rfl dX6_alphabet_191 rfl ?_
                    refine x_iconst (q := 195) E dX6_alphabet_194 rfl ?_
                    refine x_iload_n (q := 196) E dX6_alphabet_195 5 rfl rfl ?_
                    refine x_imul (q := 197) E dX6_alphabet_196 rfl ?_
                    refine x_iconst (q := 198) E dX6_alphabet_197 rfl ?_
                    refine x_iadd (q := 199) E dX6_alphabet_198 rfl ?_
                    refine x_iload (q := 201) E dX6_alphabet_199 10 rfl rfl ?_
                    refine x_iast (q := 202) (st' := (sA (sA (sA (sA st (0) ((4) * ((q : Int))) (wa)) (0) (((4) * ((q : Int))) + (1)) (xa)) (0) (((4) * ((q : Int))) + (2)) (ya)) (0) (((4) * ((q : Int))) + (3)) (za))) (f := (sA (sA (sA st (0) ((4) * ((q : Int))) (wa)) (0) (((4) * ((q : Int))) + (1)) (xa)) (0) (((4) * ((q : Int))) + (2)) (ya)).2 (0)) E (1) rfl 0 rfl (by omega) (by omega) (by decide) dX6_alphabet_201 (ma_0 _ _) rfl ?_
                    refine x_aload_n (q := 203) E dX6_alphabet_202 4 rfl rfl ?_
                    refine x_get (q := 206) E iX6_alphabet_X6 (0) rfl rfl 1 (by decide) (by decide +kernel) rfl dX6_alphabet_203 rfl ?_
                    refine x_iload_n (q := 207) E dX6_alphabet_206 5 rfl rfl ?_
                    refine x_iload_n (q := 208) E dX6_alphabet_207 6 rfl rfl ?_
                    refine x_iast (q := 209) (st' := (sA (sA (sA (sA (sA st (0) ((4) * ((q : Int))) (wa)) (0) (((4) * ((q : Int))) + (1)) (xa)) (0) (((4) * ((q : Int))) + (2)) (ya)) (0) (((4) * ((q : Int))) + (3)) (za)) (1) ((q : Int)) (3))) (f := (sA (sA (sA (sA st (0) ((4) * ((q : Int))) (wa)) (0) (((4) * ((q : Int))) + (1)) (xa)) (0) (((4) * ((q : Int))) + (2)) (ya)) (0) (((4) * ((q : Int))) + (3)) (za)).2 (1)) E (2) rfl 0 rfl (by omega) (by omega) (by decide) dX6_alphabet_208 (ma_1 _ _) rfl ?_
                    refine x_aload_n (q := 210) E dX6_alphabet_209 4 rfl rfl ?_
                    refine x_iconst (q := 211) E dX6_alphabet_210 rfl ?_
                    refine x_put (q := 214) (st' := (sG (sA (sA (sA (sA (sA st (0) ((4) * ((q : Int))) (wa)) (0) (((4) * ((q : Int))) + (1)) (xa)) (0) (((4) * ((q : Int))) + (2)) (ya)) (0) (((4) * ((q : Int))) + (3)) (za)) (1) ((q : Int)) (3)) (1) (1))) (v := .int (ii (1))) (ty := .boolean) E iX6_alphabet_X6 tyX6 tyX6_ok nmX6 (0) rfl rfl 4 (by decide) (by decide +kernel) rfl (by decide +kernel) (by decide) (by decide) (Nat.le_of_ble_eq_true rfl) dX6_alphabet_211 (ms_1 _) rfl ?_
                    refine x_iload_n (q := 215) E dX6_alphabet_214 6 rfl rfl ?_
                    exact RET _ _ _ _ dX6_alphabet_215 (by have o1 : okA 3 wa xa ya za := (by unfold okA; omega); exact ⟨by rw [if_pos o1], by rw [if_pos o1]; exact MI_alph hI hq o1⟩)
      · refine x_iconst (q := 28) E dX6_alphabet_27 rfl ?_
        refine x_istore (q := 30) (lv' := [(7, .int (ii (1))), (0, .ref (ad 0)), (1, .int (ii ((q : Int)))), (2, .int (ii (4))), (3, .int (ii (wa))), (4, .int (ii (xa))), (5, .int (ii (ya))), (6, .int (ii (za)))]) E dX6_alphabet_28 (by decide) rfl rfl ?_
        refine x_iconst (q := 31) E dX6_alphabet_30 rfl ?_
        refine x_istore (q := 33) (lv' := [(8, .int (ii (0))), (7, .int (ii (1))), (0, .ref (ad 0)), (1, .int (ii ((q : Int)))), (2, .int (ii (4))), (3, .int (ii (wa))), (4, .int (ii (xa))), (5, .int (ii (ya))), (6, .int (ii (za)))]) E dX6_alphabet_31 (by decide) rfl rfl ?_
        refine x_iload (q := 35) E dX6_alphabet_33 0 rfl rfl ?_
        refine x_iload_n (q := 36) E dX6_alphabet_35 4 rfl rfl ?_
        refine x_icmp_ge (tgt := 149) (q := 39) E dX6_alphabet_36 (by decide) rfl (by omega) (by omega) (fun h9 => absurd h9 (by decide)) (fun _ => ?_)
        refine x_iload (q := 41) E dX6_alphabet_39 0 rfl rfl ?_
        refine x_if_ne (tgt := 48) (q := 44) E dX6_alphabet_41 (by decide) rfl (by omega) (fun h9 => absurd h9 (by decide)) (fun _ => ?_)
        refine x_iload_n (q := 45) E dX6_alphabet_44 5 rfl rfl ?_
        refine x_goto (tgt := 72) E dX6_alphabet_45 (by decide) ?_
        refine x_istore (q := 74) (lv' := [(9, .int (ii (wa))), (8, .int (ii (0))), (7, .int (ii (1))), (0, .ref (ad 0)), (1, .int (ii ((q : Int)))), (2, .int (ii (4))), (3, .int (ii (wa))), (4, .int (ii (xa))), (5, .int (ii (ya))), (6, .int (ii (za)))]) E dX6_alphabet_72 (by decide) rfl rfl ?_
        refine x_iload (q := 76) E dX6_alphabet_74 1 rfl rfl ?_
        refine x_iload_n (q := 77) E dX6_alphabet_76 5 rfl rfl ?_
        refine x_iconst (q := 78) E dX6_alphabet_77 rfl ?_
        refine x_isub (q := 79) E dX6_alphabet_78 rfl ?_
        refine x_ti (show (4) - (1) = 3 from rfl) ?_
        refine x_icmp_ne (tgt := 86) (q := 82) E dX6_alphabet_79 (by decide) rfl (by omega) (by omega) (fun _ => ?_) (fun h9 => absurd h9 (by decide))
        refine x_iload (q := 88) E dX6_alphabet_86 1 rfl rfl ?_
        refine x_if_ne (tgt := 96) (q := 91) E dX6_alphabet_88 (by decide) rfl (by omega) (fun h9 => absurd h9 (by decide)) (fun _ => ?_)
        refine x_iload (q := 93) E dX6_alphabet_91 7 rfl rfl ?_
        refine x_goto (tgt := 109) E dX6_alphabet_93 (by decide) ?_
        refine x_istore (q := 111) (lv' := [(10, .int (ii (xa))), (9, .int (ii (wa))), (8, .int (ii (0))), (7, .int (ii (1))), (0, .ref (ad 0)), (1, .int (ii ((q : Int)))), (2, .int (ii (4))), (3, .int (ii (wa))), (4, .int (ii (xa))), (5, .int (ii (ya))), (6, .int (ii (za)))]) E dX6_alphabet_109 (by decide) rfl rfl ?_
        refine x_iload (q := 113) E dX6_alphabet_111 3 rfl rfl ?_
        refine x_if_eq (tgt := 140) (q := 116) E dX6_alphabet_113 (by decide) rfl (by omega) (fun h9 => absurd h9 (by decide)) (fun _ => ?_)
        refine x_iload (q := 118) E dX6_alphabet_116 1 rfl rfl ?_
        refine x_i2l (q := 119) E dX6_alphabet_118 (by omega) rfl ?_
        refine x_lconst (q := 120) (z := 1) E dX6_alphabet_119 (by decide) rfl ?_
        refine x_ldc2 (q := 123) (v := 6) (z := 6) E (by decide +kernel) (by decide) dX6_alphabet_120 rfl ?_
        refine x_callSi (q := 126) (n := 3) (As := [.long (jj (wa)), .long (jj (1)), .long (jj (6))]) (r := []) E (c_X6_in l D T ad hN st (wa) (1) (6) (by omega) (by omega) (by omega)) gX6_alphabet_X6_in rfl rfl rfl (by decide +kernel) ⟨Nat.le_of_ble_eq_true rfl, Nat.le_of_ble_eq_true rfl⟩ rfl rfl (Nat.le_of_ble_eq_true rfl) dX6_alphabet_123 rfl (fun z22 s23 q24 => ?_)
        obtain ⟨rfl, rfl⟩ := q24
        refine x_if_eq (tgt := 140) (q := 129) E dX6_alphabet_126 (by decide) rfl (by omega) (fun c126 => ?_) (fun c126 => ?_)
        · refine x_iconst (q := 141) E dX6_alphabet_140 rfl ?_
          refine x_istore (q := 143) (lv' := [(7, .int (ii (0))), (10, .int (ii (xa))), (9, .int (ii (wa))), (8, .int (ii (0))), (0, .ref (ad 0)), (1, .int (ii ((q : Int)))), (2, .int (ii (4))), (3, .int (ii (wa))), (4, .int (ii (xa))), (5, .int (ii (ya))), (6, .int (ii (za)))]) E dX6_alphabet_141 (by decide) rfl rfl ?_
          refine x_iinc (q := 146) (k := 3) (lv' := [(8, .int (ii (1))), (7, .int (ii (0))), (10, .int (ii (xa))), (9, .int (ii (wa))), (0, .ref (ad 0)), (1, .int (ii ((q : Int)))), (2, .int (ii (4))), (3, .int (ii (wa))), (4, .int (ii (xa))), (5, .int (ii (ya))), (6, .int (ii (za)))]) E dX6_alphabet_143 rfl (by decide) rfl rfl ?_
          refine x_goto (tgt := 33) E dX6_alphabet_146 (by decide) ?_
          refine x_iload (q := 35) E dX6_alphabet_33 0 rfl rfl ?_
          refine x_iload_n (q := 36) E dX6_alphabet_35 6 rfl rfl ?_
          refine x_icmp_ge (tgt := 149) (q := 39) E dX6_alphabet_36 (by decide) rfl (by omega) (by omega) (fun h9 => absurd h9 (by decide)) (fun _ => ?_)
          refine x_iload (q := 41) E dX6_alphabet_39 0 rfl rfl ?_
          refine x_if_ne (tgt := 48) (q := 44) E dX6_alphabet_41 (by decide) rfl (by omega) (fun _ => ?_) (fun h9 => absurd h9 (by decide))
          refine x_iload (q := 50) E dX6_alphabet_48 0 rfl rfl ?_
          refine x_iconst (q := 51) E dX6_alphabet_50 rfl ?_
          refine x_icmp_ne (tgt := 59) (q := 54) E dX6_alphabet_51 (by decide) rfl (by omega) (by omega) (fun h9 => absurd h9 (by decide)) (fun _ => ?_)
          refine x_iload (q := 56) E dX6_alphabet_54 8 rfl rfl ?_
          refine x_goto (tgt := 72) E dX6_alphabet_56 (by decide) ?_
          refine x_istore (q := 74) (lv' := [(9, .int (ii (xa))), (8, .int (ii (1))), (7, .int (ii (0))), (10, .int (ii (xa))), (0, .ref (ad 0)), (1, .int (ii ((q : Int)))), (2, .int (ii (4))), (3, .int (ii (wa))), (4, .int (ii (xa))), (5, .int (ii (ya))), (6, .int (ii (za)))]) E dX6_alphabet_72 (by decide) rfl rfl ?_
          refine x_iload (q := 76) E dX6_alphabet_74 1 rfl rfl ?_
          refine x_iload_n (q := 77) E dX6_alphabet_76 6 rfl rfl ?_
          refine x_iconst (q := 78) E dX6_alphabet_77 rfl ?_
          refine x_isub (q := 79) E dX6_alphabet_78 rfl ?_
          refine x_ti (show (4) - (1) = 3 from rfl) ?_
          refine x_icmp_ne (tgt := 86) (q := 82) E dX6_alphabet_79 (by decide) rfl (by omega) (by omega) (fun _ => ?_) (fun h9 => absurd h9 (by decide))
          refine x_iload (q := 88) E dX6_alphabet_86 1 rfl rfl ?_
          refine x_if_ne (tgt := 96) (q := 91) E dX6_alphabet_88 (by decide) rfl (by omega) (fun _ => ?_) (fun h9 => absurd h9 (by decide))
          refine x_iload (q := 98) E dX6_alphabet_96 1 rfl rfl ?_
          refine x_iconst (q := 99) E dX6_alphabet_98 rfl ?_
          refine x_icmp_ne (tgt := 107) (q := 102) E dX6_alphabet_99 (by decide) rfl (by omega) (by omega) (fun h9 => absurd h9 (by decide)) (fun _ => ?_)
          refine x_iload (q := 104) E dX6_alphabet_102 9 rfl rfl ?_
          refine x_goto (tgt := 109) E dX6_alphabet_104 (by decide) ?_
          refine x_istore (q := 111) (lv' := [(10, .int (ii (ya))), (9, .int (ii (xa))), (8, .int (ii (1))), (7, .int (ii (0))), (0, .ref (ad 0)), (1, .int (ii ((q : Int)))), (2, .int (ii (4))), (3, .int (ii (wa))), (4, .int (ii (xa))), (5, .int (ii (ya))), (6, .int (ii (za)))]) E dX6_alphabet_109 (by decide) rfl rfl ?_
          refine x_iload (q := 113) E dX6_alphabet_111 3 rfl rfl ?_
          refine x_if_eq (tgt := 140) (q := 116) E dX6_alphabet_113 (by decide) rfl (by omega) (fun _ => ?_) (fun h9 => absurd h9 (by decide))
          refine x_iconst (q := 141) E dX6_alphabet_140 rfl ?_
          refine x_istore (q := 143) (lv' := [(7, .int (ii (0))), (10, .int (ii (ya))), (9, .int (ii (xa))), (8, .int (ii (1))), (0, .ref (ad 0)), (1, .int (ii ((q : Int)))), (2, .int (ii (4))), (3, .int (ii (wa))), (4, .int (ii (xa))), (5, .int (ii (ya))), (6, .int (ii (za)))]) E dX6_alphabet_141 (by decide) rfl rfl ?_
          refine x_iinc (q := 146) (k := 3) (lv' := [(8, .int (ii (2))), (7, .int (ii (0))), (10, .int (ii (ya))), (9, .int (ii (xa))), (0, .ref (ad 0)), (1, .int (ii ((q : Int)))), (2, .int (ii (4))), (3, .int (ii (wa))), (4, .int (ii (xa))), (5, .int (ii (ya))), (6, .int (ii (za)))]) E dX6_alphabet_143 rfl (by decide) rfl rfl ?_
          refine x_goto (tgt := 33) E dX6_alphabet_146 (by decide) ?_
          refine x_iload (q := 35) E dX6_alphabet_33 0 rfl rfl ?_
          refine x_iload_n (q := 36) E dX6_alphabet_35 6 rfl rfl ?_
          refine x_icmp_ge (tgt := 149) (q := 39) E dX6_alphabet_36 (by decide) rfl (by omega) (by omega) (fun h9 => absurd h9 (by decide)) (fun _ => ?_)
          refine x_iload (q := 41) E dX6_alphabet_39 0 rfl rfl ?_
          refine x_if_ne (tgt := 48) (q := 44) E dX6_alphabet_41 (by decide) rfl (by omega) (fun _ => ?_) (fun h9 => absurd h9 (by decide))
          refine x_iload (q := 50) E dX6_alphabet_48 0 rfl rfl ?_
          refine x_iconst (q := 51) E dX6_alphabet_50 rfl ?_
          refine x_icmp_ne (tgt := 59) (q := 54) E dX6_alphabet_51 (by decide) rfl (by omega) (by omega) (fun _ => ?_) (fun h9 => absurd h9 (by decide))
          refine x_iload (q := 61) E dX6_alphabet_59 0 rfl rfl ?_
          refine x_iconst (q := 62) E dX6_alphabet_61 rfl ?_
          refine x_icmp_ne (tgt := 70) (q := 65) E dX6_alphabet_62 (by decide) rfl (by omega) (by omega) (fun h9 => absurd h9 (by decide)) (fun _ => ?_)
          refine x_iload (q := 67) E dX6_alphabet_65 9 rfl rfl ?_
          refine x_goto (tgt := 72) E dX6_alphabet_67 (by decide) ?_
          refine x_istore (q := 74) (lv' := [(9, .int (ii (ya))), (8, .int (ii (2))), (7, .int (ii (0))), (10, .int (ii (ya))), (0, .ref (ad 0)), (1, .int (ii ((q : Int)))), (2, .int (ii (4))), (3, .int (ii (wa))), (4, .int (ii (xa))), (5, .int (ii (ya))), (6, .int (ii (za)))]) E dX6_alphabet_72 (by decide) rfl rfl ?_
          refine x_iload (q := 76) E dX6_alphabet_74 1 rfl rfl ?_
          refine x_iload_n (q := 77) E dX6_alphabet_76 6 rfl rfl ?_
          refine x_iconst (q := 78) E dX6_alphabet_77 rfl ?_
          refine x_isub (q := 79) E dX6_alphabet_78 rfl ?_
          refine x_ti (show (4) - (1) = 3 from rfl) ?_
          refine x_icmp_ne (tgt := 86) (q := 82) E dX6_alphabet_79 (by decide) rfl (by omega) (by omega) (fun _ => ?_) (fun h9 => absurd h9 (by decide))
          refine x_iload (q := 88) E dX6_alphabet_86 1 rfl rfl ?_
          refine x_if_ne (tgt := 96) (q := 91) E dX6_alphabet_88 (by decide) rfl (by omega) (fun _ => ?_) (fun h9 => absurd h9 (by decide))
          refine x_iload (q := 98) E dX6_alphabet_96 1 rfl rfl ?_
          refine x_iconst (q := 99) E dX6_alphabet_98 rfl ?_
          refine x_icmp_ne (tgt := 107) (q := 102) E dX6_alphabet_99 (by decide) rfl (by omega) (by omega) (fun _ => ?_) (fun h9 => absurd h9 (by decide))
          refine x_iload (q := 109) E dX6_alphabet_107 10 rfl rfl ?_
          refine x_istore (q := 111) (lv' := [(10, .int (ii (za))), (9, .int (ii (ya))), (8, .int (ii (2))), (7, .int (ii (0))), (0, .ref (ad 0)), (1, .int (ii ((q : Int)))), (2, .int (ii (4))), (3, .int (ii (wa))), (4, .int (ii (xa))), (5, .int (ii (ya))), (6, .int (ii (za)))]) E dX6_alphabet_109 (by decide) rfl rfl ?_
          refine x_iload (q := 113) E dX6_alphabet_111 3 rfl rfl ?_
          refine x_if_eq (tgt := 140) (q := 116) E dX6_alphabet_113 (by decide) rfl (by omega) (fun _ => ?_) (fun h9 => absurd h9 (by decide))
          refine x_iconst (q := 141) E dX6_alphabet_140 rfl ?_
          refine x_istore (q := 143) (lv' := [(7, .int (ii (0))), (10, .int (ii (za))), (9, .int (ii (ya))), (8, .int (ii (2))), (0, .ref (ad 0)), (1, .int (ii ((q : Int)))), (2, .int (ii (4))), (3, .int (ii (wa))), (4, .int (ii (xa))), (5, .int (ii (ya))), (6, .int (ii (za)))]) E dX6_alphabet_141 (by decide) rfl rfl ?_
          refine x_iinc (q := 146) (k := 3) (lv' := [(8, .int (ii (3))), (7, .int (ii (0))), (10, .int (ii (za))), (9, .int (ii (ya))), (0, .ref (ad 0)), (1, .int (ii ((q : Int)))), (2, .int (ii (4))), (3, .int (ii (wa))), (4, .int (ii (xa))), (5, .int (ii (ya))), (6, .int (ii (za)))]) E dX6_alphabet_143 rfl (by decide) rfl rfl ?_
          refine x_goto (tgt := 33) E dX6_alphabet_146 (by decide) ?_
          refine x_iload (q := 35) E dX6_alphabet_33 0 rfl rfl ?_
          refine x_iload_n (q := 36) E dX6_alphabet_35 6 rfl rfl ?_
          refine x_icmp_ge (tgt := 149) (q := 39) E dX6_alphabet_36 (by decide) rfl (by omega) (by omega) (fun h9 => absurd h9 (by decide)) (fun _ => ?_)
          refine x_iload (q := 41) E dX6_alphabet_39 0 rfl rfl ?_
          refine x_if_ne (tgt := 48) (q := 44) E dX6_alphabet_41 (by decide) rfl (by omega) (fun _ => ?_) (fun h9 => absurd h9 (by decide))
          refine x_iload (q := 50) E dX6_alphabet_48 0 rfl rfl ?_
          refine x_iconst (q := 51) E dX6_alphabet_50 rfl ?_
          refine x_icmp_ne (tgt := 59) (q := 54) E dX6_alphabet_51 (by decide) rfl (by omega) (by omega) (fun _ => ?_) (fun h9 => absurd h9 (by decide))
          refine x_iload (q := 61) E dX6_alphabet_59 0 rfl rfl ?_
          refine x_iconst (q := 62) E dX6_alphabet_61 rfl ?_
          refine x_icmp_ne (tgt := 70) (q := 65) E dX6_alphabet_62 (by decide) rfl (by omega) (by omega) (fun _ => ?_) (fun h9 => absurd h9 (by decide))
          refine x_iload (q := 72) E dX6_alphabet_70 10 rfl rfl ?_
          refine x_istore (q := 74) (lv' := [(9, .int (ii (za))), (8, .int (ii (3))), (7, .int (ii (0))), (10, .int (ii (za))), (0, .ref (ad 0)), (1, .int (ii ((q : Int)))), (2, .int (ii (4))), (3, .int (ii (wa))), (4, .int (ii (xa))), (5, .int (ii (ya))), (6, .int (ii (za)))]) E dX6_alphabet_72 (by decide) rfl rfl ?_
          refine x_iload (q := 76) E dX6_alphabet_74 1 rfl rfl ?_
          refine x_iload_n (q := 77) E dX6_alphabet_76 6 rfl rfl ?_
          refine x_iconst (q := 78) E dX6_alphabet_77 rfl ?_
          refine x_isub (q := 79) E dX6_alphabet_78 rfl ?_
          refine x_ti (show (4) - (1) = 3 from rfl) ?_
          refine x_icmp_ne (tgt := 86) (q := 82) E dX6_alphabet_79 (by decide) rfl (by omega) (by omega) (fun h9 => absurd h9 (by decide)) (fun _ => ?_)
          refine x_iload_n (q := 83) E dX6_alphabet_82 7 rfl rfl ?_
          refine x_goto (tgt := 109) E dX6_alphabet_83 (by decide) ?_
          refine x_istore (q := 111) (lv' := [(10, .int (ii (wa))), (9, .int (ii (za))), (8, .int (ii (3))), (7, .int (ii (0))), (0, .ref (ad 0)), (1, .int (ii ((q : Int)))), (2, .int (ii (4))), (3, .int (ii (wa))), (4, .int (ii (xa))), (5, .int (ii (ya))), (6, .int (ii (za)))]) E dX6_alphabet_109 (by decide) rfl rfl ?_
          refine x_iload (q := 113) E dX6_alphabet_111 3 rfl rfl ?_
          refine x_if_eq (tgt := 140) (q := 116) E dX6_alphabet_113 (by decide) rfl (by omega) (fun _ => ?_) (fun h9 => absurd h9 (by decide))
          refine x_iconst (q := 141) E dX6_alphabet_140 rfl ?_
          refine x_istore (q := 143) (lv' := [(7, .int (ii (0))), (10, .int (ii (wa))), (9, .int (ii (za))), (8, .int (ii (3))), (0, .ref (ad 0)), (1, .int (ii ((q : Int)))), (2, .int (ii (4))), (3, .int (ii (wa))), (4, .int (ii (xa))), (5, .int (ii (ya))), (6, .int (ii (za)))]) E dX6_alphabet_141 (by decide) rfl rfl ?_
          refine x_iinc (q := 146) (k := 3) (lv' := [(8, .int (ii (4))), (7, .int (ii (0))), (10, .int (ii (wa))), (9, .int (ii (za))), (0, .ref (ad 0)), (1, .int (ii ((q : Int)))), (2, .int (ii (4))), (3, .int (ii (wa))), (4, .int (ii (xa))), (5, .int (ii (ya))), (6, .int (ii (za)))]) E dX6_alphabet_143 rfl (by decide) rfl rfl ?_
          refine x_goto (tgt := 33) E dX6_alphabet_146 (by decide) ?_
          refine x_iload (q := 35) E dX6_alphabet_33 0 rfl rfl ?_
          refine x_iload_n (q := 36) E dX6_alphabet_35 6 rfl rfl ?_
          refine x_icmp_ge (tgt := 149) (q := 39) E dX6_alphabet_36 (by decide) rfl (by omega) (by omega) (fun _ => ?_) (fun h9 => absurd h9 (by decide))
          refine x_iload (q := 151) E dX6_alphabet_149 1 rfl rfl ?_
          refine x_if_ne (tgt := 157) (q := 154) E dX6_alphabet_151 (by decide) rfl (by omega) (fun h9 => absurd h9 (by decide)) (fun _ => ?_)
          refine x_bipush (q := 156) E dX6_alphabet_154 (by decide) rfl ?_
          exact RET _ _ _ _ dX6_alphabet_156 (by have o1 : ¬ okA 4 wa xa ya za := (by unfold okA; omega); exact ⟨by rw [if_neg o1], by rw [if_neg o1]; exact hI⟩)
        · refine x_iload (q := 131) E dX6_alphabet_129 1 rfl rfl ?_
          refine x_iload (q := 133) E dX6_alphabet_131 0 rfl rfl ?_
          refine x_icmp_eq (tgt := 140) (q := 136) E dX6_alphabet_133 (by decide) rfl (by omega) (by omega) (fun c133 => ?_) (fun c133 => ?_)
          · refine x_iconst (q := 141) E dX6_alphabet_140 rfl ?_
            refine x_istore (q := 143) (lv' := [(7, .int (ii (0))), (10, .int (ii (xa))), (9, .int (ii (wa))), (8, .int (ii (0))), (0, .ref (ad 0)), (1, .int (ii ((q : Int)))), (2, .int (ii (4))), (3, .int (ii (wa))), (4, .int (ii (xa))), (5, .int (ii (ya))), (6, .int (ii (za)))]) E dX6_alphabet_141 (by decide) rfl rfl ?_
            refine x_iinc (q := 146) (k := 3) (lv' := [(8, .int (ii (1))), (7, .int (ii (0))), (10, .int (ii (xa))), (9, .int (ii (wa))), (0, .ref (ad 0)), (1, .int (ii ((q : Int)))), (2, .int (ii (4))), (3, .int (ii (wa))), (4, .int (ii (xa))), (5, .int (ii (ya))), (6, .int (ii (za)))]) E dX6_alphabet_143 rfl (by decide) rfl rfl ?_
            refine x_goto (tgt := 33) E dX6_alphabet_146 (by decide) ?_
            refine x_iload (q := 35) E dX6_alphabet_33 0 rfl rfl ?_
            refine x_iload_n (q := 36) E dX6_alphabet_35 6 rfl rfl ?_
            refine x_icmp_ge (tgt := 149) (q := 39) E dX6_alphabet_36 (by decide) rfl (by omega) (by omega) (fun h9 => absurd h9 (by decide)) (fun _ => ?_)
            refine x_iload (q := 41) E dX6_alphabet_39 0 rfl rfl ?_
            refine x_if_ne (tgt := 48) (q := 44) E dX6_alphabet_41 (by decide) rfl (by omega) (fun _ => ?_) (fun h9 => absurd h9 (by decide))
            refine x_iload (q := 50) E dX6_alphabet_48 0 rfl rfl ?_
            refine x_iconst (q := 51) E dX6_alphabet_50 rfl ?_
            refine x_icmp_ne (tgt := 59) (q := 54) E dX6_alphabet_51 (by decide) rfl (by omega) (by omega) (fun h9 => absurd h9 (by decide)) (fun _ => ?_)
            refine x_iload (q := 56) E dX6_alphabet_54 8 rfl rfl ?_
            refine x_goto (tgt := 72) E dX6_alphabet_56 (by decide) ?_
            refine x_istore (q := 74) (lv' := [(9, .int (ii (xa))), (8, .int (ii (1))), (7, .int (ii (0))), (10, .int (ii (xa))), (0, .ref (ad 0)), (1, .int (ii ((q : Int)))), (2, .int (ii (4))), (3, .int (ii (wa))), (4, .int (ii (xa))), (5, .int (ii (ya))), (6, .int (ii (za)))]) E dX6_alphabet_72 (by decide) rfl rfl ?_
            refine x_iload (q := 76) E dX6_alphabet_74 1 rfl rfl ?_
            refine x_iload_n (q := 77) E dX6_alphabet_76 6 rfl rfl ?_
            refine x_iconst (q := 78) E dX6_alphabet_77 rfl ?_
            refine x_isub (q := 79) E dX6_alphabet_78 rfl ?_
            refine x_ti (show (4) - (1) = 3 from rfl) ?_
            refine x_icmp_ne (tgt := 86) (q := 82) E dX6_alphabet_79 (by decide) rfl (by omega) (by omega) (fun _ => ?_) (fun h9 => absurd h9 (by decide))
            refine x_iload (q := 88) E dX6_alphabet_86 1 rfl rfl ?_
            refine x_if_ne (tgt := 96) (q := 91) E dX6_alphabet_88 (by decide) rfl (by omega) (fun _ => ?_) (fun h9 => absurd h9 (by decide))
            refine x_iload (q := 98) E dX6_alphabet_96 1 rfl rfl ?_
            refine x_iconst (q := 99) E dX6_alphabet_98 rfl ?_
            refine x_icmp_ne (tgt := 107) (q := 102) E dX6_alphabet_99 (by decide) rfl (by omega) (by omega) (fun h9 => absurd h9 (by decide)) (fun _ => ?_)
            refine x_iload (q := 104) E dX6_alphabet_102 9 rfl rfl ?_
            refine x_goto (tgt := 109) E dX6_alphabet_104 (by decide) ?_
            refine x_istore (q := 111) (lv' := [(10, .int (ii (ya))), (9, .int (ii (xa))), (8, .int (ii (1))), (7, .int (ii (0))), (0, .ref (ad 0)), (1, .int (ii ((q : Int)))), (2, .int (ii (4))), (3, .int (ii (wa))), (4, .int (ii (xa))), (5, .int (ii (ya))), (6, .int (ii (za)))]) E dX6_alphabet_109 (by decide) rfl rfl ?_
            refine x_iload (q := 113) E dX6_alphabet_111 3 rfl rfl ?_
            refine x_if_eq (tgt := 140) (q := 116) E dX6_alphabet_113 (by decide) rfl (by omega) (fun _ => ?_) (fun h9 => absurd h9 (by decide))
            refine x_iconst (q := 141) E dX6_alphabet_140 rfl ?_
            refine x_istore (q := 143) (lv' := [(7, .int (ii (0))), (10, .int (ii (ya))), (9, .int (ii (xa))), (8, .int (ii (1))), (0, .ref (ad 0)), (1, .int (ii ((q : Int)))), (2, .int (ii (4))), (3, .int (ii (wa))), (4, .int (ii (xa))), (5, .int (ii (ya))), (6, .int (ii (za)))]) E dX6_alphabet_141 (by decide) rfl rfl ?_
            refine x_iinc (q := 146) (k := 3) (lv' := [(8, .int (ii (2))), (7, .int (ii (0))), (10, .int (ii (ya))), (9, .int (ii (xa))), (0, .ref (ad 0)), (1, .int (ii ((q : Int)))), (2, .int (ii (4))), (3, .int (ii (wa))), (4, .int (ii (xa))), (5, .int (ii (ya))), (6, .int (ii (za)))]) E dX6_alphabet_143 rfl (by decide) rfl rfl ?_
            refine x_goto (tgt := 33) E dX6_alphabet_146 (by decide) ?_
            refine x_iload (q := 35) E dX6_alphabet_33 0 rfl rfl ?_
            refine x_iload_n (q := 36) E dX6_alphabet_35 6 rfl rfl ?_
            refine x_icmp_ge (tgt := 149) (q := 39) E dX6_alphabet_36 (by decide) rfl (by omega) (by omega) (fun h9 => absurd h9 (by decide)) (fun _ => ?_)
            refine x_iload (q := 41) E dX6_alphabet_39 0 rfl rfl ?_
            refine x_if_ne (tgt := 48) (q := 44) E dX6_alphabet_41 (by decide) rfl (by omega) (fun _ => ?_) (fun h9 => absurd h9 (by decide))
            refine x_iload (q := 50) E dX6_alphabet_48 0 rfl rfl ?_
            refine x_iconst (q := 51) E dX6_alphabet_50 rfl ?_
            refine x_icmp_ne (tgt := 59) (q := 54) E dX6_alphabet_51 (by decide) rfl (by omega) (by omega) (fun _ => ?_) (fun h9 => absurd h9 (by decide))
            refine x_iload (q := 61) E dX6_alphabet_59 0 rfl rfl ?_
            refine x_iconst (q := 62) E dX6_alphabet_61 rfl ?_
            refine x_icmp_ne (tgt := 70) (q := 65) E dX6_alphabet_62 (by decide) rfl (by omega) (by omega) (fun h9 => absurd h9 (by decide)) (fun _ => ?_)
            refine x_iload (q := 67) E dX6_alphabet_65 9 rfl rfl ?_
            refine x_goto (tgt := 72) E dX6_alphabet_67 (by decide) ?_
            refine x_istore (q := 74) (lv' := [(9, .int (ii (ya))), (8, .int (ii (2))), (7, .int (ii (0))), (10, .int (ii (ya))), (0, .ref (ad 0)), (1, .int (ii ((q : Int)))), (2, .int (ii (4))), (3, .int (ii (wa))), (4, .int (ii (xa))), (5, .int (ii (ya))), (6, .int (ii (za)))]) E dX6_alphabet_72 (by decide) rfl rfl ?_
            refine x_iload (q := 76) E dX6_alphabet_74 1 rfl rfl ?_
            refine x_iload_n (q := 77) E dX6_alphabet_76 6 rfl rfl ?_
            refine x_iconst (q := 78) E dX6_alphabet_77 rfl ?_
            refine x_isub (q := 79) E dX6_alphabet_78 rfl ?_
            refine x_ti (show (4) - (1) = 3 from rfl) ?_
            refine x_icmp_ne (tgt := 86) (q := 82) E dX6_alphabet_79 (by decide) rfl (by omega) (by omega) (fun _ => ?_) (fun h9 => absurd h9 (by decide))
            refine x_iload (q := 88) E dX6_alphabet_86 1 rfl rfl ?_
            refine x_if_ne (tgt := 96) (q := 91) E dX6_alphabet_88 (by decide) rfl (by omega) (fun _ => ?_) (fun h9 => absurd h9 (by decide))
            refine x_iload (q := 98) E dX6_alphabet_96 1 rfl rfl ?_
            refine x_iconst (q := 99) E dX6_alphabet_98 rfl ?_
            refine x_icmp_ne (tgt := 107) (q := 102) E dX6_alphabet_99 (by decide) rfl (by omega) (by omega) (fun _ => ?_) (fun h9 => absurd h9 (by decide))
            refine x_iload (q := 109) E dX6_alphabet_107 10 rfl rfl ?_
            refine x_istore (q := 111) (lv' := [(10, .int (ii (za))), (9, .int (ii (ya))), (8, .int (ii (2))), (7, .int (ii (0))), (0, .ref (ad 0)), (1, .int (ii ((q : Int)))), (2, .int (ii (4))), (3, .int (ii (wa))), (4, .int (ii (xa))), (5, .int (ii (ya))), (6, .int (ii (za)))]) E dX6_alphabet_109 (by decide) rfl rfl ?_
            refine x_iload (q := 113) E dX6_alphabet_111 3 rfl rfl ?_
            refine x_if_eq (tgt := 140) (q := 116) E dX6_alphabet_113 (by decide) rfl (by omega) (fun _ => ?_) (fun h9 => absurd h9 (by decide))
            refine x_iconst (q := 141) E dX6_alphabet_140 rfl ?_
            refine x_istore (q := 143) (lv' := [(7, .int (ii (0))), (10, .int (ii (za))), (9, .int (ii (ya))), (8, .int (ii (2))), (0, .ref (ad 0)), (1, .int (ii ((q : Int)))), (2, .int (ii (4))), (3, .int (ii (wa))), (4, .int (ii (xa))), (5, .int (ii (ya))), (6, .int (ii (za)))]) E dX6_alphabet_141 (by decide) rfl rfl ?_
            refine x_iinc (q := 146) (k := 3) (lv' := [(8, .int (ii (3))), (7, .int (ii (0))), (10, .int (ii (za))), (9, .int (ii (ya))), (0, .ref (ad 0)), (1, .int (ii ((q : Int)))), (2, .int (ii (4))), (3, .int (ii (wa))), (4, .int (ii (xa))), (5, .int (ii (ya))), (6, .int (ii (za)))]) E dX6_alphabet_143 rfl (by decide) rfl rfl ?_
            refine x_goto (tgt := 33) E dX6_alphabet_146 (by decide) ?_
            refine x_iload (q := 35) E dX6_alphabet_33 0 rfl rfl ?_
            refine x_iload_n (q := 36) E dX6_alphabet_35 6 rfl rfl ?_
            refine x_icmp_ge (tgt := 149) (q := 39) E dX6_alphabet_36 (by decide) rfl (by omega) (by omega) (fun h9 => absurd h9 (by decide)) (fun _ => ?_)
            refine x_iload (q := 41) E dX6_alphabet_39 0 rfl rfl ?_
            refine x_if_ne (tgt := 48) (q := 44) E dX6_alphabet_41 (by decide) rfl (by omega) (fun _ => ?_) (fun h9 => absurd h9 (by decide))
            refine x_iload (q := 50) E dX6_alphabet_48 0 rfl rfl ?_
            refine x_iconst (q := 51) E dX6_alphabet_50 rfl ?_
            refine x_icmp_ne (tgt := 59) (q := 54) E dX6_alphabet_51 (by decide) rfl (by omega) (by omega) (fun _ => ?_) (fun h9 => absurd h9 (by decide))
            refine x_iload (q := 61) E dX6_alphabet_59 0 rfl rfl ?_
            refine x_iconst (q := 62) E dX6_alphabet_61 rfl ?_
            refine x_icmp_ne (tgt := 70) (q := 65) E dX6_alphabet_62 (by decide) rfl (by omega) (by omega) (fun _ => ?_) (fun h9 => absurd h9 (by decide))
            refine x_iload (q := 72) E dX6_alphabet_70 10 rfl rfl ?_
            refine x_istore (q := 74) (lv' := [(9, .int (ii (za))), (8, .int (ii (3))), (7, .int (ii (0))), (10, .int (ii (za))), (0, .ref (ad 0)), (1, .int (ii ((q : Int)))), (2, .int (ii (4))), (3, .int (ii (wa))), (4, .int (ii (xa))), (5, .int (ii (ya))), (6, .int (ii (za)))]) E dX6_alphabet_72 (by decide) rfl rfl ?_
            refine x_iload (q := 76) E dX6_alphabet_74 1 rfl rfl ?_
            refine x_iload_n (q := 77) E dX6_alphabet_76 6 rfl rfl ?_
            refine x_iconst (q := 78) E dX6_alphabet_77 rfl ?_
            refine x_isub (q := 79) E dX6_alphabet_78 rfl ?_
            refine x_ti (show (4) - (1) = 3 from rfl) ?_
            refine x_icmp_ne (tgt := 86) (q := 82) E dX6_alphabet_79 (by decide) rfl (by omega) (by omega) (fun h9 => absurd h9 (by decide)) (fun _ => ?_)
            refine x_iload_n (q := 83) E dX6_alphabet_82 7 rfl rfl ?_
            refine x_goto (tgt := 109) E dX6_alphabet_83 (by decide) ?_
            refine x_istore (q := 111) (lv' := [(10, .int (ii (wa))), (9, .int (ii (za))), (8, .int (ii (3))), (7, .int (ii (0))), (0, .ref (ad 0)), (1, .int (ii ((q : Int)))), (2, .int (ii (4))), (3, .int (ii (wa))), (4, .int (ii (xa))), (5, .int (ii (ya))), (6, .int (ii (za)))]) E dX6_alphabet_109 (by decide) rfl rfl ?_
            refine x_iload (q := 113) E dX6_alphabet_111 3 rfl rfl ?_
            refine x_if_eq (tgt := 140) (q := 116) E dX6_alphabet_113 (by decide) rfl (by omega) (fun _ => ?_) (fun h9 => absurd h9 (by decide))
            refine x_iconst (q := 141) E dX6_alphabet_140 rfl ?_
            refine x_istore (q := 143) (lv' := [(7, .int (ii (0))), (10, .int (ii (wa))), (9, .int (ii (za))), (8, .int (ii (3))), (0, .ref (ad 0)), (1, .int (ii ((q : Int)))), (2, .int (ii (4))), (3, .int (ii (wa))), (4, .int (ii (xa))), (5, .int (ii (ya))), (6, .int (ii (za)))]) E dX6_alphabet_141 (by decide) rfl rfl ?_
            refine x_iinc (q := 146) (k := 3) (lv' := [(8, .int (ii (4))), (7, .int (ii (0))), (10, .int (ii (wa))), (9, .int (ii (za))), (0, .ref (ad 0)), (1, .int (ii ((q : Int)))), (2, .int (ii (4))), (3, .int (ii (wa))), (4, .int (ii (xa))), (5, .int (ii (ya))), (6, .int (ii (za)))]) E dX6_alphabet_143 rfl (by decide) rfl rfl ?_
            refine x_goto (tgt := 33) E dX6_alphabet_146 (by decide) ?_
            refine x_iload (q := 35) E dX6_alphabet_33 0 rfl rfl ?_
            refine x_iload_n (q := 36) E dX6_alphabet_35 6 rfl rfl ?_
            refine x_icmp_ge (tgt := 149) (q := 39) E dX6_alphabet_36 (by decide) rfl (by omega) (by omega) (fun _ => ?_) (fun h9 => absurd h9 (by decide))
            refine x_iload (q := 151) E dX6_alphabet_149 1 rfl rfl ?_
            refine x_if_ne (tgt := 157) (q := 154) E dX6_alphabet_151 (by decide) rfl (by omega) (fun h9 => absurd h9 (by decide)) (fun _ => ?_)
            refine x_bipush (q := 156) E dX6_alphabet_154 (by decide) rfl ?_
            exact RET _ _ _ _ dX6_alphabet_156 (by have o1 : ¬ okA 4 wa xa ya za := (by unfold okA; omega); exact ⟨by rw [if_neg o1], by rw [if_neg o1]; exact hI⟩)
          · refine x_iconst (q := 137) E dX6_alphabet_136 rfl ?_
            refine x_goto (tgt := 141) E dX6_alphabet_137 (by decide) ?_
            refine x_istore (q := 143) (lv' := [(7, .int (ii (1))), (10, .int (ii (xa))), (9, .int (ii (wa))), (8, .int (ii (0))), (0, .ref (ad 0)), (1, .int (ii ((q : Int)))), (2, .int (ii (4))), (3, .int (ii (wa))), (4, .int (ii (xa))), (5, .int (ii (ya))), (6, .int (ii (za)))]) E dX6_alphabet_141 (by decide) rfl rfl ?_
            refine x_iinc (q := 146) (k := 3) (lv' := [(8, .int (ii (1))), (7, .int (ii (1))), (10, .int (ii (xa))), (9, .int (ii (wa))), (0, .ref (ad 0)), (1, .int (ii ((q : Int)))), (2, .int (ii (4))), (3, .int (ii (wa))), (4, .int (ii (xa))), (5, .int (ii (ya))), (6, .int (ii (za)))]) E dX6_alphabet_143 rfl (by decide) rfl rfl ?_
            refine x_goto (tgt := 33) E dX6_alphabet_146 (by decide) ?_
            refine x_iload (q := 35) E dX6_alphabet_33 0 rfl rfl ?_
            refine x_iload_n (q := 36) E dX6_alphabet_35 6 rfl rfl ?_
            refine x_icmp_ge (tgt := 149) (q := 39) E dX6_alphabet_36 (by decide) rfl (by omega) (by omega) (fun h9 => absurd h9 (by decide)) (fun _ => ?_)
            refine x_iload (q := 41) E dX6_alphabet_39 0 rfl rfl ?_
            refine x_if_ne (tgt := 48) (q := 44) E dX6_alphabet_41 (by decide) rfl (by omega) (fun _ => ?_) (fun h9 => absurd h9 (by decide))
            refine x_iload (q := 50) E dX6_alphabet_48 0 rfl rfl ?_
            refine x_iconst (q := 51) E dX6_alphabet_50 rfl ?_
            refine x_icmp_ne (tgt := 59) (q := 54) E dX6_alphabet_51 (by decide) rfl (by omega) (by omega) (fun h9 => absurd h9 (by decide)) (fun _ => ?_)
            refine x_iload (q := 56) E dX6_alphabet_54 8 rfl rfl ?_
            refine x_goto (tgt := 72) E dX6_alphabet_56 (by decide) ?_
            refine x_istore (q := 74) (lv' := [(9, .int (ii (xa))), (8, .int (ii (1))), (7, .int (ii (1))), (10, .int (ii (xa))), (0, .ref (ad 0)), (1, .int (ii ((q : Int)))), (2, .int (ii (4))), (3, .int (ii (wa))), (4, .int (ii (xa))), (5, .int (ii (ya))), (6, .int (ii (za)))]) E dX6_alphabet_72 (by decide) rfl rfl ?_
            refine x_iload (q := 76) E dX6_alphabet_74 1 rfl rfl ?_
            refine x_iload_n (q := 77) E dX6_alphabet_76 6 rfl rfl ?_
            refine x_iconst (q := 78) E dX6_alphabet_77 rfl ?_
            refine x_isub (q := 79) E dX6_alphabet_78 rfl ?_
            refine x_ti (show (4) - (1) = 3 from rfl) ?_
            refine x_icmp_ne (tgt := 86) (q := 82) E dX6_alphabet_79 (by decide) rfl (by omega) (by omega) (fun _ => ?_) (fun h9 => absurd h9 (by decide))
            refine x_iload (q := 88) E dX6_alphabet_86 1 rfl rfl ?_
            refine x_if_ne (tgt := 96) (q := 91) E dX6_alphabet_88 (by decide) rfl (by omega) (fun _ => ?_) (fun h9 => absurd h9 (by decide))
            refine x_iload (q := 98) E dX6_alphabet_96 1 rfl rfl ?_
            refine x_iconst (q := 99) E dX6_alphabet_98 rfl ?_
            refine x_icmp_ne (tgt := 107) (q := 102) E dX6_alphabet_99 (by decide) rfl (by omega) (by omega) (fun h9 => absurd h9 (by decide)) (fun _ => ?_)
            refine x_iload (q := 104) E dX6_alphabet_102 9 rfl rfl ?_
            refine x_goto (tgt := 109) E dX6_alphabet_104 (by decide) ?_
            refine x_istore (q := 111) (lv' := [(10, .int (ii (ya))), (9, .int (ii (xa))), (8, .int (ii (1))), (7, .int (ii (1))), (0, .ref (ad 0)), (1, .int (ii ((q : Int)))), (2, .int (ii (4))), (3, .int (ii (wa))), (4, .int (ii (xa))), (5, .int (ii (ya))), (6, .int (ii (za)))]) E dX6_alphabet_109 (by decide) rfl rfl ?_
            refine x_iload (q := 113) E dX6_alphabet_111 3 rfl rfl ?_
            refine x_if_eq (tgt := 140) (q := 116) E dX6_alphabet_113 (by decide) rfl (by omega) (fun h9 => absurd h9 (by decide)) (fun _ => ?_)
            refine x_iload (q := 118) E dX6_alphabet_116 1 rfl rfl ?_
            refine x_i2l (q := 119) E dX6_alphabet_118 (by omega) rfl ?_
            refine x_lconst (q := 120) (z := 1) E dX6_alphabet_119 (by decide) rfl ?_
            refine x_ldc2 (q := 123) (v := 6) (z := 6) E (by decide +kernel) (by decide) dX6_alphabet_120 rfl ?_
            refine x_callSi (q := 126) (n := 3) (As := [.long (jj (xa)), .long (jj (1)), .long (jj (6))]) (r := []) E (c_X6_in l D T ad hN st (xa) (1) (6) (by omega) (by omega) (by omega)) gX6_alphabet_X6_in rfl rfl rfl (by decide +kernel) ⟨Nat.le_of_ble_eq_true rfl, Nat.le_of_ble_eq_true rfl⟩ rfl rfl (Nat.le_of_ble_eq_true rfl) dX6_alphabet_123 rfl (fun z25 s26 q27 => ?_)
            obtain ⟨rfl, rfl⟩ := q27
            refine x_if_eq (tgt := 140) (q := 129) E dX6_alphabet_126 (by decide) rfl (by omega) (fun c126 => ?_) (fun c126 => ?_)
            · refine x_iconst (q := 141) E dX6_alphabet_140 rfl ?_
              refine x_istore (q := 143) (lv' := [(7, .int (ii (0))), (10, .int (ii (ya))), (9, .int (ii (xa))), (8, .int (ii (1))), (0, .ref (ad 0)), (1, .int (ii ((q : Int)))), (2, .int (ii (4))), (3, .int (ii (wa))), (4, .int (ii (xa))), (5, .int (ii (ya))), (6, .int (ii (za)))]) E dX6_alphabet_141 (by decide) rfl rfl ?_
              refine x_iinc (q := 146) (k := 3) (lv' := [(8, .int (ii (2))), (7, .int (ii (0))), (10, .int (ii (ya))), (9, .int (ii (xa))), (0, .ref (ad 0)), (1, .int (ii ((q : Int)))), (2, .int (ii (4))), (3, .int (ii (wa))), (4, .int (ii (xa))), (5, .int (ii (ya))), (6, .int (ii (za)))]) E dX6_alphabet_143 rfl (by decide) rfl rfl ?_
              refine x_goto (tgt := 33) E dX6_alphabet_146 (by decide) ?_
              refine x_iload (q := 35) E dX6_alphabet_33 0 rfl rfl ?_
              refine x_iload_n (q := 36) E dX6_alphabet_35 6 rfl rfl ?_
              refine x_icmp_ge (tgt := 149) (q := 39) E dX6_alphabet_36 (by decide) rfl (by omega) (by omega) (fun h9 => absurd h9 (by decide)) (fun _ => ?_)
              refine x_iload (q := 41) E dX6_alphabet_39 0 rfl rfl ?_
              refine x_if_ne (tgt := 48) (q := 44) E dX6_alphabet_41 (by decide) rfl (by omega) (fun _ => ?_) (fun h9 => absurd h9 (by decide))
              refine x_iload (q := 50) E dX6_alphabet_48 0 rfl rfl ?_
              refine x_iconst (q := 51) E dX6_alphabet_50 rfl ?_
              refine x_icmp_ne (tgt := 59) (q := 54) E dX6_alphabet_51 (by decide) rfl (by omega) (by omega) (fun _ => ?_) (fun h9 => absurd h9 (by decide))
              refine x_iload (q := 61) E dX6_alphabet_59 0 rfl rfl ?_
              refine x_iconst (q := 62) E dX6_alphabet_61 rfl ?_
              refine x_icmp_ne (tgt := 70) (q := 65) E dX6_alphabet_62 (by decide) rfl (by omega) (by omega) (fun h9 => absurd h9 (by decide)) (fun _ => ?_)
              refine x_iload (q := 67) E dX6_alphabet_65 9 rfl rfl ?_
              refine x_goto (tgt := 72) E dX6_alphabet_67 (by decide) ?_
              refine x_istore (q := 74) (lv' := [(9, .int (ii (ya))), (8, .int (ii (2))), (7, .int (ii (0))), (10, .int (ii (ya))), (0, .ref (ad 0)), (1, .int (ii ((q : Int)))), (2, .int (ii (4))), (3, .int (ii (wa))), (4, .int (ii (xa))), (5, .int (ii (ya))), (6, .int (ii (za)))]) E dX6_alphabet_72 (by decide) rfl rfl ?_
              refine x_iload (q := 76) E dX6_alphabet_74 1 rfl rfl ?_
              refine x_iload_n (q := 77) E dX6_alphabet_76 6 rfl rfl ?_
              refine x_iconst (q := 78) E dX6_alphabet_77 rfl ?_
              refine x_isub (q := 79) E dX6_alphabet_78 rfl ?_
              refine x_ti (show (4) - (1) = 3 from rfl) ?_
              refine x_icmp_ne (tgt := 86) (q := 82) E dX6_alphabet_79 (by decide) rfl (by omega) (by omega) (fun _ => ?_) (fun h9 => absurd h9 (by decide))
              refine x_iload (q := 88) E dX6_alphabet_86 1 rfl rfl ?_
              refine x_if_ne (tgt := 96) (q := 91) E dX6_alphabet_88 (by decide) rfl (by omega) (fun _ => ?_) (fun h9 => absurd h9 (by decide))
              refine x_iload (q := 98) E dX6_alphabet_96 1 rfl rfl ?_
              refine x_iconst (q := 99) E dX6_alphabet_98 rfl ?_
              refine x_icmp_ne (tgt := 107) (q := 102) E dX6_alphabet_99 (by decide) rfl (by omega) (by omega) (fun _ => ?_) (fun h9 => absurd h9 (by decide))
              refine x_iload (q := 109) E dX6_alphabet_107 10 rfl rfl ?_
              refine x_istore (q := 111) (lv' := [(10, .int (ii (za))), (9, .int (ii (ya))), (8, .int (ii (2))), (7, .int (ii (0))), (0, .ref (ad 0)), (1, .int (ii ((q : Int)))), (2, .int (ii (4))), (3, .int (ii (wa))), (4, .int (ii (xa))), (5, .int (ii (ya))), (6, .int (ii (za)))]) E dX6_alphabet_109 (by decide) rfl rfl ?_
              refine x_iload (q := 113) E dX6_alphabet_111 3 rfl rfl ?_
              refine x_if_eq (tgt := 140) (q := 116) E dX6_alphabet_113 (by decide) rfl (by omega) (fun _ => ?_) (fun h9 => absurd h9 (by decide))
              refine x_iconst (q := 141) E dX6_alphabet_140 rfl ?_
              refine x_istore (q := 143) (lv' := [(7, .int (ii (0))), (10, .int (ii (za))), (9, .int (ii (ya))), (8, .int (ii (2))), (0, .ref (ad 0)), (1, .int (ii ((q : Int)))), (2, .int (ii (4))), (3, .int (ii (wa))), (4, .int (ii (xa))), (5, .int (ii (ya))), (6, .int (ii (za)))]) E dX6_alphabet_141 (by decide) rfl rfl ?_
              refine x_iinc (q := 146) (k := 3) (lv' := [(8, .int (ii (3))), (7, .int (ii (0))), (10, .int (ii (za))), (9, .int (ii (ya))), (0, .ref (ad 0)), (1, .int (ii ((q : Int)))), (2, .int (ii (4))), (3, .int (ii (wa))), (4, .int (ii (xa))), (5, .int (ii (ya))), (6, .int (ii (za)))]) E dX6_alphabet_143 rfl (by decide) rfl rfl ?_
              refine x_goto (tgt := 33) E dX6_alphabet_146 (by decide) ?_
              refine x_iload (q := 35) E dX6_alphabet_33 0 rfl rfl ?_
              refine x_iload_n (q := 36) E dX6_alphabet_35 6 rfl rfl ?_
              refine x_icmp_ge (tgt := 149) (q := 39) E dX6_alphabet_36 (by decide) rfl (by omega) (by omega) (fun h9 => absurd h9 (by decide)) (fun _ => ?_)
              refine x_iload (q := 41) E dX6_alphabet_39 0 rfl rfl ?_
              refine x_if_ne (tgt := 48) (q := 44) E dX6_alphabet_41 (by decide) rfl (by omega) (fun _ => ?_) (fun h9 => absurd h9 (by decide))
              refine x_iload (q := 50) E dX6_alphabet_48 0 rfl rfl ?_
              refine x_iconst (q := 51) E dX6_alphabet_50 rfl ?_
              refine x_icmp_ne (tgt := 59) (q := 54) E dX6_alphabet_51 (by decide) rfl (by omega) (by omega) (fun _ => ?_) (fun h9 => absurd h9 (by decide))
              refine x_iload (q := 61) E dX6_alphabet_59 0 rfl rfl ?_
              refine x_iconst (q := 62) E dX6_alphabet_61 rfl ?_
              refine x_icmp_ne (tgt := 70) (q := 65) E dX6_alphabet_62 (by decide) rfl (by omega) (by omega) (fun _ => ?_) (fun h9 => absurd h9 (by decide))
              refine x_iload (q := 72) E dX6_alphabet_70 10 rfl rfl ?_
              refine x_istore (q := 74) (lv' := [(9, .int (ii (za))), (8, .int (ii (3))), (7, .int (ii (0))), (10, .int (ii (za))), (0, .ref (ad 0)), (1, .int (ii ((q : Int)))), (2, .int (ii (4))), (3, .int (ii (wa))), (4, .int (ii (xa))), (5, .int (ii (ya))), (6, .int (ii (za)))]) E dX6_alphabet_72 (by decide) rfl rfl ?_
              refine x_iload (q := 76) E dX6_alphabet_74 1 rfl rfl ?_
              refine x_iload_n (q := 77) E dX6_alphabet_76 6 rfl rfl ?_
              refine x_iconst (q := 78) E dX6_alphabet_77 rfl ?_
              refine x_isub (q := 79) E dX6_alphabet_78 rfl ?_
              refine x_ti (show (4) - (1) = 3 from rfl) ?_
              refine x_icmp_ne (tgt := 86) (q := 82) E dX6_alphabet_79 (by decide) rfl (by omega) (by omega) (fun h9 => absurd h9 (by decide)) (fun _ => ?_)
              refine x_iload_n (q := 83) E dX6_alphabet_82 7 rfl rfl ?_
              refine x_goto (tgt := 109) E dX6_alphabet_83 (by decide) ?_
              refine x_istore (q := 111) (lv' := [(10, .int (ii (wa))), (9, .int (ii (za))), (8, .int (ii (3))), (7, .int (ii (0))), (0, .ref (ad 0)), (1, .int (ii ((q : Int)))), (2, .int (ii (4))), (3, .int (ii (wa))), (4, .int (ii (xa))), (5, .int (ii (ya))), (6, .int (ii (za)))]) E dX6_alphabet_109 (by decide) rfl rfl ?_
              refine x_iload (q := 113) E dX6_alphabet_111 3 rfl rfl ?_
              refine x_if_eq (tgt := 140) (q := 116) E dX6_alphabet_113 (by decide) rfl (by omega) (fun _ => ?_) (fun h9 => absurd h9 (by decide))
              refine x_iconst (q := 141) E dX6_alphabet_140 rfl ?_
              refine x_istore (q := 143) (lv' := [(7, .int (ii (0))), (10, .int (ii (wa))), (9, .int (ii (za))), (8, .int (ii (3))), (0, .ref (ad 0)), (1, .int (ii ((q : Int)))), (2, .int (ii (4))), (3, .int (ii (wa))), (4, .int (ii (xa))), (5, .int (ii (ya))), (6, .int (ii (za)))]) E dX6_alphabet_141 (by decide) rfl rfl ?_
              refine x_iinc (q := 146) (k := 3) (lv' := [(8, .int (ii (4))), (7, .int (ii (0))), (10, .int (ii (wa))), (9, .int (ii (za))), (0, .ref (ad 0)), (1, .int (ii ((q : Int)))), (2, .int (ii (4))), (3, .int (ii (wa))), (4, .int (ii (xa))), (5, .int (ii (ya))), (6, .int (ii (za)))]) E dX6_alphabet_143 rfl (by decide) rfl rfl ?_
              refine x_goto (tgt := 33) E dX6_alphabet_146 (by decide) ?_
              refine x_iload (q := 35) E dX6_alphabet_33 0 rfl rfl ?_
              refine x_iload_n (q := 36) E dX6_alphabet_35 6 rfl rfl ?_
              refine x_icmp_ge (tgt := 149) (q := 39) E dX6_alphabet_36 (by decide) rfl (by omega) (by omega) (fun _ => ?_) (fun h9 => absurd h9 (by decide))
              refine x_iload (q := 151) E dX6_alphabet_149 1 rfl rfl ?_
              refine x_if_ne (tgt := 157) (q := 154) E dX6_alphabet_151 (by decide) rfl (by omega) (fun h9 => absurd h9 (by decide)) (fun _ => ?_)
              refine x_bipush (q := 156) E dX6_alphabet_154 (by decide) rfl ?_
              exact RET _ _ _ _ dX6_alphabet_156 (by have o1 : ¬ okA 4 wa xa ya za := (by unfold okA; omega); exact ⟨by rw [if_neg o1], by rw [if_neg o1]; exact hI⟩)
            · refine x_iload (q := 131) E dX6_alphabet_129 1 rfl rfl ?_
              refine x_iload (q := 133) E dX6_alphabet_131 0 rfl rfl ?_
              refine x_icmp_eq (tgt := 140) (q := 136) E dX6_alphabet_133 (by decide) rfl (by omega) (by omega) (fun c133 => ?_) (fun c133 => ?_)
              · refine x_iconst (q := 141) E dX6_alphabet_140 rfl ?_
                refine x_istore (q := 143) (lv' := [(7, .int (ii (0))), (10, .int (ii (ya))), (9, .int (ii (xa))), (8, .int (ii (1))), (0, .ref (ad 0)), (1, .int (ii ((q : Int)))), (2, .int (ii (4))), (3, .int (ii (wa))), (4, .int (ii (xa))), (5, .int (ii (ya))), (6, .int (ii (za)))]) E dX6_alphabet_141 (by decide) rfl rfl ?_
                refine x_iinc (q := 146) (k := 3) (lv' := [(8, .int (ii (2))), (7, .int (ii (0))), (10, .int (ii (ya))), (9, .int (ii (xa))), (0, .ref (ad 0)), (1, .int (ii ((q : Int)))), (2, .int (ii (4))), (3, .int (ii (wa))), (4, .int (ii (xa))), (5, .int (ii (ya))), (6, .int (ii (za)))]) E dX6_alphabet_143 rfl (by decide) rfl rfl ?_
                refine x_goto (tgt := 33) E dX6_alphabet_146 (by decide) ?_
                refine x_iload (q := 35) E dX6_alphabet_33 0 rfl rfl ?_
                refine x_iload_n (q := 36) E dX6_alphabet_35 6 rfl rfl ?_
                refine x_icmp_ge (tgt := 149) (q := 39) E dX6_alphabet_36 (by decide) rfl (by omega) (by omega) (fun h9 => absurd h9 (by decide)) (fun _ => ?_)
                refine x_iload (q := 41) E dX6_alphabet_39 0 rfl rfl ?_
                refine x_if_ne (tgt := 48) (q := 44) E dX6_alphabet_41 (by decide) rfl (by omega) (fun _ => ?_) (fun h9 => absurd h9 (by decide))
                refine x_iload (q := 50) E dX6_alphabet_48 0 rfl rfl ?_
                refine x_iconst (q := 51) E dX6_alphabet_50 rfl ?_
                refine x_icmp_ne (tgt := 59) (q := 54) E dX6_alphabet_51 (by decide) rfl (by omega) (by omega) (fun _ => ?_) (fun h9 => absurd h9 (by decide))
                refine x_iload (q := 61) E dX6_alphabet_59 0 rfl rfl ?_
                refine x_iconst (q := 62) E dX6_alphabet_61 rfl ?_
                refine x_icmp_ne (tgt := 70) (q := 65) E dX6_alphabet_62 (by decide) rfl (by omega) (by omega) (fun h9 => absurd h9 (by decide)) (fun _ => ?_)
                refine x_iload (q := 67) E dX6_alphabet_65 9 rfl rfl ?_
                refine x_goto (tgt := 72) E dX6_alphabet_67 (by decide) ?_
                refine x_istore (q := 74) (lv' := [(9, .int (ii (ya))), (8, .int (ii (2))), (7, .int (ii (0))), (10, .int (ii (ya))), (0, .ref (ad 0)), (1, .int (ii ((q : Int)))), (2, .int (ii (4))), (3, .int (ii (wa))), (4, .int (ii (xa))), (5, .int (ii (ya))), (6, .int (ii (za)))]) E dX6_alphabet_72 (by decide) rfl rfl ?_
                refine x_iload (q := 76) E dX6_alphabet_74 1 rfl rfl ?_
                refine x_iload_n (q := 77) E dX6_alphabet_76 6 rfl rfl ?_
                refine x_iconst (q := 78) E dX6_alphabet_77 rfl ?_
                refine x_isub (q := 79) E dX6_alphabet_78 rfl ?_
                refine x_ti (show (4) - (1) = 3 from rfl) ?_
                refine x_icmp_ne (tgt := 86) (q := 82) E dX6_alphabet_79 (by decide) rfl (by omega) (by omega) (fun _ => ?_) (fun h9 => absurd h9 (by decide))
                refine x_iload (q := 88) E dX6_alphabet_86 1 rfl rfl ?_
                refine x_if_ne (tgt := 96) (q := 91) E dX6_alphabet_88 (by decide) rfl (by omega) (fun _ => ?_) (fun h9 => absurd h9 (by decide))
                refine x_iload (q := 98) E dX6_alphabet_96 1 rfl rfl ?_
                refine x_iconst (q := 99) E dX6_alphabet_98 rfl ?_
                refine x_icmp_ne (tgt := 107) (q := 102) E dX6_alphabet_99 (by decide) rfl (by omega) (by omega) (fun _ => ?_) (fun h9 => absurd h9 (by decide))
                refine x_iload (q := 109) E dX6_alphabet_107 10 rfl rfl ?_
                refine x_istore (q := 111) (lv' := [(10, .int (ii (za))), (9, .int (ii (ya))), (8, .int (ii (2))), (7, .int (ii (0))), (0, .ref (ad 0)), (1, .int (ii ((q : Int)))), (2, .int (ii (4))), (3, .int (ii (wa))), (4, .int (ii (xa))), (5, .int (ii (ya))), (6, .int (ii (za)))]) E dX6_alphabet_109 (by decide) rfl rfl ?_
                refine x_iload (q := 113) E dX6_alphabet_111 3 rfl rfl ?_
                refine x_if_eq (tgt := 140) (q := 116) E dX6_alphabet_113 (by decide) rfl (by omega) (fun _ => ?_) (fun h9 => absurd h9 (by decide))
                refine x_iconst (q := 141) E dX6_alphabet_140 rfl ?_
                refine x_istore (q := 143) (lv' := [(7, .int (ii (0))), (10, .int (ii (za))), (9, .int (ii (ya))), (8, .int (ii (2))), (0, .ref (ad 0)), (1, .int (ii ((q : Int)))), (2, .int (ii (4))), (3, .int (ii (wa))), (4, .int (ii (xa))), (5, .int (ii (ya))), (6, .int (ii (za)))]) E dX6_alphabet_141 (by decide) rfl rfl ?_
                refine x_iinc (q := 146) (k := 3) (lv' := [(8, .int (ii (3))), (7, .int (ii (0))), (10, .int (ii (za))), (9, .int (ii (ya))), (0, .ref (ad 0)), (1, .int (ii ((q : Int)))), (2, .int (ii (4))), (3, .int (ii (wa))), (4, .int (ii (xa))), (5, .int (ii (ya))), (6, .int (ii (za)))]) E dX6_alphabet_143 rfl (by decide) rfl rfl ?_
                refine x_goto (tgt := 33) E dX6_alphabet_146 (by decide) ?_
                refine x_iload (q := 35) E dX6_alphabet_33 0 rfl rfl ?_
                refine x_iload_n (q := 36) E dX6_alphabet_35 6 rfl rfl ?_
                refine x_icmp_ge (tgt := 149) (q := 39) E dX6_alphabet_36 (by decide) rfl (by omega) (by omega) (fun h9 => absurd h9 (by decide)) (fun _ => ?_)
                refine x_iload (q := 41) E dX6_alphabet_39 0 rfl rfl ?_
                refine x_if_ne (tgt := 48) (q := 44) E dX6_alphabet_41 (by decide) rfl (by omega) (fun _ => ?_) (fun h9 => absurd h9 (by decide))
                refine x_iload (q := 50) E dX6_alphabet_48 0 rfl rfl ?_
                refine x_iconst (q := 51) E dX6_alphabet_50 rfl ?_
                refine x_icmp_ne (tgt := 59) (q := 54) E dX6_alphabet_51 (by decide) rfl (by omega) (by omega) (fun _ => ?_) (fun h9 => absurd h9 (by decide))
                refine x_iload (q := 61) E dX6_alphabet_59 0 rfl rfl ?_
                refine x_iconst (q := 62) E dX6_alphabet_61 rfl ?_
                refine x_icmp_ne (tgt := 70) (q := 65) E dX6_alphabet_62 (by decide) rfl (by omega) (by omega) (fun _ => ?_) (fun h9 => absurd h9 (by decide))
                refine x_iload (q := 72) E dX6_alphabet_70 10 rfl rfl ?_
                refine x_istore (q := 74) (lv' := [(9, .int (ii (za))), (8, .int (ii (3))), (7, .int (ii (0))), (10, .int (ii (za))), (0, .ref (ad 0)), (1, .int (ii ((q : Int)))), (2, .int (ii (4))), (3, .int (ii (wa))), (4, .int (ii (xa))), (5, .int (ii (ya))), (6, .int (ii (za)))]) E dX6_alphabet_72 (by decide) rfl rfl ?_
                refine x_iload (q := 76) E dX6_alphabet_74 1 rfl rfl ?_
                refine x_iload_n (q := 77) E dX6_alphabet_76 6 rfl rfl ?_
                refine x_iconst (q := 78) E dX6_alphabet_77 rfl ?_
                refine x_isub (q := 79) E dX6_alphabet_78 rfl ?_
                refine x_ti (show (4) - (1) = 3 from rfl) ?_
                refine x_icmp_ne (tgt := 86) (q := 82) E dX6_alphabet_79 (by decide) rfl (by omega) (by omega) (fun h9 => absurd h9 (by decide)) (fun _ => ?_)
                refine x_iload_n (q := 83) E dX6_alphabet_82 7 rfl rfl ?_
                refine x_goto (tgt := 109) E dX6_alphabet_83 (by decide) ?_
                refine x_istore (q := 111) (lv' := [(10, .int (ii (wa))), (9, .int (ii (za))), (8, .int (ii (3))), (7, .int (ii (0))), (0, .ref (ad 0)), (1, .int (ii ((q : Int)))), (2, .int (ii (4))), (3, .int (ii (wa))), (4, .int (ii (xa))), (5, .int (ii (ya))), (6, .int (ii (za)))]) E dX6_alphabet_109 (by decide) rfl rfl ?_
                refine x_iload (q := 113) E dX6_alphabet_111 3 rfl rfl ?_
                refine x_if_eq (tgt := 140) (q := 116) E dX6_alphabet_113 (by decide) rfl (by omega) (fun _ => ?_) (fun h9 => absurd h9 (by decide))
                refine x_iconst (q := 141) E dX6_alphabet_140 rfl ?_
                refine x_istore (q := 143) (lv' := [(7, .int (ii (0))), (10, .int (ii (wa))), (9, .int (ii (za))), (8, .int (ii (3))), (0, .ref (ad 0)), (1, .int (ii ((q : Int)))), (2, .int (ii (4))), (3, .int (ii (wa))), (4, .int (ii (xa))), (5, .int (ii (ya))), (6, .int (ii (za)))]) E dX6_alphabet_141 (by decide) rfl rfl ?_
                refine x_iinc (q := 146) (k := 3) (lv' := [(8, .int (ii (4))), (7, .int (ii (0))), (10, .int (ii (wa))), (9, .int (ii (za))), (0, .ref (ad 0)), (1, .int (ii ((q : Int)))), (2, .int (ii (4))), (3, .int (ii (wa))), (4, .int (ii (xa))), (5, .int (ii (ya))), (6, .int (ii (za)))]) E dX6_alphabet_143 rfl (by decide) rfl rfl ?_
                refine x_goto (tgt := 33) E dX6_alphabet_146 (by decide) ?_
                refine x_iload (q := 35) E dX6_alphabet_33 0 rfl rfl ?_
                refine x_iload_n (q := 36) E dX6_alphabet_35 6 rfl rfl ?_
                refine x_icmp_ge (tgt := 149) (q := 39) E dX6_alphabet_36 (by decide) rfl (by omega) (by omega) (fun _ => ?_) (fun h9 => absurd h9 (by decide))
                refine x_iload (q := 151) E dX6_alphabet_149 1 rfl rfl ?_
                refine x_if_ne (tgt := 157) (q := 154) E dX6_alphabet_151 (by decide) rfl (by omega) (fun h9 => absurd h9 (by decide)) (fun _ => ?_)
                refine x_bipush (q := 156) E dX6_alphabet_154 (by decide) rfl ?_
                exact RET _ _ _ _ dX6_alphabet_156 (by have o1 : ¬ okA 4 wa xa ya za := (by unfold okA; omega); exact ⟨by rw [if_neg o1], by rw [if_neg o1]; exact hI⟩)
              · refine x_iconst (q := 137) E dX6_alphabet_136 rfl ?_
                refine x_goto (tgt := 141) E dX6_alphabet_137 (by decide) ?_
                refine x_istore (q := 143) (lv' := [(7, .int (ii (1))), (10, .int (ii (ya))), (9, .int (ii (xa))), (8, .int (ii (1))), (0, .ref (ad 0)), (1, .int (ii ((q : Int)))), (2, .int (ii (4))), (3, .int (ii (wa))), (4, .int (ii (xa))), (5, .int (ii (ya))), (6, .int (ii (za)))]) E dX6_alphabet_141 (by decide) rfl rfl ?_
                refine x_iinc (q := 146) (k := 3) (lv' := [(8, .int (ii (2))), (7, .int (ii (1))), (10, .int (ii (ya))), (9, .int (ii (xa))), (0, .ref (ad 0)), (1, .int (ii ((q : Int)))), (2, .int (ii (4))), (3, .int (ii (wa))), (4, .int (ii (xa))), (5, .int (ii (ya))), (6, .int (ii (za)))]) E dX6_alphabet_143 rfl (by decide) rfl rfl ?_
                refine x_goto (tgt := 33) E dX6_alphabet_146 (by decide) ?_
                refine x_iload (q := 35) E dX6_alphabet_33 0 rfl rfl ?_
                refine x_iload_n (q := 36) E dX6_alphabet_35 6 rfl rfl ?_
                refine x_icmp_ge (tgt := 149) (q := 39) E dX6_alphabet_36 (by decide) rfl (by omega) (by omega) (fun h9 => absurd h9 (by decide)) (fun _ => ?_)
                refine x_iload (q := 41) E dX6_alphabet_39 0 rfl rfl ?_
                refine x_if_ne (tgt := 48) (q := 44) E dX6_alphabet_41 (by decide) rfl (by omega) (fun _ => ?_) (fun h9 => absurd h9 (by decide))
                refine x_iload (q := 50) E dX6_alphabet_48 0 rfl rfl ?_
                refine x_iconst (q := 51) E dX6_alphabet_50 rfl ?_
                refine x_icmp_ne (tgt := 59) (q := 54) E dX6_alphabet_51 (by decide) rfl (by omega) (by omega) (fun _ => ?_) (fun h9 => absurd h9 (by decide))
                refine x_iload (q := 61) E dX6_alphabet_59 0 rfl rfl ?_
                refine x_iconst (q := 62) E dX6_alphabet_61 rfl ?_
                refine x_icmp_ne (tgt := 70) (q := 65) E dX6_alphabet_62 (by decide) rfl (by omega) (by omega) (fun h9 => absurd h9 (by decide)) (fun _ => ?_)
                refine x_iload (q := 67) E dX6_alphabet_65 9 rfl rfl ?_
                refine x_goto (tgt := 72) E dX6_alphabet_67 (by decide) ?_
                refine x_istore (q := 74) (lv' := [(9, .int (ii (ya))), (8, .int (ii (2))), (7, .int (ii (1))), (10, .int (ii (ya))), (0, .ref (ad 0)), (1, .int (ii ((q : Int)))), (2, .int (ii (4))), (3, .int (ii (wa))), (4, .int (ii (xa))), (5, .int (ii (ya))), (6, .int (ii (za)))]) E dX6_alphabet_72 (by decide) rfl rfl ?_
                refine x_iload (q := 76) E dX6_alphabet_74 1 rfl rfl ?_
                refine x_iload_n (q := 77) E dX6_alphabet_76 6 rfl rfl ?_
                refine x_iconst (q := 78) E dX6_alphabet_77 rfl ?_
                refine x_isub (q := 79) E dX6_alphabet_78 rfl ?_
                refine x_ti (show (4) - (1) = 3 from rfl) ?_
                refine x_icmp_ne (tgt := 86) (q := 82) E dX6_alphabet_79 (by decide) rfl (by omega) (by omega) (fun _ => ?_) (fun h9 => absurd h9 (by decide))
                refine x_iload (q := 88) E dX6_alphabet_86 1 rfl rfl ?_
                refine x_if_ne (tgt := 96) (q := 91) E dX6_alphabet_88 (by decide) rfl (by omega) (fun _ => ?_) (fun h9 => absurd h9 (by decide))
                refine x_iload (q := 98) E dX6_alphabet_96 1 rfl rfl ?_
                refine x_iconst (q := 99) E dX6_alphabet_98 rfl ?_
                refine x_icmp_ne (tgt := 107) (q := 102) E dX6_alphabet_99 (by decide) rfl (by omega) (by omega) (fun _ => ?_) (fun h9 => absurd h9 (by decide))
                refine x_iload (q := 109) E dX6_alphabet_107 10 rfl rfl ?_
                refine x_istore (q := 111) (lv' := [(10, .int (ii (za))), (9, .int (ii (ya))), (8, .int (ii (2))), (7, .int (ii (1))), (0, .ref (ad 0)), (1, .int (ii ((q : Int)))), (2, .int (ii (4))), (3, .int (ii (wa))), (4, .int (ii (xa))), (5, .int (ii (ya))), (6, .int (ii (za)))]) E dX6_alphabet_109 (by decide) rfl rfl ?_
                refine x_iload (q := 113) E dX6_alphabet_111 3 rfl rfl ?_
                refine x_if_eq (tgt := 140) (q := 116) E dX6_alphabet_113 (by decide) rfl (by omega) (fun h9 => absurd h9 (by decide)) (fun _ => ?_)
                refine x_iload (q := 118) E dX6_alphabet_116 1 rfl rfl ?_
                refine x_i2l (q := 119) E dX6_alphabet_118 (by omega) rfl ?_
                refine x_lconst (q := 120) (z := 1) E dX6_alphabet_119 (by decide) rfl ?_
                refine x_ldc2 (q := 123) (v := 6) (z := 6) E (by decide +kernel) (by decide) dX6_alphabet_120 rfl ?_
                refine x_callSi (q := 126) (n := 3) (As := [.long (jj (ya)), .long (jj (1)), .long (jj (6))]) (r := []) E (c_X6_in l D T ad hN st (ya) (1) (6) (by omega) (by omega) (by omega)) gX6_alphabet_X6_in rfl rfl rfl (by decide +kernel) ⟨Nat.le_of_ble_eq_true rfl, Nat.le_of_ble_eq_true rfl⟩ rfl rfl (Nat.le_of_ble_eq_true rfl) dX6_alphabet_123 rfl (fun z28 s29 q30 => ?_)
                obtain ⟨rfl, rfl⟩ := q30
                refine x_if_eq (tgt := 140) (q := 129) E dX6_alphabet_126 (by decide) rfl (by omega) (fun c126 => ?_) (fun c126 => ?_)
                · refine x_iconst (q := 141) E dX6_alphabet_140 rfl ?_
                  refine x_istore (q := 143) (lv' := [(7, .int (ii (0))), (10, .int (ii (za))), (9, .int (ii (ya))), (8, .int (ii (2))), (0, .ref (ad 0)), (1, .int (ii ((q : Int)))), (2, .int (ii (4))), (3, .int (ii (wa))), (4, .int (ii (xa))), (5, .int (ii (ya))), (6, .int (ii (za)))]) E dX6_alphabet_141 (by decide) rfl rfl ?_
                  refine x_iinc (q := 146) (k := 3) (lv' := [(8, .int (ii (3))), (7, .int (ii (0))), (10, .int (ii (za))), (9, .int (ii (ya))), (0, .ref (ad 0)), (1, .int (ii ((q : Int)))), (2, .int (ii (4))), (3, .int (ii (wa))), (4, .int (ii (xa))), (5, .int (ii (ya))), (6, .int (ii (za)))]) E dX6_alphabet_143 rfl (by decide) rfl rfl ?_
                  refine x_goto (tgt := 33) E dX6_alphabet_146 (by decide) ?_
                  refine x_iload (q := 35) E dX6_alphabet_33 0 rfl rfl ?_
                  refine x_iload_n (q := 36) E dX6_alphabet_35 6 rfl rfl ?_
                  refine x_icmp_ge (tgt := 149) (q := 39) E dX6_alphabet_36 (by decide) rfl (by omega) (by omega) (fun h9 => absurd h9 (by decide)) (fun _ => ?_)
                  refine x_iload (q := 41) E dX6_alphabet_39 0 rfl rfl ?_
                  refine x_if_ne (tgt := 48) (q := 44) E dX6_alphabet_41 (by decide) rfl (by omega) (fun _ => ?_) (fun h9 => absurd h9 (by decide))
                  refine x_iload (q := 50) E dX6_alphabet_48 0 rfl rfl ?_
                  refine x_iconst (q := 51) E dX6_alphabet_50 rfl ?_
                  refine x_icmp_ne (tgt := 59) (q := 54) E dX6_alphabet_51 (by decide) rfl (by omega) (by omega) (fun _ => ?_) (fun h9 => absurd h9 (by decide))
                  refine x_iload (q := 61) E dX6_alphabet_59 0 rfl rfl ?_
                  refine x_iconst (q := 62) E dX6_alphabet_61 rfl ?_
                  refine x_icmp_ne (tgt := 70) (q := 65) E dX6_alphabet_62 (by decide) rfl (by omega) (by omega) (fun _ => ?_) (fun h9 => absurd h9 (by decide))
                  refine x_iload (q := 72) E dX6_alphabet_70 10 rfl rfl ?_
                  refine x_istore (q := 74) (lv' := [(9, .int (ii (za))), (8, .int (ii (3))), (7, .int (ii (0))), (10, .int (ii (za))), (0, .ref (ad 0)), (1, .int (ii ((q : Int)))), (2, .int (ii (4))), (3, .int (ii (wa))), (4, .int (ii (xa))), (5, .int (ii (ya))), (6, .int (ii (za)))]) E dX6_alphabet_72 (by decide) rfl rfl ?_
                  refine x_iload (q := 76) E dX6_alphabet_74 1 rfl rfl ?_
                  refine x_iload_n (q := 77) E dX6_alphabet_76 6 rfl rfl ?_
                  refine x_iconst (q := 78) E dX6_alphabet_77 rfl ?_
                  refine x_isub (q := 79) E dX6_alphabet_78 rfl ?_
                  refine x_ti (show (4) - (1) = 3 from rfl) ?_
                  refine x_icmp_ne (tgt := 86) (q := 82) E dX6_alphabet_79 (by decide) rfl (by omega) (by omega) (fun h9 => absurd h9 (by decide)) (fun _ => ?_)
                  refine x_iload_n (q := 83) E dX6_alphabet_82 7 rfl rfl ?_
                  refine x_goto (tgt := 109) E dX6_alphabet_83 (by decide) ?_
                  refine x_istore (q := 111) (lv' := [(10, .int (ii (wa))), (9, .int (ii (za))), (8, .int (ii (3))), (7, .int (ii (0))), (0, .ref (ad 0)), (1, .int (ii ((q : Int)))), (2, .int (ii (4))), (3, .int (ii (wa))), (4, .int (ii (xa))), (5, .int (ii (ya))), (6, .int (ii (za)))]) E dX6_alphabet_109 (by decide) rfl rfl ?_
                  refine x_iload (q := 113) E dX6_alphabet_111 3 rfl rfl ?_
                  refine x_if_eq (tgt := 140) (q := 116) E dX6_alphabet_113 (by decide) rfl (by omega) (fun _ => ?_) (fun h9 => absurd h9 (by decide))
                  refine x_iconst (q := 141) E dX6_alphabet_140 rfl ?_
                  refine x_istore (q := 143) (lv' := [(7, .int (ii (0))), (10, .int (ii (wa))), (9, .int (ii (za))), (8, .int (ii (3))), (0, .ref (ad 0)), (1, .int (ii ((q : Int)))), (2, .int (ii (4))), (3, .int (ii (wa))), (4, .int (ii (xa))), (5, .int (ii (ya))), (6, .int (ii (za)))]) E dX6_alphabet_141 (by decide) rfl rfl ?_
                  refine x_iinc (q := 146) (k := 3) (lv' := [(8, .int (ii (4))), (7, .int (ii (0))), (10, .int (ii (wa))), (9, .int (ii (za))), (0, .ref (ad 0)), (1, .int (ii ((q : Int)))), (2, .int (ii (4))), (3, .int (ii (wa))), (4, .int (ii (xa))), (5, .int (ii (ya))), (6, .int (ii (za)))]) E dX6_alphabet_143 rfl (by decide) rfl rfl ?_
                  refine x_goto (tgt := 33) E dX6_alphabet_146 (by decide) ?_
                  refine x_iload (q := 35) E dX6_alphabet_33 0 rfl rfl ?_
                  refine x_iload_n (q := 36) E dX6_alphabet_35 6 rfl rfl ?_
                  refine x_icmp_ge (tgt := 149) (q := 39) E dX6_alphabet_36 (by decide) rfl (by omega) (by omega) (fun _ => ?_) (fun h9 => absurd h9 (by decide))
                  refine x_iload (q := 151) E dX6_alphabet_149 1 rfl rfl ?_
                  refine x_if_ne (tgt := 157) (q := 154) E dX6_alphabet_151 (by decide) rfl (by omega) (fun h9 => absurd h9 (by decide)) (fun _ => ?_)
                  refine x_bipush (q := 156) E dX6_alphabet_154 (by decide) rfl ?_
                  exact RET _ _ _ _ dX6_alphabet_156 (by have o1 : ¬ okA 4 wa xa ya za := (by unfold okA; omega); exact ⟨by rw [if_neg o1], by rw [if_neg o1]; exact hI⟩)
                · refine x_iload (q := 131) E dX6_alphabet_129 1 rfl rfl ?_
                  refine x_iload (q := 133) E dX6_alphabet_131 0 rfl rfl ?_
                  refine x_icmp_eq (tgt := 140) (q := 136) E dX6_alphabet_133 (by decide) rfl (by omega) (by omega) (fun c133 => ?_) (fun c133 => ?_)
                  · refine x_iconst (q := 141) E dX6_alphabet_140 rfl ?_
                    refine x_istore (q := 143) (lv' := [(7, .int (ii (0))), (10, .int (ii (za))), (9, .int (ii (ya))), (8, .int (ii (2))), (0, .ref (ad 0)), (1, .int (ii ((q : Int)))), (2, .int (ii (4))), (3, .int (ii (wa))), (4, .int (ii (xa))), (5, .int (ii (ya))), (6, .int (ii (za)))]) E dX6_alphabet_141 (by decide) rfl rfl ?_
                    refine x_iinc (q := 146) (k := 3) (lv' := [(8, .int (ii (3))), (7, .int (ii (0))), (10, .int (ii (za))), (9, .int (ii (ya))), (0, .ref (ad 0)), (1, .int (ii ((q : Int)))), (2, .int (ii (4))), (3, .int (ii (wa))), (4, .int (ii (xa))), (5, .int (ii (ya))), (6, .int (ii (za)))]) E dX6_alphabet_143 rfl (by decide) rfl rfl ?_
                    refine x_goto (tgt := 33) E dX6_alphabet_146 (by decide) ?_
                    refine x_iload (q := 35) E dX6_alphabet_33 0 rfl rfl ?_
                    refine x_iload_n (q := 36) E dX6_alphabet_35 6 rfl rfl ?_
                    refine x_icmp_ge (tgt := 149) (q := 39) E dX6_alphabet_36 (by decide) rfl (by omega) (by omega) (fun h9 => absurd h9 (by decide)) (fun _ => ?_)
                    refine x_iload (q := 41) E dX6_alphabet_39 0 rfl rfl ?_
                    refine x_if_ne (tgt := 48) (q := 44) E dX6_alphabet_41 (by decide) rfl (by omega) (fun _ => ?_) (fun h9 => absurd h9 (by decide))
                    refine x_iload (q := 50) E dX6_alphabet_48 0 rfl rfl ?_
                    refine x_iconst (q := 51) E dX6_alphabet_50 rfl ?_
                    refine x_icmp_ne (tgt := 59) (q := 54) E dX6_alphabet_51 (by decide) rfl (by omega) (by omega) (fun _ => ?_) (fun h9 => absurd h9 (by decide))
                    refine x_iload (q := 61) E dX6_alphabet_59 0 rfl rfl ?_
                    refine x_iconst (q := 62) E dX6_alphabet_61 rfl ?_
                    refine x_icmp_ne (tgt := 70) (q := 65) E dX6_alphabet_62 (by decide) rfl (by omega) (by omega) (fun _ => ?_) (fun h9 => absurd h9 (by decide))
                    refine x_iload (q := 72) E dX6_alphabet_70 10 rfl rfl ?_
                    refine x_istore (q := 74) (lv' := [(9, .int (ii (za))), (8, .int (ii (3))), (7, .int (ii (0))), (10, .int (ii (za))), (0, .ref (ad 0)), (1, .int (ii ((q : Int)))), (2, .int (ii (4))), (3, .int (ii (wa))), (4, .int (ii (xa))), (5, .int (ii (ya))), (6, .int (ii (za)))]) E dX6_alphabet_72 (by decide) rfl rfl ?_
                    refine x_iload (q := 76) E dX6_alphabet_74 1 rfl rfl ?_
                    refine x_iload_n (q := 77) E dX6_alphabet_76 6 rfl rfl ?_
                    refine x_iconst (q := 78) E dX6_alphabet_77 rfl ?_
                    refine x_isub (q := 79) E dX6_alphabet_78 rfl ?_
                    refine x_ti (show (4) - (1) = 3 from rfl) ?_
                    refine x_icmp_ne (tgt := 86) (q := 82) E dX6_alphabet_79 (by decide) rfl (by omega) (by omega) (fun h9 => absurd h9 (by decide)) (fun _ => ?_)
                    refine x_iload_n (q := 83) E dX6_alphabet_82 7 rfl rfl ?_
                    refine x_goto (tgt := 109) E dX6_alphabet_83 (by decide) ?_
                    refine x_istore (q := 111) (lv' := [(10, .int (ii (wa))), (9, .int (ii (za))), (8, .int (ii (3))), (7, .int (ii (0))), (0, .ref (ad 0)), (1, .int (ii ((q : Int)))), (2, .int (ii (4))), (3, .int (ii (wa))), (4, .int (ii (xa))), (5, .int (ii (ya))), (6, .int (ii (za)))]) E dX6_alphabet_109 (by decide) rfl rfl ?_
                    refine x_iload (q := 113) E dX6_alphabet_111 3 rfl rfl ?_
                    refine x_if_eq (tgt := 140) (q := 116) E dX6_alphabet_113 (by decide) rfl (by omega) (fun _ => ?_) (fun h9 => absurd h9 (by decide))
                    refine x_iconst (q := 141) E dX6_alphabet_140 rfl ?_
                    refine x_istore (q := 143) (lv' := [(7, .int (ii (0))), (10, .int (ii (wa))), (9, .int (ii (za))), (8, .int (ii (3))), (0, .ref (ad 0)), (1, .int (ii ((q : Int)))), (2, .int (ii (4))), (3, .int (ii (wa))), (4, .int (ii (xa))), (5, .int (ii (ya))), (6, .int (ii (za)))]) E dX6_alphabet_141 (by decide) rfl rfl ?_
                    refine x_iinc (q := 146) (k := 3) (lv' := [(8, .int (ii (4))), (7, .int (ii (0))), (10, .int (ii (wa))), (9, .int (ii (za))), (0, .ref (ad 0)), (1, .int (ii ((q : Int)))), (2, .int (ii (4))), (3, .int (ii (wa))), (4, .int (ii (xa))), (5, .int (ii (ya))), (6, .int (ii (za)))]) E dX6_alphabet_143 rfl (by decide) rfl rfl ?_
                    refine x_goto (tgt := 33) E dX6_alphabet_146 (by decide) ?_
                    refine x_iload (q := 35) E dX6_alphabet_33 0 rfl rfl ?_
                    refine x_iload_n (q := 36) E dX6_alphabet_35 6 rfl rfl ?_
                    refine x_icmp_ge (tgt := 149) (q := 39) E dX6_alphabet_36 (by decide) rfl (by omega) (by omega) (fun _ => ?_) (fun h9 => absurd h9 (by decide))
                    refine x_iload (q := 151) E dX6_alphabet_149 1 rfl rfl ?_
                    refine x_if_ne (tgt := 157) (q := 154) E dX6_alphabet_151 (by decide) rfl (by omega) (fun h9 => absurd h9 (by decide)) (fun _ => ?_)
                    refine x_bipush (q := 156) E dX6_alphabet_154 (by decide) rfl ?_
                    exact RET _ _ _ _ dX6_alphabet_156 (by have o1 : ¬ okA 4 wa xa ya za := (by unfold okA; omega); exact ⟨by rw [if_neg o1], by rw [if_neg o1]; exact hI⟩)
                  · refine x_iconst (q := 137) E dX6_alphabet_136 rfl ?_
                    refine x_goto (tgt := 141) E dX6_alphabet_137 (by decide) ?_
                    refine x_istore (q := 143) (lv' := [(7, .int (ii (1))), (10, .int (ii (za))), (9, .int (ii (ya))), (8, .int (ii (2))), (0, .ref (ad 0)), (1, .int (ii ((q : Int)))), (2, .int (ii (4))), (3, .int (ii (wa))), (4, .int (ii (xa))), (5, .int (ii (ya))), (6, .int (ii (za)))]) E dX6_alphabet_141 (by decide) rfl rfl ?_
                    refine x_iinc (q := 146) (k := 3) (lv' := [(8, .int (ii (3))), (7, .int (ii (1))), (10, .int (ii (za))), (9, .int (ii (ya))), (0, .ref (ad 0)), (1, .int (ii ((q : Int)))), (2, .int (ii (4))), (3, .int (ii (wa))), (4, .int (ii (xa))), (5, .int (ii (ya))), (6, .int (ii (za)))]) E dX6_alphabet_143 rfl (by decide) rfl rfl ?_
                    refine x_goto (tgt := 33) E dX6_alphabet_146 (by decide) ?_
                    refine x_iload (q := 35) E dX6_alphabet_33 0 rfl rfl ?_
                    refine x_iload_n (q := 36) E dX6_alphabet_35 6 rfl rfl ?_
                    refine x_icmp_ge (tgt := 149) (q := 39) E dX6_alphabet_36 (by decide) rfl (by omega) (by omega) (fun h9 => absurd h9 (by decide)) (fun _ => ?_)
                    refine x_iload (q := 41) E dX6_alphabet_39 0 rfl rfl ?_
                    refine x_if_ne (tgt := 48) (q := 44) E dX6_alphabet_41 (by decide) rfl (by omega) (fun _ => ?_) (fun h9 => absurd h9 (by decide))
                    refine x_iload (q := 50) E dX6_alphabet_48 0 rfl rfl ?_
                    refine x_iconst (q := 51) E dX6_alphabet_50 rfl ?_
                    refine x_icmp_ne (tgt := 59) (q := 54) E dX6_alphabet_51 (by decide) rfl (by omega) (by omega) (fun _ => ?_) (fun h9 => absurd h9 (by decide))
                    refine x_iload (q := 61) E dX6_alphabet_59 0 rfl rfl ?_
                    refine x_iconst (q := 62) E dX6_alphabet_61 rfl ?_
                    refine x_icmp_ne (tgt := 70) (q := 65) E dX6_alphabet_62 (by decide) rfl (by omega) (by omega) (fun _ => ?_) (fun h9 => absurd h9 (by decide))
                    refine x_iload (q := 72) E dX6_alphabet_70 10 rfl rfl ?_
                    refine x_istore (q := 74) (lv' := [(9, .int (ii (za))), (8, .int (ii (3))), (7, .int (ii (1))), (10, .int (ii (za))), (0, .ref (ad 0)), (1, .int (ii ((q : Int)))), (2, .int (ii (4))), (3, .int (ii (wa))), (4, .int (ii (xa))), (5, .int (ii (ya))), (6, .int (ii (za)))]) E dX6_alphabet_72 (by decide) rfl rfl ?_
                    refine x_iload (q := 76) E dX6_alphabet_74 1 rfl rfl ?_
                    refine x_iload_n (q := 77) E dX6_alphabet_76 6 rfl rfl ?_
                    refine x_iconst (q := 78) E dX6_alphabet_77 rfl ?_
                    refine x_isub (q := 79) E dX6_alphabet_78 rfl ?_
                    refine x_ti (show (4) - (1) = 3 from rfl) ?_
                    refine x_icmp_ne (tgt := 86) (q := 82) E dX6_alphabet_79 (by decide) rfl (by omega) (by omega) (fun h9 => absurd h9 (by decide)) (fun _ => ?_)
                    refine x_iload_n (q := 83) E dX6_alphabet_82 7 rfl rfl ?_
                    refine x_goto (tgt := 109) E dX6_alphabet_83 (by decide) ?_
                    refine x_istore (q := 111) (lv' := [(10, .int (ii (wa))), (9, .int (ii (za))), (8, .int (ii (3))), (7, .int (ii (1))), (0, .ref (ad 0)), (1, .int (ii ((q : Int)))), (2, .int (ii (4))), (3, .int (ii (wa))), (4, .int (ii (xa))), (5, .int (ii (ya))), (6, .int (ii (za)))]) E dX6_alphabet_109 (by decide) rfl rfl ?_
                    refine x_iload (q := 113) E dX6_alphabet_111 3 rfl rfl ?_
                    refine x_if_eq (tgt := 140) (q := 116) E dX6_alphabet_113 (by decide) rfl (by omega) (fun h9 => absurd h9 (by decide)) (fun _ => ?_)
                    refine x_iload (q := 118) E dX6_alphabet_116 1 rfl rfl ?_
                    refine x_i2l (q := 119) E dX6_alphabet_118 (by omega) rfl ?_
                    refine x_lconst (q := 120) (z := 1) E dX6_alphabet_119 (by decide) rfl ?_
                    refine x_ldc2 (q := 123) (v := 6) (z := 6) E (by decide +kernel) (by decide) dX6_alphabet_120 rfl ?_
                    refine x_callSi (q := 126) (n := 3) (As := [.long (jj (za)), .long (jj (1)), .long (jj (6))]) (r := []) E (c_X6_in l D T ad hN st (za) (1) (6) (by omega) (by omega) (by omega)) gX6_alphabet_X6_in rfl rfl rfl (by decide +kernel) ⟨Nat.le_of_ble_eq_true rfl, Nat.le_of_ble_eq_true rfl⟩ rfl rfl (Nat.le_of_ble_eq_true rfl) dX6_alphabet_123 rfl (fun z31 s32 q33 => ?_)
                    obtain ⟨rfl, rfl⟩ := q33
                    refine x_if_eq (tgt := 140) (q := 129) E dX6_alphabet_126 (by decide) rfl (by omega) (fun c126 => ?_) (fun c126 => ?_)
                    · refine x_iconst (q := 141) E dX6_alphabet_140 rfl ?_
                      refine x_istore (q := 143) (lv' := [(7, .int (ii (0))), (10, .int (ii (wa))), (9, .int (ii (za))), (8, .int (ii (3))), (0, .ref (ad 0)), (1, .int (ii ((q : Int)))), (2, .int (ii (4))), (3, .int (ii (wa))), (4, .int (ii (xa))), (5, .int (ii (ya))), (6, .int (ii (za)))]) E dX6_alphabet_141 (by decide) rfl rfl ?_
                      refine x_iinc (q := 146) (k := 3) (lv' := [(8, .int (ii (4))), (7, .int (ii (0))), (10, .int (ii (wa))), (9, .int (ii (za))), (0, .ref (ad 0)), (1, .int (ii ((q : Int)))), (2, .int (ii (4))), (3, .int (ii (wa))), (4, .int (ii (xa))), (5, .int (ii (ya))), (6, .int (ii (za)))]) E dX6_alphabet_143 rfl (by decide) rfl rfl ?_
                      refine x_goto (tgt := 33) E dX6_alphabet_146 (by decide) ?_
                      refine x_iload (q := 35) E dX6_alphabet_33 0 rfl rfl ?_
                      refine x_iload_n (q := 36) E dX6_alphabet_35 6 rfl rfl ?_
                      refine x_icmp_ge (tgt := 149) (q := 39) E dX6_alphabet_36 (by decide) rfl (by omega) (by omega) (fun _ => ?_) (fun h9 => absurd h9 (by decide))
                      refine x_iload (q := 151) E dX6_alphabet_149 1 rfl rfl ?_
                      refine x_if_ne (tgt := 157) (q := 154) E dX6_alphabet_151 (by decide) rfl (by omega) (fun h9 => absurd h9 (by decide)) (fun _ => ?_)
                      refine x_bipush (q := 156) E dX6_alphabet_154 (by decide) rfl ?_
                      exact RET _ _ _ _ dX6_alphabet_156 (by have o1 : ¬ okA 4 wa xa ya za := (by unfold okA; omega); exact ⟨by rw [if_neg o1], by rw [if_neg o1]; exact hI⟩)
                    · refine x_iload (q := 131) E dX6_alphabet_129 1 rfl rfl ?_
                      refine x_iload (q := 133) E dX6_alphabet_131 0 rfl rfl ?_
                      refine x_icmp_eq (tgt := 140) (q := 136) E dX6_alphabet_133 (by decide) rfl (by omega) (by omega) (fun c133 => ?_) (fun c133 => ?_)
                      · refine x_iconst (q := 141) E dX6_alphabet_140 rfl ?_
                        refine x_istore (q := 143) (lv' := [(7, .int (ii (0))), (10, .int (ii (wa))), (9, .int (ii (za))), (8, .int (ii (3))), (0, .ref (ad 0)), (1, .int (ii ((q : Int)))), (2, .int (ii (4))), (3, .int (ii (wa))), (4, .int (ii (xa))), (5, .int (ii (ya))), (6, .int (ii (za)))]) E dX6_alphabet_141 (by decide) rfl rfl ?_
                        refine x_iinc (q := 146) (k := 3) (lv' := [(8, .int (ii (4))), (7, .int (ii (0))), (10, .int (ii (wa))), (9, .int (ii (za))), (0, .ref (ad 0)), (1, .int (ii ((q : Int)))), (2, .int (ii (4))), (3, .int (ii (wa))), (4, .int (ii (xa))), (5, .int (ii (ya))), (6, .int (ii (za)))]) E dX6_alphabet_143 rfl (by decide) rfl rfl ?_
                        refine x_goto (tgt := 33) E dX6_alphabet_146 (by decide) ?_
                        refine x_iload (q := 35) E dX6_alphabet_33 0 rfl rfl ?_
                        refine x_iload_n (q := 36) E dX6_alphabet_35 6 rfl rfl ?_
                        refine x_icmp_ge (tgt := 149) (q := 39) E dX6_alphabet_36 (by decide) rfl (by omega) (by omega) (fun _ => ?_) (fun h9 => absurd h9 (by decide))
                        refine x_iload (q := 151) E dX6_alphabet_149 1 rfl rfl ?_
                        refine x_if_ne (tgt := 157) (q := 154) E dX6_alphabet_151 (by decide) rfl (by omega) (fun h9 => absurd h9 (by decide)) (fun _ => ?_)
                        refine x_bipush (q := 156) E dX6_alphabet_154 (by decide) rfl ?_
                        exact RET _ _ _ _ dX6_alphabet_156 (by have o1 : ¬ okA 4 wa xa ya za := (by unfold okA; omega); exact ⟨by rw [if_neg o1], by rw [if_neg o1]; exact hI⟩)
                      · refine x_iconst (q := 137) E dX6_alphabet_136 rfl ?_
                        refine x_goto (tgt := 141) E dX6_alphabet_137 (by decide) ?_
                        refine x_istore (q := 143) (lv' := [(7, .int (ii (1))), (10, .int (ii (wa))), (9, .int (ii (za))), (8, .int (ii (3))), (0, .ref (ad 0)), (1, .int (ii ((q : Int)))), (2, .int (ii (4))), (3, .int (ii (wa))), (4, .int (ii (xa))), (5, .int (ii (ya))), (6, .int (ii (za)))]) E dX6_alphabet_141 (by decide) rfl rfl ?_
                        refine x_iinc (q := 146) (k := 3) (lv' := [(8, .int (ii (4))), (7, .int (ii (1))), (10, .int (ii (wa))), (9, .int (ii (za))), (0, .ref (ad 0)), (1, .int (ii ((q : Int)))), (2, .int (ii (4))), (3, .int (ii (wa))), (4, .int (ii (xa))), (5, .int (ii (ya))), (6, .int (ii (za)))]) E dX6_alphabet_143 rfl (by decide) rfl rfl ?_
                        refine x_goto (tgt := 33) E dX6_alphabet_146 (by decide) ?_
                        refine x_iload (q := 35) E dX6_alphabet_33 0 rfl rfl ?_
                        refine x_iload_n (q := 36) E dX6_alphabet_35 6 rfl rfl ?_
                        refine x_icmp_ge (tgt := 149) (q := 39) E dX6_alphabet_36 (by decide) rfl (by omega) (by omega) (fun _ => ?_) (fun h9 => absurd h9 (by decide))
                        refine x_iload (q := 151) E dX6_alphabet_149 1 rfl rfl ?_
                        refine x_if_ne (tgt := 157) (q := 154) E dX6_alphabet_151 (by decide) rfl (by omega) (fun _ => ?_) (fun h9 => absurd h9 (by decide))
                        refine x_aload_n (q := 158) E dX6_alphabet_157 4 rfl rfl ?_
                        refine x_get (q := 161) E iX6_alphabet_X6 (0) rfl rfl 0 (by decide) (by decide +kernel) rfl dX6_alphabet_158 rfl ?_
                        refine x_iconst (q := 162) E dX6_alphabet_161 rfl ?_
                        refine x_iload_n (q := 163) E dX6_alphabet_162 5 rfl rfl ?_
                        refine x_imul (q := 164) E dX6_alphabet_163 rfl ?_
                        refine x_iload_n (q := 165) E dX6_alphabet_164 7 rfl rfl ?_
                        refine x_iast (q := 166) (st' := (sA st (0) ((4) * ((q : Int))) (wa))) (f := st.2 (0)) E (1) rfl 0 rfl (by omega) (by omega) (by decide) dX6_alphabet_165 (ma_0 _ _) rfl ?_
                        refine x_aload_n (q := 167) E dX6_alphabet_166 4 rfl rfl ?_
                        refine x_get (q := 170) E iX6_alphabet_X6 (0) rfl rfl 0 (by decide) (by decide +kernel) rfl dX6_alphabet_167 rfl ?_
                        refine x_iconst (q := 171) E dX6_alphabet_170 rfl ?_
                        refine x_iload_n (q := 172) E dX6_alphabet_171 5 rfl rfl ?_
                        refine x_imul (q := 173) E dX6_alphabet_172 rfl ?_
                        refine x_iconst (q := 174) E dX6_alphabet_173 rfl ?_
                        refine x_iadd (q := 175) E dX6_alphabet_174 rfl ?_
                        refine x_iload (q := 177) E dX6_alphabet_175 8 rfl rfl ?_
                        refine x_iast (q := 178) (st' := (sA (sA st (0) ((4) * ((q : Int))) (wa)) (0) (((4) * ((q : Int))) + (1)) (xa))) (f := (sA st (0) ((4) * ((q : Int))) (wa)).2 (0)) E (1) rfl 0 rfl (by omega) (by omega) (by decide) dX6_alphabet_177 (ma_0 _ _) rfl ?_
                        refine x_aload_n (q := 179) E dX6_alphabet_178 4 rfl rfl ?_
                        refine x_get (q := 182) E iX6_alphabet_X6 (0) rfl rfl 0 (by decide) (by decide +kernel) rfl dX6_alphabet_179 rfl ?_
                        refine x_iconst (q := 183) E dX6_alphabet_182 rfl ?_
                        refine x_iload_n (q := 184) E dX6_alphabet_183 5 rfl rfl ?_
                        refine x_imul (q := 185) E dX6_alphabet_184 rfl ?_
                        refine x_iconst (q := 186) E dX6_alphabet_185 rfl ?_
                        refine x_iadd (q := 187) E dX6_alphabet_186 rfl ?_
                        refine x_iload (q := 189) E dX6_alphabet_187 9 rfl rfl ?_
                        refine x_iast (q := 190) (st' := (sA (sA (sA st (0) ((4) * ((q : Int))) (wa)) (0) (((4) * ((q : Int))) + (1)) (xa)) (0) (((4) * ((q : Int))) + (2)) (ya))) (f := (sA (sA st (0) ((4) * ((q : Int))) (wa)) (0) (((4) * ((q : Int))) + (1)) (xa)).2 (0)) E (1) rfl 0 rfl (by omega) (by omega) (by decide) dX6_alphabet_189 (ma_0 _ _) rfl ?_
                        refine x_aload_n (q := 191) E dX6_alphabet_190 4 rfl rfl ?_
                        refine x_get (q := 194) E iX6_alphabet_X6 (0) rfl rfl 0 (by decide) (by decide +kernel) rfl dX6_alphabet_191 rfl ?_
                        refine x_iconst (q := 195) E dX6_alphabet_194 rfl ?_
                        refine x_iload_n (q := 196) E dX6_alphabet_195 5 rfl rfl ?_
                        refine x_imul (q := 197) E dX6_alphabet_196 rfl ?_
                        refine x_iconst (q := 198) E dX6_alphabet_197 rfl ?_
                        refine x_iadd (q := 199) E dX6_alphabet_198 rfl ?_
                        refine x_iload (q := 201) E dX6_alphabet_199 10 rfl rfl ?_
                        refine x_iast (q := 202) (st' := (sA (sA (sA (sA st (0) ((4) * ((q : Int))) (wa)) (0) (((4) * ((q : Int))) + (1)) (xa)) (0) (((4) * ((q : Int))) + (2)) (ya)) (0) (((4) * ((q : Int))) + (3)) (za))) (f := (sA (sA (sA st (0) ((4) * ((q : Int))) (wa)) (0) (((4) * ((q : Int))) + (1)) (xa)) (0) (((4) * ((q : Int))) + (2)) (ya)).2 (0)) E (1) rfl 0 rfl (by omega) (by omega) (by decide) dX6_alphabet_201 (ma_0 _ _) rfl ?_
                        refine x_aload_n (q := 203) E dX6_alphabet_202 4 rfl rfl ?_
                        refine x_get (q := 206) E iX6_alphabet_X6 (0) rfl rfl 1 (by decide) (by decide +kernel) rfl dX6_alphabet_203 rfl ?_
                        refine x_iload_n (q := 207) E dX6_alphabet_206 5 rfl rfl ?_
                        refine x_iload_n (q := 208) E dX6_alphabet_207 6 rfl rfl ?_
                        refine x_iast (q := 209) (st' := (sA (sA (sA (sA (sA st (0) ((4) * ((q : Int))) (wa)) (0) (((4) * ((q : Int))) + (1)) (xa)) (0) (((4) * ((q : Int))) + (2)) (ya)) (0) (((4) * ((q : Int))) + (3)) (za)) (1) ((q : Int)) (4))) (f := (sA (sA (sA (sA st (0) ((4) * ((q : Int))) (wa)) (0) (((4) * ((q : Int))) + (1)) (xa)) (0) (((4) * ((q : Int))) + (2)) (ya)) (0) (((4) * ((q : Int))) + (3)) (za)).2 (1)) E (2) rfl 0 rfl (by omega) (by omega) (by decide) dX6_alphabet_208 (ma_1 _ _) rfl ?_
                        refine x_aload_n (q := 210) E dX6_alphabet_209 4 rfl rfl ?_
                        refine x_iconst (q := 211) E dX6_alphabet_210 rfl ?_
                        refine x_put (q := 214) (st' := (sG (sA (sA (sA (sA (sA st (0) ((4) * ((q : Int))) (wa)) (0) (((4) * ((q : Int))) + (1)) (xa)) (0) (((4) * ((q : Int))) + (2)) (ya)) (0) (((4) * ((q : Int))) + (3)) (za)) (1) ((q : Int)) (4)) (1) (1))) (v := .int (ii (1))) (ty := .boolean) E iX6_alphabet_X6 tyX6 tyX6_ok nmX6 (0) rfl rfl 4 (by decide) (by decide +kernel) rfl (by decide +kernel) (by decide) (by decide) (Nat.le_of_ble_eq_true rfl) dX6_alphabet_211 (ms_1 _) rfl ?_
                        refine x_iload_n (q := 215) E dX6_alphabet_214 6 rfl rfl ?_
                        exact RET _ _ _ _ dX6_alphabet_215 (by have o1 : okA 4 wa xa ya za := (by unfold okA; omega); exact ⟨by rw [if_pos o1], by rw [if_pos o1]; exact MI_alph hI hq o1⟩)
    · refine x_bipush (q := 26) E dX6_alphabet_24 (by decide) rfl ?_
      exact RET _ _ _ _ dX6_alphabet_26 (by have o1 : ¬ okA n0 wa xa ya za := (by unfold okA; omega); exact ⟨by rw [if_neg o1], by rw [if_neg o1]; exact hI⟩)
  · exfalso; omega

set_option maxRecDepth 100000 in
set_option maxHeartbeats 4000000 in
theorem c_X6_alphabet_n (l : Launch) (D : va_G) (T : Nat → ClassId) (ad : Nat → Nat) (hN : ∀ i j, i < 13 → j < 13 → ad i = ad j → i = j) (st : St_) (k : Int) (bk : -2147483648 ≤ k ∧ k < 2147483648) (n0 : Int) (bn0 : -2147483648 ≤ n0 ∧ n0 < 2147483648) (wa : Int) (bwa : -2147483648 ≤ wa ∧ wa < 2147483648) (xa : Int) (bxa : -2147483648 ≤ xa ∧ xa < 2147483648) (ya : Int) (bya : -2147483648 ≤ ya ∧ ya < 2147483648) (za : Int) (bza : -2147483648 ≤ za ∧ za < 2147483648) (hk : k < 0 ∨ 4 ≤ k) (a : AB_) (hI : MI st a) : CXi l yX6_alphabet wsX6_alphabet (rmX 2 45) [.ref (ad 0), .int (ii (k)), .int (ii (n0)), .int (ii (wa)), .int (ii (xa)), .int (ii (ya)), .int (ii (za))] D (tyX T) (MW T ad) (alM ad) st (fun z st2 => z = -101 ∧ MI st2 a) := by
  refine mk_i (cc := cX6_alphabet) (nL := 11) rfl rfl (MW_ok hN) (Nat.le_of_ble_eq_true rfl) [(0, .ref (ad 0)), (1, .int (ii (k))), (2, .int (ii (n0))), (3, .int (ii (wa))), (4, .int (ii (xa))), (5, .int (ii (ya))), (6, .int (ii (za)))] rfl (fun p e s m args below meth c A Q E RET => ?_)
  have k1 := hI.1
  have k2 := hI.2.1
  have k3 := hI.2.2.1
  have k4 := hI.2.2.2.1
  have k5 := hI.2.2.2.2.1
  have k6 := hI.2.2.2.2.2.1
  have k7 := hI.2.2.2.2.2.2.1
  have k8 := hI.2.2.2.2.2.2.2
  have hn := k7.2.1.1
  have hL := hI.len
  have hf := hI.lf
  have hf6 := hI.let6
  refine x_iload_n (q := 1) E dX6_alphabet_0 1 rfl rfl ?_
  refine x_callSi (q := 4) (n := 1) (As := [.int (ii (k))]) (r := []) E (c_X6_isAlphabet l D T ad hN st (k) (by omega)) gX6_alphabet_X6_isAlphabet rfl rfl rfl (by decide +kernel) ⟨Nat.le_of_ble_eq_true rfl, Nat.le_of_ble_eq_true rfl⟩ rfl rfl (Nat.le_of_ble_eq_true rfl) dX6_alphabet_1 rfl (fun z1 s2 q3 => ?_)
  obtain ⟨rfl, rfl⟩ := q3
  refine x_if_ne (tgt := 10) (q := 7) E dX6_alphabet_4 (by decide) rfl (by omega) (fun c4 => ?_) (fun c4 => ?_)
  · exfalso; omega
  · refine x_bipush (q := 9) E dX6_alphabet_7 (by decide) rfl ?_
    exact RET _ _ _ _ dX6_alphabet_9 (⟨rfl, hI⟩)

theorem iX6_turn_X6 : ∀ w ∈ wsX60, w ∈ wsX6_turn := by decide +kernel
set_option maxRecDepth 100000 in
set_option maxHeartbeats 4000000 in
theorem c_X6_turn (l : Launch) (D : va_G) (T : Nat → ClassId) (ad : Nat → Nat) (hN : ∀ i j, i < 13 → j < 13 → ad i = ad j → i = j) (st : St_) (q : Nat) (hq : q < 4) (a : AB_) (hI : MI st a) : CXi l yX6_turn wsX6_turn (rmX 2 45) [.ref (ad 0), .int (ii ((q : Int)))] D (tyX T) (MW T ad) (alM ad) st (fun z st2 => z = isum (fun j => if trv (a.1.2 (1 + q)) (a.1.1 (4 + q)) ((lf a.2) j) = (lf a.2) j then 0 else 1) (a.2.length : Int) ∧ MI st2 (a.1, wl (fun j => trv (a.1.2 (1 + q)) (a.1.1 (4 + q)) ((lf a.2) j)) (a.2.length : Int))) := by
  refine mk_i (cc := cX6_turn) (nL := 6) rfl rfl (MW_ok hN) (Nat.le_of_ble_eq_true rfl) [(0, .ref (ad 0)), (1, .int (ii ((q : Int))))] rfl (fun p e s m args below meth c A Q E RET => ?_)
  have k1 := hI.1
  have k2 := hI.2.1
  have k3 := hI.2.2.1
  have k4 := hI.2.2.2.1
  have k5 := hI.2.2.2.2.1
  have k6 := hI.2.2.2.2.2.1
  have k7 := hI.2.2.2.2.2.2.1
  have k8 := hI.2.2.2.2.2.2.2
  have hn := k7.2.1.1
  have hL := hI.len
  have hf := hI.lf
  have hf6 := hI.let6
  refine x_iload_n (q := 1) E dX6_turn_0 1 rfl rfl ?_
  refine x_callSi (q := 4) (n := 1) (As := [.int (ii ((q : Int)))]) (r := []) E (c_X6_isAlphabet l D T ad hN st ((q : Int)) (by omega)) gX6_turn_X6_isAlphabet rfl rfl rfl (by decide +kernel) ⟨Nat.le_of_ble_eq_true rfl, Nat.le_of_ble_eq_true rfl⟩ rfl rfl (Nat.le_of_ble_eq_true rfl) dX6_turn_1 rfl (fun z1 s2 q3 => ?_)
  obtain ⟨rfl, rfl⟩ := q3
  refine x_if_ne (tgt := 10) (q := 7) E dX6_turn_4 (by decide) rfl (by omega) (fun c4 => ?_) (fun c4 => ?_)
  · have hsz := k7.2.1.2.2 (q : Int) (by omega) (by omega)
    have hq1 := (k4 q hq).1
    have hq2 := (k4 q hq).2
    have hlet : ∀ j : Int, 0 ≤ j → j < st.2 1 (q : Int) → 1 ≤ st.2 0 (4 * (q : Int) + j) ∧ st.2 0 (4 * (q : Int) + j) ≤ 6 := fun j j0 j1 => by rw [hq2 j j0 j1]; exact (k8.2.2.2.1 q hq j j0 (by rw [← hq1]; exact j1)).1
    refine x_iconst (q := 11) E dX6_turn_10 rfl ?_
    refine x_istore_n (q := 12) (lv' := [(2, .int (ii (0))), (0, .ref (ad 0)), (1, .int (ii ((q : Int))))]) E dX6_turn_11 (by decide) rfl rfl ?_
    refine x_iconst (q := 13) E dX6_turn_12 rfl ?_
    refine x_istore_n (q := 14) (lv' := [(3, .int (ii (0))), (2, .int (ii (0))), (0, .ref (ad 0)), (1, .int (ii ((q : Int))))]) E dX6_turn_13 (by decide) rfl rfl ?_
    have L14 : ∀ (n : Nat) (t : Int) (i : Int) (f : Int → Int), (st.1 3 - i).toNat < n → (0 ≤ i ∧ i ≤ st.1 3) → (t = isum (fun j => if trv (fun x => st.2 0 (4 * (q : Int) + x)) (st.2 1 (q : Int)) (st.2 7 j) = st.2 7 j then 0 else 1) i) → (∀ x : Int, 0 ≤ x → x < i → f x = trv (fun x => st.2 0 (4 * (q : Int) + x)) (st.2 1 (q : Int)) (st.2 7 x)) → (∀ x : Int, i ≤ x → f x = st.2 7 x) → (∀ x : Int, 0 ≤ x → x < i → 1 ≤ f x ∧ f x ≤ 6) → XJ p l e (rmX 2 45) s m args below meth c D (MW T ad) A 6 Q 0 0 (sF st (7) (f)) 14 [(0, .ref (ad 0)), (1, .int (ii ((q : Int)))), (2, .int (ii (t))), (3, .int (ii (i)))] [] := by
      intro n
      induction n with
      | zero => intro t i f hn; exact absurd hn (Nat.not_lt_zero _)
      | succ n ih14 =>
        intro t i f hn14 b1 b3 b4 b5 b6
        refine x_iload_n (q := 15) E dX6_turn_14 3 rfl rfl ?_
        refine x_aload_n (q := 16) E dX6_turn_15 0 rfl rfl ?_
        refine x_get (q := 19) E iX6_turn_X6 (0) rfl rfl 11 (by decide) (by decide +kernel) rfl dX6_turn_16 rfl ?_
        refine x_ti (show (sF st (7) (f)).1 (3) = st.1 (3) by rw [sF_1]) ?_
        refine x_icmp_ge (tgt := 128) (q := 22) E dX6_turn_19 (by decide) rfl (by omega) (by omega) (fun c19 => ?_) (fun c19 => ?_)
        · refine x_iload_n (q := 129) E dX6_turn_128 2 rfl rfl ?_
          exact RET _ _ _ _ dX6_turn_129 (by have g4 : ∀ v : Int, trv (a.1.2 (1 + q)) (a.1.1 (4 + q)) v = trv (fun x => st.2 0 (4 * (q : Int) + x)) (st.2 1 (q : Int)) (v) := (fun v => by rw [← hq1]; exact trv_c (fun j j0 j1 => (hq2 j j0 j1).symm)); have g5 : ∀ j : Int, 0 ≤ j → j < st.1 3 → trv (a.1.2 (1 + q)) (a.1.1 (4 + q)) (lf a.2 j) = f j := (fun j j0 j1 => by rw [g4, hf j j0 j1, b4 j j0 (by omega)]); exact ⟨by rw [b3, hL, show i = st.1 3 from by omega]; exact isum_congr (fun j j0 j1 => by rw [g4, hf j j0 j1]), by rw [hL]; exact MI_w hI (fun j hj => by rw [sF_1]) ⟨by rw [sF_1], by rw [sF_1]⟩ (fun q hq => by rw [sF_n _ _ (by omega)]) (by rw [sF_s, sF_1]; exact wl_congr (fun j j0 j1 => (g5 j j0 j1).symm)) (by rw [sF_1]; exact k6) (wl_letters (fun j j0 j1 => by rw [g5 j j0 j1]; exact b6 j j0 (by omega)))⟩)
        · have f6 := hf6 i (by omega) (by omega)
          have f7 := b5 i (by omega)
          have f8 := isum_b (f := fun j => if trv (fun x => st.2 0 (4 * (q : Int) + x)) (st.2 1 (q : Int)) (st.2 7 j) = st.2 7 j then 0 else 1) (n := i) (b := 1) (by omega) (fun x _ _ => by (try dsimp only); split <;> omega)
          refine x_iconst (q := 23) E dX6_turn_22 rfl ?_
          refine x_istore (q := 25) (lv' := [(4, .int (ii (0))), (0, .ref (ad 0)), (1, .int (ii ((q : Int)))), (2, .int (ii (t))), (3, .int (ii (i)))]) E dX6_turn_23 (by decide) rfl rfl ?_
          have L25 : ∀ (n : Nat) (u : Int), ((st.2 1 (q : Int)) - u).toNat < n → (0 ≤ u ∧ u ≤ (st.2 1 (q : Int))) → (∀ x : Int, 0 ≤ x → x < u → st.2 0 (4 * (q : Int) + x) ≠ f i) → XJ p l e (rmX 2 45) s m args below meth c D (MW T ad) A 6 Q 0 0 (sF st (7) (f)) 25 [(0, .ref (ad 0)), (1, .int (ii ((q : Int)))), (2, .int (ii (t))), (3, .int (ii (i))), (4, .int (ii (u)))] [] := by
            intro n
            induction n with
            | zero => intro u hn; exact absurd hn (Nat.not_lt_zero _)
            | succ n ih25 =>
              intro u hn25 d1 d2
              refine x_iload (q := 27) E dX6_turn_25 4 rfl rfl ?_
              refine x_aload_n (q := 28) E dX6_turn_27 0 rfl rfl ?_
              refine x_get (q := 31) E iX6_turn_X6 (0) rfl rfl 1 (by decide) (by decide +kernel) rfl dX6_turn_28 rfl ?_
              refine x_iload_n (q := 32) E dX6_turn_31 1 rfl rfl ?_
              refine x_iald (q := 33) (f := (sF st (7) (f)).2 (1)) E (2) rfl 0 rfl (by omega) (by omega) (by decide) dX6_turn_32 rfl ?_
              refine x_ti (show (sF st (7) (f)).2 (1) ((q : Int)) = st.2 (1) ((q : Int)) by rw [sF_n _ _ (by omega)]) ?_
              refine x_icmp_ge (tgt := 62) (q := 36) E dX6_turn_33 (by decide) rfl (by omega) (by omega) (fun c33 => ?_) (fun c33 => ?_)
              · have e6 : trv (fun x => st.2 0 (4 * (q : Int) + x)) (st.2 1 (q : Int)) (st.2 7 i) = st.2 7 i := trv_eq (Or.inr ⟨fun x x0 x1 => by rw [← b5 i (by omega)]; exact d2 x x0 (by omega), rfl⟩)
                have e5 : trv (fun x => st.2 0 (4 * (q : Int) + x)) (st.2 1 (q : Int)) (st.2 7 i) = st.2 7 i := e6
                refine x_iload (q := 64) E dX6_turn_62 4 rfl rfl ?_
                refine x_aload_n (q := 65) E dX6_turn_64 0 rfl rfl ?_
                refine x_get (q := 68) E iX6_turn_X6 (0) rfl rfl 1 (by decide) (by decide +kernel) rfl dX6_turn_65 rfl ?_
                refine x_iload_n (q := 69) E dX6_turn_68 1 rfl rfl ?_
                refine x_iald (q := 70) (f := (sF st (7) (f)).2 (1)) E (2) rfl 0 rfl (by omega) (by omega) (by decide) dX6_turn_69 rfl ?_
                refine x_ti (show (sF st (7) (f)).2 (1) ((q : Int)) = st.2 (1) ((q : Int)) by rw [sF_n _ _ (by omega)]) ?_
                refine x_icmp_ge (tgt := 122) (q := 73) E dX6_turn_70 (by decide) rfl (by omega) (by omega) (fun c70 => ?_) (fun c70 => ?_)
                · refine x_iinc (q := 125) (k := 3) (lv' := [(3, .int (ii (i + 1))), (0, .ref (ad 0)), (1, .int (ii ((q : Int)))), (2, .int (ii (t))), (4, .int (ii (u)))]) E dX6_turn_122 rfl (by decide) rfl rfl ?_
                  refine x_goto (tgt := 14) E dX6_turn_125 (by decide) ?_
                  refine x_lv E (lv' := [(0, .ref (ad 0)), (1, .int (ii ((q : Int)))), (2, .int (ii (t))), (3, .int (ii (i + 1)))]) [1, 2, 3, 0] rfl ?_
                  exact ih14 (t) (i + 1) (f) (by omega) (by omega) (by rw [isum_s _ (by omega), if_pos e5, ← b3] <;> omega) (fun x x0 x1 => if hx : x = i then (by rw [hx, e6, b5 i (by omega)]) else b4 x x0 (by omega)) (fun x x0 => b5 x (by omega)) (fun x x0 x1 => if hx : x = i then (by rw [hx]; omega) else b6 x x0 (by omega))
                · exfalso; omega
              · have f9 := hlet u (by omega) (by omega)
                refine x_aload_n (q := 37) E dX6_turn_36 0 rfl rfl ?_
                refine x_get (q := 40) E iX6_turn_X6 (0) rfl rfl 0 (by decide) (by decide +kernel) rfl dX6_turn_37 rfl ?_
                refine x_iconst (q := 41) E dX6_turn_40 rfl ?_
                refine x_iload_n (q := 42) E dX6_turn_41 1 rfl rfl ?_
                refine x_imul (q := 43) E dX6_turn_42 rfl ?_
                refine x_iload (q := 45) E dX6_turn_43 4 rfl rfl ?_
                refine x_iadd (q := 46) E dX6_turn_45 rfl ?_
                refine x_iald (q := 47) (f := (sF st (7) (f)).2 (0)) E (1) rfl 0 rfl (by omega) (by omega) (by decide) dX6_turn_46 rfl ?_
                refine x_ti (show (sF st (7) (f)).2 (0) (((4) * ((q : Int))) + (u)) = st.2 (0) (((4) * ((q : Int))) + (u)) by rw [sF_n _ _ (by omega)]) ?_
                refine x_aload_n (q := 48) E dX6_turn_47 0 rfl rfl ?_
                refine x_get (q := 51) E iX6_turn_X6 (0) rfl rfl 10 (by decide) (by decide +kernel) rfl dX6_turn_48 rfl ?_
                refine x_iload_n (q := 52) E dX6_turn_51 3 rfl rfl ?_
                refine x_iald (q := 53) (f := (sF st (7) (f)).2 (7)) E (8) rfl 0 rfl (by omega) (by omega) (by decide) dX6_turn_52 rfl ?_
                refine x_ti (show (sF st (7) (f)).2 (7) (i) = f (i) by rw [sF_s]) ?_
                refine x_icmp_eq (tgt := 62) (q := 56) E dX6_turn_53 (by decide) rfl (by omega) (by omega) (fun c53 => ?_) (fun c53 => ?_)
                · have e7 := Int.emod_nonneg (u + 1) (show (st.2 1 (q : Int)) ≠ 0 by omega)
                  have e8 := Int.emod_lt_of_pos (u + 1) (show 0 < (st.2 1 (q : Int)) by omega)
                  have e6 : trv (fun x => st.2 0 (4 * (q : Int) + x)) (st.2 1 (q : Int)) (st.2 7 i) = st.2 0 (4 * (q : Int) + (u + 1) % (st.2 1 (q : Int))) := trv_eq (Or.inl ⟨u, by omega, by omega, by show st.2 0 (4 * (q : Int) + u) = st.2 7 i; omega, fun x x0 x1 => by rw [← b5 i (by omega)]; exact d2 x x0 (by omega), rfl⟩)
                  have e9 := hlet ((u + 1) % (st.2 1 (q : Int))) (by omega) (by omega)
                  refine x_iload (q := 64) E dX6_turn_62 4 rfl rfl ?_
                  refine x_aload_n (q := 65) E dX6_turn_64 0 rfl rfl ?_
                  refine x_get (q := 68) E iX6_turn_X6 (0) rfl rfl 1 (by decide) (by decide +kernel) rfl dX6_turn_65 rfl ?_
                  refine x_iload_n (q := 69) E dX6_turn_68 1 rfl rfl ?_
                  refine x_iald (q := 70) (f := (sF st (7) (f)).2 (1)) E (2) rfl 0 rfl (by omega) (by omega) (by decide) dX6_turn_69 rfl ?_
                  refine x_ti (show (sF st (7) (f)).2 (1) ((q : Int)) = st.2 (1) ((q : Int)) by rw [sF_n _ _ (by omega)]) ?_
                  refine x_icmp_ge (tgt := 122) (q := 73) E dX6_turn_70 (by decide) rfl (by omega) (by omega) (fun c70 => ?_) (fun c70 => ?_)
                  · exfalso; omega
                  · refine x_aload_n (q := 74) E dX6_turn_73 0 rfl rfl ?_
                    refine x_get (q := 77) E iX6_turn_X6 (0) rfl rfl 0 (by decide) (by decide +kernel) rfl dX6_turn_74 rfl ?_
                    refine x_iconst (q := 78) E dX6_turn_77 rfl ?_
                    refine x_iload_n (q := 79) E dX6_turn_78 1 rfl rfl ?_
                    refine x_imul (q := 80) E dX6_turn_79 rfl ?_
                    refine x_iload (q := 82) E dX6_turn_80 4 rfl rfl ?_
                    refine x_iconst (q := 83) E dX6_turn_82 rfl ?_
                    refine x_iadd (q := 84) E dX6_turn_83 rfl ?_
                    refine x_aload_n (q := 85) E dX6_turn_84 0 rfl rfl ?_
                    refine x_get (q := 88) E iX6_turn_X6 (0) rfl rfl 1 (by decide) (by decide +kernel) rfl dX6_turn_85 rfl ?_
                    refine x_iload_n (q := 89) E dX6_turn_88 1 rfl rfl ?_
                    refine x_iald (q := 90) (f := (sF st (7) (f)).2 (1)) E (2) rfl 0 rfl (by omega) (by omega) (by decide) dX6_turn_89 rfl ?_
                    refine x_ti (show (sF st (7) (f)).2 (1) ((q : Int)) = st.2 (1) ((q : Int)) by rw [sF_n _ _ (by omega)]) ?_
                    refine x_irem (q := 91) E dX6_turn_90 (by omega) (by omega) (by omega) (by omega) rfl ?_
                    refine x_iadd (q := 92) E dX6_turn_91 rfl ?_
                    refine x_iald (q := 93) (f := (sF st (7) (f)).2 (0)) E (1) rfl 0 rfl (by omega) (by omega) (by decide) dX6_turn_92 rfl ?_
                    refine x_ti (show (sF st (7) (f)).2 (0) (((4) * ((q : Int))) + (((u) + (1)) % (st.2 (1) ((q : Int))))) = st.2 (0) (((4) * ((q : Int))) + (((u) + (1)) % (st.2 (1) ((q : Int))))) by rw [sF_n _ _ (by omega)]) ?_
                    refine x_istore (q := 95) (lv' := [(5, .int (ii (st.2 (0) (((4) * ((q : Int))) + (((u) + (1)) % (st.2 (1) ((q : Int)))))))), (0, .ref (ad 0)), (1, .int (ii ((q : Int)))), (2, .int (ii (t))), (3, .int (ii (i))), (4, .int (ii (u)))]) E dX6_turn_93 (by decide) rfl rfl ?_
                    refine x_iload_n (q := 96) E dX6_turn_95 3 rfl rfl ?_
                    refine x_iload (q := 98) E dX6_turn_96 0 rfl rfl ?_
                    refine x_aload_n (q := 99) E dX6_turn_98 1 rfl rfl ?_
                    refine x_get (q := 102) E iX6_turn_X6 (0) rfl rfl 10 (by decide) (by decide +kernel) rfl dX6_turn_99 rfl ?_
                    refine x_iload_n (q := 103) E dX6_turn_102 4 rfl rfl ?_
                    refine x_iald (q := 104) (f := (sF st (7) (f)).2 (7)) E (8) rfl 0 rfl (by omega) (by omega) (by decide) dX6_turn_103 rfl ?_
                    refine x_ti (show (sF st (7) (f)).2 (7) (i) = f (i) by rw [sF_s]) ?_
                    refine x_icmp_ne (tgt := 111) (q := 107) E dX6_turn_104 (by decide) rfl (by omega) (by omega) (fun c104 => ?_) (fun c104 => ?_)
                    · refine x_iconst (q := 112) E dX6_turn_111 rfl ?_
                      refine x_iadd (q := 113) E dX6_turn_112 rfl ?_
                      refine x_istore_n (q := 114) (lv' := [(2, .int (ii ((t) + (1)))), (5, .int (ii (st.2 (0) (((4) * ((q : Int))) + (((u) + (1)) % (st.2 (1) ((q : Int)))))))), (0, .ref (ad 0)), (1, .int (ii ((q : Int)))), (3, .int (ii (i))), (4, .int (ii (u)))]) E dX6_turn_113 (by decide) rfl rfl ?_
                      refine x_aload_n (q := 115) E dX6_turn_114 2 rfl rfl ?_
                      refine x_get (q := 118) E iX6_turn_X6 (0) rfl rfl 10 (by decide) (by decide +kernel) rfl dX6_turn_115 rfl ?_
                      refine x_iload_n (q := 119) E dX6_turn_118 4 rfl rfl ?_
                      refine x_iload (q := 121) E dX6_turn_119 1 rfl rfl ?_
                      refine x_iast (q := 122) (st' := (sA (sF st (7) (f)) (7) (i) (st.2 (0) (((4) * ((q : Int))) + (((u) + (1)) % (st.2 (1) ((q : Int)))))))) (f := (sF st (7) (f)).2 (7)) E (8) rfl 0 rfl (by omega) (by omega) (by decide) dX6_turn_121 (ma_7 _ _) rfl ?_
                      refine x_iinc (q := 125) (k := 4) (lv' := [(3, .int (ii (i + 1))), (2, .int (ii ((t) + (1)))), (5, .int (ii (st.2 (0) (((4) * ((q : Int))) + (((u) + (1)) % (st.2 (1) ((q : Int)))))))), (0, .ref (ad 0)), (1, .int (ii ((q : Int)))), (4, .int (ii (u)))]) E dX6_turn_122 rfl (by decide) rfl rfl ?_
                      refine x_goto (tgt := 14) E dX6_turn_125 (by decide) ?_
                      refine x_st E (st' := (sF st (7) (zup (f) (i) (st.2 (0) (((4) * ((q : Int))) + (((u) + (1)) % (st.2 (1) ((q : Int))))))))) (by refine Prod.ext (funext fun k9 => ?_) (funext fun q9 => ?_) <;> simp only [sG_1, sG_2, sA_1, sA_2, sF_1, sF_2, reduceIte] <;> (repeat' split) <;> first | rfl | omega | (subst_vars; first | rfl | omega) | simp_all) ?_
                      refine x_lv E (lv' := [(0, .ref (ad 0)), (1, .int (ii ((q : Int)))), (2, .int (ii ((t) + (1)))), (3, .int (ii (i + 1)))]) [3, 4, 1, 0] rfl ?_
                      exact ih14 ((t) + (1)) (i + 1) (zup (f) (i) (st.2 (0) (((4) * ((q : Int))) + (((u) + (1)) % (st.2 (1) ((q : Int))))))) (by omega) (by omega) (by rw [isum_s _ (by omega), if_neg (show ¬ trv (fun x => st.2 0 (4 * (q : Int) + x)) (st.2 1 (q : Int)) (st.2 7 i) = st.2 7 i by rw [e6]; omega), ← b3]) (fun x x0 x1 => if hx : x = i then (by rw [hx, zup_eq, e6]) else (by rw [zup_ne _ _ hx]; exact b4 x x0 (by omega))) (fun x x0 => by rw [zup_ne _ _ (by omega)]; exact b5 x (by omega)) (fun x x0 x1 => if hx : x = i then (by rw [hx, zup_eq]; exact e9) else (by rw [zup_ne _ _ hx]; exact b6 x x0 (by omega)))
                    · refine x_iconst (q := 108) E dX6_turn_107 rfl ?_
                      refine x_goto (tgt := 112) E dX6_turn_108 (by decide) ?_
                      refine x_iadd (q := 113) E dX6_turn_112 rfl ?_
                      refine x_istore_n (q := 114) (lv' := [(2, .int (ii ((t) + (0)))), (5, .int (ii (st.2 (0) (((4) * ((q : Int))) + (((u) + (1)) % (st.2 (1) ((q : Int)))))))), (0, .ref (ad 0)), (1, .int (ii ((q : Int)))), (3, .int (ii (i))), (4, .int (ii (u)))]) E dX6_turn_113 (by decide) rfl rfl ?_
                      refine x_aload_n (q := 115) E dX6_turn_114 2 rfl rfl ?_
                      refine x_get (q := 118) E iX6_turn_X6 (0) rfl rfl 10 (by decide) (by decide +kernel) rfl dX6_turn_115 rfl ?_
                      refine x_iload_n (q := 119) E dX6_turn_118 4 rfl rfl ?_
                      refine x_iload (q := 121) E dX6_turn_119 1 rfl rfl ?_
                      refine x_iast (q := 122) (st' := (sA (sF st (7) (f)) (7) (i) (st.2 (0) (((4) * ((q : Int))) + (((u) + (1)) % (st.2 (1) ((q : Int)))))))) (f := (sF st (7) (f)).2 (7)) E (8) rfl 0 rfl (by omega) (by omega) (by decide) dX6_turn_121 (ma_7 _ _) rfl ?_
                      refine x_iinc (q := 125) (k := 4) (lv' := [(3, .int (ii (i + 1))), (2, .int (ii ((t) + (0)))), (5, .int (ii (st.2 (0) (((4) * ((q : Int))) + (((u) + (1)) % (st.2 (1) ((q : Int)))))))), (0, .ref (ad 0)), (1, .int (ii ((q : Int)))), (4, .int (ii (u)))]) E dX6_turn_122 rfl (by decide) rfl rfl ?_
                      refine x_goto (tgt := 14) E dX6_turn_125 (by decide) ?_
                      refine x_st E (st' := (sF st (7) (zup (f) (i) (st.2 (0) (((4) * ((q : Int))) + (((u) + (1)) % (st.2 (1) ((q : Int))))))))) (by refine Prod.ext (funext fun k9 => ?_) (funext fun q9 => ?_) <;> simp only [sG_1, sG_2, sA_1, sA_2, sF_1, sF_2, reduceIte] <;> (repeat' split) <;> first | rfl | omega | (subst_vars; first | rfl | omega) | simp_all) ?_
                      refine x_lv E (lv' := [(0, .ref (ad 0)), (1, .int (ii ((q : Int)))), (2, .int (ii ((t) + (0)))), (3, .int (ii (i + 1)))]) [3, 4, 1, 0] rfl ?_
                      exact ih14 ((t) + (0)) (i + 1) (zup (f) (i) (st.2 (0) (((4) * ((q : Int))) + (((u) + (1)) % (st.2 (1) ((q : Int))))))) (by omega) (by omega) (by rw [isum_s _ (by omega), if_pos (show trv (fun x => st.2 0 (4 * (q : Int) + x)) (st.2 1 (q : Int)) (st.2 7 i) = st.2 7 i by rw [e6]; omega), ← b3] <;> omega) (fun x x0 x1 => if hx : x = i then (by rw [hx, zup_eq, e6]) else (by rw [zup_ne _ _ hx]; exact b4 x x0 (by omega))) (fun x x0 => by rw [zup_ne _ _ (by omega)]; exact b5 x (by omega)) (fun x x0 x1 => if hx : x = i then (by rw [hx, zup_eq]; exact e9) else (by rw [zup_ne _ _ hx]; exact b6 x x0 (by omega)))
                · refine x_iinc (q := 59) (k := 4) (lv' := [(4, .int (ii (u + 1))), (0, .ref (ad 0)), (1, .int (ii ((q : Int)))), (2, .int (ii (t))), (3, .int (ii (i)))]) E dX6_turn_56 rfl (by decide) rfl rfl ?_
                  refine x_goto (tgt := 25) E dX6_turn_59 (by decide) ?_
                  refine x_lv E (lv' := [(0, .ref (ad 0)), (1, .int (ii ((q : Int)))), (2, .int (ii (t))), (3, .int (ii (i))), (4, .int (ii (u + 1)))]) [1, 2, 3, 4, 0] rfl ?_
                  exact ih25 (u + 1) (by omega) (by omega) (fun x x0 x1 => if hx : x = u then (by rw [hx]; exact c53) else d2 x x0 (by omega))
          refine x_lv E (lv' := [(0, .ref (ad 0)), (1, .int (ii ((q : Int)))), (2, .int (ii (t))), (3, .int (ii (i))), (4, .int (ii (0)))]) [1, 2, 3, 4, 0] rfl ?_
          exact L25 _ (0) (Nat.lt_succ_self _) (by omega) (fun x x0 x1 => absurd x1 (by omega))
    refine x_lv E (lv' := [(0, .ref (ad 0)), (1, .int (ii ((q : Int)))), (2, .int (ii (0))), (3, .int (ii (0)))]) [2, 3, 1, 0] rfl ?_
    refine x_st E (st' := (sF st (7) (st.2 (7)))) (by refine Prod.ext (funext fun k9 => ?_) (funext fun q9 => ?_) <;> simp only [sG_1, sG_2, sA_1, sA_2, sF_1, sF_2, reduceIte] <;> (repeat' split) <;> first | rfl | omega | (subst_vars; first | rfl | omega) | simp_all) ?_
    exact L14 _ (0) (0) (st.2 (7)) (Nat.lt_succ_self _) (by omega) (rfl) (fun x x0 x1 => absurd x1 (by omega)) (fun _ _ => rfl) (fun x x0 x1 => absurd x1 (by omega))
  · exfalso; omega

set_option maxRecDepth 100000 in
set_option maxHeartbeats 4000000 in
theorem c_X6_turn_n (l : Launch) (D : va_G) (T : Nat → ClassId) (ad : Nat → Nat) (hN : ∀ i j, i < 13 → j < 13 → ad i = ad j → i = j) (st : St_) (k : Int) (bk : -2147483648 ≤ k ∧ k < 2147483648) (hk : k < 0 ∨ 4 ≤ k) (a : AB_) (hI : MI st a) : CXi l yX6_turn wsX6_turn (rmX 2 45) [.ref (ad 0), .int (ii (k))] D (tyX T) (MW T ad) (alM ad) st (fun z st2 => z = -101 ∧ MI st2 a) := by
  refine mk_i (cc := cX6_turn) (nL := 6) rfl rfl (MW_ok hN) (Nat.le_of_ble_eq_true rfl) [(0, .ref (ad 0)), (1, .int (ii (k)))] rfl (fun p e s m args below meth c A Q E RET => ?_)
  have k1 := hI.1
  have k2 := hI.2.1
  have k3 := hI.2.2.1
  have k4 := hI.2.2.2.1
  have k5 := hI.2.2.2.2.1
  have k6 := hI.2.2.2.2.2.1
  have k7 := hI.2.2.2.2.2.2.1
  have k8 := hI.2.2.2.2.2.2.2
  have hn := k7.2.1.1
  have hL := hI.len
  have hf := hI.lf
  have hf6 := hI.let6
  refine x_iload_n (q := 1) E dX6_turn_0 1 rfl rfl ?_
  refine x_callSi (q := 4) (n := 1) (As := [.int (ii (k))]) (r := []) E (c_X6_isAlphabet l D T ad hN st (k) (by omega)) gX6_turn_X6_isAlphabet rfl rfl rfl (by decide +kernel) ⟨Nat.le_of_ble_eq_true rfl, Nat.le_of_ble_eq_true rfl⟩ rfl rfl (Nat.le_of_ble_eq_true rfl) dX6_turn_1 rfl (fun z1 s2 q3 => ?_)
  obtain ⟨rfl, rfl⟩ := q3
  refine x_if_ne (tgt := 10) (q := 7) E dX6_turn_4 (by decide) rfl (by omega) (fun c4 => ?_) (fun c4 => ?_)
  · exfalso; omega
  · refine x_bipush (q := 9) E dX6_turn_7 (by decide) rfl ?_
    exact RET _ _ _ _ dX6_turn_9 (⟨rfl, hI⟩)

theorem iX6_lengthen_X6 : ∀ w ∈ wsX60, w ∈ wsX6_lengthen := by decide +kernel
set_option maxRecDepth 100000 in
set_option maxHeartbeats 4000000 in
theorem c_X6_lengthen (l : Launch) (D : va_G) (T : Nat → ClassId) (ad : Nat → Nat) (hN : ∀ i j, i < 13 → j < 13 → ad i = ad j → i = j) (st : St_) (q : Nat) (hq : q < 4) (i0 : Int) (bi0 : -2147483648 ≤ i0 ∧ i0 < 2147483648) (a : AB_) (hI : MI st a) : CXi l yX6_lengthen wsX6_lengthen (rmX 2 45) [.ref (ad 0), .int (ii ((q : Int))), .int (ii (i0))] D (tyX T) (MW T ad) (alM ad) st (fun z st2 => z = (if 0 ≤ i0 ∧ i0 < a.1.1 (4 + q) then (if 60 < isum (lf a.2) (a.2.length : Int) then -104 else isum (lf a.2) (a.2.length : Int)) else -102) ∧ MI st2 (if (0 ≤ i0 ∧ i0 < a.1.1 (4 + q)) ∧ ¬ 60 < isum (lf a.2) (a.2.length : Int) then (a.1, lgn (fun j => a.1.2 (1 + q) ((i0 + j) % a.1.1 (4 + q))) (lf a.2) (a.2.length : Int)) else a)) := by
  refine mk_i (cc := cX6_lengthen) (nL := 6) rfl rfl (MW_ok hN) (Nat.le_of_ble_eq_true rfl) [(0, .ref (ad 0)), (1, .int (ii ((q : Int)))), (2, .int (ii (i0)))] rfl (fun p e s m args below meth c A Q E RET => ?_)
  have k1 := hI.1
  have k2 := hI.2.1
  have k3 := hI.2.2.1
  have k4 := hI.2.2.2.1
  have k5 := hI.2.2.2.2.1
  have k6 := hI.2.2.2.2.2.1
  have k7 := hI.2.2.2.2.2.2.1
  have k8 := hI.2.2.2.2.2.2.2
  have hn := k7.2.1.1
  have hL := hI.len
  have hf := hI.lf
  have hf6 := hI.let6
  refine x_iload_n (q := 1) E dX6_lengthen_0 1 rfl rfl ?_
  refine x_callSi (q := 4) (n := 1) (As := [.int (ii ((q : Int)))]) (r := []) E (c_X6_isAlphabet l D T ad hN st ((q : Int)) (by omega)) gX6_lengthen_X6_isAlphabet rfl rfl rfl (by decide +kernel) ⟨Nat.le_of_ble_eq_true rfl, Nat.le_of_ble_eq_true rfl⟩ rfl rfl (Nat.le_of_ble_eq_true rfl) dX6_lengthen_1 rfl (fun z1 s2 q3 => ?_)
  obtain ⟨rfl, rfl⟩ := q3
  refine x_if_ne (tgt := 10) (q := 7) E dX6_lengthen_4 (by decide) rfl (by omega) (fun c4 => ?_) (fun c4 => ?_)
  · have hsz := k7.2.1.2.2 (q : Int) (by omega) (by omega)
    have hq1 := (k4 q hq).1
    have hq2 := (k4 q hq).2
    have hlet : ∀ j : Int, 0 ≤ j → j < st.2 1 (q : Int) → 1 ≤ st.2 0 (4 * (q : Int) + j) ∧ st.2 0 (4 * (q : Int) + j) ≤ 6 := fun j j0 j1 => by rw [hq2 j j0 j1]; exact (k8.2.2.2.1 q hq j j0 (by rw [← hq1]; exact j1)).1
    refine x_iload_n (q := 11) E dX6_lengthen_10 2 rfl rfl ?_
    refine x_i2l (q := 12) E dX6_lengthen_11 (by omega) rfl ?_
    refine x_lconst (q := 13) (z := 0) E dX6_lengthen_12 (by decide) rfl ?_
    refine x_aload_n (q := 14) E dX6_lengthen_13 0 rfl rfl ?_
    refine x_get (q := 17) E iX6_lengthen_X6 (0) rfl rfl 1 (by decide) (by decide +kernel) rfl dX6_lengthen_14 rfl ?_
    refine x_iload_n (q := 18) E dX6_lengthen_17 1 rfl rfl ?_
    refine x_iald (q := 19) (f := st.2 (1)) E (2) rfl 0 rfl (by omega) (by omega) (by decide) dX6_lengthen_18 rfl ?_
    refine x_iconst (q := 20) E dX6_lengthen_19 rfl ?_
    refine x_isub (q := 21) E dX6_lengthen_20 rfl ?_
    refine x_i2l (q := 22) E dX6_lengthen_21 (by omega) rfl ?_
    refine x_callSi (q := 25) (n := 3) (As := [.long (jj (i0)), .long (jj (0)), .long (jj ((st.2 (1) ((q : Int))) - (1)))]) (r := []) E (c_X6_in l D T ad hN st (i0) (0) ((st.2 (1) ((q : Int))) - (1)) (by omega) (by omega) (by omega)) gX6_lengthen_X6_in rfl rfl rfl (by decide +kernel) ⟨Nat.le_of_ble_eq_true rfl, Nat.le_of_ble_eq_true rfl⟩ rfl rfl (Nat.le_of_ble_eq_true rfl) dX6_lengthen_22 rfl (fun z4 s5 q6 => ?_)
    obtain ⟨rfl, rfl⟩ := q6
    refine x_if_ne (tgt := 31) (q := 28) E dX6_lengthen_25 (by decide) rfl (by omega) (fun c25 => ?_) (fun c25 => ?_)
    · refine x_iconst (q := 32) E dX6_lengthen_31 rfl ?_
      refine x_istore_n (q := 33) (lv' := [(3, .int (ii (0))), (0, .ref (ad 0)), (1, .int (ii ((q : Int)))), (2, .int (ii (i0)))]) E dX6_lengthen_32 (by decide) rfl rfl ?_
      refine x_iconst (q := 34) E dX6_lengthen_33 rfl ?_
      refine x_istore (q := 36) (lv' := [(4, .int (ii (0))), (3, .int (ii (0))), (0, .ref (ad 0)), (1, .int (ii ((q : Int)))), (2, .int (ii (i0)))]) E dX6_lengthen_34 (by decide) rfl rfl ?_
      have L36 : ∀ (n : Nat) (t : Int) (k : Int), (st.1 3 - k).toNat < n → (0 ≤ k ∧ k ≤ st.1 3) → (t = isum (st.2 7) k) → XJ p l e (rmX 2 45) s m args below meth c D (MW T ad) A 6 Q 0 0 st 36 [(0, .ref (ad 0)), (1, .int (ii ((q : Int)))), (2, .int (ii (i0))), (3, .int (ii (t))), (4, .int (ii (k)))] [] := by
        intro n
        induction n with
        | zero => intro t k hn; exact absurd hn (Nat.not_lt_zero _)
        | succ n ih36 =>
          intro t k hn36 a1 a2
          refine x_iload (q := 38) E dX6_lengthen_36 4 rfl rfl ?_
          refine x_aload_n (q := 39) E dX6_lengthen_38 0 rfl rfl ?_
          refine x_get (q := 42) E iX6_lengthen_X6 (0) rfl rfl 11 (by decide) (by decide +kernel) rfl dX6_lengthen_39 rfl ?_
          refine x_icmp_ge (tgt := 61) (q := 45) E dX6_lengthen_42 (by decide) rfl (by omega) (by omega) (fun c42 => ?_) (fun c42 => ?_)
          · have z3 : isum (lf a.2) (a.2.length : Int) = isum (st.2 7) (st.1 3) := by rw [hL]; exact isum_congr hf
            have z4 := isum_b (f := st.2 7) (n := st.1 3) (b := 6) (by omega) (fun x x0 x1 => by have := hf6 x x0 (by omega); omega)
            have z5 : t = isum (st.2 7) (st.1 3) := by rw [a2]; exact congrArg _ (by omega)
            refine x_iload_n (q := 62) E dX6_lengthen_61 3 rfl rfl ?_
            refine x_bipush (q := 64) E dX6_lengthen_62 (by decide) rfl ?_
            refine x_icmp_le (tgt := 70) (q := 67) E dX6_lengthen_64 (by decide) rfl (by omega) (by omega) (fun c64 => ?_) (fun c64 => ?_)
            · refine x_aload_n (q := 71) E dX6_lengthen_70 0 rfl rfl ?_
              refine x_iconst (q := 72) E dX6_lengthen_71 rfl ?_
              refine x_put (q := 75) (st' := (sG st (4) (0))) (v := .int (ii (0))) (ty := .int) E iX6_lengthen_X6 tyX6 tyX6_ok nmX6 (0) rfl rfl 13 (by decide) (by decide +kernel) rfl (by decide +kernel) rfl rfl (Nat.le_of_ble_eq_true rfl) dX6_lengthen_72 (ms_4 _) rfl ?_
              refine x_iconst (q := 76) E dX6_lengthen_75 rfl ?_
              refine x_istore (q := 78) (lv' := [(4, .int (ii (0))), (0, .ref (ad 0)), (1, .int (ii ((q : Int)))), (2, .int (ii (i0))), (3, .int (ii (t)))]) E dX6_lengthen_76 (by decide) rfl rfl ?_
              have L78 : ∀ (n : Nat) (j : Int) (n1 : Int) (f : Int → Int), (st.1 3 - j).toNat < n → (0 ≤ j ∧ j ≤ st.1 3) → (n1 = isum (st.2 7) j ∧ 0 ≤ n1 ∧ n1 ≤ 60) → (wl f n1 = lgn (fun j => st.2 0 (4 * (q : Int) + (i0 + j) % (st.2 1 (q : Int)))) (st.2 7) j) → XJ p l e (rmX 2 45) s m args below meth c D (MW T ad) A 6 Q 0 0 (sF (sG st (4) (n1)) (8) (f)) 78 [(0, .ref (ad 0)), (1, .int (ii ((q : Int)))), (2, .int (ii (i0))), (3, .int (ii (t))), (4, .int (ii (j)))] [] := by
                intro n
                induction n with
                | zero => intro j n1 f hn; exact absurd hn (Nat.not_lt_zero _)
                | succ n ih78 =>
                  intro j n1 f hn78 b1 b2 b3
                  refine x_iload (q := 80) E dX6_lengthen_78 4 rfl rfl ?_
                  refine x_aload_n (q := 81) E dX6_lengthen_80 0 rfl rfl ?_
                  refine x_get (q := 84) E iX6_lengthen_X6 (0) rfl rfl 11 (by decide) (by decide +kernel) rfl dX6_lengthen_81 rfl ?_
                  refine x_ti (show (sF (sG st (4) (n1)) (8) (f)).1 (3) = st.1 (3) by rw [sF_1, sG_n _ _ (by omega)]) ?_
                  refine x_icmp_ge (tgt := 153) (q := 87) E dX6_lengthen_84 (by decide) rfl (by omega) (by omega) (fun c84 => ?_) (fun c84 => ?_)
                  · refine x_aload_n (q := 154) E dX6_lengthen_153 0 rfl rfl ?_
                    refine x_callVv (q := 157) (n := 0) (As := []) (r := []) E (c_X6_keep l D T ad hN (sF (sG st (4) (n1)) (8) (f)) (by rw [sF_1, sG_s]; omega)) gX6_lengthen_X6_keep rfl rfl rfl (by decide +kernel) ⟨Nat.le_of_ble_eq_true rfl, Nat.le_of_ble_eq_true rfl⟩ (0) rfl rfl rfl rfl (Nat.le_of_ble_eq_true rfl) dX6_lengthen_154 rfl (fun s8 q9 => ?_)
                    obtain ⟨f10, rfl, h111⟩ := q9
                    refine x_aload_n (q := 158) E dX6_lengthen_157 0 rfl rfl ?_
                    refine x_get (q := 161) E iX6_lengthen_X6 (0) rfl rfl 11 (by decide) (by decide +kernel) rfl dX6_lengthen_158 rfl ?_
                    refine x_ti (show (sF (sG (sF (sG st (4) (n1)) (8) (f)) (3) (n1)) (7) (f10)).1 (3) = n1 by rw [sF_1, sG_s]) ?_
                    exact RET _ _ _ _ dX6_lengthen_161 (by have p1 := h111; rw [sF_1, sG_s, sF_s] at p1; have p2 : j = st.1 3 := (by omega); subst p2; exact ⟨by rw [if_pos (by omega), if_neg (by omega), z3]; exact b2.1, by rw [if_pos (by omega)]; exact MI_w hI (fun j hj => by rw [sF_1, sG_n _ _ (by omega), sF_1, sG_n _ _ (by omega)]) ⟨by rw [sF_1, sG_n _ _ (by omega), sF_1, sG_n _ _ (by omega)], by rw [sF_1, sG_n _ _ (by omega), sF_1, sG_n _ _ (by omega)]⟩ (fun q hq => by rw [sF_n _ _ (by omega), sG_2, sF_n _ _ (by omega), sG_2]) (by rw [sF_s, sF_1, sG_s, sF_1, sG_s, wl_congr p1, b3, hL]; exact lgn_congr (fun x x0 x1 => by rw [← hq1]; exact hq2 _ (Int.emod_nonneg _ (by omega)) (Int.emod_lt_of_pos _ (by omega))) (fun x x0 x1 => (hf x x0 x1).symm)) (by rw [sF_1, sG_s, sF_1, sG_s]; omega) (lgn_letters (fun x x0 x1 => by rw [← hq1, ← hq2 _ (Int.emod_nonneg _ (by omega)) (Int.emod_lt_of_pos _ (by omega))]; exact hlet _ (Int.emod_nonneg _ (by omega)) (Int.emod_lt_of_pos _ (by omega))))⟩)
                  · have f6 := hf6 j (by omega) (by omega)
                    have f7 := isum_up (f := st.2 7) (n := st.1 3) (fun x x0 x1 => by have := hf6 x x0 x1; omega) (a := j + 1) (b := st.1 3) (by omega) (by omega) (by omega)
                    rw [isum_s _ (by omega)] at f7
                    have f8 := Int.emod_nonneg (i0 + j) (show (st.2 1 (q : Int)) ≠ 0 by omega)
                    have f9 := Int.emod_lt_of_pos (i0 + j) (show 0 < (st.2 1 (q : Int)) by omega)
                    have f10 := hlet ((i0 + j) % (st.2 1 (q : Int))) (by omega) (by omega)
                    refine x_iconst (q := 88) E dX6_lengthen_87 rfl ?_
                    refine x_istore (q := 90) (lv' := [(5, .int (ii (0))), (0, .ref (ad 0)), (1, .int (ii ((q : Int)))), (2, .int (ii (i0))), (3, .int (ii (t))), (4, .int (ii (j)))]) E dX6_lengthen_88 (by decide) rfl rfl ?_
                    have L90 : ∀ (n : Nat) (t2 : Int) (n2 : Int) (f2 : Int → Int), (st.2 7 j - t2).toNat < n → (0 ≤ t2 ∧ t2 ≤ st.2 7 j) → (n2 = isum (st.2 7) j + t2) → (wl f2 n2 = lgn (fun j => st.2 0 (4 * (q : Int) + (i0 + j) % (st.2 1 (q : Int)))) (st.2 7) j ++ List.replicate t2.toNat (st.2 0 (4 * (q : Int) + (i0 + j) % (st.2 1 (q : Int))))) → XJ p l e (rmX 2 45) s m args below meth c D (MW T ad) A 6 Q 0 0 (sF (sG st (4) (n2)) (8) (f2)) 90 [(0, .ref (ad 0)), (1, .int (ii ((q : Int)))), (2, .int (ii (i0))), (3, .int (ii (t))), (4, .int (ii (j))), (5, .int (ii (t2)))] [] := by
                      intro n
                      induction n with
                      | zero => intro t2 n2 f2 hn; exact absurd hn (Nat.not_lt_zero _)
                      | succ n ih90 =>
                        intro t2 n2 f2 hn90 d1 d2 d3
                        refine x_iload (q := 92) E dX6_lengthen_90 5 rfl rfl ?_
                        refine x_aload_n (q := 93) E dX6_lengthen_92 0 rfl rfl ?_
                        refine x_get (q := 96) E iX6_lengthen_X6 (0) rfl rfl 10 (by decide) (by decide +kernel) rfl dX6_lengthen_93 rfl ?_
                        refine x_iload (q := 98) E dX6_lengthen_96 4 rfl rfl ?_
                        refine x_iald (q := 99) (f := (sF (sG st (4) (n2)) (8) (f2)).2 (7)) E (8) rfl 0 rfl (by omega) (by omega) (by decide) dX6_lengthen_98 rfl ?_
                        refine x_ti (show (sF (sG st (4) (n2)) (8) (f2)).2 (7) (j) = st.2 (7) (j) by rw [sF_n _ _ (by omega), sG_2]) ?_
                        refine x_icmp_ge (tgt := 147) (q := 102) E dX6_lengthen_99 (by decide) rfl (by omega) (by omega) (fun c99 => ?_) (fun c99 => ?_)
                        · refine x_iinc (q := 150) (k := 4) (lv' := [(4, .int (ii (j + 1))), (0, .ref (ad 0)), (1, .int (ii ((q : Int)))), (2, .int (ii (i0))), (3, .int (ii (t))), (5, .int (ii (t2)))]) E dX6_lengthen_147 rfl (by decide) rfl rfl ?_
                          refine x_goto (tgt := 78) E dX6_lengthen_150 (by decide) ?_
                          refine x_lv E (lv' := [(0, .ref (ad 0)), (1, .int (ii ((q : Int)))), (2, .int (ii (i0))), (3, .int (ii (t))), (4, .int (ii (j + 1)))]) [1, 2, 3, 4, 0] rfl ?_
                          exact ih78 (j + 1) (n2) (f2) (by omega) (by omega) (by rw [isum_s _ (by omega)]; omega) (by rw [lgn_s _ _ (by omega), ← show t2 = st.2 7 j from by omega]; exact d3)
                        · refine x_aload_n (q := 103) E dX6_lengthen_102 0 rfl rfl ?_
                          refine x_get (q := 106) E iX6_lengthen_X6 (0) rfl rfl 12 (by decide) (by decide +kernel) rfl dX6_lengthen_103 rfl ?_
                          refine x_aload_n (q := 107) E dX6_lengthen_106 0 rfl rfl ?_
                          refine x_get (q := 110) E iX6_lengthen_X6 (0) rfl rfl 13 (by decide) (by decide +kernel) rfl dX6_lengthen_107 rfl ?_
                          refine x_ti (show (sF (sG st (4) (n2)) (8) (f2)).1 (4) = n2 by rw [sF_1, sG_s]) ?_
                          refine x_aload_n (q := 111) E dX6_lengthen_110 0 rfl rfl ?_
                          refine x_get (q := 114) E iX6_lengthen_X6 (0) rfl rfl 0 (by decide) (by decide +kernel) rfl dX6_lengthen_111 rfl ?_
                          refine x_iconst (q := 115) E dX6_lengthen_114 rfl ?_
                          refine x_iload_n (q := 116) E dX6_lengthen_115 1 rfl rfl ?_
                          refine x_imul (q := 117) E dX6_lengthen_116 rfl ?_
                          refine x_iload_n (q := 118) E dX6_lengthen_117 2 rfl rfl ?_
                          refine x_iload (q := 120) E dX6_lengthen_118 4 rfl rfl ?_
                          refine x_iadd (q := 121) E dX6_lengthen_120 rfl ?_
                          refine x_aload_n (q := 122) E dX6_lengthen_121 0 rfl rfl ?_
                          refine x_get (q := 125) E iX6_lengthen_X6 (0) rfl rfl 1 (by decide) (by decide +kernel) rfl dX6_lengthen_122 rfl ?_
                          refine x_iload_n (q := 126) E dX6_lengthen_125 1 rfl rfl ?_
                          refine x_iald (q := 127) (f := (sF (sG st (4) (n2)) (8) (f2)).2 (1)) E (2) rfl 0 rfl (by omega) (by omega) (by decide) dX6_lengthen_126 rfl ?_
                          refine x_ti (show (sF (sG st (4) (n2)) (8) (f2)).2 (1) ((q : Int)) = st.2 (1) ((q : Int)) by rw [sF_n _ _ (by omega), sG_2]) ?_
                          refine x_irem (q := 128) E dX6_lengthen_127 (by omega) (by omega) (by omega) (by omega) rfl ?_
                          refine x_iadd (q := 129) E dX6_lengthen_128 rfl ?_
                          refine x_iald (q := 130) (f := (sF (sG st (4) (n2)) (8) (f2)).2 (0)) E (1) rfl 0 rfl (by omega) (by omega) (by decide) dX6_lengthen_129 rfl ?_
                          refine x_ti (show (sF (sG st (4) (n2)) (8) (f2)).2 (0) (((4) * ((q : Int))) + (((i0) + (j)) % (st.2 (1) ((q : Int))))) = st.2 (0) (((4) * ((q : Int))) + (((i0) + (j)) % (st.2 (1) ((q : Int))))) by rw [sF_n _ _ (by omega), sG_2]) ?_
                          refine x_iast (q := 131) (st' := (sA (sF (sG st (4) (n2)) (8) (f2)) (8) (n2) (st.2 (0) (((4) * ((q : Int))) + (((i0) + (j)) % (st.2 (1) ((q : Int)))))))) (f := (sF (sG st (4) (n2)) (8) (f2)).2 (8)) E (9) rfl 0 rfl (by omega) (by omega) (by decide) dX6_lengthen_130 (ma_8 _ _) rfl ?_
                          refine x_aload_n (q := 132) E dX6_lengthen_131 0 rfl rfl ?_
                          refine x_dup (q := 133) E dX6_lengthen_132 rfl rfl ?_
                          refine x_get (q := 136) E iX6_lengthen_X6 (0) rfl rfl 13 (by decide) (by decide +kernel) rfl dX6_lengthen_133 rfl ?_
                          refine x_ti (show (sA (sF (sG st (4) (n2)) (8) (f2)) (8) (n2) (st.2 (0) (((4) * ((q : Int))) + (((i0) + (j)) % (st.2 (1) ((q : Int))))))).1 (4) = n2 by rw [sA_1, sF_1, sG_s]) ?_
                          refine x_iconst (q := 137) E dX6_lengthen_136 rfl ?_
                          refine x_iadd (q := 138) E dX6_lengthen_137 rfl ?_
                          refine x_put (q := 141) (st' := (sG (sA (sF (sG st (4) (n2)) (8) (f2)) (8) (n2) (st.2 (0) (((4) * ((q : Int))) + (((i0) + (j)) % (st.2 (1) ((q : Int))))))) (4) ((n2) + (1)))) (v := .int (ii ((n2) + (1)))) (ty := .int) E iX6_lengthen_X6 tyX6 tyX6_ok nmX6 (0) rfl rfl 13 (by decide) (by decide +kernel) rfl (by decide +kernel) rfl rfl (Nat.le_of_ble_eq_true rfl) dX6_lengthen_138 (ms_4 _) rfl ?_
                          refine x_iinc (q := 144) (k := 5) (lv' := [(5, .int (ii (t2 + 1))), (0, .ref (ad 0)), (1, .int (ii ((q : Int)))), (2, .int (ii (i0))), (3, .int (ii (t))), (4, .int (ii (j)))]) E dX6_lengthen_141 rfl (by decide) rfl rfl ?_
                          refine x_goto (tgt := 90) E dX6_lengthen_144 (by decide) ?_
                          refine x_st E (st' := (sF (sG st (4) ((n2) + (1))) (8) (zup (f2) (n2) (st.2 (0) (((4) * ((q : Int))) + (((i0) + (j)) % (st.2 (1) ((q : Int))))))))) (by refine Prod.ext (funext fun k9 => ?_) (funext fun q9 => ?_) <;> simp only [sG_1, sG_2, sA_1, sA_2, sF_1, sF_2, reduceIte] <;> (repeat' split) <;> first | rfl | omega | (subst_vars; first | rfl | omega) | simp_all) ?_
                          refine x_lv E (lv' := [(0, .ref (ad 0)), (1, .int (ii ((q : Int)))), (2, .int (ii (i0))), (3, .int (ii (t))), (4, .int (ii (j))), (5, .int (ii (t2 + 1)))]) [1, 2, 3, 4, 5, 0] rfl ?_
                          exact ih90 (t2 + 1) ((n2) + (1)) (zup (f2) (n2) (st.2 (0) (((4) * ((q : Int))) + (((i0) + (j)) % (st.2 (1) ((q : Int))))))) (by omega) (by omega) (by omega) (by rw [wl_put _ _ (by omega), d3, rep_s _ (by omega), List.append_assoc])
                    refine x_lv E (lv' := [(0, .ref (ad 0)), (1, .int (ii ((q : Int)))), (2, .int (ii (i0))), (3, .int (ii (t))), (4, .int (ii (j))), (5, .int (ii (0)))]) [1, 2, 3, 4, 5, 0] rfl ?_
                    exact L90 _ (0) (n1) (f) (Nat.lt_succ_self _) (by omega) (by omega) (by rw [rep_0, List.append_nil]; exact b3)
              refine x_lv E (lv' := [(0, .ref (ad 0)), (1, .int (ii ((q : Int)))), (2, .int (ii (i0))), (3, .int (ii (t))), (4, .int (ii (0)))]) [1, 2, 3, 4, 0] rfl ?_
              refine x_st E (st' := (sF (sG st (4) (0)) (8) (st.2 (8)))) (by refine Prod.ext (funext fun k9 => ?_) (funext fun q9 => ?_) <;> simp only [sG_1, sG_2, sA_1, sA_2, sF_1, sF_2, reduceIte] <;> (repeat' split) <;> first | rfl | omega | (subst_vars; first | rfl | omega) | simp_all) ?_
              exact L78 _ (0) (0) (st.2 (8)) (Nat.lt_succ_self _) (by omega) (by rw [isum_0]; omega) (rfl)
            · refine x_bipush (q := 69) E dX6_lengthen_67 (by decide) rfl ?_
              exact RET _ _ _ _ dX6_lengthen_69 (⟨by rw [if_pos (by omega), if_pos (by omega)], by rw [if_neg (by omega)]; exact hI⟩)
          · have f6 := hf6 k (by omega) (by omega)
            have f8 := isum_b (f := st.2 7) (n := k) (b := 6) (by omega) (fun x x0 x1 => by have := hf6 x x0 (by omega); omega)
            refine x_iload_n (q := 46) E dX6_lengthen_45 3 rfl rfl ?_
            refine x_aload_n (q := 47) E dX6_lengthen_46 0 rfl rfl ?_
            refine x_get (q := 50) E iX6_lengthen_X6 (0) rfl rfl 10 (by decide) (by decide +kernel) rfl dX6_lengthen_47 rfl ?_
            refine x_iload (q := 52) E dX6_lengthen_50 4 rfl rfl ?_
            refine x_iald (q := 53) (f := st.2 (7)) E (8) rfl 0 rfl (by omega) (by omega) (by decide) dX6_lengthen_52 rfl ?_
            refine x_iadd (q := 54) E dX6_lengthen_53 rfl ?_
            refine x_istore_n (q := 55) (lv' := [(3, .int (ii ((t) + (st.2 (7) (k))))), (0, .ref (ad 0)), (1, .int (ii ((q : Int)))), (2, .int (ii (i0))), (4, .int (ii (k)))]) E dX6_lengthen_54 (by decide) rfl rfl ?_
            refine x_iinc (q := 58) (k := 4) (lv' := [(4, .int (ii (k + 1))), (3, .int (ii ((t) + (st.2 (7) (k))))), (0, .ref (ad 0)), (1, .int (ii ((q : Int)))), (2, .int (ii (i0)))]) E dX6_lengthen_55 rfl (by decide) rfl rfl ?_
            refine x_goto (tgt := 36) E dX6_lengthen_58 (by decide) ?_
            refine x_lv E (lv' := [(0, .ref (ad 0)), (1, .int (ii ((q : Int)))), (2, .int (ii (i0))), (3, .int (ii ((t) + (st.2 (7) (k))))), (4, .int (ii (k + 1)))]) [2, 3, 4, 1, 0] rfl ?_
            exact ih36 ((t) + (st.2 (7) (k))) (k + 1) (by omega) (by omega) (by rw [isum_s _ (by omega), ← a2])
      refine x_lv E (lv' := [(0, .ref (ad 0)), (1, .int (ii ((q : Int)))), (2, .int (ii (i0))), (3, .int (ii (0))), (4, .int (ii (0)))]) [2, 3, 4, 1, 0] rfl ?_
      exact L36 _ (0) (0) (Nat.lt_succ_self _) (by omega) (rfl)
    · refine x_bipush (q := 30) E dX6_lengthen_28 (by decide) rfl ?_
      exact RET _ _ _ _ dX6_lengthen_30 (⟨by rw [if_neg (by omega)], by rw [if_neg (by omega)]; exact hI⟩)
  · exfalso; omega

set_option maxRecDepth 100000 in
set_option maxHeartbeats 4000000 in
theorem c_X6_lengthen_n (l : Launch) (D : va_G) (T : Nat → ClassId) (ad : Nat → Nat) (hN : ∀ i j, i < 13 → j < 13 → ad i = ad j → i = j) (st : St_) (k : Int) (bk : -2147483648 ≤ k ∧ k < 2147483648) (i0 : Int) (bi0 : -2147483648 ≤ i0 ∧ i0 < 2147483648) (hk : k < 0 ∨ 4 ≤ k) (a : AB_) (hI : MI st a) : CXi l yX6_lengthen wsX6_lengthen (rmX 2 45) [.ref (ad 0), .int (ii (k)), .int (ii (i0))] D (tyX T) (MW T ad) (alM ad) st (fun z st2 => z = -101 ∧ MI st2 a) := by
  refine mk_i (cc := cX6_lengthen) (nL := 6) rfl rfl (MW_ok hN) (Nat.le_of_ble_eq_true rfl) [(0, .ref (ad 0)), (1, .int (ii (k))), (2, .int (ii (i0)))] rfl (fun p e s m args below meth c A Q E RET => ?_)
  have k1 := hI.1
  have k2 := hI.2.1
  have k3 := hI.2.2.1
  have k4 := hI.2.2.2.1
  have k5 := hI.2.2.2.2.1
  have k6 := hI.2.2.2.2.2.1
  have k7 := hI.2.2.2.2.2.2.1
  have k8 := hI.2.2.2.2.2.2.2
  have hn := k7.2.1.1
  have hL := hI.len
  have hf := hI.lf
  have hf6 := hI.let6
  refine x_iload_n (q := 1) E dX6_lengthen_0 1 rfl rfl ?_
  refine x_callSi (q := 4) (n := 1) (As := [.int (ii (k))]) (r := []) E (c_X6_isAlphabet l D T ad hN st (k) (by omega)) gX6_lengthen_X6_isAlphabet rfl rfl rfl (by decide +kernel) ⟨Nat.le_of_ble_eq_true rfl, Nat.le_of_ble_eq_true rfl⟩ rfl rfl (Nat.le_of_ble_eq_true rfl) dX6_lengthen_1 rfl (fun z1 s2 q3 => ?_)
  obtain ⟨rfl, rfl⟩ := q3
  refine x_if_ne (tgt := 10) (q := 7) E dX6_lengthen_4 (by decide) rfl (by omega) (fun c4 => ?_) (fun c4 => ?_)
  · exfalso; omega
  · refine x_bipush (q := 9) E dX6_lengthen_7 (by decide) rfl ?_
    exact RET _ _ _ _ dX6_lengthen_9 (⟨rfl, hI⟩)

