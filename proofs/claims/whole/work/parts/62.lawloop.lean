set_option maxRecDepth 100000 in
set_option maxHeartbeats 4000000 in
theorem law_loop {p : Program} {l : Launch} {e : Env} {s : State} {m : MethodId} {below : List Frame} {meth : Method} {c : Code} {D : va_G} {T : Nat → ClassId} {ad ad2 : Nat → Nat} {A : Nat → Prop} {b L : Nat} {xs : Nat → Int32} (E : EN room_1 46 614819 p s m #[Value.ref b] meth c code 4 ret wsL_law RL D (tyX T) (WL T ad ad2) (alX ad ++ alM ad2) A) (hX : va_X b L xs s s.heap) (hbl : b < s.heap.size) (hbA : ¬ A b) (hL : L ≤ 3584) (hN : ∀ i j, i < 33 → j < 33 → ad i = ad j → i = j) (hM : ∀ i j, i < 13 → j < 13 → ad2 i = ad2 j → i = j) (hdj : ∀ i j, i < 33 → j < 13 → ad i ≠ ad2 j) (hA9 : ∀ q : Nat, A q → s.heap.size ≤ q) : ∀ (n : Nat) (i : Int) (a : AB_) (s1 s2 : St_), ((L : Int) + 7 - i).toNat < n → 0 ≤ i → i ≤ 4000 → CI s1 a → MI s2 a → XJ p l e room_1 s m #[Value.ref b] below meth c D (WL T ad ad2) A 4 (lw_Z below #[Value.ref b] s) 46 614819 (s1, s2) 18 [(0, .ref b), (1, .ref (ad 0)), (2, .ref (ad2 0)), (3, .int (ii i))] [] := by
  intro n
  induction n with
  | zero => intro i a s1 s2 hn; exact absurd hn (Nat.not_lt_zero _)
  | succ n ih =>
    intro i a s1 s2 hn hi hi2 hC hI
    refine x_iload_n (q := 19) E dL_law_18 3 rfl rfl ?_
    refine x_aload_n (q := 20) E dL_law_19 0 rfl rfl ?_
    refine x_slen (q := 21) E hX hbl hbA dL_law_20 rfl ?_
    refine x_bipush (q := 23) E dL_law_21 (by decide) rfl ?_
    refine x_isub (q := 24) E dL_law_23 rfl ?_
    refine x_icmp_gt (tgt := 922) (q := 27) E dL_law_24 (by decide) rfl (by omega) (by omega) (fun c24 => ?_) (fun c24 => ?_)
    · intro H locs ls hP hS hl
      refine lv_iconst (v := 1) E.1 E.2.1 dL_law_922 (by decide) ?_
      refine va_forget (fun q hq => hA9 _ (hS.2.2 q hq)) ?_
      refine W.widen (k := 600000) (n := 7302249) (Nat.le_of_ble_eq_true rfl) (Nat.le_of_ble_eq_true rfl) ?_
      exact lw_ret E.1 E.2.1 E.2.2.2.1 E.2.2.2.2.1 dL_law_923
    · have hi7 : 0 ≤ i ∧ i + 7 ≤ (L : Int) := by omega
      have kk : ∀ (a1 : AB_) (t1 t2 : St_), CI t1 a1 → MI t2 a1 → XJ p l e room_1 s m #[Value.ref b] below meth c D (WL T ad ad2) A 4 (lw_Z below #[Value.ref b] s) 46 614819 (t1, t2) 916 [(0, .ref b), (1, .ref (ad 0)), (2, .ref (ad2 0)), (3, .int (ii i))] [] := by
        intro a1 t1 t2 hC1 hI1
        refine x_iinc (q := 919) (k := 3) (lv' := [(3, .int (ii (i + 7))), (0, .ref b), (1, .ref (ad 0)), (2, .ref (ad2 0))]) E dL_law_916 rfl (by decide) rfl rfl ?_
        refine x_goto (tgt := 18) E dL_law_919 (by decide) ?_
        refine x_lv E (lv' := [(0, .ref b), (1, .ref (ad 0)), (2, .ref (ad2 0)), (3, .int (ii (i + 7)))]) [1, 2, 3, 0] rfl ?_
        exact ih (i + 7) a1 t1 t2 (by omega) (by omega) (by omega) hC1 hI1
      refine x_aload_n (q := 28) E dL_law_27 0 rfl rfl ?_
      refine x_iload_n (q := 29) E dL_law_28 3 rfl rfl ?_
      refine x_sld (q := 30) E hX hbl hbA (by omega) (by omega) (by omega) dL_law_29 rfl ?_
      refine x_bipush (q := 32) E dL_law_30 (by decide) rfl ?_
      refine x_iand (q := 33) E dL_law_32 rfl ?_
      have hb9 := iw_b (sc xs i) 31
      generalize iw (sc xs i) 31 = v9 at hb9 ⊢
      rcases (show v9 = 0 ∨ v9 = 1 ∨ v9 = 2 ∨ v9 = 3 ∨ v9 = 4 ∨ v9 = 5 ∨ v9 = 6 ∨ v9 = 7 ∨ v9 = 8 ∨ v9 = 9 ∨ v9 = 10 ∨ v9 = 11 ∨ v9 = 12 ∨ v9 = 13 ∨ v9 = 14 ∨ v9 = 15 ∨ v9 = 16 ∨ v9 = 17 ∨ v9 = 18 ∨ v9 = 19 ∨ v9 = 20 ∨ v9 = 21 ∨ v9 = 22 ∨ v9 = 23 ∨ v9 = 24 ∨ (v9 < 0 ∨ 24 < v9) by omega) with y9 | y9 | y9 | y9 | y9 | y9 | y9 | y9 | y9 | y9 | y9 | y9 | y9 | y9 | y9 | y9 | y9 | y9 | y9 | y9 | y9 | y9 | y9 | y9 | y9 | y9
      · subst y9
        refine x_tsIn (tgt := 148) E (by decide) dL_law_33 (by decide) (by decide) rfl (by decide) ?_
        exact law_alphabet E hX hbl hbA hL hN hM hdj hi7 hC hI kk
      · subst y9
        refine x_tsIn (tgt := 223) E (by decide) dL_law_33 (by decide) (by decide) rfl (by decide) ?_
        exact law_ring E hX hbl hbA hL hN hM hdj hi7 hC hI kk
      · subst y9
        refine x_tsIn (tgt := 276) E (by decide) dL_law_33 (by decide) (by decide) rfl (by decide) ?_
        exact law_at E hX hbl hbA hL hN hM hdj hi7 hC hI kk
      · subst y9
        refine x_tsIn (tgt := 309) E (by decide) dL_law_33 (by decide) (by decide) rfl (by decide) ?_
        exact law_count E hX hbl hbA hL hN hM hdj hi7 hC hI kk
      · subst y9
        refine x_tsIn (tgt := 352) E (by decide) dL_law_33 (by decide) (by decide) rfl (by decide) ?_
        exact law_sum E hX hbl hbA hL hN hM hdj hi7 hC hI kk
      · subst y9
        refine x_tsIn (tgt := 385) E (by decide) dL_law_33 (by decide) (by decide) rfl (by decide) ?_
        exact law_run E hX hbl hbA hL hN hM hdj hi7 hC hI kk
      · subst y9
        refine x_tsIn (tgt := 418) E (by decide) dL_law_33 (by decide) (by decide) rfl (by decide) ?_
        exact law_begins E hX hbl hbA hL hN hM hdj hi7 hC hI kk
      · subst y9
        refine x_tsIn (tgt := 451) E (by decide) dL_law_33 (by decide) (by decide) rfl (by decide) ?_
        exact law_off E hX hbl hbA hL hN hM hdj hi7 hC hI kk
      · subst y9
        refine x_tsIn (tgt := 504) E (by decide) dL_law_33 (by decide) (by decide) rfl (by decide) ?_
        exact law_add E hX hbl hbA hL hN hM hdj hi7 hC hI kk
      · subst y9
        refine x_tsIn (tgt := 527) E (by decide) dL_law_33 (by decide) (by decide) rfl (by decide) ?_
        exact law_take E hX hbl hbA hL hN hM hdj hi7 hC hI kk
      · subst y9
        refine x_tsIn (tgt := 570) E (by decide) dL_law_33 (by decide) (by decide) rfl (by decide) ?_
        exact law_clear E hX hbl hbA hL hN hM hdj hi7 hC hI kk
      · subst y9
        refine x_tsIn (tgt := 583) E (by decide) dL_law_33 (by decide) (by decide) rfl (by decide) ?_
        exact law_letter E hX hbl hbA hL hN hM hdj hi7 hC hI kk
      · subst y9
        refine x_tsIn (tgt := 606) E (by decide) dL_law_33 (by decide) (by decide) rfl (by decide) ?_
        exact law_runs E hX hbl hbA hL hN hM hdj hi7 hC hI kk
      · subst y9
        refine x_tsIn (tgt := 619) E (by decide) dL_law_33 (by decide) (by decide) rfl (by decide) ?_
        exact law_shorten E hX hbl hbA hL hN hM hdj hi7 hC hI kk
      · subst y9
        refine x_tsIn (tgt := 642) E (by decide) dL_law_33 (by decide) (by decide) rfl (by decide) ?_
        exact law_lengthen E hX hbl hbA hL hN hM hdj hi7 hC hI kk
      · subst y9
        refine x_tsIn (tgt := 675) E (by decide) dL_law_33 (by decide) (by decide) rfl (by decide) ?_
        exact law_mirror E hX hbl hbA hL hN hM hdj hi7 hC hI kk
      · subst y9
        refine x_tsIn (tgt := 688) E (by decide) dL_law_33 (by decide) (by decide) rfl (by decide) ?_
        exact law_turn E hX hbl hbA hL hN hM hdj hi7 hC hI kk
      · subst y9
        refine x_tsIn (tgt := 711) E (by decide) dL_law_33 (by decide) (by decide) rfl (by decide) ?_
        exact law_depth E hX hbl hbA hL hN hM hdj hi7 hC hI kk
      · subst y9
        refine x_tsIn (tgt := 734) E (by decide) dL_law_33 (by decide) (by decide) rfl (by decide) ?_
        exact law_many E hX hbl hbA hL hN hM hdj hi7 hC hI kk
      · subst y9
        refine x_tsIn (tgt := 767) E (by decide) dL_law_33 (by decide) (by decide) rfl (by decide) ?_
        exact law_isMirror E hX hbl hbA hL hN hM hdj hi7 hC hI kk
      · subst y9
        refine x_tsIn (tgt := 780) E (by decide) dL_law_33 (by decide) (by decide) rfl (by decide) ?_
        exact law_twice E hX hbl hbA hL hN hM hdj hi7 hC hI kk
      · subst y9
        refine x_tsIn (tgt := 793) E (by decide) dL_law_33 (by decide) (by decide) rfl (by decide) ?_
        exact law_find E hX hbl hbA hL hN hM hdj hi7 hC hI kk
      · subst y9
        refine x_tsIn (tgt := 836) E (by decide) dL_law_33 (by decide) (by decide) rfl (by decide) ?_
        exact law_unlike E hX hbl hbA hL hN hM hdj hi7 hC hI kk
      · subst y9
        refine x_tsIn (tgt := 879) E (by decide) dL_law_33 (by decide) (by decide) rfl (by decide) ?_
        exact law_told E hX hbl hbA hL hN hM hdj hi7 hC hI kk
      · subst y9
        refine x_tsIn (tgt := 902) E (by decide) dL_law_33 (by decide) (by decide) rfl (by decide) ?_
        exact law_digest E hX hbl hbA hL hN hM hdj hi7 hC hI kk
      · refine x_tsOut (tgt := 916) E hb9 dL_law_33 y9 (by decide) ?_
        exact kk a s1 s2 hC hI
