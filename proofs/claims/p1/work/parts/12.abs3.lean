/-! a new object of alphabets or ring: nothing is made -/
def FG (st st2 : St_) : Prop := (∀ j, (j < 7 ∨ 9 < j) → st2.1 j = st.1 j) ∧ (∀ q, (q < 11 ∨ 13 < q) → st2.2 q = st.2 q) ∧ (∀ r : Nat, r < 3 → st2.1 (7 + r) = 0) ∧ ∀ (r : Nat) (c : Int), r < 3 → 0 ≤ c → c < 7 → st2.2 (11 + r) c = 0
-- CUT
theorem CI_FG {S st2 : St_} {a : AB_} (h1 : S.1 2 = a.1.1 0) (h2 : wl (S.2 (14 + 0)) (S.1 (10 + 0)) = a.2) (h3 : S.1 0 = a.1.1 2 ∧ S.1 1 = a.1.1 3) (h4 : ∀ q : Nat, q < 4 → S.1 (3 + q) = a.1.1 (4 + q) ∧ ∀ j : Int, 0 ≤ j → j < S.1 (3 + q) → S.2 (1 + q) j = a.1.2 (1 + q) j) (h5 : ∀ r : Nat, (r : Int) < S.1 2 → S.2 0 (r : Int) = a.1.2 0 (r : Int)) (h6 : WS S) (hK : KZ S) (h8 : AI a) (hF : FG S st2) : CI st2 a := by
  obtain ⟨f1, f2, f3, f4⟩ := hF
  have c1 : st2.1 2 = a.1.1 0 := by rw [f1 2 (by omega)]; exact h1
  have c4 : ∀ q : Nat, q < 4 → st2.1 (3 + q) = a.1.1 (4 + q) ∧ ∀ j : Int, 0 ≤ j → j < st2.1 (3 + q) → st2.2 (1 + q) j = a.1.2 (1 + q) j := fun q hq => by rw [f1 _ (by omega), f2 _ (by omega)]; exact h4 q hq
  have c5 : ∀ r : Nat, (r : Int) < st2.1 2 → st2.2 0 (r : Int) = a.1.2 0 (r : Int) := fun r hr => by rw [f1 2 (by omega)] at hr; rw [f2 0 (by omega)]; exact h5 r hr
  have cK : KZ st2 := fun r c hr a0 a1 => by rw [f2 _ (by omega)]; exact hK r c hr a0 a1
  have hn := h8.1
  have cA : AH st2 := ⟨by rw [c1]; exact hn, fun r hr => by rw [c5 r hr]; exact h8.2.1 r (by omega), fun q hq => by rw [(c4 q hq).1]; exact h8.2.2.1 q hq, fun q hq j a0 a1 => by rw [(c4 q hq).2 j a0 a1]; exact (h8.2.2.2.1 q hq j a0 (by rw [← (c4 q hq).1]; exact a1)).1⟩
  refine ⟨c1, by rw [f1 _ (by omega), f2 _ (by omega)]; exact h2, by rw [f1 0 (by omega), f1 1 (by omega)]; exact h3, c4, c5, fun w hw => by rw [f1 _ (by omega), f2 _ (by omega)]; exact h6 w hw, ⟨h8.LT, cA, fun r j hr hj => ?_, RI_0 (fun r hr => f3 r (by omega)) (fun r c hr a0 a1 => ⟨f4 r c (by omega) a0 a1, cK r c (by omega) a0 a1⟩), cK⟩, h8⟩
  have e1 := cA.2.1 r hr
  have e2 := c4 (st2.2 0 (r : Int)).toNat (by omega)
  have e3 := cA.2.2.1 (st2.2 0 (r : Int)).toNat (by omega)
  unfold ltx lta
  rw [if_pos (by omega), ← c5 r hr, ← e2.1]
  exact e2.2 _ (Int.emod_nonneg _ (by omega)) (Int.emod_lt_of_pos _ (by omega))
theorem CI_alph {st st2 : St_} {a : AB_} (h : CI st a) {q : Nat} (hq : q < 4) {n w x y z : Int} (ho : okA n w x y z) (hF : FG (sG (sA (sA (sA (sA st (1 + q) 0 w) (1 + q) 1 x) (1 + q) 2 y) (1 + q) 3 z) (3 + q) n) st2) : CI st2 (aA a q n w x y z) := by
  have hA := aA_AI (q := q) h.2.2.2.2.2.2.2 ho
  obtain ⟨h1, h2, h3, h4, h5, h6, h7, h8⟩ := h
  rw [sA4] at hF
  unfold aA at hA ⊢
  rw [sA4] at hA ⊢
  refine CI_FG ?_ ?_ ?_ (fun p hp => ?_) (fun r hr => ?_) (fun v hv => ?_) (fun r c hr a0 a1 => ?_) hA hF
  · simp only [sG_n _ _ (show 2 ≠ 3 + q by omega), sG_n _ _ (show 0 ≠ 4 + q by omega), sF_1]; exact h1
  · simp only [sG_2, sF_n _ _ (show 14 + 0 ≠ 1 + q by omega), sG_n _ _ (show 10 + 0 ≠ 3 + q by omega), sF_1]; exact h2
  · simp only [sG_n _ _ (show 0 ≠ 3 + q by omega), sG_n _ _ (show 1 ≠ 3 + q by omega), sG_n _ _ (show 2 ≠ 4 + q by omega), sG_n _ _ (show 3 ≠ 4 + q by omega), sF_1]; exact h3
  · have e := h4 p hp
    by_cases hpq : p = q
    · subst hpq
      simp only [sG_s, sG_2, sF_s]
      refine ⟨trivial, fun j j0 j1 => ?_⟩
      unfold okA at ho
      rcases (show j = 0 ∨ j = 1 ∨ j = 2 ∨ j = 3 by omega) with e | e | e | e <;> subst e
      · rw [z4_0, z4_0]
      · rw [z4_1, z4_1]
      · rw [z4_2, z4_2]
      · rw [z4_3, z4_3]
    · simp only [sG_2, sG_n _ _ (show 3 + p ≠ 3 + q by omega), sG_n _ _ (show 4 + p ≠ 4 + q by omega), sF_n _ _ (show 1 + p ≠ 1 + q by omega), sF_1]; exact e
  · simp only [sG_2, sG_n _ _ (show 2 ≠ 3 + q by omega), sF_n _ _ (show 0 ≠ 1 + q by omega), sF_1] at hr ⊢; exact h5 r hr
  · simp only [sG_2, sF_n _ _ (show 14 + v ≠ 1 + q by omega), sG_n _ _ (show 10 + v ≠ 3 + q by omega), sF_1]; exact h6 v hv
  · simp only [sG_2, sF_n _ _ (show 8 + r ≠ 1 + q by omega)]; exact h7.2.2.2.2 r c hr a0 a1
theorem CI_ring {st st2 : St_} {a : AB_} (h : CI st a) {n b c d : Int} (hn : 1 ≤ n ∧ n ≤ 3) (hb : 0 ≤ b ∧ b ≤ 3) (hc : 2 ≤ n → 0 ≤ c ∧ c ≤ 3) (hd : 3 ≤ n → 0 ≤ d ∧ d ≤ 3) (hF : FG (sA (sA (sA (sG st 2 n) 0 0 b) 0 1 c) 0 2 d) st2) : CI st2 (aR a n b c d) := by
  have hA := aR_AI h.2.2.2.2.2.2.2 hn hb hc hd
  obtain ⟨h1, h2, h3, h4, h5, h6, h7, h8⟩ := h
  rw [sA3] at hF
  unfold aR at hA ⊢
  rw [sA3] at hA ⊢
  refine CI_FG ?_ ?_ ?_ (fun p hp => ?_) (fun r hr => ?_) (fun v hv => ?_) (fun r c2 hr a0 a1 => ?_) hA hF
  · simp only [sF_1, sG_s]
  · simp only [sF_1, sG_2, sF_n _ _ (show 14 + 0 ≠ 0 by omega), sG_n _ _ (show 10 + 0 ≠ 2 by omega)]; exact h2
  · simp only [sF_1, sG_n _ _ (show 0 ≠ 2 by omega), sG_n _ _ (show 1 ≠ 2 by omega), sG_n _ _ (show 2 ≠ 0 by omega), sG_n _ _ (show 3 ≠ 0 by omega)]; exact h3
  · simp only [sF_1, sG_2, sG_n _ _ (show 3 + p ≠ 2 by omega), sG_n _ _ (show 4 + p ≠ 0 by omega), sF_n _ _ (show 1 + p ≠ 0 by omega)]; exact h4 p hp
  · simp only [sF_1, sG_s, sG_2, sF_s] at hr ⊢
    rcases (show r = 0 ∨ r = 1 ∨ r = 2 by omega) with e | e | e <;> subst e
    · rw [show (((0 : Nat)) : Int) = 0 from rfl, zup_ne _ _ (by omega), zup_ne _ _ (by omega), zup_eq, zup_ne _ _ (by omega), zup_ne _ _ (by omega), zup_eq]
    · rw [show (((1 : Nat)) : Int) = 1 from rfl, zup_ne _ _ (by omega), zup_eq, zup_ne _ _ (by omega), zup_eq]
    · rw [show (((2 : Nat)) : Int) = 2 from rfl, zup_eq, zup_eq]
  · simp only [sF_1, sG_2, sF_n _ _ (show 14 + v ≠ 0 by omega), sG_n _ _ (show 10 + v ≠ 2 by omega)]; exact h6 v hv
  · simp only [sG_2, sF_n _ _ (show 8 + r ≠ 0 by omega)]; exact h7.2.2.2.2 r c2 hr a0 a1
