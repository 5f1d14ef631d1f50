/-! answers that are told by what holds of them -/
def TWP (f : Int → Int) (n y : Int) : Prop := 0 ≤ y ∧ (y = 0 ∨ ∃ i : Int, 0 ≤ i ∧ i + 2 * y ≤ n ∧ tw f y i) ∧ ∀ v : Int, 1 ≤ v → (y = 0 ∨ v < y) → ∀ i : Int, 0 ≤ i → i + 2 * v ≤ n → ¬ tw f v i
theorem TWP_u {f : Int → Int} {n x y : Int} (h1 : TWP f n x) (h2 : TWP f n y) : x = y := by
  rcases Int.lt_trichotomy x y with q | q | q
  · exfalso
    by_cases hx : x = 0
    · rcases h2.2.1 with z | ⟨i, a, b, c⟩
      · omega
      · exact h1.2.2 y (by omega) (Or.inl hx) i a b c
    · rcases h1.2.1 with z | ⟨i, a, b, c⟩
      · omega
      · have := h1.1
        exact h2.2.2 x (by omega) (Or.inr q) i a b c
  · exact q
  · exfalso
    by_cases hx : y = 0
    · rcases h1.2.1 with z | ⟨i, a, b, c⟩
      · omega
      · exact h2.2.2 x (by omega) (Or.inl hx) i a b c
    · rcases h2.2.1 with z | ⟨i, a, b, c⟩
      · omega
      · have := h2.1
        exact h1.2.2 y (by omega) (Or.inr q) i a b c
theorem tw_congr {f g : Int → Int} {n m i : Int} (h : ∀ j : Int, 0 ≤ j → j < n → f j = g j) (hi : 0 ≤ i) (hn : i + 2 * m ≤ n) : tw f m i ↔ tw g m i := by
  constructor
  · intro a t t0 t1; rw [← h _ (by omega) (by omega), ← h _ (by omega) (by omega)]; exact a t t0 t1
  · intro a t t0 t1; rw [h _ (by omega) (by omega), h _ (by omega) (by omega)]; exact a t t0 t1
theorem TWP_congr {f g : Int → Int} {n y : Int} (h : ∀ j : Int, 0 ≤ j → j < n → f j = g j) (a : TWP f n y) : TWP g n y :=
  ⟨a.1, a.2.1.elim Or.inl (fun ⟨i, b, c, d⟩ => Or.inr ⟨i, b, c, (tw_congr h b c).mp d⟩), fun v b c i d e z => a.2.2 v b c i d e ((tw_congr h d e).mpr z)⟩
/-- the word W (letters f, n of them) stands in S from p on -/
def std (S f : Int → Int) (n p : Int) : Prop := ∀ j : Int, 0 ≤ j → j < n → S (p + j) = f j
def FDP (S f : Int → Int) (n k m y : Int) : Prop := (y = -1 ∧ ∀ p : Int, k ≤ p → p + n ≤ m → ¬ std S f n p) ∨ (k ≤ y ∧ y + n ≤ m ∧ std S f n y ∧ ∀ p : Int, k ≤ p → p < y → ¬ std S f n p)
theorem FDP_u {S f : Int → Int} {n k m x y : Int} (hk : 0 ≤ k) (h1 : FDP S f n k m x) (h2 : FDP S f n k m y) : x = y := by
  rcases h1 with ⟨a1, a2⟩ | ⟨a1, a2, a3, a4⟩
  · rcases h2 with ⟨b1, b2⟩ | ⟨b1, b2, b3, b4⟩
    · omega
    · exact absurd b3 (a2 y b1 b2)
  · rcases h2 with ⟨b1, b2⟩ | ⟨b1, b2, b3, b4⟩
    · exact absurd a3 (b2 x a1 a2)
    · rcases Int.lt_trichotomy x y with q | q | q
      · exact absurd a3 (b4 x a1 q)
      · exact q
      · exact absurd b3 (a4 y b1 q)
theorem CI_lets {st : St_} {a : AB_} (h : CI st a) {q : Nat} (hq : q < 4) : 2 ≤ st.1 (3 + q) ∧ st.1 (3 + q) ≤ 4 := h.2.2.2.2.2.2.1.2.1.2.2.1 q hq
def aA (a : AB_) (q : Nat) (n w x y z : Int) : AB_ := (sG (sA (sA (sA (sA a.1 (1 + q) 0 w) (1 + q) 1 x) (1 + q) 2 y) (1 + q) 3 z) (4 + q) n, a.2)
def aR (a : AB_) (n b c d : Int) : AB_ := (sG (sA (sA (sA a.1 0 0 b) 0 1 c) 0 2 d) 0 n, a.2)
def okA (n w x y z : Int) : Prop := (2 ≤ n ∧ n ≤ 4 ∧ 1 ≤ w ∧ w ≤ 6 ∧ 1 ≤ x ∧ x ≤ 6 ∧ w ≠ x ∧ (3 ≤ n → 1 ≤ y ∧ y ≤ 6 ∧ x ≠ y) ∧ (4 ≤ n → 1 ≤ z ∧ z ≤ 6 ∧ y ≠ z) ∧ (n = 3 → y ≠ w) ∧ (n = 4 → z ≠ w))
theorem z4_0 (f : Int → Int) (w x y z : Int) : zup (zup (zup (zup f 0 w) 1 x) 2 y) 3 z 0 = w := by rw [zup_ne _ _ (by omega), zup_ne _ _ (by omega), zup_ne _ _ (by omega), zup_eq]
theorem z4_1 (f : Int → Int) (w x y z : Int) : zup (zup (zup (zup f 0 w) 1 x) 2 y) 3 z 1 = x := by rw [zup_ne _ _ (by omega), zup_ne _ _ (by omega), zup_eq]
theorem z4_2 (f : Int → Int) (w x y z : Int) : zup (zup (zup (zup f 0 w) 1 x) 2 y) 3 z 2 = y := by rw [zup_ne _ _ (by omega), zup_eq]
theorem z4_3 (f : Int → Int) (w x y z : Int) : zup (zup (zup (zup f 0 w) 1 x) 2 y) 3 z 3 = z := by rw [zup_eq]
theorem sA4 (st : St_) (r : Nat) (w x y z : Int) : sA (sA (sA (sA st r 0 w) r 1 x) r 2 y) r 3 z = sF st r (zup (zup (zup (zup (st.2 r) 0 w) 1 x) 2 y) 3 z) := by
  refine Prod.ext rfl (funext fun q => ?_)
  by_cases h : q = r
  · subst h; rw [sA_s, sA_s, sA_s, sA_s, sF_s]
  · rw [sA_n _ _ _ h, sA_n _ _ _ h, sA_n _ _ _ h, sA_n _ _ _ h, sF_n _ _ h]
theorem sA3 (st : St_) (r : Nat) (w x y : Int) : sA (sA (sA st r 0 w) r 1 x) r 2 y = sF st r (zup (zup (zup (st.2 r) 0 w) 1 x) 2 y) := by
  refine Prod.ext rfl (funext fun q => ?_)
  by_cases h : q = r
  · subst h; rw [sA_s, sA_s, sA_s, sF_s]
  · rw [sA_n _ _ _ h, sA_n _ _ _ h, sA_n _ _ _ h, sF_n _ _ h]
theorem aA_AI {a : AB_} (h : AI a) {q : Nat} {n w x y z : Int} (ho : okA n w x y z) : AI (aA a q n w x y z) := by
  obtain ⟨b1, b2, b3, b4, b5, b6, b7⟩ := h
  unfold okA at ho
  unfold aA
  rw [sA4]
  refine ⟨by rw [sG_n _ _ (by omega)]; exact b1, fun r hr => ?_, fun p hp => ?_, fun p hp j h0 h1 => ?_, b5, by rw [sG_n _ _ (by omega)]; exact b6, by rw [sG_n _ _ (by omega)]; exact b7⟩
  · simp only [sG_2] at hr ⊢
    rw [sG_n _ _ (by omega)] at hr
    rw [sF_n _ _ (by omega)]
    exact b2 r hr
  · by_cases hpq : p = q
    · subst hpq; simp only [sG_s]; omega
    · simp only [sG_n _ _ (show 4 + p ≠ 4 + q by omega)]; exact b3 p hp
  · by_cases hpq : p = q
    · subst hpq
      simp only [sG_s, sG_2, sF_s] at h1 ⊢
      rcases (show j = 0 ∨ j = 1 ∨ j = 2 ∨ j = 3 by omega) with e | e | e | e <;> subst e
      · rw [z4_0, if_pos (by omega), show (0 : Int) + 1 = 1 from rfl, z4_1]; omega
      · rw [z4_1]
        by_cases h3 : 1 + 1 < n
        · rw [if_pos h3, show (1 : Int) + 1 = 2 from rfl, z4_2]; omega
        · rw [if_neg h3, z4_0]; omega
      · rw [z4_2]
        by_cases h3 : 2 + 1 < n
        · rw [if_pos h3, show (2 : Int) + 1 = 3 from rfl, z4_3]; omega
        · rw [if_neg h3, z4_0]; omega
      · rw [z4_3, if_neg (by omega), z4_0]; omega
    · simp only [sG_2] at h1 ⊢
      rw [sG_n _ _ (by omega)] at h1 ⊢
      rw [sF_n _ _ (by omega)]
      exact b4 p hp j h0 h1
theorem aR_AI {a : AB_} (h : AI a) {n b c d : Int} (hn : 1 ≤ n ∧ n ≤ 3) (hb : 0 ≤ b ∧ b ≤ 3) (hc : 2 ≤ n → 0 ≤ c ∧ c ≤ 3) (hd : 3 ≤ n → 0 ≤ d ∧ d ≤ 3) : AI (aR a n b c d) := by
  obtain ⟨b1, b2, b3, b4, b5, b6, b7⟩ := h
  unfold aR
  rw [sA3]
  refine ⟨by simp only [sG_s]; exact hn, fun r hr => ?_, fun p hp => by simp only [sG_n _ _ (show 4 + p ≠ 0 by omega)]; exact b3 p hp, fun p hp j h0 h1 => ?_, b5, by simp only [sG_n _ _ (show 2 ≠ 0 by omega)]; exact b6, by simp only [sG_n _ _ (show 3 ≠ 0 by omega)]; exact b7⟩
  · simp only [sG_s, sG_2, sF_s] at hr ⊢
    rcases (show r = 0 ∨ r = 1 ∨ r = 2 by omega) with e | e | e <;> subst e
    · rw [show (((0 : Nat)) : Int) = 0 from rfl, zup_ne _ _ (by omega), zup_ne _ _ (by omega), zup_eq]; exact hb
    · rw [show (((1 : Nat)) : Int) = 1 from rfl, zup_ne _ _ (by omega), zup_eq]; exact hc (by omega)
    · rw [show (((2 : Nat)) : Int) = 2 from rfl, zup_eq]; exact hd (by omega)
  · simp only [sG_2] at h1 ⊢
    rw [sG_n _ _ (by omega)] at h1 ⊢
    rw [sF_n _ _ (by omega)]
    exact b4 p hp j h0 h1
theorem CI_FG {S st2 : St_} {a : AB_} (h1 : S.1 2 = a.1.1 0) (h2 : wl (S.2 (14 + 0)) (S.1 (10 + 0)) = a.2) (h3 : S.1 0 = a.1.1 2 ∧ S.1 1 = a.1.1 3) (h4 : ∀ q : Nat, q < 4 → S.1 (3 + q) = a.1.1 (4 + q) ∧ ∀ j : Int, 0 ≤ j → j < S.1 (3 + q) → S.2 (1 + q) j = a.1.2 (1 + q) j) (h5 : ∀ r : Nat, (r : Int) < S.1 2 → S.2 0 (r : Int) = a.1.2 0 (r : Int)) (h6 : WS S) (hK : KZ S) (h8 : AI a) (hF : FG S st2) : CI st2 a := by
  obtain ⟨f1, f2, f3, f4⟩ := hF
  have c1 : st2.1 2 = a.1.1 0 := by rw [f1 2 (by omega)]; exact h1
  have c4 : ∀ q : Nat, q < 4 → st2.1 (3 + q) = a.1.1 (4 + q) ∧ ∀ j : Int, 0 ≤ j → j < st2.1 (3 + q) → st2.2 (1 + q) j = a.1.2 (1 + q) j := fun q hq => by rw [f1 _ (by omega), f2 _ (by omega)]; exact h4 q hq
  have c5 : ∀ r : Nat, (r : Int) < st2.1 2 → st2.2 0 (r : Int) = a.1.2 0 (r : Int) := fun r hr => by rw [f1 2 (by omega)] at hr; rw [f2 0 (by omega)]; exact h5 r hr
  have cK : KZ st2 := fun r c hr a0 a1 => by rw [f2 _ (by omega)]; exact hK r c hr a0 a1
  have hn := h8.1
  have cA : AH st2 := ⟨by rw [c1]; exact hn, fun r hr => by rw [c5 r hr]; exact h8.2.1 r (by omega), fun q hq => by rw [(c4 q hq).1]; exact h8.2.2.1 q hq, fun q hq j a0 a1 => by rw [(c4 q hq).2 j a0 a1]; exact (h8.2.2.2.1 q hq j a0 (by rw [← (c4 q hq).1]; exact a1)).1⟩
  refine ⟨c1, by rw [f1 _ (by omega), f2 _ (by omega)]; exact h2, by rw [f1 0 (by omega), f1 1 (by omega)]; exact h3, c4, c5, fun w hw => by rw [f1 _ (by omega), f2 _ (by omega)]; exact h6 w hw, ⟨h8.LT, cA, fun r j hr hj => ?_, RI_0 (fun r hr => f3 r (by omega)) (fun r c hr a0 a1 => ⟨f4 r c (by omega) a0 a1, cK r c (by omega) a0 a1⟩), cK⟩, h8⟩
  have e1 := cA.2.1 r hr
  have e2 := c4 (st2.2 0 (r : Int)).toNat (by omega)
  have e3 := cA.2.2.1 (st2.2 0 (r : Int)).toNat (by omega)
  unfold ltx lta
  rw [if_pos (by omega), ← c5 r hr, ← e2.1]
  exact e2.2 _ (Int.emod_nonneg _ (by omega)) (Int.emod_lt_of_pos _ (by omega))
theorem CI_alph {st st2 : St_} {a : AB_} (h : CI st a) {q : Nat} (hq : q < 4) {n w x y z : Int} (ho : okA n w x y z) (hF : FG (sG (sA (sA (sA (sA st (1 + q) 0 w) (1 + q) 1 x) (1 + q) 2 y) (1 + q) 3 z) (3 + q) n) st2) : CI st2 (aA a q n w x y z) := by
  have hA := aA_AI (q := q) h.2.2.2.2.2.2.2 ho
  obtain ⟨h1, h2, h3, h4, h5, h6, h7, h8⟩ := h
  rw [sA4] at hF
  unfold aA at hA ⊢
  rw [sA4] at hA ⊢
  refine CI_FG ?_ ?_ ?_ (fun p hp => ?_) (fun r hr => ?_) (fun v hv => ?_) (fun r c hr a0 a1 => ?_) hA hF
  · simp only [sG_n _ _ (show 2 ≠ 3 + q by omega), sG_n _ _ (show 0 ≠ 4 + q by omega), sF_1]; exact h1
  · simp only [sG_2, sF_n _ _ (show 14 + 0 ≠ 1 + q by omega), sG_n _ _ (show 10 + 0 ≠ 3 + q by omega), sF_1]; exact h2
  · simp only [sG_n _ _ (show 0 ≠ 3 + q by omega), sG_n _ _ (show 1 ≠ 3 + q by omega), sG_n _ _ (show 2 ≠ 4 + q by omega), sG_n _ _ (show 3 ≠ 4 + q by omega), sF_1]; exact h3
  · have e := h4 p hp
    by_cases hpq : p = q
    · subst hpq
      simp only [sG_s, sG_2, sF_s]
      refine ⟨trivial, fun j j0 j1 => ?_⟩
      unfold okA at ho
      rcases (show j = 0 ∨ j = 1 ∨ j = 2 ∨ j = 3 by omega) with e | e | e | e <;> subst e
      · rw [z4_0, z4_0]
      · rw [z4_1, z4_1]
      · rw [z4_2, z4_2]
      · rw [z4_3, z4_3]
    · simp only [sG_2, sG_n _ _ (show 3 + p ≠ 3 + q by omega), sG_n _ _ (show 4 + p ≠ 4 + q by omega), sF_n _ _ (show 1 + p ≠ 1 + q by omega), sF_1]; exact e
  · simp only [sG_2, sG_n _ _ (show 2 ≠ 3 + q by omega), sF_n _ _ (show 0 ≠ 1 + q by omega), sF_1] at hr ⊢; exact h5 r hr
  · simp only [sG_2, sF_n _ _ (show 14 + v ≠ 1 + q by omega), sG_n _ _ (show 10 + v ≠ 3 + q by omega), sF_1]; exact h6 v hv
  · simp only [sG_2, sF_n _ _ (show 8 + r ≠ 1 + q by omega)]; exact h7.2.2.2.2 r c hr a0 a1
theorem CI_ring {st st2 : St_} {a : AB_} (h : CI st a) {n b c d : Int} (hn : 1 ≤ n ∧ n ≤ 3) (hb : 0 ≤ b ∧ b ≤ 3) (hc : 2 ≤ n → 0 ≤ c ∧ c ≤ 3) (hd : 3 ≤ n → 0 ≤ d ∧ d ≤ 3) (hF : FG (sA (sA (sA (sG st 2 n) 0 0 b) 0 1 c) 0 2 d) st2) : CI st2 (aR a n b c d) := by
  have hA := aR_AI h.2.2.2.2.2.2.2 hn hb hc hd
  obtain ⟨h1, h2, h3, h4, h5, h6, h7, h8⟩ := h
  rw [sA3] at hF
  unfold aR at hA ⊢
  rw [sA3] at hA ⊢
  refine CI_FG ?_ ?_ ?_ (fun p hp => ?_) (fun r hr => ?_) (fun v hv => ?_) (fun r c2 hr a0 a1 => ?_) hA hF
  · simp only [sF_1, sG_s]
  · simp only [sF_1, sG_2, sF_n _ _ (show 14 + 0 ≠ 0 by omega), sG_n _ _ (show 10 + 0 ≠ 2 by omega)]; exact h2
  · simp only [sF_1, sG_n _ _ (show 0 ≠ 2 by omega), sG_n _ _ (show 1 ≠ 2 by omega), sG_n _ _ (show 2 ≠ 0 by omega), sG_n _ _ (show 3 ≠ 0 by omega)]; exact h3
  · simp only [sF_1, sG_2, sG_n _ _ (show 3 + p ≠ 2 by omega), sG_n _ _ (show 4 + p ≠ 0 by omega), sF_n _ _ (show 1 + p ≠ 0 by omega)]; exact h4 p hp
  · simp only [sF_1, sG_s, sG_2, sF_s] at hr ⊢
    rcases (show r = 0 ∨ r = 1 ∨ r = 2 by omega) with e | e | e <;> subst e
    · rw [show (((0 : Nat)) : Int) = 0 from rfl, zup_ne _ _ (by omega), zup_ne _ _ (by omega), zup_eq, zup_ne _ _ (by omega), zup_ne _ _ (by omega), zup_eq]
    · rw [show (((1 : Nat)) : Int) = 1 from rfl, zup_ne _ _ (by omega), zup_eq, zup_ne _ _ (by omega), zup_eq]
    · rw [show (((2 : Nat)) : Int) = 2 from rfl, zup_eq, zup_eq]
  · simp only [sF_1, sG_2, sF_n _ _ (show 14 + v ≠ 0 by omega), sG_n _ _ (show 10 + v ≠ 2 by omega)]; exact h6 v hv
  · simp only [sG_2, sF_n _ _ (show 8 + r ≠ 0 by omega)]; exact h7.2.2.2.2 r c2 hr a0 a1
