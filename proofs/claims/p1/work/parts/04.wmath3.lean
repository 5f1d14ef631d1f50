/-! words: one pass of shortening; the letter behind -/
theorem bs_mid (g L : Int) (q : List Int) : dropF g (q ++ [L]) = if g ≤ L ∨ q ≠ [] then dropF g q ++ [L] else dropF g q := by
  by_cases hq : q = []
  · subst hq
    show (if L < g then [] else [L]) = _
    by_cases h : L < g
    · rw [if_pos h, if_neg (fun z => z.elim (by omega) (fun y => y rfl))]; rfl
    · rw [if_neg h, if_pos (Or.inl (by omega))]; rfl
  · rw [if_pos (Or.inr hq), dropF_app g q L hq]
theorem bs_end (g L : Int) (q : List Int) : sh g (q ++ [L]) = if g ≤ L then dropF g q ++ [L] else dropF g q := by
  unfold sh
  by_cases hq : q = []
  · subst hq
    show dropE g (if L < g then [] else [L]) = _
    by_cases h : L < g
    · rw [if_pos h, if_neg (by omega)]; rfl
    · rw [if_neg h, if_pos (by omega)]
      show (if L < g then [] else [L]) = _
      rw [if_neg h]; rfl
  · rw [dropF_app g q L hq, dropE_app]
    by_cases h : L < g
    · rw [if_pos h, if_neg (by omega)]
    · rw [if_neg h, if_pos (by omega)]
theorem lsum_nil {q : List Int} (h : ∀ x ∈ q, 1 ≤ x) : lsum q = 0 ↔ q = [] := by
  constructor
  · intro e
    have := lsum_len q h
    rw [e] at this
    exact List.length_eq_zero_iff.mp (by omega)
  · intro e; rw [e]; rfl
/-- the letter behind the first like v, -1 where there is none -/
def LB (f : Int → Int) (n v z : Int) : Prop := (∃ i : Int, 0 ≤ i ∧ i < n ∧ f i = v ∧ (∀ j : Int, 0 ≤ j → j < i → f j ≠ v) ∧ z = f ((i + 1) % n)) ∨ ((∀ j : Int, 0 ≤ j → j < n → f j ≠ v) ∧ z = -1)
/-- what v is turned into -/
def TR (f : Int → Int) (n v z : Int) : Prop := (∃ i : Int, 0 ≤ i ∧ i < n ∧ f i = v ∧ (∀ j : Int, 0 ≤ j → j < i → f j ≠ v) ∧ z = f ((i + 1) % n)) ∨ ((∀ j : Int, 0 ≤ j → j < n → f j ≠ v) ∧ z = v)
theorem TR_u {f : Int → Int} {n v z y : Int} (h1 : TR f n v z) (h2 : TR f n v y) : z = y := by
  rcases h1 with ⟨i, a1, a2, a3, a4, a5⟩ | ⟨a1, a2⟩
  · rcases h2 with ⟨j, b1, b2, b3, b4, b5⟩ | ⟨b1, b2⟩
    · have : i = j := by
        rcases Int.lt_trichotomy i j with q | q | q
        · exact absurd a3 (b4 i a1 q)
        · exact q
        · exact absurd b3 (a4 j b1 q)
      rw [a5, b5, this]
    · exact absurd a3 (b1 i a1 a2)
  · rcases h2 with ⟨j, b1, b2, b3, b4, b5⟩ | ⟨b1, b2⟩
    · exact absurd b3 (a1 j b1 b2)
    · rw [a2, b2]
theorem TR_congr {f g : Int → Int} {n v z : Int} (e : ∀ j : Int, 0 ≤ j → j < n → f j = g j) (h : TR f n v z) : TR g n v z := by
  rcases h with ⟨i, a1, a2, a3, a4, a5⟩ | ⟨a1, a2⟩
  · exact Or.inl ⟨i, a1, a2, by rw [← e i a1 a2]; exact a3, fun j h0 h1 => by rw [← e j h0 (by omega)]; exact a4 j h0 h1, by rw [a5]; exact e _ (Int.emod_nonneg _ (by omega)) (Int.emod_lt_of_pos _ (by omega))⟩
  · exact Or.inr ⟨fun j h0 h1 => by rw [← e j h0 h1]; exact a1 j h0 h1, a2⟩
theorem LB_TR {f : Int → Int} {n v z : Int} (hv : v ≠ -1) (hf : ∀ j : Int, 0 ≤ j → j < n → f j ≠ -1) (hn : 0 < n) (h : LB f n v z) : TR f n v (if z = -1 then v else z) := by
  rcases h with ⟨i, a1, a2, a3, a4, a5⟩ | ⟨a1, a2⟩
  · have := hf ((i + 1) % n) (Int.emod_nonneg _ (by omega)) (Int.emod_lt_of_pos _ hn)
    rw [if_neg (by rw [a5]; exact this)]
    exact Or.inl ⟨i, a1, a2, a3, a4, a5⟩
  · rw [if_pos a2]
    exact Or.inr ⟨a1, rfl⟩
theorem TR_b {f : Int → Int} {n v z lo hi : Int} (hn : 0 < n) (hf : ∀ j : Int, 0 ≤ j → j < n → lo ≤ f j ∧ f j ≤ hi) (hv : lo ≤ v ∧ v ≤ hi) (h : TR f n v z) : lo ≤ z ∧ z ≤ hi := by
  rcases h with ⟨i, a1, a2, a3, a4, a5⟩ | ⟨a1, a2⟩
  · rw [a5]; exact hf _ (Int.emod_nonneg _ (by omega)) (Int.emod_lt_of_pos _ hn)
  · rw [a2]; exact hv
/-- a stretch of m letters stands twice from i on -/
def tw (f : Int → Int) (m i : Int) : Prop := ∀ t : Int, 0 ≤ t → t < m → f (i + t) = f (i + t + m)
