/-! words: the run so far, the longest, the greatest -/
def mx2 (a b : Int) : Int := if a < b then b else a
def clP (f : Int → Int) : Nat → Int
  | 0 => 0
  | n + 1 => if n = 0 ∨ f (n : Int) ≠ f ((n : Int) - 1) then 1 else clP f n + 1
def lgP (f : Int → Int) : Nat → Int
  | 0 => 0
  | n + 1 => mx2 (lgP f n) (clP f (n + 1))
def gmP (f : Int → Int) : Nat → Int
  | 0 => 0
  | n + 1 => mx2 (gmP f n) (f (n : Int))
def cl (f : Int → Int) (k : Int) : Int := clP f k.toNat
def lg (f : Int → Int) (k : Int) : Int := lgP f k.toNat
def gm (f : Int → Int) (k : Int) : Int := gmP f k.toNat
def runs (f : Int → Int) (k : Int) : List Int := runsP f k.toNat
theorem toNat_s {k : Int} (h : 0 ≤ k) : (k + 1).toNat = k.toNat + 1 := by omega
theorem cl_0 (f : Int → Int) : cl f 0 = 0 := rfl
theorem lg_0 (f : Int → Int) : lg f 0 = 0 := rfl
theorem gm_0 (f : Int → Int) : gm f 0 = 0 := rfl
theorem runs_0 (f : Int → Int) : runs f 0 = [] := rfl
theorem cl_s (f : Int → Int) {k : Int} (h : 0 ≤ k) : cl f (k + 1) = if k = 0 ∨ f k ≠ f (k - 1) then 1 else cl f k + 1 := by
  obtain ⟨n, rfl⟩ := Int.eq_ofNat_of_zero_le h
  unfold cl
  rw [toNat_s h, show ((n : Int)).toNat = n from by omega]
  show (if _ then _ else _) = _
  by_cases hn : n = 0
  · rw [if_pos (Or.inl hn), if_pos (Or.inl (by omega))]
  · by_cases hc : f (n : Int) ≠ f ((n : Int) - 1)
    · rw [if_pos (Or.inr hc), if_pos (Or.inr hc)]
    · rw [if_neg (fun q => q.elim hn hc), if_neg (fun q => q.elim (fun z => hn (by omega)) hc)]
theorem lg_s (f : Int → Int) {k : Int} (h : 0 ≤ k) : lg f (k + 1) = mx2 (lg f k) (cl f (k + 1)) := by
  unfold lg cl
  rw [toNat_s h]
  rfl
theorem gm_s (f : Int → Int) {k : Int} (h : 0 ≤ k) : gm f (k + 1) = mx2 (gm f k) (f k) := by
  obtain ⟨n, rfl⟩ := Int.eq_ofNat_of_zero_le h
  unfold gm
  rw [toNat_s h, show ((n : Int)).toNat = n from by omega]
  rfl
theorem runs_new {f : Int → Int} {k : Int} (h : 0 ≤ k) (hc : k = 0 ∨ f k ≠ f (k - 1)) : runs f (k + 1) = runs f k ++ [1] := by
  obtain ⟨n, rfl⟩ := Int.eq_ofNat_of_zero_le h
  unfold runs
  rw [toNat_s h, show ((n : Int)).toNat = n from by omega]
  exact runsP_new (hc.elim (fun z => Or.inl (by omega)) Or.inr)
theorem runs_old {f : Int → Int} {k : Int} (h : 0 ≤ k) (hc : ¬ (k = 0 ∨ f k ≠ f (k - 1))) : runs f (k + 1) = incL (runs f k) := by
  obtain ⟨n, rfl⟩ := Int.eq_ofNat_of_zero_le h
  unfold runs
  rw [toNat_s h, show ((n : Int)).toNat = n from by omega]
  exact runsP_old (fun q => hc (q.elim (fun z => Or.inl (by omega)) Or.inr))
theorem runs_facts (f : Int → Int) {k : Int} (h : 0 ≤ k) : (∀ x ∈ runs f k, 1 ≤ x) ∧ lsum (runs f k) = k := by
  obtain ⟨n, rfl⟩ := Int.eq_ofNat_of_zero_le h
  unfold runs
  rw [show ((n : Int)).toNat = n from by omega]
  exact ⟨(runsP_facts f n).1, (runsP_facts f n).2.1⟩
theorem runs_congr {f g : Int → Int} {k : Int} (h : ∀ j : Int, 0 ≤ j → j < k → f j = g j) : runs f k = runs g k := runsP_congr _ (fun j h0 h1 => h j h0 (by omega))
theorem RLw_w (f : Int → Int) {k : Int} (h : 0 ≤ k) : RLw (wl f k) = runs f k := by
  obtain ⟨n, rfl⟩ := Int.eq_ofNat_of_zero_le h
  rw [RLw_wl]
  unfold runs
  rw [show ((n : Int)).toNat = n from by omega]
theorem cl_pos (f : Int → Int) {k : Int} (h : 0 ≤ k) : 0 ≤ cl f k ∧ cl f k ≤ k ∧ (0 < k → 1 ≤ cl f k) := by
  obtain ⟨n, rfl⟩ := Int.eq_ofNat_of_zero_le h
  induction n with
  | zero => exact ⟨Int.le_refl 0, Int.le_refl 0, fun q => by omega⟩
  | succ n ih =>
    have := ih (by omega)
    rw [show (((n + 1 : Nat)) : Int) = (n : Int) + 1 from by omega, cl_s f (by omega)]
    split <;> omega
/-- the runs of k letters: the ended ones, and the last -/
theorem runs_last (f : Int → Int) {k : Int} (h : 0 < k) : ∃ q, runs f k = q ++ [cl f k] ∧ lsum q = k - cl f k ∧ (∀ x ∈ q, 1 ≤ x) := by
  obtain ⟨n, rfl⟩ : ∃ n : Nat, k = (n : Int) + 1 := ⟨(k - 1).toNat, by omega⟩
  clear h
  induction n with
  | zero =>
    refine ⟨[], ?_, ?_, fun x hx => (by cases hx)⟩
    · rw [runs_new (by omega) (Or.inl (by omega)), cl_s f (by omega), if_pos (Or.inl (by omega))]; rfl
    · rw [cl_s f (by omega), if_pos (Or.inl (by omega))]; rfl
  | succ n ih =>
    obtain ⟨q, h1, h2, h3⟩ := ih
    rw [show (((n + 1 : Nat)) : Int) = (n : Int) + 1 from by omega]
    by_cases hc : (n : Int) + 1 = 0 ∨ f ((n : Int) + 1) ≠ f ((n : Int) + 1 - 1)
    · refine ⟨runs f ((n : Int) + 1), ?_, ?_, (runs_facts f (by omega)).1⟩
      · rw [runs_new (by omega) hc, cl_s f (by omega), if_pos hc]
      · rw [(runs_facts f (by omega)).2, cl_s f (by omega), if_pos hc]; omega
    · refine ⟨q, ?_, ?_, h3⟩
      · rw [runs_old (by omega) hc, h1, incL_app, cl_s f (k := (n : Int) + 1) (by omega), if_neg hc]
      · rw [cl_s f (k := (n : Int) + 1) (by omega), if_neg hc]; omega
theorem mx2_lt (a b g : Int) : g < mx2 a b ↔ g < a ∨ g < b := by unfold mx2; split <;> omega
theorem mx2_le (a b g : Int) : mx2 a b ≤ g ↔ a ≤ g ∧ b ≤ g := by unfold mx2; split <;> omega
theorem gm_lt (f : Int → Int) {k g : Int} (h : 0 ≤ k) (hg : 0 ≤ g) : g < gm f k ↔ ∃ x ∈ wl f k, g < x := by
  obtain ⟨n, rfl⟩ := Int.eq_ofNat_of_zero_le h
  induction n with
  | zero =>
    constructor
    · intro q
      have : g < 0 := q
      omega
    · rintro ⟨x, hx, _⟩; cases hx
  | succ n ih =>
    rw [show (((n + 1 : Nat)) : Int) = (n : Int) + 1 from by omega, gm_s f (by omega), mx2_lt, ih (by omega), wl_s f (by omega)]
    constructor
    · rintro (⟨x, h1, h2⟩ | h1)
      · exact ⟨x, List.mem_append_left _ h1, h2⟩
      · exact ⟨_, List.mem_append_right _ (List.mem_singleton.mpr rfl), h1⟩
    · rintro ⟨x, h1, h2⟩
      rcases List.mem_append.mp h1 with h1 | h1
      · exact Or.inl ⟨x, h1, h2⟩
      · rw [List.mem_singleton.mp h1] at h2; exact Or.inr h2
theorem lg_lt (f : Int → Int) {k g : Int} (h : 0 ≤ k) (hg : 0 ≤ g) : g < lg f k ↔ ∃ x ∈ runs f k, g < x := by
  obtain ⟨n, rfl⟩ := Int.eq_ofNat_of_zero_le h
  induction n with
  | zero =>
    constructor
    · intro q
      have : g < 0 := q
      omega
    · rintro ⟨x, hx, _⟩; cases hx
  | succ n ih =>
    rw [show (((n + 1 : Nat)) : Int) = (n : Int) + 1 from by omega, lg_s f (by omega), mx2_lt, ih (by omega)]
    by_cases hc : (n : Int) = 0 ∨ f (n : Int) ≠ f ((n : Int) - 1)
    · rw [runs_new (by omega) hc, cl_s f (by omega), if_pos hc]
      constructor
      · rintro (⟨x, h1, h2⟩ | h1)
        · exact ⟨x, List.mem_append_left _ h1, h2⟩
        · exact ⟨_, List.mem_append_right _ (List.mem_singleton.mpr rfl), h1⟩
      · rintro ⟨x, h1, h2⟩
        rcases List.mem_append.mp h1 with h1 | h1
        · exact Or.inl ⟨x, h1, h2⟩
        · rw [List.mem_singleton.mp h1] at h2; exact Or.inr h2
    · obtain ⟨q, e1, e2, e3⟩ := runs_last f (k := (n : Int)) (by omega)
      rw [runs_old (by omega) hc, cl_s f (by omega), if_neg hc, e1, incL_app]
      constructor
      · rintro (⟨x, h1, h2⟩ | h1)
        · rcases List.mem_append.mp h1 with h1 | h1
          · exact ⟨x, List.mem_append_left _ h1, h2⟩
          · rw [List.mem_singleton.mp h1] at h2
            exact ⟨_, List.mem_append_right _ (List.mem_singleton.mpr rfl), by omega⟩
        · exact ⟨_, List.mem_append_right _ (List.mem_singleton.mpr rfl), h1⟩
      · rintro ⟨x, h1, h2⟩
        rcases List.mem_append.mp h1 with h1 | h1
        · exact Or.inl ⟨x, List.mem_append_left _ h1, h2⟩
        · rw [List.mem_singleton.mp h1] at h2; exact Or.inr h2
theorem lg_b (f : Int → Int) {k : Int} (h : 0 ≤ k) : 0 ≤ lg f k ∧ lg f k ≤ k := by
  obtain ⟨n, rfl⟩ := Int.eq_ofNat_of_zero_le h
  induction n with
  | zero => exact ⟨Int.le_refl 0, Int.le_refl 0⟩
  | succ n ih =>
    have := ih (by omega)
    have c := cl_pos f (k := (n : Int) + 1) (by omega)
    rw [show (((n + 1 : Nat)) : Int) = (n : Int) + 1 from by omega, lg_s f (by omega)]
    unfold mx2
    split <;> omega
theorem gm_b (f : Int → Int) {k b : Int} (h : 0 ≤ k) (hb : 0 ≤ b) (hf : ∀ j, 0 ≤ j → j < k → f j ≤ b) : 0 ≤ gm f k ∧ gm f k ≤ b := by
  obtain ⟨n, rfl⟩ := Int.eq_ofNat_of_zero_le h
  induction n with
  | zero => exact ⟨Int.le_refl 0, hb⟩
  | succ n ih =>
    have := ih (by omega) (fun j h0 h1 => hf j h0 (by omega))
    have c := hf n (by omega) (by omega)
    rw [show (((n + 1 : Nat)) : Int) = (n : Int) + 1 from by omega, gm_s f (by omega)]
    unfold mx2
    split <;> omega
/-- folding letters into a number -/
def mixP (f : Int → Int) (h : Int) : Nat → Int
  | 0 => h
  | n + 1 => 31 * mixP f h n + f (n : Int)
def mix (f : Int → Int) (h k : Int) : Int := mixP f h k.toNat
theorem mix_0 (f : Int → Int) (h : Int) : mix f h 0 = h := rfl
theorem mix_s (f : Int → Int) (h : Int) {k : Int} (hk : 0 ≤ k) : mix f h (k + 1) = 31 * mix f h k + f k := by
  obtain ⟨n, rfl⟩ := Int.eq_ofNat_of_zero_le hk
  unfold mix
  rw [toNat_s hk, show ((n : Int)).toNat = n from by omega]
  rfl
theorem mix_congr {f g : Int → Int} (h : Int) {k : Int} (e : ∀ j : Int, 0 ≤ j → j < k → f j = g j) : mix f h k = mix g h k := by
  unfold mix
  have : ∀ n : Nat, (n : Int) ≤ k → mixP f h n = mixP g h n := by
    intro n
    induction n with
    | zero => intro _; rfl
    | succ n ih =>
      intro hn
      show 31 * mixP f h n + f n = 31 * mixP g h n + g n
      rw [ih (by omega), e n (by omega) (by omega)]
  by_cases hk : 0 ≤ k
  · exact this _ (by omega)
  · rw [show k.toNat = 0 from by omega]; rfl
