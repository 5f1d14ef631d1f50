/-! one step of shortening in place -/
def bsI (f0 f : Int → Int) (g0 k u i : Int) : Prop := ∃ q : List Int, runs f0 (i + 1) = q ++ [u + 1] ∧ wl f k = dropF g0 q ∧ lsum q = i - u ∧ ∀ x ∈ q, 1 ≤ x
theorem bs_n {f0 f : Int → Int} {g0 k u i : Int} (h : bsI f0 f g0 k u i) (hi : 0 ≤ i) (he : f0 i = f0 (i + 1)) : bsI f0 f g0 k (u + 1) (i + 1) := by
  obtain ⟨q, q1, q2, q3, q4⟩ := h
  refine ⟨q, ?_, q2, by omega, q4⟩
  rw [runs_old (by omega) (fun y => y.elim (fun w => by omega) (fun w => w (by rw [show i + 1 - 1 = i from by omega]; exact he.symm))), q1, incL_app]
theorem bs_q {f0 f : Int → Int} {u i : Int} {q : List Int} (q1 : runs f0 (i + 1) = q ++ [u + 1]) (q3 : lsum q = i - u) (q4 : ∀ x ∈ q, 1 ≤ x) (hi : 0 ≤ i) (hu : 0 ≤ u) (hne : f0 i ≠ f0 (i + 1)) : runs f0 (i + 1 + 1) = (q ++ [u + 1]) ++ [0 + 1] ∧ lsum (q ++ [u + 1]) = i + 1 - 0 ∧ ∀ x ∈ q ++ [u + 1], 1 ≤ x := by
  refine ⟨?_, ?_, fun x hx => ?_⟩
  · rw [runs_new (by omega) (Or.inr (by rw [show i + 1 - 1 = i from by omega]; exact fun y => hne y.symm)), q1]; rfl
  · rw [lsum_app, q3, show lsum [u + 1] = u + 1 + 0 from rfl]; omega
  · rcases List.mem_append.mp hx with y | y
    · exact q4 x y
    · rw [List.mem_singleton.mp y]; omega
theorem bs_k {f0 f : Int → Int} {g0 k u i : Int} (h : bsI f0 f g0 k u i) (hi : 0 ≤ i) (hk : 0 ≤ k) (hu : 0 ≤ u) (hne : f0 i ≠ f0 (i + 1)) (hc : g0 ≤ u + 1 ∨ u ≠ i) : bsI f0 (zup f k (u + 1)) g0 (k + 1) 0 (i + 1) := by
  obtain ⟨q, q1, q2, q3, q4⟩ := h
  obtain ⟨a1, a2, a3⟩ := bs_q (f := f) q1 q3 q4 hi hu hne
  refine ⟨q ++ [u + 1], a1, ?_, a2, a3⟩
  rw [wl_put _ _ hk, bs_mid, if_pos ?_, q2]
  rcases hc with y | y
  · exact Or.inl y
  · refine Or.inr (fun z => ?_)
    rw [z, show lsum [] = 0 from rfl] at q3
    omega
theorem bs_s {f0 f : Int → Int} {g0 k u i : Int} (h : bsI f0 f g0 k u i) (hi : 0 ≤ i) (hu : 0 ≤ u) (hne : f0 i ≠ f0 (i + 1)) (hc : u + 1 < g0) (hui : u = i) : bsI f0 f g0 k 0 (i + 1) := by
  obtain ⟨q, q1, q2, q3, q4⟩ := h
  obtain ⟨a1, a2, a3⟩ := bs_q (f := f) q1 q3 q4 hi hu hne
  refine ⟨q ++ [u + 1], a1, ?_, a2, a3⟩
  have hq : q = [] := (lsum_nil q4).mp (by omega)
  rw [bs_mid, if_neg (fun y => y.elim (fun w => by omega) (fun w => w hq)), q2]
theorem bs_ke {f0 f : Int → Int} {g0 k u i : Int} (h : bsI f0 f g0 k u i) (hk : 0 ≤ k) (hc : g0 ≤ u + 1) : wl (zup f k (u + 1)) (k + 1) = sh g0 (runs f0 (i + 1)) := by
  obtain ⟨q, q1, q2, q3, q4⟩ := h
  rw [q1, bs_end, if_pos hc, wl_put _ _ hk, q2]
theorem bs_se {f0 f : Int → Int} {g0 k u i : Int} (h : bsI f0 f g0 k u i) (hc : u + 1 < g0) : wl f k = sh g0 (runs f0 (i + 1)) := by
  obtain ⟨q, q1, q2, q3, q4⟩ := h
  rw [q1, bs_end, if_neg (by omega), q2]
theorem bs_0 {f0 f : Int → Int} (g0 : Int) : bsI f0 f g0 0 0 0 := ⟨[], by rw [runs_new (by omega) (Or.inl rfl)]; rfl, rfl, rfl, fun x hx => (by cases hx)⟩
