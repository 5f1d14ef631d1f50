/-! the reference's shortening -/
theorem wl_cons (f : Int → Int) {n : Int} (h : 0 < n) : wl f n = f 0 :: wl (fun j => f (j + 1)) (n - 1) := by
  obtain ⟨k, rfl⟩ : ∃ k : Nat, n = (k : Int) + 1 := ⟨(n - 1).toNat, by omega⟩
  clear h
  rw [show (k : Int) + 1 - 1 = (k : Int) from by omega]
  induction k with
  | zero => rfl
  | succ k ih =>
    rw [wl_s _ (by omega), show (((k + 1 : Nat)) : Int) = (k : Int) + 1 from by omega, ih, wl_s _ (by omega)]
    rfl
theorem sh_wl (g : Int) (f : Int → Int) {n fr to : Int} (hn : 0 ≤ n) (h1 : fr = if 0 < n ∧ f 0 < g then 1 else 0) (h2 : to = if 0 < n ∧ f (n - 1) < g then n - 1 else n) : sh g (wl f n) = wl (fun j => f (fr + j)) (to - fr) := by
  by_cases h0 : n = 0
  · subst h0
    rw [if_neg (by omega)] at h1 h2
    subst h1; subst h2; rfl
  · have hd : dropF g (wl f n) = wl (fun j => f (fr + j)) (n - fr) := by
      rw [wl_cons f (by omega)]
      show (if f 0 < g then _ else _) = _
      by_cases hf : f 0 < g
      · rw [if_pos hf, h1, if_pos ⟨by omega, hf⟩]
        exact wl_congr (fun j _ _ => by rw [Int.add_comm])
      · rw [if_neg hf, h1, if_neg (fun z => hf z.2), ← wl_cons f (by omega), Int.sub_zero]
        exact wl_congr (fun j _ _ => by rw [Int.zero_add])
    unfold sh
    rw [hd]
    by_cases hm : n - fr = 0
    · rw [hm]
      have : to - fr ≤ 0 := by
        rw [h2]; split
        · omega
        · omega
      rw [show wl (fun j => f (fr + j)) (to - fr) = [] from by unfold wl; rw [show (to - fr).toNat = 0 from by omega]; rfl]
      rfl
    · have hfr : fr = 0 ∨ fr = 1 := by rw [h1]; split <;> omega
      rw [show n - fr = (n - fr - 1) + 1 from by omega, wl_s _ (by omega), dropE_app, show fr + (n - fr - 1) = n - 1 from by omega]
      by_cases hl : f (n - 1) < g
      · rw [if_pos hl, h2, if_pos ⟨by omega, hl⟩, show n - fr - 1 = n - 1 - fr from by omega]
      · rw [if_neg hl, h2, if_neg (fun z => hl z.2), show n - fr = (n - fr - 1) + 1 from by omega, wl_s _ (by omega), show fr + (n - fr - 1) = n - 1 from by omega, show n - fr - 1 + 1 - 1 = n - fr - 1 from by omega]
theorem wl_inc (t : Int → Int) {k : Int} (h : 1 ≤ k) : wl (zup t (k - 1) (t (k - 1) + 1)) k = incL (wl t k) := by
  rw [show k = (k - 1) + 1 from by omega, wl_s t (by omega), incL_app, show k - 1 + 1 - 1 = k - 1 from by omega, wl_put _ _ (by omega)]
