/-! the reference's own: depths, alphabets, the ring -/
theorem sh_mem {g : Int} {l : List Int} : ∀ x ∈ sh g l, x ∈ l := fun x hx => dropF_mem g l x (dropE_mem g _ x hx)
theorem runs_le {f : Int → Int} {k : Int} (hk : 0 ≤ k) : ∀ x ∈ runs f k, 1 ≤ x ∧ x ≤ k := by
  intro x hx
  have h1 := (runs_facts f hk).1 x hx
  refine ⟨h1, ?_⟩
  have h2 := (lg_b f hk).2
  apply Classical.byContradiction
  intro h3
  have h4 := (lg_lt f (k := k) (g := x - 1) hk (by omega)).mpr ⟨x, hx, by omega⟩
  omega
theorem runs_b {f t : Int → Int} {k k1 : Int} (hk : 0 ≤ k) (e : wl t k1 = runs f k) : ∀ j : Int, 0 ≤ j → j < k1 → 1 ≤ t j ∧ t j ≤ k := fun j j0 j1 => runs_le hk _ (by rw [← e]; exact mem_wl _ j0 j1)
theorem cut_b {g : Int} {f t : Int → Int} {k k1 : Int} (hk : 0 ≤ k) (e : wl t k1 = sh g (runs f k)) : ∀ j : Int, 0 ≤ j → j < k1 → 1 ≤ t j ∧ t j ≤ k := fun j j0 j1 => runs_le hk _ (sh_mem _ (by rw [← e]; exact mem_wl _ j0 j1))
theorem wl_ne {f : Int → Int} {k : Int} (hk : 0 < k) : wl f k ≠ [] := by
  intro y
  have := wl_len f (k := k) (by omega)
  rw [y] at this
  have h2 : ((([] : List Int).length : Nat) : Int) = 0 := rfl
  omega
theorem cut_less {g : Int} {f t : Int → Int} {k k1 : Int} (hg : 2 ≤ g) (hk : 0 < k) (h1 : 0 ≤ k1) (e : wl t k1 = sh g (runs f k)) : k1 < k := by
  have h2 := sh_less hg (wl f k) (wl_ne hk)
  rw [RLw_w f (by omega), ← e] at h2
  have h3 := wl_len f (k := k) (by omega)
  have h4 := wl_len t h1
  omega
theorem dpt_badf {g : Int} {f : Int → Int} {k i : Int} (h0 : 0 ≤ i) (h1 : i < k) (h : g < f i) : dpt g (wl f k) = -1 :=
  dpt_bad (wl_ne (by omega)) ((badW_iff _ _).mpr (Or.inl ⟨_, mem_wl f h0 h1, h⟩))
theorem dpt_badr {g : Int} {f : Int → Int} {k : Int} (hk : 0 < k) (hg : 0 ≤ g) (h : g < lg f k) : dpt g (wl f k) = -1 :=
  dpt_bad (wl_ne hk) ((badW_iff _ _).mpr (Or.inr (by rw [RLw_w f (by omega)]; exact (lg_lt f (by omega) hg).mp h)))
theorem dpt_step {g : Int} {f t : Int → Int} {k k1 : Int} (hg : 2 ≤ g) (hk : 0 < k) (hf : ∀ j : Int, 0 ≤ j → j < k → f j ≤ g) (hl : lg f k ≤ g) (e : wl t k1 = sh g (runs f k)) : dpt g (wl f k) = if dpt g (wl t k1) = -1 then -1 else dpt g (wl t k1) + 1 := by
  have hb : badW g (wl f k) = false := by
    cases hbw : badW g (wl f k) with
    | false => rfl
    | true =>
      exfalso
      rcases (badW_iff g (wl f k)).mp hbw with ⟨x, x1, x2⟩ | y
      · obtain ⟨j, j0, j1, j2⟩ := wl_mem f k x x1
        have := hf j j0 j1
        omega
      · rw [RLw_w f (by omega)] at y
        have := (lg_lt f (k := k) (g := g) (by omega) (by omega)).mpr y
        omega
  rw [dpt_s hg (wl_ne hk) hb, RLw_w f (by omega), e]
theorem dpt_acc {g : Int} {d k1 : Int} {w : List Int} {t f : Int → Int} {k : Int} (h : dpt g w = (if dpt g (wl f k) = -1 then -1 else d + dpt g (wl f k))) (e : dpt g (wl f k) = if dpt g (wl t k1) = -1 then -1 else dpt g (wl t k1) + 1) : dpt g w = (if dpt g (wl t k1) = -1 then -1 else d + 1 + dpt g (wl t k1)) := by
  rw [h, e]
  by_cases hq : dpt g (wl t k1) = -1
  · rw [if_pos hq, if_pos rfl, if_pos hq]
  · have := dpt_ge g (wl t k1)
    rw [if_neg hq, if_neg (by omega), if_neg hq]; omega
theorem trv_c {f g : Int → Int} {n v : Int} (h : ∀ j : Int, 0 ≤ j → j < n → f j = g j) : trv f n v = trv g n v := by
  unfold trv
  rw [show (fun z => TR f n v z) = (fun z => TR g n v z) from funext (fun z => propext ⟨TR_congr h, TR_congr (fun j a b => (h j a b).symm)⟩)]
theorem rep_s (x : Int) {t : Int} (h : 0 ≤ t) : List.replicate (t + 1).toNat x = List.replicate t.toNat x ++ [x] := by
  rw [toNat_s h]; exact List.replicate_succ' ..
theorem rep_0 (x : Int) : List.replicate (0 : Int).toNat x = [] := rfl
theorem MI_mk {S : St_} {a : AB_} (h1 : S.1 0 = a.1.1 0) (h2 : wl (S.2 7) (S.1 3) = a.2) (h3 : S.1 6 = a.1.1 2 ∧ S.1 7 = a.1.1 3) (h4 : ∀ q : Nat, q < 4 → S.2 1 (q : Int) = a.1.1 (4 + q) ∧ ∀ j : Int, 0 ≤ j → j < S.2 1 (q : Int) → S.2 0 (4 * (q : Int) + j) = a.1.2 (1 + q) j) (h5 : ∀ r : Nat, (r : Int) < S.1 0 → S.2 2 (r : Int) = a.1.2 0 (r : Int)) (h6 : 0 ≤ S.1 3 ∧ S.1 3 ≤ 60) (hs : S.1 1 = 1) (h8 : AI a) : MI S a := by
  refine ⟨h1, h2, h3, h4, h5, h6, ⟨h8.LT, ⟨by rw [h1]; exact h8.1, fun r hr => ?_, fun q q0 q1 => ?_⟩, fun r j hr hj => ?_, Or.inr hs, fun z => absurd (hs.symm.trans z) (by decide)⟩, h8⟩
  · rw [h5 r hr]; exact h8.2.1 r (by omega)
  · have := (h4 q.toNat (by omega)).1
    rw [show ((q.toNat : Nat) : Int) = q from by omega] at this
    rw [this]; exact h8.2.2.1 q.toNat (by omega)
  · unfold ltm lta
    have b1 := h8.2.1 r (by omega)
    have b2 := h8.2.2.1 (a.1.2 0 (r : Int)).toNat (by omega)
    have b3 := h4 (a.1.2 0 (r : Int)).toNat (by omega)
    rw [show (((a.1.2 0 (r : Int)).toNat : Nat) : Int) = a.1.2 0 (r : Int) from by omega] at b3
    rw [if_pos (by omega), h5 r hr, b3.1]
    exact b3.2 _ (Int.emod_nonneg _ (by omega)) (by rw [b3.1]; exact Int.emod_lt_of_pos _ (by omega))
theorem MI_ring {st : St_} {a : AB_} (h : MI st a) {n b c d : Int} (hn : 1 ≤ n ∧ n ≤ 3) (hb : 0 ≤ b ∧ b ≤ 3) (hc : 2 ≤ n → 0 ≤ c ∧ c ≤ 3) (hd : 3 ≤ n → 0 ≤ d ∧ d ≤ 3) : MI (sG (sA (sA (sA (sG st 0 n) 2 0 b) 2 1 c) 2 2 d) 1 1) (aR a n b c d) := by
  have hA := aR_AI h.2.2.2.2.2.2.2 hn hb hc hd
  obtain ⟨h1, h2, h3, h4, h5, h6, h7, h8⟩ := h
  unfold aR at hA ⊢
  rw [sA3] at hA ⊢
  rw [sA3]
  refine MI_mk ?_ ?_ ?_ (fun p hp => ?_) (fun r hr => ?_) ?_ ?_ hA
  · simp only [sF_1, sG_s, sG_n _ _ (show 0 ≠ 1 by omega)]
  · simp only [sF_1, sG_2, sG_n _ _ (show 3 ≠ 1 by omega), sG_n _ _ (show 3 ≠ 0 by omega), sF_n _ _ (show 7 ≠ 2 by omega)]; exact h2
  · simp only [sF_1, sG_n _ _ (show 6 ≠ 1 by omega), sG_n _ _ (show 6 ≠ 0 by omega), sG_n _ _ (show 7 ≠ 1 by omega), sG_n _ _ (show 7 ≠ 0 by omega), sG_n _ _ (show 2 ≠ 0 by omega), sG_n _ _ (show 3 ≠ 0 by omega)]; exact h3
  · simp only [sF_1, sG_2, sG_n _ _ (show 4 + p ≠ 0 by omega), sF_n _ _ (show 1 ≠ 2 by omega), sF_n _ _ (show 0 ≠ 2 by omega), sF_n _ _ (show 1 + p ≠ 0 by omega)]; exact h4 p hp
  · simp only [sF_1, sG_s, sG_2, sF_s, sG_n _ _ (show 0 ≠ 1 by omega)] at hr ⊢
    rcases (show r = 0 ∨ r = 1 ∨ r = 2 by omega) with e | e | e <;> subst e
    · rw [show (((0 : Nat)) : Int) = 0 from rfl, zup_ne _ _ (by omega), zup_ne _ _ (by omega), zup_eq, zup_ne _ _ (by omega), zup_ne _ _ (by omega), zup_eq]
    · rw [show (((1 : Nat)) : Int) = 1 from rfl, zup_ne _ _ (by omega), zup_eq, zup_ne _ _ (by omega), zup_eq]
    · rw [show (((2 : Nat)) : Int) = 2 from rfl, zup_eq, zup_eq]
  · simp only [sF_1, sG_n _ _ (show 3 ≠ 1 by omega), sG_n _ _ (show 3 ≠ 0 by omega)]; exact h6
  · simp only [sG_s]
theorem sA4b (st : St_) (b w x y z : Int) : sA (sA (sA (sA st 0 b w) 0 (b + 1) x) 0 (b + 2) y) 0 (b + 3) z = sF st 0 (zup (zup (zup (zup (st.2 0) b w) (b + 1) x) (b + 2) y) (b + 3) z) := by
  refine Prod.ext (funext fun k => ?_) (funext fun q => ?_)
  · simp only [sA_1, sF_1]
  · by_cases hq : q = 0
    · subst hq; simp only [sA_s, sF_s]
    · rw [sA_n _ _ _ hq, sA_n _ _ _ hq, sA_n _ _ _ hq, sA_n _ _ _ hq, sF_n _ _ hq]
theorem z4b (f : Int → Int) (b w x y z : Int) : zup (zup (zup (zup f b w) (b + 1) x) (b + 2) y) (b + 3) z b = w ∧ zup (zup (zup (zup f b w) (b + 1) x) (b + 2) y) (b + 3) z (b + 1) = x ∧ zup (zup (zup (zup f b w) (b + 1) x) (b + 2) y) (b + 3) z (b + 2) = y ∧ zup (zup (zup (zup f b w) (b + 1) x) (b + 2) y) (b + 3) z (b + 3) = z ∧ ∀ j : Int, (j < b ∨ b + 3 < j) → zup (zup (zup (zup f b w) (b + 1) x) (b + 2) y) (b + 3) z j = f j := by
  refine ⟨?_, ?_, ?_, zup_eq _ _ _, fun j hj => ?_⟩
  · rw [zup_ne _ _ (by omega), zup_ne _ _ (by omega), zup_ne _ _ (by omega), zup_eq]
  · rw [zup_ne _ _ (by omega), zup_ne _ _ (by omega), zup_eq]
  · rw [zup_ne _ _ (by omega), zup_eq]
  · rw [zup_ne _ _ (by omega), zup_ne _ _ (by omega), zup_ne _ _ (by omega), zup_ne _ _ (by omega)]
theorem MI_alph {st : St_} {a : AB_} (h : MI st a) {q : Nat} (hq : q < 4) {n w x y z : Int} (ho : okA n w x y z) : MI (sG (sA (sA (sA (sA (sA st 0 (4 * (q : Int)) w) 0 (4 * (q : Int) + 1) x) 0 (4 * (q : Int) + 2) y) 0 (4 * (q : Int) + 3) z) 1 (q : Int) n) 1 1) (aA a q n w x y z) := by
  have hA := aA_AI h.2.2.2.2.2.2.2 (q := q) ho
  have hon : 2 ≤ n ∧ n ≤ 4 := ⟨ho.1, ho.2.1⟩
  obtain ⟨h1, h2, h3, h4, h5, h6, h7, h8⟩ := h
  unfold aA at hA ⊢
  rw [sA4] at hA ⊢
  rw [sA4b]
  obtain ⟨z1, z2, z3, z4, z5⟩ := z4b (st.2 0) (4 * (q : Int)) w x y z
  refine MI_mk ?_ ?_ ?_ (fun p hp => ?_) (fun r hr => ?_) ?_ ?_ hA
  · simp only [sF_1, sA_1, sG_n _ _ (show 0 ≠ 1 by omega), sG_n _ _ (show 0 ≠ 4 + q by omega)]; exact h1
  · simp only [sF_1, sA_1, sG_2, sG_n _ _ (show 3 ≠ 1 by omega), sA_n _ _ _ (show 7 ≠ 1 by omega), sF_n _ _ (show 7 ≠ 0 by omega)]; exact h2
  · simp only [sF_1, sA_1, sG_n _ _ (show 6 ≠ 1 by omega), sG_n _ _ (show 7 ≠ 1 by omega), sG_n _ _ (show 2 ≠ 4 + q by omega), sG_n _ _ (show 3 ≠ 4 + q by omega)]; exact h3
  · by_cases e : p = q
    · subst e
      simp only [sF_1, sG_2, sG_s, sA_s, sF_s, sA_n _ _ _ (show 0 ≠ 1 by omega), sF_n _ _ (show 1 ≠ 0 by omega), zup_eq]
      refine ⟨trivial, fun j j0 j1 => ?_⟩
      rcases (show j = 0 ∨ j = 1 ∨ j = 2 ∨ j = 3 by omega) with e | e | e | e <;> subst e
      · rw [z4_0, Int.add_zero]; exact z1
      · rw [z4_1]; exact z2
      · rw [z4_2]; exact z3
      · rw [z4_3]; exact z4
    · simp only [sF_1, sG_2, sA_s, sF_s, sA_n _ _ _ (show 0 ≠ 1 by omega), sF_n _ _ (show 1 ≠ 0 by omega), sF_n _ _ (show 1 + p ≠ 1 + q by omega), sG_n _ _ (show 4 + p ≠ 4 + q by omega), zup_ne _ _ (show (p : Int) ≠ (q : Int) by omega)]
      have h9 := h4 p hp
      have h10 := h8.2.2.1 p hp
      refine ⟨h9.1, fun j j0 j1 => ?_⟩
      rw [z5 _ (by omega)]
      exact h9.2 j j0 j1
  · simp only [sF_1, sA_1, sG_2, sA_n _ _ _ (show 2 ≠ 1 by omega), sF_n _ _ (show 2 ≠ 0 by omega), sF_n _ _ (show 0 ≠ 1 + q by omega), sG_n _ _ (show 0 ≠ 1 by omega)] at hr ⊢; exact h5 r hr
  · simp only [sF_1, sA_1, sG_n _ _ (show 3 ≠ 1 by omega)]; exact h6
  · simp only [sG_s]
