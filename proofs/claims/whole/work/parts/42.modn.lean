/-! the tries: a count more; sorted keys; words that may stand, counted -/
theorem AI_M {a : AB_} (h8 : AI a) (hm : a.1.1 2 < 10) : AI (aM a) := by
  obtain ⟨b1, b2, b3, b4, b5, b6, b7⟩ := h8
  unfold aM
  refine ⟨by simp only [sG_n _ _ (show 0 ≠ 2 by omega)]; exact b1, fun r hr => ?_, fun q hq => by simp only [sG_n _ _ (show 4 + q ≠ 2 by omega)]; exact b3 q hq, fun q hq j h0 h9 => ?_, b5, by simp only [sG_s]; omega, by simp only [sG_n _ _ (show 3 ≠ 2 by omega)]; exact b7⟩
  · simp only [sG_n _ _ (show 0 ≠ 2 by omega), sG_2] at hr ⊢; exact b2 r hr
  · simp only [sG_n _ _ (show 4 + q ≠ 2 by omega), sG_2] at h9 ⊢; exact b4 q hq j h0 h9
theorem AI_U {a : AB_} (h8 : AI a) (hm : a.1.1 3 < 40) : AI (aU a) := by
  obtain ⟨b1, b2, b3, b4, b5, b6, b7⟩ := h8
  unfold aU
  refine ⟨by simp only [sG_n _ _ (show 0 ≠ 3 by omega)]; exact b1, fun r hr => ?_, fun q hq => by simp only [sG_n _ _ (show 4 + q ≠ 3 by omega)]; exact b3 q hq, fun q hq j h0 h9 => ?_, b5, by simp only [sG_n _ _ (show 2 ≠ 3 by omega)]; exact b6, by simp only [sG_s]; omega⟩
  · simp only [sG_n _ _ (show 0 ≠ 3 by omega), sG_2] at hr ⊢; exact b2 r hr
  · simp only [sG_n _ _ (show 4 + q ≠ 3 by omega), sG_2] at h9 ⊢; exact b4 q hq j h0 h9
theorem MI_M {st : St_} {a : AB_} (h : MI st a) (hm : a.1.1 2 < 10) : MI (sG st 6 (st.1 6 + 1)) (aM a) := by
  obtain ⟨h1, h2, h3, h4, h5, h6, h7, h8⟩ := h
  refine ⟨by show (sG st 6 _).1 0 = (sG a.1 2 _).1 0; rw [sG_n _ _ (by omega), sG_n _ _ (by omega)]; exact h1, by show wl (st.2 7) ((sG st 6 _).1 3) = a.2; rw [sG_n _ _ (by omega)]; exact h2, ⟨by show (sG st 6 _).1 6 = (sG a.1 2 _).1 2; rw [sG_s, sG_s, h3.1], by show (sG st 6 _).1 7 = (sG a.1 2 _).1 3; rw [sG_n _ _ (by omega), sG_n _ _ (by omega)]; exact h3.2⟩, fun q hq => ?_, fun r hr => ?_, by rw [sG_n _ _ (by omega)]; exact h6, by rw [lta_M]; exact MH_same (st := st) (fun j hj => by rw [sG_n _ _ (by omega)]) (fun q hq => rfl) h7, AI_M h8 hm⟩
  · show st.2 1 (q : Int) = (sG a.1 2 _).1 (4 + q) ∧ _
    rw [sG_n _ _ (by omega)]; exact h4 q hq
  · rw [sG_n _ _ (by omega)] at hr; exact h5 r hr
theorem MI_U {st : St_} {a : AB_} (h : MI st a) (hm : a.1.1 3 < 40) : MI (sG st 7 (st.1 7 + 1)) (aU a) := by
  obtain ⟨h1, h2, h3, h4, h5, h6, h7, h8⟩ := h
  refine ⟨by show (sG st 7 _).1 0 = (sG a.1 3 _).1 0; rw [sG_n _ _ (by omega), sG_n _ _ (by omega)]; exact h1, by show wl (st.2 7) ((sG st 7 _).1 3) = a.2; rw [sG_n _ _ (by omega)]; exact h2, ⟨by show (sG st 7 _).1 6 = (sG a.1 3 _).1 2; rw [sG_n _ _ (by omega), sG_n _ _ (by omega)]; exact h3.1, by show (sG st 7 _).1 7 = (sG a.1 3 _).1 3; rw [sG_s, sG_s, h3.2]⟩, fun q hq => ?_, fun r hr => ?_, by rw [sG_n _ _ (by omega)]; exact h6, by rw [lta_U]; exact MH_same (st := st) (fun j hj => by rw [sG_n _ _ (by omega)]) (fun q hq => rfl) h7, AI_U h8 hm⟩
  · show st.2 1 (q : Int) = (sG a.1 3 _).1 (4 + q) ∧ _
    rw [sG_n _ _ (by omega)]; exact h4 q hq
  · rw [sG_n _ _ (by omega)] at hr; exact h5 r hr
/-- c keys in order, those of P -/
def KS (ky : Int → Int) (c : Int) (P : Int → Prop) : Prop := (∀ i j : Int, 0 ≤ i → i < j → j < c → ky i < ky j) ∧ (∀ i : Int, 0 ≤ i → i < c → P (ky i)) ∧ ∀ x : Int, P x → ∃ i : Int, 0 ≤ i ∧ i < c ∧ ky i = x
theorem KS_0 (ky : Int → Int) : KS ky 0 (fun _ => False) := ⟨fun i j h0 h1 h2 => absurd h2 (by omega), fun i h0 h1 => absurd h1 (by omega), fun x h => h.elim⟩
theorem KS_iff {ky : Int → Int} {c : Int} {P P2 : Int → Prop} (h : KS ky c P) (e : ∀ x, P x ↔ P2 x) : KS ky c P2 := ⟨h.1, fun i a b => (e _).mp (h.2.1 i a b), fun x hx => h.2.2 x ((e x).mpr hx)⟩
theorem KS_not {ky : Int → Int} {c lo x : Int} {P : Int → Prop} (h : KS ky c P) (hl : ∀ i : Int, 0 ≤ i → i < lo → ky i < x) (hh : ∀ i : Int, lo ≤ i → i < c → x < ky i) : ¬ P x := by
  intro hp
  obtain ⟨i, a, b, e⟩ := h.2.2 x hp
  rcases Int.lt_or_le i lo with q | q
  · have := hl i a q; omega
  · have := hh i q b; omega
theorem KS_put {ky g : Int → Int} {c lo x : Int} {P : Int → Prop} (h : KS ky c P) (h0 : 0 ≤ lo) (h1 : lo ≤ c) (hl : ∀ i : Int, 0 ≤ i → i < lo → ky i < x) (hh : ∀ i : Int, lo ≤ i → i < c → x < ky i) (g1 : ∀ j : Int, 0 ≤ j → j < lo → g j = ky j) (g2 : g lo = x) (g3 : ∀ j : Int, lo < j → j ≤ c → g j = ky (j - 1)) : KS g (c + 1) (fun y => P y ∨ y = x) := by
  refine ⟨fun i j i0 ij jc => ?_, fun i i0 ic => ?_, fun y hy => ?_⟩
  · rcases Int.lt_trichotomy i lo with a | a | a
    · rw [g1 i i0 a]
      rcases Int.lt_trichotomy j lo with b | b | b
      · rw [g1 j (by omega) b]; exact h.1 i j i0 ij (by omega)
      · rw [b, g2]; exact hl i i0 a
      · rw [g3 j b (by omega)]; exact h.1 i (j - 1) i0 (by omega) (by omega)
    · rw [a, g2, g3 j (by omega) (by omega)]; exact hh (j - 1) (by omega) (by omega)
    · rw [g3 i a (by omega), g3 j (by omega) (by omega)]; exact h.1 (i - 1) (j - 1) (by omega) (by omega) (by omega)
  · rcases Int.lt_trichotomy i lo with a | a | a
    · rw [g1 i i0 a]; exact Or.inl (h.2.1 i i0 (by omega))
    · rw [a, g2]; exact Or.inr rfl
    · rw [g3 i a (by omega)]; exact Or.inl (h.2.1 (i - 1) (by omega) (by omega))
  · rcases hy with hy | hy
    · obtain ⟨i, i0, ic, e⟩ := h.2.2 y hy
      rcases Int.lt_or_le i lo with a | a
      · exact ⟨i, i0, by omega, by rw [g1 i i0 a]; exact e⟩
      · exact ⟨i + 1, by omega, by omega, by rw [g3 (i + 1) (by omega) (by omega), show i + 1 - 1 = i from by omega]; exact e⟩
    · exact ⟨lo, h0, by omega, by rw [g2, hy]⟩
/-- the keys of the stretches that begin ahead of p -/
def EK (f : Int → Int) (m p : Int) : Int → Prop := fun x => ∃ q : Int, 0 ≤ q ∧ q < p ∧ enc 7 f q m = x
theorem EK_0 (f : Int → Int) (m x : Int) : False ↔ EK f m 0 x := ⟨fun h => h.elim, fun ⟨q, a, b, _⟩ => absurd b (by omega)⟩
theorem EK_s (f : Int → Int) (m : Int) {p : Int} (hp : 0 ≤ p) (x : Int) : (EK f m p x ∨ x = enc 7 f p m) ↔ EK f m (p + 1) x := by
  constructor
  · rintro (⟨q, a, b, c⟩ | h)
    · exact ⟨q, a, by omega, c⟩
    · exact ⟨p, hp, by omega, h.symm⟩
  · rintro ⟨q, a, b, c⟩
    by_cases h : q = p
    · rw [h] at c; exact Or.inr c.symm
    · exact Or.inl ⟨q, a, by omega, c⟩
theorem EK_o (f : Int → Int) (m : Int) {p : Int} (hp : 0 ≤ p) (h : EK f m p (enc 7 f p m)) (x : Int) : EK f m p x ↔ EK f m (p + 1) x := by
  rw [← EK_s f m hp x]
  exact ⟨Or.inl, fun z => z.elim id (fun y => by rw [y]; exact h)⟩
theorem frsh_iff {f : Int → Int} {m p : Int} (hm : 0 ≤ m) (hp : 0 ≤ p) (hb : ∀ j : Int, 0 ≤ j → 1 ≤ f j ∧ f j ≤ 6) : frsh f m p ↔ ¬ EK f m p (enc 7 f p m) := by
  constructor
  · rintro h ⟨q, a, b, c⟩
    exact h q a b ((enc_alk (Or.inr rfl) hm (fun t t0 _ => hb _ (by omega)) (fun t t0 _ => hb _ (by omega))).mp c)
  · intro h q a b c
    exact h ⟨q, a, b, (enc_alk (Or.inr rfl) hm (fun t t0 _ => hb _ (by omega)) (fun t t0 _ => hb _ (by omega))).mpr c⟩
theorem unl_new {f : Int → Int} {m p : Int} (hm : 0 ≤ m) (hp : 0 ≤ p) (hb : ∀ j : Int, 0 ≤ j → 1 ≤ f j ∧ f j ≤ 6) (h : ¬ EK f m p (enc 7 f p m)) : unl f m (p + 1) = unl f m p + 1 := by
  rw [unl_s f m hp, ind_t ((frsh_iff hm hp hb).mpr h)]
theorem unl_old {f : Int → Int} {m p : Int} (hm : 0 ≤ m) (hp : 0 ≤ p) (hb : ∀ j : Int, 0 ≤ j → 1 ≤ f j ∧ f j ≤ 6) (h : EK f m p (enc 7 f p m)) : unl f m (p + 1) = unl f m p := by
  rw [unl_s f m hp, ind_f (fun z => (frsh_iff hm hp hb).mp z h), Int.add_zero]
theorem enc_bd {f : Int → Int} {p j : Int} (hj : 0 ≤ j ∧ j ≤ 20) (hp : 0 ≤ p) (hb : ∀ j : Int, 0 ≤ j → 1 ≤ f j ∧ f j ≤ 6) : 0 ≤ enc 7 f p j ∧ enc 7 f p j ≤ 1152921504606846976 := by
  have h1 := encP_b (b := 7) (Or.inr rfl) (f := f) (p := p) j.toNat (fun t t0 _ => hb _ (by omega))
  have h2 := pw_7 j.toNat (by omega)
  unfold enc
  omega
theorem EK_bd {f : Int → Int} {m p x : Int} (hm : 0 ≤ m ∧ m ≤ 20) (hb : ∀ j : Int, 0 ≤ j → 1 ≤ f j ∧ f j ≤ 6) (h : EK f m p x) : 0 ≤ x ∧ x ≤ 1152921504606846976 := by
  obtain ⟨q, a, _, c⟩ := h
  rw [← c]; exact enc_bd hm a hb
/-! words that may stand: what begins one that may, may -/
theorem dropE_pre (g : Int) : ∀ l : List Int, ∃ u, l = dropE g l ++ u := by
  intro l
  induction l with
  | nil => exact ⟨[], rfl⟩
  | cons a t ih =>
    cases t with
    | nil =>
      by_cases h : a < g
      · exact ⟨[a], by simp only [dropE]; rw [if_pos h]; rfl⟩
      · exact ⟨[], by simp only [dropE]; rw [if_neg h]; rfl⟩
    | cons b t =>
      obtain ⟨u, hu⟩ := ih
      refine ⟨u, ?_⟩
      show a :: b :: t = a :: dropE g (b :: t) ++ u
      rw [List.cons_append, ← hu]
theorem lf_app (w : List Int) (x : Int) : lf (w ++ [x]) (w.length : Int) = x ∧ ∀ j : Int, 0 ≤ j → j < w.length → lf (w ++ [x]) j = lf w j := by
  constructor
  · show (w ++ [x]).getD ((w.length : Int)).toNat 0 = x
    rw [show ((w.length : Int)).toNat = w.length from by omega, List.getD_eq_getElem?_getD, List.getElem?_append_right (Nat.le_refl _), Nat.sub_self]
    rfl
  · intro j h0 h1
    show (w ++ [x]).getD j.toNat 0 = w.getD j.toNat 0
    rw [List.getD_eq_getElem?_getD, List.getD_eq_getElem?_getD, List.getElem?_append_left (by omega)]
def lst (w : List Int) : Int := lf w ((w.length : Int) - 1)
theorem app_len (w : List Int) (x : Int) : (w ++ [x]).length = w.length + 1 := by simp
theorem app_ne (w : List Int) (x : Int) : w ++ [x] ≠ [] := by simp
theorem ne_len {w : List Int} (h : w ≠ []) : 0 < w.length := List.length_pos_iff.mpr h
theorem RLw_new {w : List Int} {x : Int} (h : w = [] ∨ x ≠ lst w) : RLw (w ++ [x]) = RLw w ++ [1] := by
  have e := runsP_new (f := lf (w ++ [x])) (n := w.length) (by
    by_cases hw : w.length = 0
    · exact Or.inl hw
    · refine Or.inr ?_
      rw [(lf_app w x).1, (lf_app w x).2 _ (by omega) (by omega)]
      rcases h with e | e
      · exact absurd (by rw [e]; rfl) hw
      · exact e)
  unfold RLw
  rw [app_len, e, runsP_congr w.length (fun j j0 j1 => (lf_app w x).2 j j0 j1)]
theorem RLw_old {w : List Int} {x : Int} (hw : w ≠ []) (h : x = lst w) : RLw (w ++ [x]) = incL (RLw w) := by
  have hl := ne_len hw
  have e := runsP_old (f := lf (w ++ [x])) (n := w.length) (by
    rintro (z | z)
    · omega
    · rw [(lf_app w x).1, (lf_app w x).2 _ (by omega) (by omega)] at z
      exact z h)
  unfold RLw
  rw [app_len, e, runsP_congr w.length (fun j j0 j1 => (lf_app w x).2 j j0 j1)]
theorem RLw_ne {w : List Int} (h : w ≠ []) : ∃ q k, RLw w = q ++ [k] := (runsP_facts (lf w) w.length).2.2 (ne_len h)
theorem bad_pre {g : Int} {w : List Int} {x : Int} (hw : w ≠ []) (h : badW g (w ++ [x]) = false) : badW g w = false := by
  cases hb : badW g w with
  | false => rfl
  | true =>
    exfalso
    have : badW g (w ++ [x]) = true := by
      rw [badW_iff] at hb ⊢
      rcases hb with ⟨y, y1, y2⟩ | ⟨y, y1, y2⟩
      · exact Or.inl ⟨y, List.mem_append_left _ y1, y2⟩
      · by_cases e : x = lst w
        · obtain ⟨q, k, hq⟩ := RLw_ne hw
          rw [RLw_old hw e, hq, incL_app]
          rw [hq] at y1
          rcases List.mem_append.mp y1 with z | z
          · exact Or.inr ⟨y, List.mem_append_left _ z, y2⟩
          · exact Or.inr ⟨k + 1, List.mem_append_right _ (List.mem_singleton.mpr rfl), by have := List.mem_singleton.mp z; omega⟩
        · rw [RLw_new (Or.inr e)]
          exact Or.inr ⟨y, List.mem_append_left _ y1, y2⟩
    rw [h] at this; cases this
theorem sh_pre {g : Int} {w : List Int} {x : Int} (hg : 2 ≤ g) (hw : w ≠ []) (hb : badW g (w ++ [x]) = false) : ∃ u, sh g (RLw (w ++ [x])) = sh g (RLw w) ++ u := by
  obtain ⟨q, k, hq⟩ := RLw_ne hw
  by_cases e : x = lst w
  · rw [RLw_old hw e, hq, incL_app]
    have hk : k + 1 ≤ g := by
      apply Classical.byContradiction
      intro h
      have := (badW_iff g (w ++ [x])).mpr (Or.inr ⟨k + 1, by rw [RLw_old hw e, hq, incL_app]; exact List.mem_append_right _ (List.mem_singleton.mpr rfl), by omega⟩)
      rw [hb] at this; cases this
    unfold sh
    by_cases hqn : q = []
    · subst hqn
      refine ⟨dropE g (dropF g ([] ++ [k + 1])), ?_⟩
      have : dropF g ([] ++ [k]) = [] := if_pos (show k < g by omega)
      rw [this]
      exact (List.nil_append _).symm
    · rw [dropF_app _ _ _ hqn, dropF_app _ _ _ hqn, dropE_app, dropE_app, if_pos (show k < g by omega)]
      by_cases h2 : k + 1 < g
      · rw [if_pos h2]; exact ⟨[], (List.append_nil _).symm⟩
      · rw [if_neg h2]; exact ⟨[k + 1], rfl⟩
  · rw [RLw_new (Or.inr e)]
    unfold sh
    rw [dropF_app _ _ _ (by rw [hq]; exact app_ne q k), dropE_app, if_pos (by omega)]
    exact dropE_pre g _
theorem ok_pre {g : Int} (hg : 2 ≤ g) : ∀ (n : Nat) (u w : List Int), (w ++ u).length ≤ n → dpt g (w ++ u) ≠ -1 → dpt g w ≠ -1 := by
  intro n
  induction n with
  | zero =>
    intro u w hl h
    have : w = [] := List.length_eq_zero_iff.mp (by rw [List.length_append] at hl; omega)
    rw [this, dpt_0]; decide
  | succ n ih =>
    have one : ∀ (w : List Int) (x : Int), (w ++ [x]).length ≤ n + 1 → dpt g (w ++ [x]) ≠ -1 → dpt g w ≠ -1 := by
      intro w x hl h
      by_cases hw : w = []
      · rw [hw, dpt_0]; decide
      · have hne := app_ne w x
        have hb : badW g (w ++ [x]) = false := by
          cases hbb : badW g (w ++ [x]) with
          | false => rfl
          | true => exact absurd (dpt_bad hne hbb) h
        rw [dpt_s hg hne hb] at h
        have h1 : dpt g (sh g (RLw (w ++ [x]))) ≠ -1 := fun z => h (if_pos z)
        obtain ⟨u, hu⟩ := sh_pre hg hw hb
        have h2 := sh_less hg (w ++ [x]) hne
        rw [hu] at h1 h2
        have h3 := ih u (sh g (RLw w)) (by omega) h1
        have h4 := dpt_ge g (sh g (RLw w))
        rw [dpt_s hg hw (bad_pre hw hb), if_neg h3]
        omega
    intro u
    induction u with
    | nil => intro w hl h; rw [List.append_nil] at h; exact h
    | cons x u iu =>
      intro w hl h
      have e : w ++ x :: u = (w ++ [x]) ++ u := by simp
      rw [e] at hl h
      exact one w x (by rw [List.length_append] at hl; omega) (iu (w ++ [x]) hl h)
/-- how many words with n letters more than w may stand -/
def EX (g : Int) : Nat → List Int → Int
  | 0, w => if dpt g w = -1 then 0 else 1
  | n + 1, w => EX g n (w ++ [1]) + EX g n (w ++ [2]) + if 3 ≤ g then EX g n (w ++ [3]) else 0
theorem EX_0 (g : Int) (w : List Int) : EX g 0 w = if dpt g w = -1 then 0 else 1 := rfl
theorem EX_n (g : Int) (n : Nat) (w : List Int) : EX g (n + 1) w = EX g n (w ++ [1]) + EX g n (w ++ [2]) + if 3 ≤ g then EX g n (w ++ [3]) else 0 := rfl
theorem EX_bad {g : Int} (hg : 2 ≤ g) : ∀ (n : Nat) (w : List Int), dpt g w = -1 → EX g n w = 0 := by
  intro n
  induction n with
  | zero => intro w h; exact if_pos h
  | succ n ih =>
    intro w h
    have hv : ∀ v : Int, dpt g (w ++ [v]) = -1 := fun v => Classical.byContradiction (fun z => ok_pre hg _ [v] w (Nat.le_refl _) z h)
    rw [EX_n, ih _ (hv 1), ih _ (hv 2), ih _ (hv 3)]
    split <;> rfl
def lts (g : Int) (w : List Int) : Prop := ∀ x ∈ w, 1 ≤ x ∧ x ≤ g
theorem lts_app {g : Int} {w : List Int} {x : Int} (h : lts g w) (hx : 1 ≤ x ∧ x ≤ g) : lts g (w ++ [x]) := by
  intro y hy
  rcases List.mem_append.mp hy with z | z
  · exact h y z
  · rw [List.mem_singleton.mp z]; exact hx
theorem dpt_same {g : Int} {w w2 : List Int} (hg : 2 ≤ g) (hw : w ≠ []) (e : RLw w = RLw w2) (h1 : lts g w) (h2 : lts g w2) : dpt g w = dpt g w2 := by
  have l1 := (RLw_facts w).2
  have l2 := (RLw_facts w2).2
  rw [e] at l1
  have hl := ne_len hw
  have hw2 : w2 ≠ [] := fun z => by rw [z] at l1 l2; rw [l2] at l1; simp only [List.length_nil] at l1; omega
  have hb : badW g w = true ↔ badW g w2 = true := by
    rw [badW_iff, badW_iff, e]
    constructor
    · rintro (⟨x, a, b⟩ | z)
      · have := h1 x a; omega
      · exact Or.inr z
    · rintro (⟨x, a, b⟩ | z)
      · have := h2 x a; omega
      · exact Or.inr z
  cases hb1 : badW g w with
  | true => rw [dpt_bad hw hb1, dpt_bad hw2 (hb.mp hb1)]
  | false =>
    have hb2 : badW g w2 = false := by
      cases hz : badW g w2 with
      | false => rfl
      | true => rw [hb.mpr hz] at hb1; cases hb1
    rw [dpt_s hg hw hb1, dpt_s hg hw2 hb2, e]
def ot (a : Int) : Int := if a = 1 then 2 else 1
theorem ot_b {g a : Int} (hg : 2 ≤ g) : (1 ≤ ot a ∧ ot a ≤ g) ∧ ot a ≠ a := by unfold ot; split <;> omega
theorem lst_b {g : Int} {w : List Int} (hw : w ≠ []) (h : lts g w) : 1 ≤ lst w ∧ lst w ≤ g := by
  have hl := ne_len hw
  refine h _ ?_
  show w.getD ((w.length : Int) - 1).toNat 0 ∈ w
  rw [List.getD_eq_getElem?_getD, List.getElem?_eq_getElem (by omega)]
  exact List.getElem_mem _
def EXS (g : Int) (n : Nat) : Prop := ∀ w w2 : List Int, w ≠ [] → w2 ≠ [] → RLw w = RLw w2 → lts g w → lts g w2 → EX g n w = EX g n w2
theorem EX_sum0 {g : Int} (hg : g = 2 ∨ g = 3) {n : Nat} (ih : EXS g n) {w : List Int} (hw : w ≠ []) (hl : lts g w) : EX g (n + 1) w = EX g n (w ++ [lst w]) + (g - 1) * EX g n (w ++ [ot (lst w)]) := by
  have ha := lst_b hw hl
  have hN : ∀ v : Int, 1 ≤ v → v ≤ g → v ≠ lst w → EX g n (w ++ [v]) = EX g n (w ++ [ot (lst w)]) := by
    intro v v1 v2 v3
    have ho := ot_b (g := g) (a := lst w) (by omega)
    refine ih _ _ (app_ne _ _) (app_ne _ _) ?_ (lts_app hl ⟨v1, v2⟩) (lts_app hl ho.1)
    rw [RLw_new (Or.inr v3), RLw_new (Or.inr ho.2)]
  rw [EX_n]
  generalize EX g n (w ++ [ot (lst w)]) = N at hN ⊢
  generalize lst w = a at ha hN ⊢
  rcases hg with e | e <;> subst e
  · rw [if_neg (by omega)]
    rcases (show a = 1 ∨ a = 2 by omega) with e | e <;> subst e
    · rw [hN 2 (by omega) (by omega) (by omega)]; omega
    · rw [hN 1 (by omega) (by omega) (by omega)]; omega
  · rw [if_pos (by omega)]
    rcases (show a = 1 ∨ a = 2 ∨ a = 3 by omega) with e | e | e <;> subst e
    · rw [hN 2 (by omega) (by omega) (by omega), hN 3 (by omega) (by omega) (by omega)]; omega
    · rw [hN 1 (by omega) (by omega) (by omega), hN 3 (by omega) (by omega) (by omega)]; omega
    · rw [hN 1 (by omega) (by omega) (by omega), hN 2 (by omega) (by omega) (by omega)]; omega
theorem EX_same {g : Int} (hg : g = 2 ∨ g = 3) : ∀ n : Nat, EXS g n := by
  intro n
  induction n with
  | zero =>
    intro w w2 h1 h2 e l1 l2
    rw [EX_0, EX_0, dpt_same (by omega) h1 e l1 l2]
  | succ n ih =>
    intro w w2 h1 h2 e l1 l2
    have o1 := ot_b (g := g) (a := lst w) (by omega)
    have o2 := ot_b (g := g) (a := lst w2) (by omega)
    rw [EX_sum0 hg ih h1 l1, EX_sum0 hg ih h2 l2, ih (w ++ [lst w]) (w2 ++ [lst w2]) (app_ne _ _) (app_ne _ _) (by rw [RLw_old h1 rfl, RLw_old h2 rfl, e]) (lts_app l1 (lst_b h1 l1)) (lts_app l2 (lst_b h2 l2)),
      ih (w ++ [ot (lst w)]) (w2 ++ [ot (lst w2)]) (app_ne _ _) (app_ne _ _) (by rw [RLw_new (Or.inr o1.2), RLw_new (Or.inr o2.2), e]) (lts_app l1 o1.1) (lts_app l2 o2.1)]
/-- a step of the counting by runs -/
theorem ST_s {g : Int} (hg : g = 2 ∨ g = 3) {n : Nat} {w q : List Int} {lr al : Int} (hw : w ≠ []) (hl : lts g w) (hr : RLw w = q ++ [lr]) : al * EX g (n + 1) w = (if lr < g then al * EX g n (w ++ [lst w]) else 0) + (al * (g - 1)) * EX g n (w ++ [ot (lst w)]) := by
  rw [EX_sum0 hg (EX_same hg n) hw hl, Int.mul_add, Int.mul_assoc]
  by_cases h : lr < g
  · rw [if_pos h]
  · rw [if_neg h, EX_bad (by omega) n (w ++ [lst w]) (dpt_bad (app_ne _ _) ((badW_iff _ _).mpr (Or.inr ⟨lr + 1, by rw [RLw_old hw rfl, hr, incL_app]; exact List.mem_append_right _ (List.mem_singleton.mpr rfl), by omega⟩))), Int.mul_zero]
theorem ST_e {g : Int} (hg : g = 2 ∨ g = 3) {n : Nat} {al : Int} : al * EX g (n + 1) [] = (al * g) * EX g n [1] := by
  have h : ∀ v : Int, 1 ≤ v → v ≤ g → EX g n ([] ++ [v]) = EX g n [1] := by
    intro v v1 v2
    refine EX_same hg n _ _ (app_ne _ _) (List.cons_ne_nil _ _) ?_ ?_ ?_
    · have e1 := RLw_new (w := []) (x := v) (Or.inl rfl)
      have e2 := RLw_new (w := []) (x := 1) (Or.inl rfl)
      rw [e1]; exact e2.symm
    · intro x hx; rw [List.mem_singleton.mp hx]; exact ⟨v1, v2⟩
    · intro x hx; rw [List.mem_singleton.mp hx]; omega
  rw [Int.mul_assoc]
  congr 1
  rw [EX_n, h 1 (by omega) (by omega), h 2 (by omega) (by omega)]
  generalize EX g n [1] = N at h ⊢
  rcases hg with e | e <;> subst e
  · rw [if_neg (by omega)]; omega
  · rw [if_pos (by omega), h 3 (by omega) (by omega)]; omega
/-! the trials one behind another -/
def lv3 (g : Int) (d : Nat) (w : List Int) (v : Int) : Int := (if v < 1 then EX g d (w ++ [1]) else 0) + (if v < 2 then EX g d (w ++ [2]) else 0) + (if v < 3 ∧ 3 ≤ g then EX g d (w ++ [3]) else 0)
theorem lv3_0 (g : Int) (d : Nat) (w : List Int) : lv3 g d w 0 = EX g (d + 1) w := by
  unfold lv3
  rw [EX_n, if_pos (by omega), if_pos (by omega)]
  by_cases h : 3 ≤ g
  · rw [if_pos ⟨by omega, h⟩, if_pos h]
  · rw [if_neg (fun z => h z.2), if_neg h]
theorem lv3_g {g : Int} (hg : g = 2 ∨ g = 3) (d : Nat) (w : List Int) : lv3 g d w g = 0 := by
  unfold lv3
  rcases hg with e | e <;> subst e <;> rfl
theorem lv3_s {g v : Int} (hg : g = 2 ∨ g = 3) (d : Nat) (w : List Int) (h0 : 0 ≤ v) (h1 : v < g) : lv3 g d w v = EX g d (w ++ [v + 1]) + lv3 g d w (v + 1) := by
  unfold lv3
  rcases (show v = 0 ∨ v = 1 ∨ v = 2 by omega) with e | e | e <;> subst e
  · rw [show (0 : Int) + 1 = 1 from rfl, if_pos (by omega), if_neg (show ¬ (1 : Int) < 1 by omega), if_pos (show (0 : Int) < 2 by omega), if_pos (show (1 : Int) < 2 by omega)]
    by_cases h : 3 ≤ g
    · rw [if_pos ⟨by omega, h⟩, if_pos ⟨by omega, h⟩]; omega
    · rw [if_neg (fun z => h z.2), if_neg (fun z => h z.2)]; omega
  · rw [show (1 : Int) + 1 = 2 from rfl, if_neg (by omega), if_neg (show ¬ (2 : Int) < 1 by omega), if_pos (show (1 : Int) < 2 by omega), if_neg (show ¬ (2 : Int) < 2 by omega)]
    by_cases h : 3 ≤ g
    · rw [if_pos ⟨by omega, h⟩, if_pos ⟨by omega, h⟩]; omega
    · rw [if_neg (fun z => h z.2), if_neg (fun z => h z.2)]; omega
  · have h : g = 3 := by omega
    subst h
    rw [show (2 : Int) + 1 = 3 from rfl, if_neg (by omega), if_neg (show ¬ (3 : Int) < 1 by omega), if_neg (show ¬ (2 : Int) < 2 by omega), if_neg (show ¬ (3 : Int) < 2 by omega), if_pos (by omega), if_neg (by omega)]
    omega
/-- what is left to count, and a measure that falls -/
def RQ (g n : Int) (f : Int → Int) (k : Int) : Int := isum (fun i => lv3 g (n - 1 - i).toNat (wl f i) (f i)) k
def MU (g n : Int) (f : Int → Int) (k : Int) : Int := isum (fun i => (g + 1 - f i) * pw 5 (n - i).toNat) k
theorem RQ_s (g n : Int) (f : Int → Int) {k : Int} (h : 0 ≤ k) : RQ g n f (k + 1) = RQ g n f k + lv3 g (n - 1 - k).toNat (wl f k) (f k) := isum_s _ h
theorem MU_s (g n : Int) (f : Int → Int) {k : Int} (h : 0 ≤ k) : MU g n f (k + 1) = MU g n f k + (g + 1 - f k) * pw 5 (n - k).toNat := isum_s _ h
theorem RQ_zup (g n : Int) (f : Int → Int) {k z : Int} (v : Int) (h : k ≤ z) : RQ g n (zup f z v) k = RQ g n f k :=
  isum_congr (fun i i0 i1 => by rw [wl_zup f v (by omega), zup_ne f v (by omega)])
theorem MU_zup (g n : Int) (f : Int → Int) {k z : Int} (v : Int) (h : k ≤ z) : MU g n (zup f z v) k = MU g n f k :=
  isum_congr (fun i i0 i1 => by rw [zup_ne f v (by omega)])
theorem pw5_pos : ∀ n : Nat, 1 ≤ pw 5 n := by
  intro n
  induction n with
  | zero => exact Int.le_refl 1
  | succ n ih => show 1 ≤ pw 5 n * 5; omega
theorem MU_nn {g n : Int} {f : Int → Int} {k : Int} (h : ∀ i : Int, 0 ≤ i → i < k → f i ≤ g) (hk : 0 ≤ k) : 0 ≤ MU g n f k := by
  obtain ⟨m, rfl⟩ := Int.eq_ofNat_of_zero_le hk
  induction m with
  | zero => exact Int.le_refl 0
  | succ m ih =>
    have e := ih (fun i i0 i1 => h i i0 (by omega)) (by omega)
    have b := h m (by omega) (by omega)
    have p := pw5_pos (n - (m : Int)).toNat
    have := Int.mul_le_mul_of_nonneg_left (show (0 : Int) ≤ pw 5 (n - (m : Int)).toNat by omega) (show 0 ≤ g + 1 - f m by omega)
    rw [show (((m + 1 : Nat)) : Int) = (m : Int) + 1 from by omega, MU_s _ _ _ (by omega)]
    rw [Int.mul_zero] at this
    omega
theorem mul_s1 (a b : Int) : (a + 1 - (b + 1)) * (1 : Int) = a - b := by omega
/-- one trial further: the counts, the measure -/
theorem mu_in {g n : Int} {f : Int → Int} {k : Int} (hk : 0 ≤ k) (hf : ∀ i : Int, 0 ≤ i → i < k → f i ≤ g) (h1 : f k ≤ g) : MU g n (zup f k (f k + 1)) (k + 1) = MU g n f (k + 1) - pw 5 (n - k).toNat ∧ MU g n f k < MU g n f (k + 1) ∧ 0 < MU g n f (k + 1) := by
  have e1 := MU_s g n f hk
  have e2 := MU_s g n (zup f k (f k + 1)) hk
  have e3 := MU_nn (n := n) hf hk
  have p := pw5_pos (n - k).toNat
  rw [MU_zup g n f _ (Int.le_refl k), zup_eq] at e2
  have m1 : (g + 1 - f k) * pw 5 (n - k).toNat = (g + 1 - (f k + 1)) * pw 5 (n - k).toNat + pw 5 (n - k).toNat := by
    rw [show g + 1 - f k = (g + 1 - (f k + 1)) + 1 from by omega, Int.add_mul, Int.one_mul]
  have m2 := Int.mul_le_mul_of_nonneg_left (show (0 : Int) ≤ pw 5 (n - k).toNat by omega) (show 0 ≤ g + 1 - (f k + 1) by omega)
  rw [Int.mul_zero] at m2
  omega
theorem mu_dn {g n : Int} {f : Int → Int} {k : Int} (hg : 2 ≤ g ∧ g ≤ 3) (hk : 0 ≤ k ∧ k + 1 < n) : MU g n (zup f (k + 1) 0) (k + 1 + 1) < MU g n f (k + 1) + pw 5 (n - k).toNat := by
  have e2 := MU_s g n (zup f (k + 1) 0) (k := k + 1) (by omega)
  have p := pw5_pos (n - (k + 1)).toNat
  rw [MU_zup g n f _ (Int.le_refl (k + 1)), zup_eq] at e2
  have e3 : pw 5 (n - k).toNat = pw 5 (n - (k + 1)).toNat * 5 := by
    rw [show (n - k).toNat = (n - (k + 1)).toNat + 1 from by omega]; rfl
  rw [e2, e3]
  rcases (show g = 2 ∨ g = 3 by omega) with e | e <;> subst e <;> omega
theorem rq_in {g n : Int} (hg : g = 2 ∨ g = 3) {f : Int → Int} {k : Int} (hk : 0 ≤ k) (h0 : 0 ≤ f k) (h1 : f k < g) : RQ g n f (k + 1) = EX g (n - 1 - k).toNat (wl (zup f k (f k + 1)) (k + 1)) + RQ g n (zup f k (f k + 1)) (k + 1) := by
  rw [RQ_s g n f hk, RQ_s g n (zup f k (f k + 1)) hk, RQ_zup g n f _ (Int.le_refl k), wl_zup f _ (Int.le_refl k), zup_eq, lv3_s hg _ _ h0 h1, wl_put f _ hk]
  omega
theorem rq_up {g n : Int} (hg : g = 2 ∨ g = 3) {f : Int → Int} {k : Int} (hk : 0 ≤ k) (h : f k = g) : RQ g n f (k + 1) = RQ g n (zup f k (f k + 1)) k := by
  rw [RQ_s g n f hk, RQ_zup g n f _ (Int.le_refl k), h, lv3_g hg, Int.add_zero]
theorem rq_dn {g n : Int} {f : Int → Int} {k : Int} (hk : 0 ≤ k ∧ k + 1 < n) : RQ g n (zup f (k + 1) 0) (k + 1 + 1) = RQ g n f (k + 1) + EX g (n - 1 - k).toNat (wl f (k + 1)) := by
  rw [RQ_s g n _ (show 0 ≤ k + 1 by omega), RQ_zup g n f _ (Int.le_refl (k + 1)), wl_zup f _ (Int.le_refl (k + 1)), zup_eq, lv3_0, show (n - 1 - (k + 1)).toNat + 1 = (n - 1 - k).toNat from by omega]
theorem rq_0 {g n : Int} (f : Int → Int) (hn : 1 ≤ n) (h : f 0 = 0) : RQ g n f 1 = EX g n.toNat [] := by
  have e := RQ_s g n f (k := 0) (Int.le_refl 0)
  rw [h, lv3_0, show (n - 1 - 0).toNat + 1 = n.toNat from by omega] at e
  rw [show (1 : Int) = 0 + 1 from rfl, e]
  show (0 : Int) + EX g n.toNat (wl f 0) = _
  rw [wl_0]; omega
