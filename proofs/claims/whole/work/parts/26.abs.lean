/-! what the object is: the document's state; the class' and the reference's states stand for it -/
abbrev AB_ : Type := St_ × List Int
def lta (a : AB_) (r : Nat) (j : Int) : Int := if (r : Int) < a.1.1 0 then a.1.2 (1 + (a.1.2 0 (r : Int)).toNat) (j % a.1.1 (4 + (a.1.2 0 (r : Int)).toNat)) else 1 + j % 2
def AI (a : AB_) : Prop := (1 ≤ a.1.1 0 ∧ a.1.1 0 ≤ 3) ∧ (∀ r : Nat, (r : Int) < a.1.1 0 → 0 ≤ a.1.2 0 (r : Int) ∧ a.1.2 0 (r : Int) ≤ 3) ∧ (∀ q : Nat, q < 4 → 2 ≤ a.1.1 (4 + q) ∧ a.1.1 (4 + q) ≤ 4) ∧ (∀ q : Nat, q < 4 → ∀ j : Int, 0 ≤ j → j < a.1.1 (4 + q) → (1 ≤ a.1.2 (1 + q) j ∧ a.1.2 (1 + q) j ≤ 6) ∧ a.1.2 (1 + q) j ≠ a.1.2 (1 + q) (if j + 1 < a.1.1 (4 + q) then j + 1 else 0)) ∧ (a.2.length ≤ 60 ∧ ∀ x ∈ a.2, 1 ≤ x ∧ x ≤ 6) ∧ (0 ≤ a.1.1 2 ∧ a.1.1 2 ≤ 10) ∧ (0 ≤ a.1.1 3 ∧ a.1.1 3 ≤ 40)
theorem mod_s {j s : Int} (hj : 0 ≤ j) (hs : 2 ≤ s ∧ s ≤ 4) : (j + 1) % s = if j % s + 1 < s then j % s + 1 else 0 := by
  rcases (show s = 2 ∨ s = 3 ∨ s = 4 by omega) with q | q | q <;> subst q <;> split <;> omega
theorem AI.LT {a : AB_} (h : AI a) : LT (lta a) := by
  refine ⟨fun r j hj => ?_, fun r j hj => ?_⟩
  · unfold lta
    by_cases hr : (r : Int) < a.1.1 0
    · rw [if_pos hr]
      have h1 := h.2.1 r hr
      have h2 := h.2.2.1 (a.1.2 0 (r : Int)).toNat (by omega)
      exact (h.2.2.2.1 (a.1.2 0 (r : Int)).toNat (by omega) _ (Int.emod_nonneg _ (by omega)) (Int.emod_lt_of_pos _ (by omega))).1
    · rw [if_neg hr]; omega
  · unfold lta
    by_cases hr : (r : Int) < a.1.1 0
    · rw [if_pos hr, if_pos hr]
      have h1 := h.2.1 r hr
      have h2 := h.2.2.1 (a.1.2 0 (r : Int)).toNat (by omega)
      have h3 := (h.2.2.2.1 (a.1.2 0 (r : Int)).toNat (by omega) _ (Int.emod_nonneg j (show a.1.1 (4 + (a.1.2 0 (r : Int)).toNat) ≠ 0 by omega)) (Int.emod_lt_of_pos j (by omega))).2
      rw [mod_s hj h2]
      exact h3
    · rw [if_neg hr, if_neg hr]; omega
theorem AH_same {st st2 : St_} (h1 : ∀ j, 2 ≤ j → j ≤ 9 → st2.1 j = st.1 j) (h2 : ∀ q, q ≤ 13 → st2.2 q = st.2 q) (h : AH st) : AH st2 := by
  have e1 := h1 2 (by omega) (by omega)
  have e0 := h2 0 (by omega)
  refine ⟨by rw [e1]; exact h.1, fun r hr => by rw [e0]; rw [e1] at hr; exact h.2.1 r hr, fun a ha => by rw [h1 _ (by omega) (by omega)]; exact h.2.2.1 a ha, fun a ha j h0 h3 => ?_⟩
  rw [h1 _ (by omega) (by omega)] at h3
  rw [h2 _ (by omega)]
  exact h.2.2.2 a ha j h0 h3
theorem RH_same {lt : Nat → Int → Int} {st st2 : St_} (h1 : ∀ j, 2 ≤ j → j ≤ 9 → st2.1 j = st.1 j) (h2 : ∀ q, q ≤ 13 → st2.2 q = st.2 q) (h : RH lt st) : RH lt st2 := by
  have e1 := h1 2 (by omega) (by omega)
  have e0 := h2 0 (by omega)
  have hn := h.2.1.1
  refine ⟨h.1, AH_same h1 h2 h.2.1, fun r j hr hj => ?_, ?_, fun r c hr h0 h3 => by rw [h2 _ (by omega)]; exact h.2.2.2.2 r c hr h0 h3⟩
  · rw [e1] at hr
    have := h.2.1.2.1 r hr
    rw [← h.2.2.1 r j hr hj]
    unfold ltx
    rw [e0, h2 _ (by omega), h1 _ (by omega) (by omega)]
  · rw [e1]
    intro r hr
    have := h.2.2.2.1 r hr
    rw [h2 _ (by omega), h2 _ (by omega), h2 _ (by omega), h1 _ (by omega) (by omega)]
    exact this
/-- the words' rooms -/
def WS (st : St_) : Prop := ∀ w : Nat, w < 3 → (0 ≤ st.1 (10 + w) ∧ st.1 (10 + w) ≤ 60) ∧ ∀ j : Int, 0 ≤ j → j < 60 → 0 ≤ st.2 (14 + w) j ∧ st.2 (14 + w) j ≤ 60
/-- the class' state stands for a -/
def CI (st : St_) (a : AB_) : Prop := st.1 2 = a.1.1 0 ∧ wl (st.2 (14 + 0)) (st.1 (10 + 0)) = a.2 ∧ (st.1 0 = a.1.1 2 ∧ st.1 1 = a.1.1 3) ∧ (∀ q : Nat, q < 4 → st.1 (3 + q) = a.1.1 (4 + q) ∧ ∀ j : Int, 0 ≤ j → j < st.1 (3 + q) → st.2 (1 + q) j = a.1.2 (1 + q) j) ∧ (∀ r : Nat, (r : Int) < st.1 2 → st.2 0 (r : Int) = a.1.2 0 (r : Int)) ∧ WS st ∧ RH (lta a) st ∧ AI a
theorem CI_grw {st st2 : St_} {a : AB_} (h : CI st a) (hg : grw st st2) (hH : RH (lta a) st2) : CI st2 a := by
  obtain ⟨h1, h2, h3, h4, h5, h6, h7, h8⟩ := h
  have f := hg.1
  refine ⟨by rw [f.1 2 (by omega)]; exact h1, by rw [f.1 _ (by omega), f.2 _ (by omega)]; exact h2, by rw [f.1 0 (by omega), f.1 1 (by omega)]; exact h3, fun q hq => ?_, fun r hr => ?_, fun w hw => ?_, hH, h8⟩
  · rw [f.1 _ (by omega), f.2 _ (by omega)]; exact h4 q hq
  · rw [f.1 2 (by omega)] at hr; rw [f.2 0 (by omega)]; exact h5 r hr
  · rw [f.1 _ (by omega), f.2 _ (by omega)]; exact h6 w hw
/-- THE WORD is another -/
theorem CI_word {st : St_} {a : AB_} (h : CI st a) {k : Int} {f : Int → Int} {W : List Int} (hk : 0 ≤ k ∧ k ≤ 60) (hf : ∀ j : Int, 0 ≤ j → j < 60 → 0 ≤ f j ∧ f j ≤ 60) (hW : wl f k = W) (hl : ∀ x ∈ W, 1 ≤ x ∧ x ≤ 6) : CI (sF (sG st (10 + 0) k) (14 + 0) f) (a.1, W) := by
  obtain ⟨h1, h2, h3, h4, h5, h6, h7, h8⟩ := h
  have hL : (W.length : Int) = k := by rw [← hW]; exact wl_len f hk.1
  refine ⟨h1, hW, h3, fun q hq => ?_, fun r hr => h5 r hr, fun w hw => ?_, RH_same (st := st) (fun j h0 h9 => by rw [sF_1, sG_n _ _ (by omega)]) (fun q hq => by rw [sF_n _ _ (by omega), sG_2]) h7, ⟨h8.1, h8.2.1, h8.2.2.1, h8.2.2.2.1, ⟨by show W.length ≤ 60; omega, hl⟩, h8.2.2.2.2.2⟩⟩
  · rw [sF_1, sG_n _ _ (by omega), sF_n _ _ (by omega), sG_2]; exact h4 q hq
  · by_cases hw0 : w = 0
    · subst hw0; rw [sF_1, sG_s, sF_s]; exact ⟨hk, hf⟩
    · rw [sF_1, sG_n _ _ (by omega), sF_n _ _ (by omega), sG_2]; exact h6 w hw
/-- another word than THE WORD -/
theorem CI_oth {st : St_} {a : AB_} (h : CI st a) {v : Nat} (hv : v = 1 ∨ v = 2) {k : Int} {f : Int → Int} (hk : 0 ≤ k ∧ k ≤ 60) (hf : ∀ j : Int, 0 ≤ j → j < 60 → 0 ≤ f j ∧ f j ≤ 60) : CI (sF (sG st (10 + v) k) (14 + v) f) a := by
  obtain ⟨h1, h2, h3, h4, h5, h6, h7, h8⟩ := h
  refine ⟨by rw [sF_1, sG_n _ _ (by omega)]; exact h1, by rw [sF_1, sG_n _ _ (by omega), sF_n _ _ (by omega), sG_2]; exact h2, by rw [sF_1, sG_n _ _ (by omega), sG_n _ _ (by omega)]; exact h3, fun q hq => ?_, fun r hr => ?_, fun w hw => ?_, RH_same (st := st) (fun j h0 h9 => by rw [sF_1, sG_n _ _ (by omega)]) (fun q hq => by rw [sF_n _ _ (by omega), sG_2]) h7, h8⟩
  · rw [sF_1, sG_n _ _ (by omega), sF_n _ _ (by omega), sG_2]; exact h4 q hq
  · rw [sF_1, sG_n _ _ (by omega)] at hr; rw [sF_n _ _ (by omega), sG_2]; exact h5 r hr
  · by_cases hw0 : w = v
    · subst hw0; rw [sF_1, sG_s, sF_s]; exact ⟨hk, hf⟩
    · rw [sF_1, sG_n _ _ (by omega), sF_n _ _ (by omega), sG_2]; exact h6 w hw
/-- the seats don't show -/
theorem CI_seat {st : St_} {a : AB_} (h : CI st a) (g : Int → Int) : CI (sF st 17 g) a := by
  obtain ⟨h1, h2, h3, h4, h5, h6, h7, h8⟩ := h
  refine ⟨h1, h2, h3, fun q hq => ?_, fun r hr => ?_, fun w hw => ?_, RH_same (st := st) (fun j h0 h9 => rfl) (fun q hq => by rw [sF_n _ _ (by omega)]) h7, h8⟩
  · rw [sF_1, sF_n _ _ (by omega)]; exact h4 q hq
  · rw [sF_n _ _ (by omega)]; exact h5 r hr
  · rw [sF_1, sF_n _ _ (by omega)]; exact h6 w hw
def aM (a : AB_) : AB_ := (sG a.1 2 (a.1.1 2 + 1), a.2)
def aU (a : AB_) : AB_ := (sG a.1 3 (a.1.1 3 + 1), a.2)
theorem lta_M (a : AB_) : lta (aM a) = lta a := by
  funext r j
  unfold lta aM
  simp only [sG_2]
  rw [sG_n _ _ (by omega), sG_n _ _ (by omega)]
theorem lta_U (a : AB_) : lta (aU a) = lta a := by
  funext r j
  unfold lta aU
  simp only [sG_2]
  rw [sG_n _ _ (by omega), sG_n _ _ (by omega)]
theorem CI_M {st : St_} {a : AB_} (h : CI st a) (hm : a.1.1 2 < 10) : CI (sG st 0 (st.1 0 + 1)) (aM a) := by
  obtain ⟨h1, h2, h3, h4, h5, h6, h7, h8⟩ := h
  refine ⟨by show (sG st 0 _).1 2 = (sG a.1 2 _).1 0; rw [sG_n _ _ (by omega), sG_n _ _ (by omega)]; exact h1, h2, ⟨by show (sG st 0 _).1 0 = (sG a.1 2 _).1 2; rw [sG_s, sG_s, h3.1], by show (sG st 0 _).1 1 = (sG a.1 2 _).1 3; rw [sG_n _ _ (by omega), sG_n _ _ (by omega)]; exact h3.2⟩, fun q hq => ?_, fun r hr => ?_, fun w hw => ?_, by rw [lta_M]; exact RH_same (st := st) (fun j h0 h9 => by rw [sG_n _ _ (by omega)]) (fun q hq => rfl) h7, ?_⟩
  · show (sG st 0 _).1 (3 + q) = (sG a.1 2 _).1 (4 + q) ∧ _
    rw [sG_n _ _ (by omega), sG_n _ _ (by omega)]; exact h4 q hq
  · rw [sG_n _ _ (by omega)] at hr; exact h5 r hr
  · rw [sG_n _ _ (by omega)]; exact h6 w hw
  · obtain ⟨b1, b2, b3, b4, b5, b6, b7⟩ := h8
    refine ⟨by show 1 ≤ (sG a.1 2 _).1 0 ∧ _; rw [sG_n _ _ (by omega)]; exact b1, fun r hr => ?_, fun q hq => ?_, fun q hq j h0 h9 => ?_, b5, by show 0 ≤ (sG a.1 2 _).1 2 ∧ (sG a.1 2 _).1 2 ≤ 10; rw [sG_s]; omega, by show 0 ≤ (sG a.1 2 _).1 3 ∧ _; rw [sG_n _ _ (by omega)]; exact b7⟩
    · have hr' : (r : Int) < (sG a.1 2 (a.1.1 2 + 1)).1 0 := hr
      rw [sG_n _ _ (by omega)] at hr'; exact b2 r hr'
    · show 2 ≤ (sG a.1 2 _).1 (4 + q) ∧ (sG a.1 2 _).1 (4 + q) ≤ 4; rw [sG_n _ _ (by omega)]; exact b3 q hq
    · have h9' : j < (sG a.1 2 (a.1.1 2 + 1)).1 (4 + q) := h9
      rw [sG_n _ _ (by omega)] at h9'
      show _ ∧ _ ≠ (sG a.1 2 _).2 (1 + q) (if j + 1 < (sG a.1 2 _).1 (4 + q) then j + 1 else 0)
      rw [sG_n _ _ (by omega)]; exact b4 q hq j h0 h9'
theorem CI_U {st : St_} {a : AB_} (h : CI st a) (hm : a.1.1 3 < 40) : CI (sG st 1 (st.1 1 + 1)) (aU a) := by
  obtain ⟨h1, h2, h3, h4, h5, h6, h7, h8⟩ := h
  refine ⟨by show (sG st 1 _).1 2 = (sG a.1 3 _).1 0; rw [sG_n _ _ (by omega), sG_n _ _ (by omega)]; exact h1, h2, ⟨by show (sG st 1 _).1 0 = (sG a.1 3 _).1 2; rw [sG_n _ _ (by omega), sG_n _ _ (by omega)]; exact h3.1, by show (sG st 1 _).1 1 = (sG a.1 3 _).1 3; rw [sG_s, sG_s, h3.2]⟩, fun q hq => ?_, fun r hr => ?_, fun w hw => ?_, by rw [lta_U]; exact RH_same (st := st) (fun j h0 h9 => by rw [sG_n _ _ (by omega)]) (fun q hq => rfl) h7, ?_⟩
  · show (sG st 1 _).1 (3 + q) = (sG a.1 3 _).1 (4 + q) ∧ _
    rw [sG_n _ _ (by omega), sG_n _ _ (by omega)]; exact h4 q hq
  · rw [sG_n _ _ (by omega)] at hr; exact h5 r hr
  · rw [sG_n _ _ (by omega)]; exact h6 w hw
  · obtain ⟨b1, b2, b3, b4, b5, b6, b7⟩ := h8
    refine ⟨by show 1 ≤ (sG a.1 3 _).1 0 ∧ _; rw [sG_n _ _ (by omega)]; exact b1, fun r hr => ?_, fun q hq => ?_, fun q hq j h0 h9 => ?_, b5, by show 0 ≤ (sG a.1 3 _).1 2 ∧ _; rw [sG_n _ _ (by omega)]; exact b6, by show 0 ≤ (sG a.1 3 _).1 3 ∧ (sG a.1 3 _).1 3 ≤ 40; rw [sG_s]; omega⟩
    · have hr' : (r : Int) < (sG a.1 3 (a.1.1 3 + 1)).1 0 := hr
      rw [sG_n _ _ (by omega)] at hr'; exact b2 r hr'
    · show 2 ≤ (sG a.1 3 _).1 (4 + q) ∧ (sG a.1 3 _).1 (4 + q) ≤ 4; rw [sG_n _ _ (by omega)]; exact b3 q hq
    · have h9' : j < (sG a.1 3 (a.1.1 3 + 1)).1 (4 + q) := h9
      rw [sG_n _ _ (by omega)] at h9'
      show _ ∧ _ ≠ (sG a.1 3 _).2 (1 + q) (if j + 1 < (sG a.1 3 _).1 (4 + q) then j + 1 else 0)
      rw [sG_n _ _ (by omega)]; exact b4 q hq j h0 h9'
theorem lf_wl (f : Int → Int) {n j : Int} (h0 : 0 ≤ j) (h1 : j < n) : lf (wl f n) j = f j := by
  obtain ⟨k, rfl⟩ := Int.eq_ofNat_of_zero_le h0
  show (wln f n.toNat).getD ((k : Int)).toNat 0 = f k
  rw [show ((k : Int)).toNat = k from by omega]
  exact wln_getD f n.toNat k (by omega)
/-- THE WORD by its letters -/
theorem CI.len {st : St_} {a : AB_} (h : CI st a) : (a.2.length : Int) = st.1 (10 + 0) := by rw [← h.2.1]; exact wl_len _ (h.2.2.2.2.2.1 0 (by omega)).1.1
theorem CI.lf {st : St_} {a : AB_} (h : CI st a) : ∀ j : Int, 0 ≤ j → j < st.1 (10 + 0) → lf a.2 j = st.2 (14 + 0) j := by
  intro j h0 h1
  rw [← h.2.1]
  exact lf_wl _ h0 h1
theorem CI.let6 {st : St_} {a : AB_} (h : CI st a) : ∀ j : Int, 0 ≤ j → j < st.1 (10 + 0) → 1 ≤ st.2 (14 + 0) j ∧ st.2 (14 + 0) j ≤ 6 := by
  intro j h0 h1
  have := h.2.2.2.2.2.2.2.2.2.2.2.1.2 (st.2 (14 + 0) j) (by rw [← h.2.1]; exact mem_wl _ h0 h1)
  exact this
theorem lg_congr {f g : Int → Int} {k : Int} (h : ∀ j : Int, 0 ≤ j → j < k → f j = g j) : lg f k = lg g k := by
  have c : ∀ n : Nat, (n : Int) ≤ k → clP f n = clP g n ∧ lgP f n = lgP g n := by
    intro n
    induction n with
    | zero => intro _; exact ⟨rfl, rfl⟩
    | succ n ih =>
      intro hn
      obtain ⟨e1, e2⟩ := ih (by omega)
      have e3 : clP f (n + 1) = clP g (n + 1) := by
        show (if _ then _ else _) = (if _ then _ else _)
        by_cases h0 : n = 0
        · rw [if_pos (Or.inl h0), if_pos (Or.inl h0)]
        · rw [h n (by omega) (by omega), h ((n : Int) - 1) (by omega) (by omega), e1]
      refine ⟨e3, ?_⟩
      show mx2 _ _ = mx2 _ _
      rw [e2, e3]
  by_cases hk : 0 ≤ k
  · exact (c k.toNat (by omega)).2
  · unfold lg; rw [show k.toNat = 0 from by omega]; rfl
theorem wl_letters {f : Int → Int} {k lo hi : Int} (h : ∀ j : Int, 0 ≤ j → j < k → lo ≤ f j ∧ f j ≤ hi) : ∀ x ∈ wl f k, lo ≤ x ∧ x ≤ hi := by
  intro x hx
  obtain ⟨j, h0, h1, h2⟩ := wl_mem f k x hx
  rw [h2]; exact h j h0 h1
theorem dropF_mem (g : Int) (l : List Int) : ∀ x ∈ dropF g l, x ∈ l := by
  intro x hx
  cases l with
  | nil => exact hx
  | cons a t =>
    simp only [dropF] at hx
    split at hx
    · exact List.mem_cons_of_mem _ hx
    · exact hx
theorem dropE_mem (g : Int) (l : List Int) : ∀ x ∈ dropE g l, x ∈ l := by
  induction l with
  | nil => intro x hx; exact hx
  | cons a t ih =>
    intro x hx
    cases t with
    | nil =>
      simp only [dropE] at hx
      split at hx
      · cases hx
      · exact hx
    | cons b t =>
      simp only [dropE] at hx ih
      rcases List.mem_cons.mp hx with h | h
      · rw [h]; exact List.mem_cons_self
      · exact List.mem_cons_of_mem _ (ih x h)
theorem sh_letters {f : Int → Int} {k g : Int} (hk : 0 ≤ k) (h : ¬ 6 < lg f k) : ∀ x ∈ sh g (runs f k), 1 ≤ x ∧ x ≤ 6 := by
  intro x hx
  have h1 := dropF_mem g _ x (dropE_mem g _ x hx)
  have h2 := (runs_facts f hk).1 x h1
  refine ⟨h2, ?_⟩
  rcases Int.lt_or_le 6 x with q | q
  · exact absurd ((lg_lt f hk (by omega)).mpr ⟨x, h1, q⟩) h
  · exact q
noncomputable def trv (f : Int → Int) (n v : Int) : Int := Classical.epsilon (fun z => TR f n v z)
theorem trv_eq {f : Int → Int} {n v z : Int} (h : TR f n v z) : trv f n v = z := TR_u (Classical.epsilon_spec (p := fun z => TR f n v z) ⟨z, h⟩) h
noncomputable def epi (P : Int → Prop) : Int := Classical.epsilon P
theorem epi_eq {P : Int → Prop} {z : Int} (h : P z) (u : ∀ x y, P x → P y → x = y) : epi P = z := u _ _ (Classical.epsilon_spec (p := P) ⟨z, h⟩) h
theorem epi_c {P P2 : Int → Prop} (h : ∀ z, P z ↔ P2 z) : epi P = epi P2 := by rw [show P = P2 from funext (fun z => propext (h z))]
