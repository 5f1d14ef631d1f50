section
abbrev St_ : Type := (Nat → Int) × (Nat → Int → Int)
def zup (f : Int → Int) (k v : Int) : Int → Int := fun j => if j = k then v else f j
theorem zup_eq (f : Int → Int) (k v : Int) : zup f k v k = v := by simp [zup]
theorem zup_ne (f : Int → Int) {k j : Int} (v : Int) (h : j ≠ k) : zup f k v j = f j := by simp [zup, h]
def nsum (f : Int → Int) : Nat → Int
  | 0 => 0
  | n + 1 => nsum f n + f (n : Int)
def isum (f : Int → Int) (k : Int) : Int := nsum f k.toNat
theorem isum_0 (f : Int → Int) : isum f 0 = 0 := rfl
theorem isum_s (f : Int → Int) {k : Int} (h : 0 ≤ k) : isum f (k + 1) = isum f k + f k := by
  obtain ⟨n, rfl⟩ := Int.eq_ofNat_of_zero_le h
  show nsum f ((n : Int) + 1).toNat = nsum f ((n : Int)).toNat + f n
  rw [show ((n : Int) + 1).toNat = n + 1 from by omega, show ((n : Int)).toNat = n from by omega]
  rfl
def sG (st : St_) (k : Nat) (v : Int) : St_ := (fun j => if j = k then v else st.1 j, st.2)
def sA (st : St_) (r : Nat) (z v : Int) : St_ := (st.1, fun q => if q = r then zup (st.2 r) z v else st.2 q)
theorem sG_1 (st : St_) (k : Nat) (v : Int) (j : Nat) : (sG st k v).1 j = if j = k then v else st.1 j := rfl
theorem sG_2 (st : St_) (k : Nat) (v : Int) : (sG st k v).2 = st.2 := rfl
theorem sA_1 (st : St_) (r : Nat) (z v : Int) : (sA st r z v).1 = st.1 := rfl
theorem sA_2 (st : St_) (r : Nat) (z v : Int) (q : Nat) : (sA st r z v).2 q = if q = r then zup (st.2 r) z v else st.2 q := rfl
theorem sG_s (st : St_) (k : Nat) (v : Int) : (sG st k v).1 k = v := by simp [sG]
theorem sG_n (st : St_) {k j : Nat} (v : Int) (h : j ≠ k) : (sG st k v).1 j = st.1 j := by simp [sG, h]
theorem sA_s (st : St_) (r : Nat) (z v : Int) : (sA st r z v).2 r = zup (st.2 r) z v := by simp [sA]
theorem sA_n (st : St_) {r q : Nat} (z v : Int) (h : q ≠ r) : (sA st r z v).2 q = st.2 q := by simp [sA, h]
def sF (st : St_) (q : Nat) (f : Int → Int) : St_ := (st.1, fun r => if r = q then f else st.2 r)
theorem sF_1 (st : St_) (q : Nat) (f : Int → Int) : (sF st q f).1 = st.1 := rfl
theorem sF_2 (st : St_) (q : Nat) (f : Int → Int) (r : Nat) : (sF st q f).2 r = if r = q then f else st.2 r := rfl
theorem sF_s (st : St_) (q : Nat) (f : Int → Int) : (sF st q f).2 q = f := by simp [sF]
theorem sF_n (st : St_) {q r : Nat} (f : Int → Int) (h : r ≠ q) : (sF st q f).2 r = st.2 r := by simp [sF, h]
end
section
/-! words as lists: the runs' lengths, the shortened word, the depth -/
def wln (f : Int → Int) : Nat → List Int
  | 0 => []
  | n + 1 => wln f n ++ [f (n : Int)]
def wl (f : Int → Int) (n : Int) : List Int := wln f n.toNat
theorem wl_0 (f : Int → Int) : wl f 0 = [] := rfl
theorem wl_n (f : Int → Int) (n : Nat) : wl f (n : Int) = wln f n := by show wln f ((n : Int)).toNat = _; rw [show ((n : Int)).toNat = n from by omega]
theorem wl_s (f : Int → Int) {k : Int} (h : 0 ≤ k) : wl f (k + 1) = wl f k ++ [f k] := by
  obtain ⟨n, rfl⟩ := Int.eq_ofNat_of_zero_le h
  rw [show ((n : Int) + 1) = ((n + 1 : Nat) : Int) from by omega, wl_n, wl_n]
  rfl
theorem wln_len (f : Int → Int) (n : Nat) : (wln f n).length = n := by
  induction n with
  | zero => rfl
  | succ n ih => simp [wln, ih]
theorem wl_len (f : Int → Int) {k : Int} (h : 0 ≤ k) : ((wl f k).length : Int) = k := by
  show ((wln f k.toNat).length : Int) = k
  rw [wln_len]; omega
theorem wln_congr {f g : Int → Int} (n : Nat) (h : ∀ j : Int, 0 ≤ j → j < n → f j = g j) : wln f n = wln g n := by
  induction n with
  | zero => rfl
  | succ n ih =>
    show wln f n ++ [f n] = wln g n ++ [g n]
    rw [ih (fun j h0 h1 => h j h0 (by omega)), h n (by omega) (by omega)]
theorem wl_congr {f g : Int → Int} {k : Int} (h : ∀ j : Int, 0 ≤ j → j < k → f j = g j) : wl f k = wl g k :=
  wln_congr _ (fun j h0 h1 => h j h0 (by omega))
theorem wl_zup (f : Int → Int) {k z : Int} (v : Int) (h : k ≤ z) : wl (zup f z v) k = wl f k :=
  wl_congr (fun j _ h1 => zup_ne f v (by omega))
theorem wl_put (f : Int → Int) {k : Int} (v : Int) (h : 0 ≤ k) : wl (zup f k v) (k + 1) = wl f k ++ [v] := by
  rw [wl_s _ h, wl_zup f v (by omega), zup_eq]
theorem wln_inj {f g : Int → Int} (n : Nat) (h : wln f n = wln g n) : ∀ j : Int, 0 ≤ j → j < n → f j = g j := by
  induction n with
  | zero => intro j h0 h1; omega
  | succ n ih =>
    intro j h0 h1
    have h2 : wln f n ++ [f n] = wln g n ++ [g n] := h
    obtain ⟨h3, h4⟩ := List.append_inj h2 (by rw [wln_len, wln_len])
    by_cases hj : j = n
    · rw [hj]; exact (List.cons.inj h4).1
    · exact ih h3 j h0 (by omega)
theorem wl_inj {f g : Int → Int} {k : Int} (h : wl f k = wl g k) : ∀ j : Int, 0 ≤ j → j < k → f j = g j := fun j h0 h1 => wln_inj _ h j h0 (by omega)
theorem wl_eq {f g : Int → Int} {a b : Int} (ha : 0 ≤ a) (hb : 0 ≤ b) (h : wl f a = wl g b) : a = b ∧ ∀ j : Int, 0 ≤ j → j < a → f j = g j := by
  have h1 : a = b := by rw [← wl_len f ha, ← wl_len g hb, h]
  subst h1
  exact ⟨rfl, wl_inj h⟩
theorem wln_mem (f : Int → Int) (n : Nat) (x : Int) (h : x ∈ wln f n) : ∃ j : Int, 0 ≤ j ∧ j < n ∧ x = f j := by
  induction n with
  | zero => cases h
  | succ n ih =>
    rcases List.mem_append.mp h with h | h
    · obtain ⟨j, h0, h1, h2⟩ := ih h
      exact ⟨j, h0, by omega, h2⟩
    · exact ⟨n, by omega, by omega, List.mem_singleton.mp h⟩
theorem wl_mem (f : Int → Int) (k : Int) (x : Int) (h : x ∈ wl f k) : ∃ j : Int, 0 ≤ j ∧ j < k ∧ x = f j := by
  obtain ⟨j, h0, h1, h2⟩ := wln_mem f _ x h
  exact ⟨j, h0, by omega, h2⟩
theorem mem_wln (f : Int → Int) (n : Nat) (j : Int) (h0 : 0 ≤ j) (h1 : j < n) : f j ∈ wln f n := by
  induction n with
  | zero => omega
  | succ n ih =>
    by_cases hj : j = n
    · rw [hj]; exact List.mem_append_right _ (List.mem_singleton.mpr rfl)
    · exact List.mem_append_left _ (ih (by omega))
theorem mem_wl (f : Int → Int) {k j : Int} (h0 : 0 ≤ j) (h1 : j < k) : f j ∈ wl f k := mem_wln f _ j h0 (by omega)
/-- the last of a list grows by one -/
def incL : List Int → List Int
  | [] => []
  | [x] => [x + 1]
  | x :: y :: t => x :: incL (y :: t)
theorem incL_app (q : List Int) (x : Int) : incL (q ++ [x]) = q ++ [x + 1] := by
  induction q with
  | nil => rfl
  | cons a t ih =>
    cases t with
    | nil => rfl
    | cons b t => exact congrArg (a :: ·) ih
/-- the lengths of the runs of the first n letters -/
def runsP (f : Int → Int) : Nat → List Int
  | 0 => []
  | n + 1 => if n = 0 ∨ f (n : Int) ≠ f ((n : Int) - 1) then runsP f n ++ [1] else incL (runsP f n)
theorem runsP_congr {f g : Int → Int} (n : Nat) (h : ∀ j : Int, 0 ≤ j → j < n → f j = g j) : runsP f n = runsP g n := by
  induction n with
  | zero => rfl
  | succ n ih =>
    have h1 := ih (fun j h0 h1 => h j h0 (by omega))
    by_cases h0 : n = 0
    · subst h0; rfl
    · show (if _ then _ else _) = (if _ then _ else _)
      rw [h1, h n (by omega) (by omega), h ((n : Int) - 1) (by omega) (by omega)]
theorem runsP_new {f : Int → Int} {n : Nat} (h : n = 0 ∨ f (n : Int) ≠ f ((n : Int) - 1)) : runsP f (n + 1) = runsP f n ++ [1] := if_pos h
theorem runsP_old {f : Int → Int} {n : Nat} (h : ¬ (n = 0 ∨ f (n : Int) ≠ f ((n : Int) - 1))) : runsP f (n + 1) = incL (runsP f n) := if_neg h
def lsum (l : List Int) : Int := l.foldr (· + ·) 0
theorem lsum_app (a b : List Int) : lsum (a ++ b) = lsum a + lsum b := by
  induction a with
  | nil => simp [lsum]
  | cons x t ih => simp only [lsum, List.cons_append, List.foldr_cons] at ih ⊢; omega
theorem runsP_facts (f : Int → Int) (n : Nat) : (∀ x ∈ runsP f n, 1 ≤ x) ∧ lsum (runsP f n) = n ∧ (0 < n → ∃ q x, runsP f n = q ++ [x]) := by
  induction n with
  | zero => exact ⟨fun x h => (by cases h), rfl, fun h => absurd h (by omega)⟩
  | succ n ih =>
    obtain ⟨h1, h2, h3⟩ := ih
    by_cases hc : n = 0 ∨ f (n : Int) ≠ f ((n : Int) - 1)
    · rw [runsP_new hc]
      refine ⟨fun x hx => ?_, ?_, fun _ => ⟨_, _, rfl⟩⟩
      · rcases List.mem_append.mp hx with h | h
        · exact h1 x h
        · rw [List.mem_singleton.mp h]; omega
      · rw [lsum_app, h2]; simp [lsum]
    · rw [runsP_old hc]
      obtain ⟨q, y, hq⟩ := h3 (by omega)
      rw [hq, incL_app]
      rw [hq] at h1 h2
      refine ⟨fun x hx => ?_, ?_, fun _ => ⟨_, _, rfl⟩⟩
      · rcases List.mem_append.mp hx with h | h
        · exact h1 x (List.mem_append_left _ h)
        · have := h1 y (List.mem_append_right _ (List.mem_singleton.mpr rfl))
          rw [List.mem_singleton.mp h]; omega
      · rw [lsum_app] at h2 ⊢
        simp only [lsum, List.foldr] at h2 ⊢
        omega
/-- the ends that are shorter than g left out -/
def dropF (g : Int) : List Int → List Int
  | [] => []
  | x :: t => if x < g then t else x :: t
def dropE (g : Int) : List Int → List Int
  | [] => []
  | [x] => if x < g then [] else [x]
  | x :: y :: t => x :: dropE g (y :: t)
theorem dropE_app (g : Int) (q : List Int) (x : Int) : dropE g (q ++ [x]) = if x < g then q else q ++ [x] := by
  induction q with
  | nil => rfl
  | cons a t ih =>
    cases t with
    | nil => simp only [List.cons_append, List.nil_append, dropE]; split <;> rfl
    | cons b t =>
      show a :: dropE g (b :: t ++ [x]) = _
      rw [ih]; split <;> rfl
theorem dropF_app (g : Int) (q : List Int) (x : Int) (h : q ≠ []) : dropF g (q ++ [x]) = dropF g q ++ [x] := by
  cases q with
  | nil => exact absurd rfl h
  | cons a t => simp only [List.cons_append, dropF]; split <;> rfl
def sh (g : Int) (r : List Int) : List Int := dropE g (dropF g r)
theorem dropF_len (g : Int) (l : List Int) : (dropF g l).length ≤ l.length := by
  cases l with
  | nil => exact Nat.le_refl _
  | cons a t => simp only [dropF]; split <;> simp
theorem dropE_len (g : Int) (l : List Int) : (dropE g l).length ≤ l.length := by
  induction l with
  | nil => exact Nat.le_refl _
  | cons a t ih =>
    cases t with
    | nil => simp only [dropE]; split <;> simp
    | cons b t => simp only [dropE, List.length_cons] at ih ⊢; omega
theorem sh_len (g : Int) (l : List Int) : (sh g l).length ≤ l.length := Nat.le_trans (dropE_len _ _) (dropF_len _ _)
theorem lsum_len (l : List Int) (h : ∀ x ∈ l, 1 ≤ x) : (l.length : Int) ≤ lsum l := by
  induction l with
  | nil => exact Int.le_refl _
  | cons a t ih =>
    have h1 := ih (fun x hx => h x (List.mem_cons_of_mem _ hx))
    have h2 := h a List.mem_cons_self
    simp only [lsum, List.foldr_cons, List.length_cons] at h1 ⊢
    omega
/-- a list's letters as a function; the runs of a list -/
def lf (w : List Int) : Int → Int := fun k => w.getD k.toNat 0
def RLw (w : List Int) : List Int := runsP (lf w) w.length
theorem wln_getD (f : Int → Int) (n : Nat) (j : Nat) (h : j < n) : (wln f n).getD j 0 = f j := by
  induction n with
  | zero => omega
  | succ n ih =>
    show (wln f n ++ [f n]).getD j 0 = f j
    by_cases hj : j = n
    · subst hj
      rw [List.getD_eq_getElem?_getD, List.getElem?_append_right (by rw [wln_len]; omega), wln_len]
      simp
    · rw [List.getD_eq_getElem?_getD, List.getElem?_append_left (by rw [wln_len]; omega), ← List.getD_eq_getElem?_getD]
      exact ih (by omega)
theorem RLw_wl (f : Int → Int) (n : Nat) : RLw (wl f (n : Int)) = runsP f n := by
  rw [wl_n]
  show runsP (lf (wln f n)) (wln f n).length = _
  rw [wln_len]
  refine runsP_congr n (fun j h0 h1 => ?_)
  obtain ⟨k, rfl⟩ := Int.eq_ofNat_of_zero_le h0
  show (wln f n).getD ((k : Int)).toNat 0 = f k
  rw [show ((k : Int)).toNat = k from by omega]
  exact wln_getD f n k (by omega)
theorem RLw_facts (w : List Int) : (∀ x ∈ RLw w, 1 ≤ x) ∧ lsum (RLw w) = w.length := ⟨(runsP_facts (lf w) w.length).1, (runsP_facts (lf w) w.length).2.1⟩
theorem RLw_len (w : List Int) : (RLw w).length ≤ w.length := by
  have h := lsum_len _ (RLw_facts w).1
  rw [(RLw_facts w).2] at h
  omega
/-- above g: a letter, or a run -/
def badW (g : Int) (w : List Int) : Bool := w.any (fun x => decide (g < x)) || (RLw w).any (fun x => decide (g < x))
/-- how often a word is shortened till it is empty; -1: it may not stand -/
def dp (g : Int) : Nat → List Int → Int
  | 0, w => if w = [] then 0 else -1
  | n + 1, w => if w = [] then 0 else if badW g w = true then -1 else if dp g n (sh g (RLw w)) = -1 then -1 else dp g n (sh g (RLw w)) + 1
theorem sh_less {g : Int} (hg : 2 ≤ g) (w : List Int) (h : w ≠ []) : (sh g (RLw w)).length < w.length := by
  have h1 := RLw_facts w
  have h2 := sh_len g (RLw w)
  have h3 := RLw_len w
  have hp : 0 < w.length := List.length_pos_iff.mpr h
  by_cases hl : (RLw w).length = w.length
  · cases hr : RLw w with
    | nil => rw [hr] at hl; simp at hl; omega
    | cons a t =>
      have ha : a = 1 := by
        have h4 := h1.1 a (by rw [hr]; exact List.mem_cons_self)
        have h5 := lsum_len t (fun x hx => h1.1 x (by rw [hr]; exact List.mem_cons_of_mem _ hx))
        have h6 := h1.2
        rw [hr] at h6 hl
        simp only [lsum, List.foldr_cons, List.length_cons] at h6 hl h5
        omega
      have h7 : dropF g (a :: t) = t := by simp only [dropF]; rw [if_pos (by omega)]
      show (dropE g (dropF g (a :: t))).length < w.length
      rw [h7]
      have h8 := dropE_len g t
      rw [hr] at hl
      simp only [List.length_cons] at hl
      omega
  · omega
theorem dp_more {g : Int} (hg : 2 ≤ g) : ∀ (n k : Nat) (w : List Int), w.length ≤ n → w.length ≤ k → dp g n w = dp g k w := by
  intro n
  induction n with
  | zero =>
    intro k w h1 h2
    have : w = [] := List.length_eq_zero_iff.mp (by omega)
    subst this
    cases k <;> rfl
  | succ n ih =>
    intro k w h1 h2
    cases k with
    | zero =>
      have : w = [] := List.length_eq_zero_iff.mp (by omega)
      subst this
      rfl
    | succ k =>
      by_cases hw : w = []
      · subst hw; rfl
      · have h3 := sh_less hg w hw
        show (if _ then _ else _) = (if _ then _ else _)
        rw [ih k (sh g (RLw w)) (by omega) (by omega)]
/-- the depth -/
def dpt (g : Int) (w : List Int) : Int := dp g w.length w
theorem dpt_0 (g : Int) : dpt g [] = 0 := rfl
theorem dpt_bad {g : Int} {w : List Int} (h : w ≠ []) (hb : badW g w = true) : dpt g w = -1 := by
  unfold dpt
  cases hl : w.length with
  | zero => exact absurd (List.length_eq_zero_iff.mp hl) h
  | succ n => show (if _ then _ else _) = _; rw [if_neg h, if_pos hb]
theorem dpt_s {g : Int} (hg : 2 ≤ g) {w : List Int} (h : w ≠ []) (hb : badW g w = false) : dpt g w = if dpt g (sh g (RLw w)) = -1 then -1 else dpt g (sh g (RLw w)) + 1 := by
  unfold dpt
  have h3 := sh_less hg w h
  cases hl : w.length with
  | zero => exact absurd (List.length_eq_zero_iff.mp hl) h
  | succ n =>
    rw [dp_more hg (sh g (RLw w)).length n (sh g (RLw w)) (by omega) (by omega)]
    show (if _ then _ else _) = _
    rw [if_neg h, if_neg (by rw [hb]; exact Bool.false_ne_true)]
theorem dpt_ge (g : Int) (w : List Int) : -1 ≤ dpt g w := by
  have h : ∀ (n : Nat) (w : List Int), -1 ≤ dp g n w := by
    intro n
    induction n with
    | zero => intro w; simp only [dp]; split <;> omega
    | succ n ih =>
      intro w
      have h1 := ih (sh g (RLw w))
      simp only [dp]
      split
      · omega
      · split
        · omega
        · split <;> omega
  exact h _ _
theorem badW_iff (g : Int) (w : List Int) : badW g w = true ↔ (∃ x ∈ w, g < x) ∨ ∃ x ∈ RLw w, g < x := by
  unfold badW
  rw [Bool.or_eq_true, List.any_eq_true, List.any_eq_true]
  constructor
  · rintro (⟨x, h1, h2⟩ | ⟨x, h1, h2⟩)
    · exact Or.inl ⟨x, h1, of_decide_eq_true h2⟩
    · exact Or.inr ⟨x, h1, of_decide_eq_true h2⟩
  · rintro (⟨x, h1, h2⟩ | ⟨x, h1, h2⟩)
    · exact Or.inl ⟨x, h1, decide_eq_true h2⟩
    · exact Or.inr ⟨x, h1, decide_eq_true h2⟩
end
section
/-! the rows that tell the lengths of their runs -/
theorem nsum_congr {f g : Int → Int} (n : Nat) (h : ∀ j : Int, 0 ≤ j → j < n → f j = g j) : nsum f n = nsum g n := by
  induction n with
  | zero => rfl
  | succ n ih =>
    show nsum f n + f n = nsum g n + g n
    rw [ih (fun j h0 h1 => h j h0 (by omega)), h n (by omega) (by omega)]
theorem isum_congr {f g : Int → Int} {k : Int} (h : ∀ j : Int, 0 ≤ j → j < k → f j = g j) : isum f k = isum g k :=
  nsum_congr _ (fun j h0 h1 => h j h0 (by omega))
theorem isum_n (f : Int → Int) (n : Nat) : isum f (n : Int) = nsum f n := by
  show nsum f ((n : Int)).toNat = _
  rw [show ((n : Int)).toNat = n from by omega]
theorem isum_neg (f : Int → Int) {k : Int} (h : k ≤ 0) : isum f k = 0 := by
  show nsum f k.toNat = 0
  rw [show k.toNat = 0 from by omega]
  rfl
/-- f is at least 1 -/
theorem isum_mono {f : Int → Int} (h : ∀ j : Int, 0 ≤ j → 1 ≤ f j) {a b : Int} (h0 : 0 ≤ a) (h1 : a ≤ b) : isum f a + (b - a) ≤ isum f b := by
  obtain ⟨d, hd⟩ : ∃ d : Nat, b = a + d := ⟨(b - a).toNat, by omega⟩
  subst hd
  clear h1
  induction d with
  | zero => rw [show a + ((0 : Nat) : Int) = a from by omega]; omega
  | succ d ih =>
    have e : a + ((d + 1 : Nat) : Int) = (a + d) + 1 := by omega
    rw [e, isum_s f (by omega)]
    have := h (a + d) (by omega)
    omega
theorem isum_ge {f : Int → Int} (h : ∀ j : Int, 0 ≤ j → 1 ≤ f j) {b : Int} (h0 : 0 ≤ b) : b ≤ isum f b := by
  have := isum_mono h (Int.le_refl 0) h0
  rw [isum_0] at this
  omega
/-- the greatest t up to c with isum f t ≤ k -/
def fj (f : Int → Int) (k : Int) : Nat → Nat
  | 0 => 0
  | c + 1 => if isum f ((c : Int) + 1) ≤ k then c + 1 else fj f k c
theorem fj_le (f : Int → Int) (k : Int) (c : Nat) : fj f k c ≤ c := by
  induction c with
  | zero => exact Nat.le_refl 0
  | succ c ih => simp only [fj]; split <;> omega
theorem fj_sum {f : Int → Int} {k : Int} (hk : 0 ≤ k) (c : Nat) : isum f (fj f k c : Nat) ≤ k := by
  induction c with
  | zero => exact hk
  | succ c ih =>
    simp only [fj]
    split
    · rw [show (((c + 1 : Nat)) : Int) = (c : Int) + 1 from by omega]; assumption
    · exact ih
theorem fj_gt {f : Int → Int} {k : Int} (c : Nat) : ∀ t : Nat, fj f k c < t → t ≤ c → k < isum f (t : Int) := by
  induction c with
  | zero => intro t h1 h2; omega
  | succ c ih =>
    intro t h1 h2
    simp only [fj] at h1
    split at h1
    · omega
    · by_cases ht : t = c + 1
      · subst ht
        rw [show (((c + 1 : Nat)) : Int) = (c : Int) + 1 from by omega]
        omega
      · exact ih t h1 (by omega)
theorem fj_congr {f g : Int → Int} {k : Int} (c : Nat) (h : ∀ j : Int, 0 ≤ j → j < c → f j = g j) : fj f k c = fj g k c := by
  induction c with
  | zero => rfl
  | succ c ih =>
    simp only [fj]
    rw [ih (fun j h0 h1 => h j h0 (by omega)), isum_congr (fun j h0 h1 => h j h0 (by omega))]
def TQ (lt : Nat → Int → Int) (nx : Nat → Nat) : Nat → Nat → Int → Int
  | 0 => fun _ _ => 0
  | m + 1 => fun r u => if u < (m : Int) then TQ lt nx m r u else lt r ((fj (TQ lt nx m (nx r)) (m : Int) m : Nat) : Int)
/-- number k of row r -/
def SQ (lt : Nat → Int → Int) (nx : Nat → Nat) (r : Nat) (k : Int) : Int := TQ lt nx (k.toNat + 1) r k
theorem TQ_eq (lt : Nat → Int → Int) (nx : Nat → Nat) (m : Nat) : ∀ (r : Nat) (u : Int), 0 ≤ u → u < m → TQ lt nx m r u = SQ lt nx r u := by
  induction m with
  | zero => intro r u h0 h1; omega
  | succ m ih =>
    intro r u h0 h1
    by_cases hu : u < (m : Int)
    · show (if _ then _ else _) = _
      rw [if_pos hu]
      exact ih r u h0 hu
    · have : u.toNat = m := by omega
      unfold SQ
      rw [this]
theorem SQ_val (lt : Nat → Int → Int) (nx : Nat → Nat) (r : Nat) (m : Nat) : SQ lt nx r (m : Int) = lt r ((fj (SQ lt nx (nx r)) (m : Int) m : Nat) : Int) := by
  unfold SQ
  rw [show ((m : Int)).toNat = m from by omega]
  show (if _ then _ else _) = _
  rw [if_neg (by omega), fj_congr m (fun j h0 h1 => TQ_eq lt nx m (nx r) j h0 h1)]
  rfl
theorem SQ_pos {lt : Nat → Int → Int} {nx : Nat → Nat} (h : ∀ r j, 0 ≤ j → 1 ≤ lt r j) (r : Nat) : ∀ k : Int, 0 ≤ k → 1 ≤ SQ lt nx r k := by
  intro k hk
  obtain ⟨m, rfl⟩ := Int.eq_ofNat_of_zero_le hk
  rw [SQ_val]
  exact h _ _ (by omega)
theorem SQ_le {lt : Nat → Int → Int} {nx : Nat → Nat} {b : Int} (h : ∀ r j, 0 ≤ j → lt r j ≤ b) (r : Nat) : ∀ k : Int, 0 ≤ k → SQ lt nx r k ≤ b := by
  intro k hk
  obtain ⟨m, rfl⟩ := Int.eq_ofNat_of_zero_le hk
  rw [SQ_val]
  exact h _ _ (by omega)
/-- where run j of row r begins -/
def BQ (lt : Nat → Int → Int) (nx : Nat → Nat) (r : Nat) (j : Int) : Int := isum (SQ lt nx (nx r)) j
theorem BQ_0 (lt : Nat → Int → Int) (nx : Nat → Nat) (r : Nat) : BQ lt nx r 0 = 0 := rfl
theorem BQ_s (lt : Nat → Int → Int) (nx : Nat → Nat) (r : Nat) {j : Int} (h : 0 ≤ j) : BQ lt nx r (j + 1) = BQ lt nx r j + SQ lt nx (nx r) j := isum_s _ h
theorem BQ_mono {lt : Nat → Int → Int} {nx : Nat → Nat} (h : ∀ r j, 0 ≤ j → 1 ≤ lt r j) (r : Nat) {a b : Int} (h0 : 0 ≤ a) (h1 : a ≤ b) : BQ lt nx r a + (b - a) ≤ BQ lt nx r b := isum_mono (SQ_pos h _) h0 h1
theorem BQ_ge {lt : Nat → Int → Int} {nx : Nat → Nat} (h : ∀ r j, 0 ≤ j → 1 ≤ lt r j) (r : Nat) {b : Int} (h0 : 0 ≤ b) : b ≤ BQ lt nx r b := isum_ge (SQ_pos h _) h0
theorem SQ_run {lt : Nat → Int → Int} {nx : Nat → Nat} (h : ∀ r j, 0 ≤ j → 1 ≤ lt r j) {r : Nat} {j k : Int} (hj : 0 ≤ j) (h1 : BQ lt nx r j ≤ k) (h2 : k < BQ lt nx r (j + 1)) : SQ lt nx r k = lt r j := by
  have hg := BQ_ge (nx := nx) h r hj
  obtain ⟨m, rfl⟩ := Int.eq_ofNat_of_zero_le (show 0 ≤ k by omega)
  obtain ⟨i, rfl⟩ := Int.eq_ofNat_of_zero_le hj
  rw [SQ_val]
  have a1 := fj_le (SQ lt nx (nx r)) (m : Int) m
  have a2 : BQ lt nx r ((fj (SQ lt nx (nx r)) (m : Int) m : Nat) : Int) ≤ m := fj_sum (by omega) m
  have a3 := fj_gt (f := SQ lt nx (nx r)) (k := (m : Int)) m
  generalize fj (SQ lt nx (nx r)) (m : Int) m = w at a1 a2 a3
  have hw : w = i := by
    rcases Nat.lt_trichotomy w i with q | q | q
    · have h3 : (m : Int) < BQ lt nx r (i : Int) := a3 i q (by omega)
      omega
    · exact q
    · have := BQ_mono (nx := nx) h r (a := (i : Int) + 1) (b := (w : Int)) (by omega) (by omega)
      omega
  rw [hw]
/-- how many of the first n places begin a run of f -/
def chg (f : Int → Int) (n : Int) : Int := isum (fun k => if k = 0 ∨ f k ≠ f (k - 1) then 1 else 0) n
/-- how many of the first n are v -/
def cntv (f : Int → Int) (v n : Int) : Int := isum (fun k => if f k = v then 1 else 0) n
theorem chg_s (f : Int → Int) {n : Int} (h : 0 ≤ n) : chg f (n + 1) = chg f n + if n = 0 ∨ f n ≠ f (n - 1) then 1 else 0 := isum_s _ h
theorem cntv_s (f : Int → Int) (v : Int) {n : Int} (h : 0 ≤ n) : cntv f v (n + 1) = cntv f v n + if f n = v then 1 else 0 := isum_s _ h
theorem chg_congr {f g : Int → Int} {n : Int} (h : ∀ j : Int, 0 ≤ j → j < n → f j = g j) : chg f n = chg g n := by
  refine isum_congr (fun j h0 h1 => ?_)
  by_cases hj : j = 0
  · rw [if_pos (Or.inl hj), if_pos (Or.inl hj)]
  · rw [h j h0 h1, h (j - 1) (by omega) (by omega)]
theorem cntv_congr {f g : Int → Int} {v n : Int} (h : ∀ j : Int, 0 ≤ j → j < n → f j = g j) : cntv f v n = cntv g v n :=
  isum_congr (fun j h0 h1 => by rw [h j h0 h1])
theorem chg_run {lt : Nat → Int → Int} {nx : Nat → Nat} (h : ∀ r j, 0 ≤ j → 1 ≤ lt r j) {r : Nat} (hd : ∀ j, 0 ≤ j → lt r j ≠ lt r (j + 1)) : ∀ (n : Nat) (R : Int), 1 ≤ n → 1 ≤ R → BQ lt nx r (R - 1) < n → (n : Int) ≤ BQ lt nx r R → chg (SQ lt nx r) n = R := by
  intro n
  induction n with
  | zero => intro R h0; omega
  | succ n ih =>
    intro R h0 hR h1 h2
    rw [show (((n + 1 : Nat)) : Int) = (n : Int) + 1 from by omega] at h1 h2 ⊢
    rw [chg_s _ (by omega)]
    by_cases hn : n = 0
    · subst hn
      have h3 := BQ_ge (nx := nx) h r (show 0 ≤ R - 1 by omega)
      rw [if_pos (by exact Or.inl rfl)]
      show (0 : Int) + 1 = R
      omega
    · by_cases h4 : BQ lt nx r (R - 1) < n
      · rw [ih R (by omega) hR h4 (by omega)]
        have e1 : SQ lt nx r n = lt r (R - 1) := SQ_run h (by omega) (by omega) (by rw [show R - 1 + 1 = R from by omega]; omega)
        have e2 : SQ lt nx r ((n : Int) - 1) = lt r (R - 1) := SQ_run h (by omega) (by omega) (by rw [show R - 1 + 1 = R from by omega]; omega)
        rw [if_neg (by rw [e1, e2]; rintro (q | q); · omega
                       · exact q rfl)]
        omega
      · have hR2 : 2 ≤ R := by
          rcases Int.lt_or_le 1 R with q | q
          · omega
          · have : R - 1 = 0 := by omega
            rw [this, BQ_0] at h4
            omega
        have h5 := BQ_mono (nx := nx) h r (a := R - 1 - 1) (b := R - 1) (by omega) (by omega)
        have h6 := BQ_s lt nx r (j := R - 1 - 1) (by omega)
        rw [show R - 1 - 1 + 1 = R - 1 from by omega] at h6
        rw [ih (R - 1) (by omega) (by omega) (by omega) (by omega)]
        have e1 : SQ lt nx r n = lt r (R - 1) := SQ_run h (by omega) (by omega) (by rw [show R - 1 + 1 = R from by omega]; omega)
        have e2 : SQ lt nx r ((n : Int) - 1) = lt r (R - 1 - 1) := SQ_run h (by omega) (by omega) (by rw [show R - 1 - 1 + 1 = R - 1 from by omega]; omega)
        have e3 := hd (R - 1 - 1) (by omega)
        rw [show R - 1 - 1 + 1 = R - 1 from by omega] at e3
        rw [if_pos (Or.inr (by rw [e1, e2]; exact fun q => e3 q.symm))]
        omega
theorem run_ex {lt : Nat → Int → Int} {nx : Nat → Nat} (h : ∀ r j, 0 ≤ j → 1 ≤ lt r j) (r : Nat) {n : Int} (h1 : 1 ≤ n) : ∃ R : Int, 1 ≤ R ∧ BQ lt nx r (R - 1) < n ∧ n ≤ BQ lt nx r R := by
  obtain ⟨m, rfl⟩ := Int.eq_ofNat_of_zero_le (show 0 ≤ n by omega)
  have a1 := fj_le (SQ lt nx (nx r)) ((m : Int) - 1) m
  have a2 : BQ lt nx r ((fj (SQ lt nx (nx r)) ((m : Int) - 1) m : Nat) : Int) ≤ (m : Int) - 1 := fj_sum (by omega) m
  have a3 := fj_gt (f := SQ lt nx (nx r)) (k := (m : Int) - 1) m
  generalize fj (SQ lt nx (nx r)) ((m : Int) - 1) m = w at a1 a2 a3
  have a4 := BQ_ge (nx := nx) h r (b := (w : Int)) (by omega)
  refine ⟨(w : Int) + 1, by omega, ?_, ?_⟩
  · rw [show (w : Int) + 1 - 1 = (w : Int) from by omega]; omega
  · have a5 : (m : Int) - 1 < BQ lt nx r ((w + 1 : Nat) : Int) := a3 (w + 1) (by omega) (by omega)
    rw [show (((w + 1 : Nat)) : Int) = (w : Int) + 1 from by omega] at a5
    omega
theorem chg_iff {lt : Nat → Int → Int} {nx : Nat → Nat} (h : ∀ r j, 0 ≤ j → 1 ≤ lt r j) {r : Nat} (hd : ∀ j, 0 ≤ j → lt r j ≠ lt r (j + 1)) {n j : Int} (h1 : 1 ≤ n) (h2 : 0 ≤ j) : chg (SQ lt nx r) n ≤ j ↔ n ≤ BQ lt nx r j := by
  obtain ⟨R, a1, a2, a3⟩ := run_ex (nx := nx) h r h1
  obtain ⟨m, rfl⟩ := Int.eq_ofNat_of_zero_le (show 0 ≤ n by omega)
  rw [chg_run h hd m R (by omega) a1 a2 a3]
  constructor
  · intro q
    have := BQ_mono (nx := nx) h r (a := R) (b := j) (by omega) q
    omega
  · intro q
    rcases Int.lt_or_le j R with w | w
    · have := BQ_mono (nx := nx) h r (a := j) (b := R - 1) h2 (by omega)
      omega
    · exact w
theorem SQ_congr {lt lt' : Nat → Int → Int} {nx : Nat → Nat} (h : ∀ r j, 0 ≤ j → lt r j = lt' r j) (r : Nat) : ∀ k : Int, SQ lt nx r k = SQ lt' nx r k := by
  have e : ∀ (m : Nat) (r : Nat), TQ lt nx m r = TQ lt' nx m r := by
    intro m
    induction m with
    | zero => intro r; rfl
    | succ m ih =>
      intro r
      funext u
      show (if _ then _ else _) = (if _ then _ else _)
      rw [ih r, ih (nx r), h _ _ (by omega)]
  intro k
  unfold SQ
  rw [e]
/-- the numbers' sum by their counts -/
theorem isum_cnt {f : Int → Int} {n : Int} (h : ∀ k : Int, 0 ≤ k → k < n → 1 ≤ f k ∧ f k ≤ 6) (hn : 0 ≤ n) : isum f n = 1 * cntv f 1 n + 2 * cntv f 2 n + 3 * cntv f 3 n + 4 * cntv f 4 n + 5 * cntv f 5 n + 6 * cntv f 6 n := by
  obtain ⟨m, rfl⟩ := Int.eq_ofNat_of_zero_le hn
  induction m with
  | zero => rfl
  | succ m ih =>
    have e := ih (fun k h0 h1 => h k h0 (by omega)) (by omega)
    have b := h m (by omega) (by omega)
    rw [show (((m + 1 : Nat)) : Int) = (m : Int) + 1 from by omega, isum_s f (by omega), cntv_s _ _ (by omega), cntv_s _ _ (by omega), cntv_s _ _ (by omega), cntv_s _ _ (by omega), cntv_s _ _ (by omega), cntv_s _ _ (by omega), e]
    have hc : f m = 1 ∨ f m = 2 ∨ f m = 3 ∨ f m = 4 ∨ f m = 5 ∨ f m = 6 := by omega
    rcases hc with q | q | q | q | q | q <;> rw [q] <;> simp only [reduceIte, Int.reduceEq] <;> omega
theorem cntv_b (f : Int → Int) (v : Int) {n : Int} (hn : 0 ≤ n) : 0 ≤ cntv f v n ∧ cntv f v n ≤ n := by
  obtain ⟨m, rfl⟩ := Int.eq_ofNat_of_zero_le hn
  induction m with
  | zero => exact ⟨Int.le_refl 0, Int.le_refl 0⟩
  | succ m ih =>
    have e := ih (by omega)
    rw [show (((m + 1 : Nat)) : Int) = (m : Int) + 1 from by omega, cntv_s _ _ (by omega)]
    split <;> omega
theorem chg_b (f : Int → Int) {n : Int} (hn : 0 ≤ n) : 0 ≤ chg f n ∧ chg f n ≤ n := by
  obtain ⟨m, rfl⟩ := Int.eq_ofNat_of_zero_le hn
  induction m with
  | zero => exact ⟨Int.le_refl 0, Int.le_refl 0⟩
  | succ m ih =>
    have e := ih (by omega)
    rw [show (((m + 1 : Nat)) : Int) = (m : Int) + 1 from by omega, chg_s _ (by omega)]
    split <;> omega
theorem isum_b {f : Int → Int} {n b : Int} (hn : 0 ≤ n) (h : ∀ k : Int, 0 ≤ k → k < n → 0 ≤ f k ∧ f k ≤ b) : 0 ≤ isum f n ∧ isum f n ≤ n * b := by
  obtain ⟨m, rfl⟩ := Int.eq_ofNat_of_zero_le hn
  induction m with
  | zero => rw [show (((0 : Nat)) : Int) = 0 from rfl, isum_0]; omega
  | succ m ih =>
    have e := ih (by omega) (fun k h0 h1 => h k h0 (by omega))
    have c := h m (by omega) (by omega)
    rw [show (((m + 1 : Nat)) : Int) = (m : Int) + 1 from by omega, isum_s f (by omega)]
    have : ((m : Int) + 1) * b = (m : Int) * b + b := by rw [Int.add_mul, Int.one_mul]
    omega
end
section
/-! words: the run so far, the longest, the greatest -/
def mx2 (a b : Int) : Int := if a < b then b else a
def clP (f : Int → Int) : Nat → Int
  | 0 => 0
  | n + 1 => if n = 0 ∨ f (n : Int) ≠ f ((n : Int) - 1) then 1 else clP f n + 1
def lgP (f : Int → Int) : Nat → Int
  | 0 => 0
  | n + 1 => mx2 (lgP f n) (clP f (n + 1))
def gmP (f : Int → Int) : Nat → Int
  | 0 => 0
  | n + 1 => mx2 (gmP f n) (f (n : Int))
def cl (f : Int → Int) (k : Int) : Int := clP f k.toNat
def lg (f : Int → Int) (k : Int) : Int := lgP f k.toNat
def gm (f : Int → Int) (k : Int) : Int := gmP f k.toNat
def runs (f : Int → Int) (k : Int) : List Int := runsP f k.toNat
theorem toNat_s {k : Int} (h : 0 ≤ k) : (k + 1).toNat = k.toNat + 1 := by omega
theorem cl_0 (f : Int → Int) : cl f 0 = 0 := rfl
theorem lg_0 (f : Int → Int) : lg f 0 = 0 := rfl
theorem gm_0 (f : Int → Int) : gm f 0 = 0 := rfl
theorem runs_0 (f : Int → Int) : runs f 0 = [] := rfl
theorem cl_s (f : Int → Int) {k : Int} (h : 0 ≤ k) : cl f (k + 1) = if k = 0 ∨ f k ≠ f (k - 1) then 1 else cl f k + 1 := by
  obtain ⟨n, rfl⟩ := Int.eq_ofNat_of_zero_le h
  unfold cl
  rw [toNat_s h, show ((n : Int)).toNat = n from by omega]
  show (if _ then _ else _) = _
  by_cases hn : n = 0
  · rw [if_pos (Or.inl hn), if_pos (Or.inl (by omega))]
  · by_cases hc : f (n : Int) ≠ f ((n : Int) - 1)
    · rw [if_pos (Or.inr hc), if_pos (Or.inr hc)]
    · rw [if_neg (fun q => q.elim hn hc), if_neg (fun q => q.elim (fun z => hn (by omega)) hc)]
theorem lg_s (f : Int → Int) {k : Int} (h : 0 ≤ k) : lg f (k + 1) = mx2 (lg f k) (cl f (k + 1)) := by
  unfold lg cl
  rw [toNat_s h]
  rfl
theorem gm_s (f : Int → Int) {k : Int} (h : 0 ≤ k) : gm f (k + 1) = mx2 (gm f k) (f k) := by
  obtain ⟨n, rfl⟩ := Int.eq_ofNat_of_zero_le h
  unfold gm
  rw [toNat_s h, show ((n : Int)).toNat = n from by omega]
  rfl
theorem runs_new {f : Int → Int} {k : Int} (h : 0 ≤ k) (hc : k = 0 ∨ f k ≠ f (k - 1)) : runs f (k + 1) = runs f k ++ [1] := by
  obtain ⟨n, rfl⟩ := Int.eq_ofNat_of_zero_le h
  unfold runs
  rw [toNat_s h, show ((n : Int)).toNat = n from by omega]
  exact runsP_new (hc.elim (fun z => Or.inl (by omega)) Or.inr)
theorem runs_old {f : Int → Int} {k : Int} (h : 0 ≤ k) (hc : ¬ (k = 0 ∨ f k ≠ f (k - 1))) : runs f (k + 1) = incL (runs f k) := by
  obtain ⟨n, rfl⟩ := Int.eq_ofNat_of_zero_le h
  unfold runs
  rw [toNat_s h, show ((n : Int)).toNat = n from by omega]
  exact runsP_old (fun q => hc (q.elim (fun z => Or.inl (by omega)) Or.inr))
theorem runs_facts (f : Int → Int) {k : Int} (h : 0 ≤ k) : (∀ x ∈ runs f k, 1 ≤ x) ∧ lsum (runs f k) = k := by
  obtain ⟨n, rfl⟩ := Int.eq_ofNat_of_zero_le h
  unfold runs
  rw [show ((n : Int)).toNat = n from by omega]
  exact ⟨(runsP_facts f n).1, (runsP_facts f n).2.1⟩
theorem runs_congr {f g : Int → Int} {k : Int} (h : ∀ j : Int, 0 ≤ j → j < k → f j = g j) : runs f k = runs g k := runsP_congr _ (fun j h0 h1 => h j h0 (by omega))
theorem RLw_w (f : Int → Int) {k : Int} (h : 0 ≤ k) : RLw (wl f k) = runs f k := by
  obtain ⟨n, rfl⟩ := Int.eq_ofNat_of_zero_le h
  rw [RLw_wl]
  unfold runs
  rw [show ((n : Int)).toNat = n from by omega]
theorem cl_pos (f : Int → Int) {k : Int} (h : 0 ≤ k) : 0 ≤ cl f k ∧ cl f k ≤ k ∧ (0 < k → 1 ≤ cl f k) := by
  obtain ⟨n, rfl⟩ := Int.eq_ofNat_of_zero_le h
  induction n with
  | zero => exact ⟨Int.le_refl 0, Int.le_refl 0, fun q => by omega⟩
  | succ n ih =>
    have := ih (by omega)
    rw [show (((n + 1 : Nat)) : Int) = (n : Int) + 1 from by omega, cl_s f (by omega)]
    split <;> omega
/-- the runs of k letters: the ended ones, and the last -/
theorem runs_last (f : Int → Int) {k : Int} (h : 0 < k) : ∃ q, runs f k = q ++ [cl f k] ∧ lsum q = k - cl f k ∧ (∀ x ∈ q, 1 ≤ x) := by
  obtain ⟨n, rfl⟩ : ∃ n : Nat, k = (n : Int) + 1 := ⟨(k - 1).toNat, by omega⟩
  clear h
  induction n with
  | zero =>
    refine ⟨[], ?_, ?_, fun x hx => (by cases hx)⟩
    · rw [runs_new (by omega) (Or.inl (by omega)), cl_s f (by omega), if_pos (Or.inl (by omega))]; rfl
    · rw [cl_s f (by omega), if_pos (Or.inl (by omega))]; rfl
  | succ n ih =>
    obtain ⟨q, h1, h2, h3⟩ := ih
    rw [show (((n + 1 : Nat)) : Int) = (n : Int) + 1 from by omega]
    by_cases hc : (n : Int) + 1 = 0 ∨ f ((n : Int) + 1) ≠ f ((n : Int) + 1 - 1)
    · refine ⟨runs f ((n : Int) + 1), ?_, ?_, (runs_facts f (by omega)).1⟩
      · rw [runs_new (by omega) hc, cl_s f (by omega), if_pos hc]
      · rw [(runs_facts f (by omega)).2, cl_s f (by omega), if_pos hc]; omega
    · refine ⟨q, ?_, ?_, h3⟩
      · rw [runs_old (by omega) hc, h1, incL_app, cl_s f (k := (n : Int) + 1) (by omega), if_neg hc]
      · rw [cl_s f (k := (n : Int) + 1) (by omega), if_neg hc]; omega
theorem mx2_lt (a b g : Int) : g < mx2 a b ↔ g < a ∨ g < b := by unfold mx2; split <;> omega
theorem mx2_le (a b g : Int) : mx2 a b ≤ g ↔ a ≤ g ∧ b ≤ g := by unfold mx2; split <;> omega
theorem gm_lt (f : Int → Int) {k g : Int} (h : 0 ≤ k) (hg : 0 ≤ g) : g < gm f k ↔ ∃ x ∈ wl f k, g < x := by
  obtain ⟨n, rfl⟩ := Int.eq_ofNat_of_zero_le h
  induction n with
  | zero =>
    constructor
    · intro q
      have : g < 0 := q
      omega
    · rintro ⟨x, hx, _⟩; cases hx
  | succ n ih =>
    rw [show (((n + 1 : Nat)) : Int) = (n : Int) + 1 from by omega, gm_s f (by omega), mx2_lt, ih (by omega), wl_s f (by omega)]
    constructor
    · rintro (⟨x, h1, h2⟩ | h1)
      · exact ⟨x, List.mem_append_left _ h1, h2⟩
      · exact ⟨_, List.mem_append_right _ (List.mem_singleton.mpr rfl), h1⟩
    · rintro ⟨x, h1, h2⟩
      rcases List.mem_append.mp h1 with h1 | h1
      · exact Or.inl ⟨x, h1, h2⟩
      · rw [List.mem_singleton.mp h1] at h2; exact Or.inr h2
theorem lg_lt (f : Int → Int) {k g : Int} (h : 0 ≤ k) (hg : 0 ≤ g) : g < lg f k ↔ ∃ x ∈ runs f k, g < x := by
  obtain ⟨n, rfl⟩ := Int.eq_ofNat_of_zero_le h
  induction n with
  | zero =>
    constructor
    · intro q
      have : g < 0 := q
      omega
    · rintro ⟨x, hx, _⟩; cases hx
  | succ n ih =>
    rw [show (((n + 1 : Nat)) : Int) = (n : Int) + 1 from by omega, lg_s f (by omega), mx2_lt, ih (by omega)]
    by_cases hc : (n : Int) = 0 ∨ f (n : Int) ≠ f ((n : Int) - 1)
    · rw [runs_new (by omega) hc, cl_s f (by omega), if_pos hc]
      constructor
      · rintro (⟨x, h1, h2⟩ | h1)
        · exact ⟨x, List.mem_append_left _ h1, h2⟩
        · exact ⟨_, List.mem_append_right _ (List.mem_singleton.mpr rfl), h1⟩
      · rintro ⟨x, h1, h2⟩
        rcases List.mem_append.mp h1 with h1 | h1
        · exact Or.inl ⟨x, h1, h2⟩
        · rw [List.mem_singleton.mp h1] at h2; exact Or.inr h2
    · obtain ⟨q, e1, e2, e3⟩ := runs_last f (k := (n : Int)) (by omega)
      rw [runs_old (by omega) hc, cl_s f (by omega), if_neg hc, e1, incL_app]
      constructor
      · rintro (⟨x, h1, h2⟩ | h1)
        · rcases List.mem_append.mp h1 with h1 | h1
          · exact ⟨x, List.mem_append_left _ h1, h2⟩
          · rw [List.mem_singleton.mp h1] at h2
            exact ⟨_, List.mem_append_right _ (List.mem_singleton.mpr rfl), by omega⟩
        · exact ⟨_, List.mem_append_right _ (List.mem_singleton.mpr rfl), h1⟩
      · rintro ⟨x, h1, h2⟩
        rcases List.mem_append.mp h1 with h1 | h1
        · exact Or.inl ⟨x, List.mem_append_left _ h1, h2⟩
        · rw [List.mem_singleton.mp h1] at h2; exact Or.inr h2
theorem lg_b (f : Int → Int) {k : Int} (h : 0 ≤ k) : 0 ≤ lg f k ∧ lg f k ≤ k := by
  obtain ⟨n, rfl⟩ := Int.eq_ofNat_of_zero_le h
  induction n with
  | zero => exact ⟨Int.le_refl 0, Int.le_refl 0⟩
  | succ n ih =>
    have := ih (by omega)
    have c := cl_pos f (k := (n : Int) + 1) (by omega)
    rw [show (((n + 1 : Nat)) : Int) = (n : Int) + 1 from by omega, lg_s f (by omega)]
    unfold mx2
    split <;> omega
theorem gm_b (f : Int → Int) {k b : Int} (h : 0 ≤ k) (hb : 0 ≤ b) (hf : ∀ j, 0 ≤ j → j < k → f j ≤ b) : 0 ≤ gm f k ∧ gm f k ≤ b := by
  obtain ⟨n, rfl⟩ := Int.eq_ofNat_of_zero_le h
  induction n with
  | zero => exact ⟨Int.le_refl 0, hb⟩
  | succ n ih =>
    have := ih (by omega) (fun j h0 h1 => hf j h0 (by omega))
    have c := hf n (by omega) (by omega)
    rw [show (((n + 1 : Nat)) : Int) = (n : Int) + 1 from by omega, gm_s f (by omega)]
    unfold mx2
    split <;> omega
/-- folding letters into a number -/
def mixP (f : Int → Int) (h : Int) : Nat → Int
  | 0 => h
  | n + 1 => 31 * mixP f h n + f (n : Int)
def mix (f : Int → Int) (h k : Int) : Int := mixP f h k.toNat
theorem mix_0 (f : Int → Int) (h : Int) : mix f h 0 = h := rfl
theorem mix_s (f : Int → Int) (h : Int) {k : Int} (hk : 0 ≤ k) : mix f h (k + 1) = 31 * mix f h k + f k := by
  obtain ⟨n, rfl⟩ := Int.eq_ofNat_of_zero_le hk
  unfold mix
  rw [toNat_s hk, show ((n : Int)).toNat = n from by omega]
  rfl
theorem mix_congr {f g : Int → Int} (h : Int) {k : Int} (e : ∀ j : Int, 0 ≤ j → j < k → f j = g j) : mix f h k = mix g h k := by
  unfold mix
  have : ∀ n : Nat, (n : Int) ≤ k → mixP f h n = mixP g h n := by
    intro n
    induction n with
    | zero => intro _; rfl
    | succ n ih =>
      intro hn
      show 31 * mixP f h n + f n = 31 * mixP g h n + g n
      rw [ih (by omega), e n (by omega) (by omega)]
  by_cases hk : 0 ≤ k
  · exact this _ (by omega)
  · rw [show k.toNat = 0 from by omega]; rfl
end
section
/-! words: one pass of shortening; the letter behind -/
theorem bs_mid (g L : Int) (q : List Int) : dropF g (q ++ [L]) = if g ≤ L ∨ q ≠ [] then dropF g q ++ [L] else dropF g q := by
  by_cases hq : q = []
  · subst hq
    show (if L < g then [] else [L]) = _
    by_cases h : L < g
    · rw [if_pos h, if_neg (fun z => z.elim (by omega) (fun y => y rfl))]; rfl
    · rw [if_neg h, if_pos (Or.inl (by omega))]; rfl
  · rw [if_pos (Or.inr hq), dropF_app g q L hq]
theorem bs_end (g L : Int) (q : List Int) : sh g (q ++ [L]) = if g ≤ L then dropF g q ++ [L] else dropF g q := by
  unfold sh
  by_cases hq : q = []
  · subst hq
    show dropE g (if L < g then [] else [L]) = _
    by_cases h : L < g
    · rw [if_pos h, if_neg (by omega)]; rfl
    · rw [if_neg h, if_pos (by omega)]
      show (if L < g then [] else [L]) = _
      rw [if_neg h]; rfl
  · rw [dropF_app g q L hq, dropE_app]
    by_cases h : L < g
    · rw [if_pos h, if_neg (by omega)]
    · rw [if_neg h, if_pos (by omega)]
theorem lsum_nil {q : List Int} (h : ∀ x ∈ q, 1 ≤ x) : lsum q = 0 ↔ q = [] := by
  constructor
  · intro e
    have := lsum_len q h
    rw [e] at this
    exact List.length_eq_zero_iff.mp (by omega)
  · intro e; rw [e]; rfl
/-- the letter behind the first like v, -1 where there is none -/
def LB (f : Int → Int) (n v z : Int) : Prop := (∃ i : Int, 0 ≤ i ∧ i < n ∧ f i = v ∧ (∀ j : Int, 0 ≤ j → j < i → f j ≠ v) ∧ z = f ((i + 1) % n)) ∨ ((∀ j : Int, 0 ≤ j → j < n → f j ≠ v) ∧ z = -1)
/-- what v is turned into -/
def TR (f : Int → Int) (n v z : Int) : Prop := (∃ i : Int, 0 ≤ i ∧ i < n ∧ f i = v ∧ (∀ j : Int, 0 ≤ j → j < i → f j ≠ v) ∧ z = f ((i + 1) % n)) ∨ ((∀ j : Int, 0 ≤ j → j < n → f j ≠ v) ∧ z = v)
theorem TR_u {f : Int → Int} {n v z y : Int} (h1 : TR f n v z) (h2 : TR f n v y) : z = y := by
  rcases h1 with ⟨i, a1, a2, a3, a4, a5⟩ | ⟨a1, a2⟩
  · rcases h2 with ⟨j, b1, b2, b3, b4, b5⟩ | ⟨b1, b2⟩
    · have : i = j := by
        rcases Int.lt_trichotomy i j with q | q | q
        · exact absurd a3 (b4 i a1 q)
        · exact q
        · exact absurd b3 (a4 j b1 q)
      rw [a5, b5, this]
    · exact absurd a3 (b1 i a1 a2)
  · rcases h2 with ⟨j, b1, b2, b3, b4, b5⟩ | ⟨b1, b2⟩
    · exact absurd b3 (a1 j b1 b2)
    · rw [a2, b2]
theorem TR_congr {f g : Int → Int} {n v z : Int} (e : ∀ j : Int, 0 ≤ j → j < n → f j = g j) (h : TR f n v z) : TR g n v z := by
  rcases h with ⟨i, a1, a2, a3, a4, a5⟩ | ⟨a1, a2⟩
  · exact Or.inl ⟨i, a1, a2, by rw [← e i a1 a2]; exact a3, fun j h0 h1 => by rw [← e j h0 (by omega)]; exact a4 j h0 h1, by rw [a5]; exact e _ (Int.emod_nonneg _ (by omega)) (Int.emod_lt_of_pos _ (by omega))⟩
  · exact Or.inr ⟨fun j h0 h1 => by rw [← e j h0 h1]; exact a1 j h0 h1, a2⟩
theorem LB_TR {f : Int → Int} {n v z : Int} (hv : v ≠ -1) (hf : ∀ j : Int, 0 ≤ j → j < n → f j ≠ -1) (hn : 0 < n) (h : LB f n v z) : TR f n v (if z = -1 then v else z) := by
  rcases h with ⟨i, a1, a2, a3, a4, a5⟩ | ⟨a1, a2⟩
  · have := hf ((i + 1) % n) (Int.emod_nonneg _ (by omega)) (Int.emod_lt_of_pos _ hn)
    rw [if_neg (by rw [a5]; exact this)]
    exact Or.inl ⟨i, a1, a2, a3, a4, a5⟩
  · rw [if_pos a2]
    exact Or.inr ⟨a1, rfl⟩
theorem TR_b {f : Int → Int} {n v z lo hi : Int} (hn : 0 < n) (hf : ∀ j : Int, 0 ≤ j → j < n → lo ≤ f j ∧ f j ≤ hi) (hv : lo ≤ v ∧ v ≤ hi) (h : TR f n v z) : lo ≤ z ∧ z ≤ hi := by
  rcases h with ⟨i, a1, a2, a3, a4, a5⟩ | ⟨a1, a2⟩
  · rw [a5]; exact hf _ (Int.emod_nonneg _ (by omega)) (Int.emod_lt_of_pos _ hn)
  · rw [a2]; exact hv
/-- a stretch of m letters stands twice from i on -/
def tw (f : Int → Int) (m i : Int) : Prop := ∀ t : Int, 0 ≤ t → t < m → f (i + t) = f (i + t + m)
end
section
/-! a row's state: S its numbers; f what is made, kp the kept counts, h the counts, m how many are made -/
def KP (S kp : Int → Int) (m : Int) : Prop := (∀ b v : Int, 0 ≤ b → 256 * b ≤ m → 1 ≤ v → v ≤ 6 → kp (b * 7 + v) = cntv S v (256 * b)) ∧ (∀ b : Int, 0 ≤ b → 256 * b ≤ m → kp (b * 7) = chg S (256 * b))
def RS (S f kp h : Int → Int) (m R : Int) : Prop := (0 ≤ m ∧ m ≤ 100001) ∧ h 0 = R ∧ (∀ k : Int, 0 ≤ k → k < m → f k = S k) ∧ (∀ v : Int, 1 ≤ v → v ≤ 6 → h v = cntv S v m) ∧ KP S kp m
/-- the kept counts are of the next block -/
theorem KP_s {S kp kp2 h : Int → Int} {m : Int} (h0 : KP S kp (m - 1)) (hm : 1 ≤ m) (hd : m % 256 = 0)
    (h1 : ∀ c : Int, 0 ≤ c → c < 7 → kp2 (m / 256 * 7 + c) = h c) (h2 : ∀ c : Int, c < m / 256 * 7 ∨ m / 256 * 7 + 7 ≤ c → kp2 c = kp c)
    (h3 : ∀ v : Int, 1 ≤ v → v ≤ 6 → h v = cntv S v m) (h4 : h 0 = chg S m) : KP S kp2 m := by
  refine ⟨fun b v a1 a2 a3 a4 => ?_, fun b a1 a2 => ?_⟩
  · by_cases hb : 256 * b = m
    · have e : m / 256 = b := by omega
      rw [← e, h1 v (by omega) (by omega), h3 v a3 a4, show 256 * (m / 256) = m from by omega]
    · rw [h2 _ (Or.inl (by omega))]
      exact h0.1 b v a1 (by omega) a3 a4
  · by_cases hb : 256 * b = m
    · have e : m / 256 = b := by omega
      have := h1 0 (by omega) (by omega)
      rw [Int.add_zero] at this
      rw [← e, this, h4, show 256 * (m / 256) = m from by omega]
    · rw [h2 _ (Or.inl (by omega))]
      exact h0.2 b a1 (by omega)
theorem KP_n {S kp : Int → Int} {m : Int} (h0 : KP S kp (m - 1)) (hd : m % 256 ≠ 0) : KP S kp m :=
  ⟨fun b v a1 a2 a3 a4 => h0.1 b v a1 (by omega) a3 a4, fun b a1 a2 => h0.2 b a1 (by omega)⟩
/-- the greatest difference -/
def iab (d : Int) : Int := if 0 ≤ d then d else -d
def ofP (f : Int → Int) (v s : Int) : Nat → Int
  | 0 => 0
  | n + 1 => mx2 (ofP f v s n) (iab (cntv f v ((n : Int) + 1) * s - ((n : Int) + 1)))
def ofn (f : Int → Int) (v s k : Int) : Int := ofP f v s k.toNat
theorem ofn_0 (f : Int → Int) (v s : Int) : ofn f v s 0 = 0 := rfl
theorem ofn_s (f : Int → Int) (v s : Int) {k : Int} (h : 0 ≤ k) : ofn f v s (k + 1) = mx2 (ofn f v s k) (iab (cntv f v (k + 1) * s - (k + 1))) := by
  obtain ⟨n, rfl⟩ := Int.eq_ofNat_of_zero_le h
  unfold ofn
  rw [toNat_s h, show ((n : Int)).toNat = n from by omega]
  rfl
theorem ofn_congr {f g : Int → Int} {v s k : Int} (h : ∀ j : Int, 0 ≤ j → j < k → f j = g j) : ofn f v s k = ofn g v s k := by
  unfold ofn
  have : ∀ n : Nat, (n : Int) ≤ k → ofP f v s n = ofP g v s n := by
    intro n
    induction n with
    | zero => intro _; rfl
    | succ n ih =>
      intro hn
      show mx2 _ _ = mx2 _ _
      rw [ih (by omega), cntv_congr (fun j h0 h1 => h j h0 (by omega))]
  by_cases hk : 0 ≤ k
  · exact this _ (by omega)
  · rw [show k.toNat = 0 from by omega]; rfl
theorem wsum6 (c : Int → Int) : isum (fun u => u * c u) 7 = 1 * c 1 + 2 * c 2 + 3 * c 3 + 4 * c 4 + 5 * c 5 + 6 * c 6 := by
  show ((((((0 + (0 : Int) * c 0) + (1 : Int) * c 1) + (2 : Int) * c 2) + (3 : Int) * c 3) + (4 : Int) * c 4) + (5 : Int) * c 5) + (6 : Int) * c 6 = _
  omega
theorem isum_z {f : Int → Int} {n : Int} (h : ∀ k : Int, 0 ≤ k → k < n → f k = 0) : isum f n = 0 := by
  have : ∀ w : Nat, (w : Int) ≤ n → nsum f w = 0 := by
    intro w
    induction w with
    | zero => intro _; rfl
    | succ w ih =>
      intro hw
      show nsum f w + f w = 0
      rw [ih (by omega), h w (by omega) (by omega)]; rfl
  by_cases hn : 0 ≤ n
  · exact this _ (by omega)
  · exact isum_neg f (by omega)
theorem cntv_z {f : Int → Int} {v n : Int} (h : ∀ k : Int, 0 ≤ k → k < n → f k ≠ v) : cntv f v n = 0 := isum_z (fun k h0 h1 => if_neg (h k h0 h1))
end
section
/-! the ring: its rows' states together -/
def nxn (n : Int) (r : Nat) : Nat := if (r : Int) + 1 < n then r + 1 else 0
def LT (lt : Nat → Int → Int) : Prop := (∀ r j, 0 ≤ j → 1 ≤ lt r j ∧ lt r j ≤ 6) ∧ ∀ r j, 0 ≤ j → lt r j ≠ lt r (j + 1)
theorem LT.pos {lt : Nat → Int → Int} (h : LT lt) : ∀ r j, 0 ≤ j → 1 ≤ lt r j := fun r j hj => (h.1 r j hj).1
/-- how far a row is made, as R runs of it are begun -/
def RB (B : Int → Int) (m R : Int) : Prop := 0 ≤ R ∧ ((m < 100001 ∧ m = B R) ∨ (m = 100001 ∧ 1 ≤ R ∧ B (R - 1) < 100001 ∧ 100001 ≤ B R))
def RI (lt : Nat → Int → Int) (n : Int) (st : St_) : Prop := ∀ r : Nat, (r : Int) < n → RS (SQ lt (nxn n) r) (st.2 (5 + r)) (st.2 (8 + r)) (st.2 (11 + r)) (st.1 (7 + r)) (st.2 (11 + r) 0) ∧ RB (BQ lt (nxn n) r) (st.1 (7 + r)) (st.2 (11 + r) 0)
/-- outside the rows nothing is changed -/
def frr (st st2 : St_) : Prop := (∀ j, (j < 7 ∨ 9 < j) → st2.1 j = st.1 j) ∧ (∀ q, (q < 5 ∨ 13 < q) → st2.2 q = st.2 q)
theorem frr_rf (st : St_) : frr st st := ⟨fun _ _ => rfl, fun _ _ => rfl⟩
theorem frr_tr {a b c : St_} (h1 : frr a b) (h2 : frr b c) : frr a c := ⟨fun j hj => (h2.1 j hj).trans (h1.1 j hj), fun q hq => (h2.2 q hq).trans (h1.2 q hq)⟩
theorem nxn_lt {n : Int} {r : Nat} (h0 : 1 ≤ n) : ((nxn n r : Nat) : Int) < n := by unfold nxn; split <;> omega
theorem RI.b {lt : Nat → Int → Int} {n : Int} {st : St_} (hL : LT lt) (h : RI lt n st) {r : Nat} (hr : (r : Int) < n) : (0 ≤ st.1 (7 + r) ∧ st.1 (7 + r) ≤ 100001) ∧ (∀ k : Int, 0 ≤ k → k < st.1 (7 + r) → 1 ≤ st.2 (5 + r) k ∧ st.2 (5 + r) k ≤ 6) ∧ 0 ≤ st.2 (11 + r) 0 ∧ st.2 (11 + r) 0 ≤ st.1 (7 + r) := by
  obtain ⟨h1, h2⟩ := h r hr
  refine ⟨h1.1, fun k h0 h3 => ?_, h2.1, ?_⟩
  · rw [h1.2.2.1 k h0 h3]
    exact ⟨SQ_pos hL.pos r k h0, SQ_le (fun r j hj => (hL.1 r j hj).2) r k h0⟩
  · rcases h2.2 with ⟨a, b⟩ | ⟨a, b, c, d⟩
    · rw [b]; exact BQ_ge hL.pos r h2.1
    · have := BQ_ge (nx := nxn n) hL.pos r (b := st.2 (11 + r) 0 - 1) (by omega)
      omega
theorem RI.num {lt : Nat → Int → Int} {n : Int} {st : St_} (h : RI lt n st) {r : Nat} (hr : (r : Int) < n) {k : Int} (h0 : 0 ≤ k) (h1 : k < st.1 (7 + r)) : st.2 (5 + r) k = SQ lt (nxn n) r k := (h r hr).1.2.2.1 k h0 h1
theorem KP_congr {S f kp : Int → Int} {m : Int} (h : KP S kp m) (e : ∀ k : Int, 0 ≤ k → k < m → f k = S k) : KP f kp m :=
  ⟨fun b v h0 h1 h2 h3 => by rw [h.1 b v h0 h1 h2 h3]; exact (cntv_congr (fun j a b => e j a (by omega))).symm, fun b h0 h1 => by rw [h.2 b h0 h1]; exact (chg_congr (fun j a b => e j a (by omega))).symm⟩
theorem RI.kp {lt : Nat → Int → Int} {n : Int} {st : St_} (h : RI lt n st) {r : Nat} (hr : (r : Int) < n) : KP (st.2 (5 + r)) (st.2 (8 + r)) (st.1 (7 + r)) := KP_congr (h r hr).1.2.2.2.2 (h r hr).1.2.2.1
/-- what is needed to put the next run -/
theorem RI.next {lt : Nat → Int → Int} {n : Int} {st : St_} (hL : LT lt) (h : RI lt n st) {r : Nat} (hr : (r : Int) < n) (hm : st.1 (7 + r) < 100001) :
    (∀ k : Int, st.1 (7 + r) ≤ k → k < st.1 (7 + r) + SQ lt (nxn n) (nxn n r) (st.2 (11 + r) 0) → SQ lt (nxn n) r k = lt r (st.2 (11 + r) 0)) ∧ ∀ x : Int, st.1 (7 + r) < x → x ≤ st.1 (7 + r) + SQ lt (nxn n) (nxn n r) (st.2 (11 + r) 0) → chg (SQ lt (nxn n) r) x = st.2 (11 + r) 0 + 1 := by
  obtain ⟨h1, h2, h3⟩ := h r hr
  have h4 : st.1 (7 + r) = BQ lt (nxn n) r (st.2 (11 + r) 0) := by
    rcases h3 with ⟨a, b⟩ | ⟨a, b, c, d⟩
    · exact b
    · omega
  have h5 := BQ_s lt (nxn n) r h2
  have h6 := BQ_ge (nx := nxn n) hL.pos r h2
  refine ⟨fun k h0 h7 => SQ_run hL.pos h2 (by omega) (by omega), fun x h0 h7 => ?_⟩
  obtain ⟨w, rfl⟩ := Int.eq_ofNat_of_zero_le (show 0 ≤ x by omega)
  exact chg_run hL.pos (hL.2 r) w (st.2 (11 + r) 0 + 1) (by omega) (by omega) (by rw [show st.2 (11 + r) 0 + 1 - 1 = st.2 (11 + r) 0 from by omega]; omega) (by omega)
/-- a run is put -/
theorem RI.put {lt : Nat → Int → Int} {n : Int} {st : St_} (hL : LT lt) (h : RI lt n st) (hn : n ≤ 3) {i : Nat} (hi : (i : Int) < n) (hm : st.1 (7 + i) < 100001) {m1 : Int} {f k1 h1 : Int → Int} (hS : RS (SQ lt (nxn n) i) f k1 h1 m1 (st.2 (11 + i) 0 + 1)) (hm1 : m1 = if st.1 (7 + i) + SQ lt (nxn n) (nxn n i) (st.2 (11 + i) 0) ≤ 100001 then st.1 (7 + i) + SQ lt (nxn n) (nxn n i) (st.2 (11 + i) 0) else 100001) : RI lt n (sF (sF (sF (sG st (7 + i) m1) (11 + i) h1) (5 + i) f) (8 + i) k1) := by
  intro r hr
  by_cases hri : r = i
  · subst hri
    have e1 : (sF (sF (sF (sG st (7 + r) m1) (11 + r) h1) (5 + r) f) (8 + r) k1).2 (5 + r) = f := by rw [sF_n _ _ (by omega), sF_s]
    have e2 : (sF (sF (sF (sG st (7 + r) m1) (11 + r) h1) (5 + r) f) (8 + r) k1).2 (8 + r) = k1 := by rw [sF_s]
    have e3 : (sF (sF (sF (sG st (7 + r) m1) (11 + r) h1) (5 + r) f) (8 + r) k1).2 (11 + r) = h1 := by rw [sF_n _ _ (by omega), sF_n _ _ (by omega), sF_s]
    have e4 : (sF (sF (sF (sG st (7 + r) m1) (11 + r) h1) (5 + r) f) (8 + r) k1).1 (7 + r) = m1 := by rw [sF_1, sF_1, sF_1, sG_s]
    rw [e1, e2, e3, e4, hS.2.1]
    refine ⟨hS, ?_⟩
    obtain ⟨-, h2, h3⟩ := h r hr
    have h4 : st.1 (7 + r) = BQ lt (nxn n) r (st.2 (11 + r) 0) := by
      rcases h3 with ⟨a, b⟩ | ⟨a, b, c, d⟩
      · exact b
      · omega
    have h5 := BQ_s lt (nxn n) r h2
    refine ⟨by omega, ?_⟩
    rw [show st.2 (11 + r) 0 + 1 - 1 = st.2 (11 + r) 0 from by omega]
    split at hm1
    · by_cases hx : m1 < 100001
      · exact Or.inl ⟨hx, by omega⟩
      · exact Or.inr ⟨by omega, by omega, by omega, by omega⟩
    · exact Or.inr ⟨by omega, by omega, by omega, by omega⟩
  · have e1 : (sF (sF (sF (sG st (7 + i) m1) (11 + i) h1) (5 + i) f) (8 + i) k1).2 (5 + r) = st.2 (5 + r) := by rw [sF_n _ _ (by omega), sF_n _ _ (by omega), sF_n _ _ (by omega), sG_2]
    have e2 : (sF (sF (sF (sG st (7 + i) m1) (11 + i) h1) (5 + i) f) (8 + i) k1).2 (8 + r) = st.2 (8 + r) := by rw [sF_n _ _ (by omega), sF_n _ _ (by omega), sF_n _ _ (by omega), sG_2]
    have e3 : (sF (sF (sF (sG st (7 + i) m1) (11 + i) h1) (5 + i) f) (8 + i) k1).2 (11 + r) = st.2 (11 + r) := by rw [sF_n _ _ (by omega), sF_n _ _ (by omega), sF_n _ _ (by omega), sG_2]
    have e4 : (sF (sF (sF (sG st (7 + i) m1) (11 + i) h1) (5 + i) f) (8 + i) k1).1 (7 + r) = st.1 (7 + r) := by rw [sF_1, sF_1, sF_1, sG_n _ _ (by omega)]
    rw [e1, e2, e3, e4]
    exact h r hr
theorem frr_put (st : St_) {i : Nat} (hi : i < 3) (m1 : Int) (f k1 h1 : Int → Int) : frr st (sF (sF (sF (sG st (7 + i) m1) (11 + i) h1) (5 + i) f) (8 + i) k1) :=
  ⟨fun j hj => by rw [sF_1, sF_1, sF_1, sG_n _ _ (by omega)], fun q hq => by rw [sF_n _ _ (by omega), sF_n _ _ (by omega), sF_n _ _ (by omega), sG_2]⟩
theorem RI.congr {lt lt' : Nat → Int → Int} {n : Int} {st : St_} (e : ∀ r j, 0 ≤ j → lt r j = lt' r j) (h : RI lt n st) : RI lt' n st := by
  have : lt' = fun r j => if 0 ≤ j then lt r j else lt' r j := by
    funext r j
    by_cases hj : 0 ≤ j
    · rw [if_pos hj, e r j hj]
    · rw [if_neg hj]
  have hq : ∀ r, SQ lt (nxn n) r = SQ lt' (nxn n) r := fun r => funext (fun k => SQ_congr e r k)
  intro r hr
  obtain ⟨h1, h2⟩ := h r hr
  have hb : BQ lt (nxn n) r = BQ lt' (nxn n) r := funext (fun j => by unfold BQ; rw [hq])
  rw [hq] at h1
  rw [hb] at h2
  exact ⟨h1, h2⟩
/-- nothing is made yet -/
theorem RI_0 {lt : Nat → Int → Int} {n : Int} {st : St_} (h1 : ∀ r : Nat, (r : Int) < n → st.1 (7 + r) = 0) (h2 : ∀ (r : Nat) (c : Int), (r : Int) < n → 0 ≤ c → c < 7 → st.2 (11 + r) c = 0 ∧ st.2 (8 + r) c = 0) : RI lt n st := by
  intro r hr
  have e1 := h1 r hr
  have e2 := (h2 r 0 hr (by omega) (by omega)).1
  rw [e1, e2]
  refine ⟨⟨by omega, e2, fun k h0 h3 => absurd h3 (by omega), fun v h0 h3 => ?_, fun b v a1 a2 a3 a4 => ?_, fun b a1 a2 => ?_⟩, Int.le_refl 0, Or.inl ⟨by omega, rfl⟩⟩
  · exact (h2 r v hr (by omega) (by omega)).1
  · have : b = 0 := by omega
    subst this
    rw [show (0 : Int) * 7 + v = v from by omega]
    exact (h2 r v hr (by omega) (by omega)).2
  · have : b = 0 := by omega
    subst this
    exact (h2 r 0 hr (by omega) (by omega)).2
end
section
/-! what holds of the ring between calls -/
def ltx (st : St_) (r : Nat) (j : Int) : Int := st.2 (1 + (st.2 0 (r : Int)).toNat) (j % st.1 (3 + (st.2 0 (r : Int)).toNat))
def KZ (st : St_) : Prop := ∀ (r : Nat) (c : Int), r < 3 → 0 ≤ c → c < 7 → st.2 (8 + r) c = 0
/-- alphabets and the ring's rows name what there is -/
def AH (st : St_) : Prop := (1 ≤ st.1 2 ∧ st.1 2 ≤ 3) ∧ (∀ r : Nat, (r : Int) < st.1 2 → 0 ≤ st.2 0 (r : Int) ∧ st.2 0 (r : Int) ≤ 3) ∧ (∀ a : Nat, a < 4 → 2 ≤ st.1 (3 + a) ∧ st.1 (3 + a) ≤ 4) ∧ ∀ a : Nat, a < 4 → ∀ j : Int, 0 ≤ j → j < st.1 (3 + a) → 1 ≤ st.2 (1 + a) j ∧ st.2 (1 + a) j ≤ 6
def RH (lt : Nat → Int → Int) (st : St_) : Prop := LT lt ∧ AH st ∧ (∀ (r : Nat) (j : Int), (r : Int) < st.1 2 → 0 ≤ j → ltx st r j = lt r j) ∧ RI lt (st.1 2) st ∧ KZ st
theorem ltx_frr {st st2 : St_} (h : frr st st2) (r : Nat) (j : Int) (ha : (st.2 0 (r : Int)).toNat < 4) : ltx st2 r j = ltx st r j := by
  unfold ltx
  have e0 : st2.2 0 = st.2 0 := h.2 0 (by omega)
  rw [e0, h.2 _ (by omega), h.1 _ (by omega)]
theorem AH_frr {st st2 : St_} (h : frr st st2) (hA : AH st) : AH st2 := by
  have e0 : st2.2 0 = st.2 0 := h.2 0 (by omega)
  have e1 : st2.1 2 = st.1 2 := h.1 2 (by omega)
  refine ⟨by rw [e1]; exact hA.1, fun r hr => by rw [e0]; rw [e1] at hr; exact hA.2.1 r hr, fun a ha => by rw [h.1 _ (by omega)]; exact hA.2.2.1 a ha, fun a ha j h0 h1 => ?_⟩
  rw [h.1 _ (by omega)] at h1
  rw [h.2 _ (by omega)]
  exact hA.2.2.2 a ha j h0 h1
theorem RH_frr {lt : Nat → Int → Int} {st st2 : St_} (h : RH lt st) (hf : frr st st2) (hI : RI lt (st.1 2) st2) (hK : KZ st2) : RH lt st2 := by
  have e1 : st2.1 2 = st.1 2 := hf.1 2 (by omega)
  refine ⟨h.1, AH_frr hf h.2.1, fun r j hr hj => ?_, by rw [e1]; exact hI, hK⟩
  rw [e1] at hr
  have hA := h.2.1
  have h0 := hA.1
  have := hA.2.1 r (by omega)
  rw [ltx_frr hf r j (by omega)]
  exact h.2.2.1 r j hr hj
theorem KZ_put {lt : Nat → Int → Int} {n : Int} {st : St_} (hK : KZ st) {i : Nat} (hi : i < 3) {m1 R : Int} {S f k1 h1 : Int → Int} (hS : RS S f k1 h1 m1 R) : KZ (sF (sF (sF (sG st (7 + i) m1) (11 + i) h1) (5 + i) f) (8 + i) k1) := by
  intro r c hr h0 h2
  by_cases hri : r = i
  · subst hri
    rw [sF_s]
    by_cases hc : c = 0
    · subst hc
      have := hS.2.2.2.2.2 0 (by omega) (by have := hS.1; omega)
      rw [show (0 : Int) * 7 = 0 from rfl] at this
      rw [this]; rfl
    · have := hS.2.2.2.2.1 0 c (by omega) (by have := hS.1; omega) (by omega) (by omega)
      rw [show (0 : Int) * 7 + c = c from by omega] at this
      rw [this]; rfl
  · rw [sF_n _ _ (by omega), sF_n _ _ (by omega), sF_n _ _ (by omega), sG_2]
    exact hK r c hr h0 h2
theorem RH.put {lt : Nat → Int → Int} {st : St_} (h : RH lt st) {i : Nat} (hi : (i : Int) < st.1 2) (hm : st.1 (7 + i) < 100001) {m1 : Int} {f k1 h1 : Int → Int} (hS : RS (SQ lt (nxn (st.1 2)) i) f k1 h1 m1 (st.2 (11 + i) 0 + 1)) (hm1 : m1 = if st.1 (7 + i) + SQ lt (nxn (st.1 2)) (nxn (st.1 2) i) (st.2 (11 + i) 0) ≤ 100001 then st.1 (7 + i) + SQ lt (nxn (st.1 2)) (nxn (st.1 2) i) (st.2 (11 + i) 0) else 100001) : RH lt (sF (sF (sF (sG st (7 + i) m1) (11 + i) h1) (5 + i) f) (8 + i) k1) := by
  have hA := h.2.1.1
  exact RH_frr h (frr_put st (by omega) m1 f k1 h1) (RI.put h.1 h.2.2.2.1 (by omega) hi hm hS hm1) (KZ_put (lt := lt) (n := st.1 2) h.2.2.2.2 (by omega) hS)
/-- the number that tells the next run, where the next row is far enough -/
theorem RI.tell {lt : Nat → Int → Int} {n : Int} {st : St_} (hL : LT lt) (h : RI lt n st) {t : Nat} (ht : (t : Int) < n) (hm : st.1 (7 + t) < 100001) : SQ lt (nxn n) t (st.1 (7 + t)) = lt t (st.2 (11 + t) 0) := by
  obtain ⟨h1, h2, h3⟩ := h t ht
  have h4 : st.1 (7 + t) = BQ lt (nxn n) t (st.2 (11 + t) 0) := by
    rcases h3 with ⟨a, b⟩ | ⟨a, b, c, d⟩
    · exact b
    · omega
  have h5 := BQ_s lt (nxn n) t h2
  have h6 := SQ_pos (nx := nxn n) hL.pos (nxn n t) _ h2
  exact SQ_run hL.pos h2 (by omega) (by omega)
theorem nxn_1 {n : Int} {r : Nat} (hn : n = 1) (hr : (r : Int) < n) : nxn n r = r := by unfold nxn; split <;> omega
theorem nxn_2 {n : Int} {r : Nat} (hn : n = 2) (hr : (r : Int) < n) : nxn n (nxn n r) = r := by unfold nxn; split <;> split <;> omega
theorem nxn_3 {n : Int} {r : Nat} (hn : n = 3) (hr : (r : Int) < n) : nxn n (nxn n (nxn n r)) = r := by
  subst hn
  rcases (show r = 0 ∨ r = 1 ∨ r = 2 by omega) with q | q | q <;> subst q <;> rfl
/-- only the rows grow -/
def grw (st st2 : St_) : Prop := frr st st2 ∧ ∀ r : Nat, r < 3 → st.1 (7 + r) ≤ st2.1 (7 + r)
theorem grw_rf (st : St_) : grw st st := ⟨frr_rf st, fun _ _ => Int.le_refl _⟩
theorem grw_tr {a b c : St_} (h1 : grw a b) (h2 : grw b c) : grw a c := ⟨frr_tr h1.1 h2.1, fun r hr => Int.le_trans (h1.2 r hr) (h2.2 r hr)⟩
theorem grw_put (st : St_) {i : Nat} (hi : i < 3) {m1 : Int} (f k1 h1 : Int → Int) (hm : st.1 (7 + i) ≤ m1) : grw st (sF (sF (sF (sG st (7 + i) m1) (11 + i) h1) (5 + i) f) (8 + i) k1) := by
  refine ⟨frr_put st hi m1 f k1 h1, fun r hr => ?_⟩
  rw [sF_1, sF_1, sF_1]
  by_cases hri : r = i
  · subst hri; rw [sG_s]; exact hm
  · rw [sG_n _ _ (by omega)]; exact Int.le_refl _
end
section
/-! unlike stretches: encodings, first ones, the table -/
noncomputable def ind (P : Prop) : Int := @ite Int P (Classical.propDecidable P) 1 0
theorem ind_t {P : Prop} (h : P) : ind P = 1 := by unfold ind; rw [if_pos h]
theorem ind_f {P : Prop} (h : ¬ P) : ind P = 0 := by unfold ind; rw [if_neg h]
theorem ind_b (P : Prop) : 0 ≤ ind P ∧ ind P ≤ 1 := by
  by_cases h : P
  · rw [ind_t h]; omega
  · rw [ind_f h]; omega
theorem ind_c {P P2 : Prop} (h : P ↔ P2) : ind P = ind P2 := by
  by_cases hp : P
  · rw [ind_t hp, ind_t (h.mp hp)]
  · rw [ind_f hp, ind_f (fun z => hp (h.mpr z))]
/-- the stretches of m letters from p and from q are alike -/
def alk (f : Int → Int) (m p q : Int) : Prop := ∀ t : Int, 0 ≤ t → t < m → f (p + t) = f (q + t)
/-- none ahead of p is like that from p -/
def frsh (f : Int → Int) (m p : Int) : Prop := ∀ q : Int, 0 ≤ q → q < p → ¬ alk f m q p
/-- how many unlike ones begin ahead of w -/
noncomputable def unl (f : Int → Int) (m w : Int) : Int := isum (fun p => ind (frsh f m p)) w
theorem unl_0 (f : Int → Int) (m : Int) {w : Int} (h : w ≤ 0) : unl f m w = 0 := isum_neg _ h
theorem unl_s (f : Int → Int) (m : Int) {w : Int} (h : 0 ≤ w) : unl f m (w + 1) = unl f m w + ind (frsh f m w) := isum_s _ h
theorem unl_b (f : Int → Int) (m : Int) {w : Int} (h : 0 ≤ w) : 0 ≤ unl f m w ∧ unl f m w ≤ w := by
  have := isum_b (f := fun p => ind (frsh f m p)) (b := 1) h (fun k _ _ => ind_b _)
  rw [Int.mul_one] at this
  exact this
theorem unl_congr {f g : Int → Int} {m w : Int} (h : ∀ j : Int, 0 ≤ j → j < w + m - 1 → f j = g j) : unl f m w = unl g m w := by
  refine isum_congr (fun p h0 h1 => ind_c ?_)
  unfold frsh alk
  constructor
  · intro a q b1 b2 b3
    exact a q b1 b2 (fun t c1 c2 => by rw [h _ (by omega) (by omega), h _ (by omega) (by omega)]; exact b3 t c1 c2)
  · intro a q b1 b2 b3
    exact a q b1 b2 (fun t c1 c2 => by rw [← h _ (by omega) (by omega), ← h _ (by omega) (by omega)]; exact b3 t c1 c2)
/-- a stretch as a number of the base b -/
def encP (b : Int) (f : Int → Int) (p : Int) : Nat → Int
  | 0 => 0
  | j + 1 => encP b f p j * b + f (p + (j : Int))
def enc (b : Int) (f : Int → Int) (p j : Int) : Int := encP b f p j.toNat
def pw (b : Int) : Nat → Int
  | 0 => 1
  | j + 1 => pw b j * b
theorem enc_0 (b : Int) (f : Int → Int) (p : Int) : enc b f p 0 = 0 := rfl
theorem enc_s (b : Int) (f : Int → Int) (p : Int) {j : Int} (h : 0 ≤ j) : enc b f p (j + 1) = enc b f p j * b + f (p + j) := by
  obtain ⟨n, rfl⟩ := Int.eq_ofNat_of_zero_le h
  unfold enc
  rw [toNat_s h, show ((n : Int)).toNat = n from by omega]
  rfl
theorem encP_b {b : Int} (hb : b = 8 ∨ b = 7) {f : Int → Int} {p : Int} (n : Nat) (h : ∀ t : Int, 0 ≤ t → t < n → 1 ≤ f (p + t) ∧ f (p + t) ≤ 6) : 0 ≤ encP b f p n ∧ encP b f p n < pw b n ∧ (0 < n → 0 < encP b f p n) := by
  induction n with
  | zero => exact ⟨Int.le_refl 0, by show (0 : Int) < 1; omega, fun q => absurd q (by omega)⟩
  | succ n ih =>
    have e := ih (fun t h0 h1 => h t h0 (by omega))
    have d := h n (by omega) (by omega)
    show 0 ≤ encP b f p n * b + f (p + n) ∧ encP b f p n * b + f (p + n) < pw b n * b ∧ (0 < n + 1 → 0 < encP b f p n * b + f (p + n))
    rcases hb with q | q <;> subst q <;> omega
theorem encP_inj {b : Int} (hb : b = 8 ∨ b = 7) {f : Int → Int} {p q : Int} (n : Nat) (h : ∀ t : Int, 0 ≤ t → t < n → 1 ≤ f (p + t) ∧ f (p + t) ≤ 6) (h2 : ∀ t : Int, 0 ≤ t → t < n → 1 ≤ f (q + t) ∧ f (q + t) ≤ 6) : encP b f p n = encP b f q n ↔ ∀ t : Int, 0 ≤ t → t < n → f (p + t) = f (q + t) := by
  induction n with
  | zero => exact ⟨fun _ t h0 h1 => absurd h1 (by omega), fun _ => rfl⟩
  | succ n ih =>
    have e := ih (fun t h0 h1 => h t h0 (by omega)) (fun t h0 h1 => h2 t h0 (by omega))
    have d1 := h n (by omega) (by omega)
    have d2 := h2 n (by omega) (by omega)
    have w : encP b f p n * b + f (p + n) = encP b f q n * b + f (q + n) ↔ encP b f p n = encP b f q n ∧ f (p + n) = f (q + n) := by
      constructor
      · intro z
        rcases hb with y | y <;> subst y <;> omega
      · rintro ⟨z1, z2⟩; rw [z1, z2]
    show encP b f p n * b + f (p + n) = encP b f q n * b + f (q + n) ↔ _
    rw [w, e]
    constructor
    · rintro ⟨z1, z2⟩ t h0 h1
      by_cases ht : t = n
      · rw [ht]; exact z2
      · exact z1 t h0 (by omega)
    · intro z
      exact ⟨fun t h0 h1 => z t h0 (by omega), z n (by omega) (by omega)⟩
theorem enc_alk {b : Int} (hb : b = 8 ∨ b = 7) {f : Int → Int} {m p q : Int} (hm : 0 ≤ m) (h : ∀ t : Int, 0 ≤ t → t < m → 1 ≤ f (p + t) ∧ f (p + t) ≤ 6) (h2 : ∀ t : Int, 0 ≤ t → t < m → 1 ≤ f (q + t) ∧ f (q + t) ≤ 6) : enc b f p m = enc b f q m ↔ alk f m p q := by
  obtain ⟨n, rfl⟩ := Int.eq_ofNat_of_zero_le hm
  unfold enc
  rw [show ((n : Int)).toNat = n from by omega]
  exact encP_inj hb n h h2
theorem encP_roll (f : Int → Int) (p : Int) (n : Nat) : encP 8 f p (n + 1) = f p * pw 8 n + encP 8 f (p + 1) n := by
  induction n with
  | zero => show (0 : Int) * 8 + f (p + ((0 : Nat) : Int)) = f p * 1 + 0; rw [show p + ((0 : Nat) : Int) = p from by omega]; omega
  | succ n ih =>
    show encP 8 f p (n + 1) * 8 + f (p + ((n + 1 : Nat) : Int)) = f p * (pw 8 n * 8) + (encP 8 f (p + 1) n * 8 + f (p + 1 + (n : Int)))
    rw [ih, show p + ((n + 1 : Nat) : Int) = p + 1 + (n : Int) from by omega, Int.add_mul, Int.mul_assoc]
    omega
theorem roll {f : Int → Int} {p : Int} {n : Nat} (h : ∀ t : Int, 0 ≤ t → t < n + 1 → 1 ≤ f (p + t) ∧ f (p + t) ≤ 6) : (encP 8 f p n * 8 + f (p + n)) % pw 8 n = encP 8 f (p + 1) n := by
  have e := encP_roll f p n
  have b := encP_b (b := 8) (Or.inl rfl) (f := f) (p := p + 1) n (fun t h0 h1 => by rw [show p + 1 + t = p + (t + 1) from by omega]; exact h (t + 1) (by omega) (by omega))
  have e2 : encP 8 f p n * 8 + f (p + n) = f p * pw 8 n + encP 8 f (p + 1) n := e
  rw [e2, Int.add_comm, Int.add_mul_emod_self_right]
  exact Int.emod_eq_of_lt b.1 b.2.1
theorem pw_8 : ∀ n : Nat, n < 21 → 1 ≤ pw 8 n ∧ pw 8 n ≤ 1152921504606846976 ∧ pw 8 n = ((2 ^ (3 * n) : Nat) : Int) := by decide
theorem pw_7 : ∀ n : Nat, n < 21 → 1 ≤ pw 7 n ∧ pw 7 n ≤ 1152921504606846976 := by decide
theorem pw_mono : ∀ n : Nat, n < 21 → ∀ k : Nat, k < 21 → k ≤ n → pw 8 k ≤ pw 8 n := by decide
/-- the table: seats T, hash H, keys Kp, c of them -/
noncomputable def nzc (T : Int → Int) : Int := isum (fun s => ind (T s ≠ 0)) 4096
def chn (H : Int → Int) (T : Int → Int) (x s : Int) : Prop := ∀ e : Int, 0 ≤ e → e < (s - H x) % 4096 → T ((H x + e) % 4096) ≠ 0
def TB (H T : Int → Int) (Kp : Int → Prop) (c : Int) : Prop := (∀ s : Int, 0 ≤ s → s < 4096 → T s ≠ 0 → Kp (T s)) ∧ (∀ x : Int, Kp x → 0 < x ∧ ∃ s : Int, 0 ≤ s ∧ s < 4096 ∧ T s = x ∧ chn H T x s) ∧ nzc T = c
theorem isum_one {f g : Int → Int} {s : Int} (hs : 0 ≤ s) (h : ∀ j : Int, j ≠ s → g j = f j) (h1 : g s = f s + 1) : ∀ n : Nat, isum g n = isum f n + if s < n then 1 else 0 := by
  intro n
  induction n with
  | zero => rw [if_neg (by omega)]; rfl
  | succ n ih =>
    rw [show (((n + 1 : Nat)) : Int) = (n : Int) + 1 from by omega, isum_s _ (by omega), isum_s _ (by omega), ih]
    by_cases hn : (n : Int) = s
    · rw [hn, h1, if_neg (by omega), if_pos (by omega)]; omega
    · rw [h n hn]
      by_cases hl : s < (n : Int)
      · rw [if_pos hl, if_pos (by omega)]; omega
      · rw [if_neg hl, if_neg (by omega)]; omega
theorem TB_put {H T : Int → Int} {Kp : Int → Prop} {c x s : Int} (h : TB H T Kp c) (h0 : 0 ≤ s) (h1 : s < 4096) (hz : T s = 0) (hx : 0 < x) (hc : chn H T x s) : TB H (zup T s x) (fun y => Kp y ∨ y = x) (c + 1) := by
  have nz : ∀ j : Int, T j ≠ 0 → zup T s x j = T j := fun j hj => zup_ne T x (fun z => hj (by rw [z]; exact hz))
  refine ⟨fun j j0 j1 hj => ?_, fun y hy => ?_, ?_⟩
  · by_cases hjs : j = s
    · rw [hjs, zup_eq]; exact Or.inr rfl
    · rw [zup_ne T x hjs] at hj ⊢
      exact Or.inl (h.1 j j0 j1 hj)
  · rcases hy with hy | hy
    · obtain ⟨a1, w, a2, a3, a4, a5⟩ := h.2.1 y hy
      refine ⟨a1, w, a2, a3, by rw [nz w (by rw [a4]; omega), a4], fun e e0 e1 => ?_⟩
      have := a5 e e0 e1
      rw [nz _ this]; exact this
    · subst hy
      refine ⟨hx, s, h0, h1, zup_eq _ _ _, fun e e0 e1 => ?_⟩
      have := hc e e0 e1
      rw [nz _ this]; exact this
  · have := isum_one (f := fun j => ind (T j ≠ 0)) (g := fun j => ind (zup T s x j ≠ 0)) h0 (fun j hj => by show ind _ = ind _; rw [zup_ne T x hj]) (by show ind _ = ind _ + 1; rw [zup_eq, ind_t (by omega), ind_f (fun z => z hz)]; rfl) 4096
    have e : nzc T = c := h.2.2
    unfold nzc at e ⊢
    rw [show (4096 : Int) = ((4096 : Nat) : Int) from rfl, this, if_pos (by omega)]
    rw [show (4096 : Int) = ((4096 : Nat) : Int) from rfl] at e
    rw [e]
theorem TB_empty {H T : Int → Int} {Kp : Int → Prop} {c : Int} (h : TB H T Kp c) (hc : c < 4096) : ∃ s : Int, 0 ≤ s ∧ s < 4096 ∧ T s = 0 := by
  apply Classical.byContradiction
  intro hn
  have e : nzc T = isum (fun _ => 1) 4096 := isum_congr (fun j j0 j1 => ind_t (fun z => hn ⟨j, j0, j1, z⟩))
  have e2 : ∀ n : Nat, isum (fun _ => (1 : Int)) n = n := by
    intro n
    induction n with
    | zero => rfl
    | succ n ih => rw [show (((n + 1 : Nat)) : Int) = (n : Int) + 1 from by omega, isum_s _ (by omega), ih]
  have e3 := e2 4096
  rw [h.2.2] at e
  rw [show (((4096 : Nat)) : Int) = 4096 from rfl] at e3
  omega
theorem TB_0 (H : Int → Int) {T : Int → Int} (h : ∀ s : Int, 0 ≤ s → s < 4096 → T s = 0) : TB H T (fun _ => False) 0 :=
  ⟨fun s h0 h1 h2 => absurd (h s h0 h1) h2, fun x hx => hx.elim, isum_z (fun s h0 h1 => ind_f (fun z => z (h s h0 h1)))⟩
theorem TB_iff {H T : Int → Int} {Kp Kq : Int → Prop} {c d : Int} (h : TB H T Kp c) (e : ∀ x, Kp x ↔ Kq x) (hc : c = d) : TB H T Kq d := by
  subst hc
  exact ⟨fun s h0 h1 h2 => (e _).mp (h.1 s h0 h1 h2), fun x hx => h.2.1 x ((e _).mpr hx), h.2.2⟩
/-- an empty seat on the way: the key isn't in the table -/
theorem TB_out {H T : Int → Int} {Kp : Int → Prop} {c x t : Int} (h : TB H T Kp c) (hH : 0 ≤ H x ∧ H x < 4096) (ht : 0 ≤ t ∧ t < 4096) (hw : ∀ e : Int, 0 ≤ e → e < t → T ((H x + e) % 4096) ≠ x) (hz : T ((H x + t) % 4096) = 0) : ¬ Kp x := by
  intro hx
  obtain ⟨a1, s, a2, a3, a4, a5⟩ := h.2.1 x hx
  have e1 : (H x + (s - H x) % 4096) % 4096 = s := by omega
  rcases Int.lt_trichotomy ((s - H x) % 4096) t with q | q | q
  · exact hw _ (by omega) q (by rw [e1]; exact a4)
  · rw [← q, e1, a4] at hz; omega
  · exact a5 t ht.1 q hz
theorem TB_full {H T : Int → Int} {Kp : Int → Prop} {c x : Int} (h : TB H T Kp c) (hc : c < 4096) (hH : 0 ≤ H x ∧ H x < 4096) (hw : ∀ e : Int, 0 ≤ e → e < 4096 → T ((H x + e) % 4096) ≠ 0) : False := by
  obtain ⟨s, h0, h1, h2⟩ := TB_empty h hc
  have e1 : (H x + (s - H x) % 4096) % 4096 = s := by omega
  exact hw ((s - H x) % 4096) (by omega) (by omega) (by rw [e1]; exact h2)
end
section
/-! one step of shortening in place -/
def bsI (f0 f : Int → Int) (g0 k u i : Int) : Prop := ∃ q : List Int, runs f0 (i + 1) = q ++ [u + 1] ∧ wl f k = dropF g0 q ∧ lsum q = i - u ∧ ∀ x ∈ q, 1 ≤ x
theorem bs_n {f0 f : Int → Int} {g0 k u i : Int} (h : bsI f0 f g0 k u i) (hi : 0 ≤ i) (he : f0 i = f0 (i + 1)) : bsI f0 f g0 k (u + 1) (i + 1) := by
  obtain ⟨q, q1, q2, q3, q4⟩ := h
  refine ⟨q, ?_, q2, by omega, q4⟩
  rw [runs_old (by omega) (fun y => y.elim (fun w => by omega) (fun w => w (by rw [show i + 1 - 1 = i from by omega]; exact he.symm))), q1, incL_app]
theorem bs_q {f0 f : Int → Int} {u i : Int} {q : List Int} (q1 : runs f0 (i + 1) = q ++ [u + 1]) (q3 : lsum q = i - u) (q4 : ∀ x ∈ q, 1 ≤ x) (hi : 0 ≤ i) (hu : 0 ≤ u) (hne : f0 i ≠ f0 (i + 1)) : runs f0 (i + 1 + 1) = (q ++ [u + 1]) ++ [0 + 1] ∧ lsum (q ++ [u + 1]) = i + 1 - 0 ∧ ∀ x ∈ q ++ [u + 1], 1 ≤ x := by
  refine ⟨?_, ?_, fun x hx => ?_⟩
  · rw [runs_new (by omega) (Or.inr (by rw [show i + 1 - 1 = i from by omega]; exact fun y => hne y.symm)), q1]; rfl
  · rw [lsum_app, q3, show lsum [u + 1] = u + 1 + 0 from rfl]; omega
  · rcases List.mem_append.mp hx with y | y
    · exact q4 x y
    · rw [List.mem_singleton.mp y]; omega
theorem bs_k {f0 f : Int → Int} {g0 k u i : Int} (h : bsI f0 f g0 k u i) (hi : 0 ≤ i) (hk : 0 ≤ k) (hu : 0 ≤ u) (hne : f0 i ≠ f0 (i + 1)) (hc : g0 ≤ u + 1 ∨ u ≠ i) : bsI f0 (zup f k (u + 1)) g0 (k + 1) 0 (i + 1) := by
  obtain ⟨q, q1, q2, q3, q4⟩ := h
  obtain ⟨a1, a2, a3⟩ := bs_q (f := f) q1 q3 q4 hi hu hne
  refine ⟨q ++ [u + 1], a1, ?_, a2, a3⟩
  rw [wl_put _ _ hk, bs_mid, if_pos ?_, q2]
  rcases hc with y | y
  · exact Or.inl y
  · refine Or.inr (fun z => ?_)
    rw [z, show lsum [] = 0 from rfl] at q3
    omega
theorem bs_s {f0 f : Int → Int} {g0 k u i : Int} (h : bsI f0 f g0 k u i) (hi : 0 ≤ i) (hu : 0 ≤ u) (hne : f0 i ≠ f0 (i + 1)) (hc : u + 1 < g0) (hui : u = i) : bsI f0 f g0 k 0 (i + 1) := by
  obtain ⟨q, q1, q2, q3, q4⟩ := h
  obtain ⟨a1, a2, a3⟩ := bs_q (f := f) q1 q3 q4 hi hu hne
  refine ⟨q ++ [u + 1], a1, ?_, a2, a3⟩
  have hq : q = [] := (lsum_nil q4).mp (by omega)
  rw [bs_mid, if_neg (fun y => y.elim (fun w => by omega) (fun w => w hq)), q2]
theorem bs_ke {f0 f : Int → Int} {g0 k u i : Int} (h : bsI f0 f g0 k u i) (hk : 0 ≤ k) (hc : g0 ≤ u + 1) : wl (zup f k (u + 1)) (k + 1) = sh g0 (runs f0 (i + 1)) := by
  obtain ⟨q, q1, q2, q3, q4⟩ := h
  rw [q1, bs_end, if_pos hc, wl_put _ _ hk, q2]
theorem bs_se {f0 f : Int → Int} {g0 k u i : Int} (h : bsI f0 f g0 k u i) (hc : u + 1 < g0) : wl f k = sh g0 (runs f0 (i + 1)) := by
  obtain ⟨q, q1, q2, q3, q4⟩ := h
  rw [q1, bs_end, if_neg (by omega), q2]
theorem bs_0 {f0 f : Int → Int} (g0 : Int) : bsI f0 f g0 0 0 0 := ⟨[], by rw [runs_new (by omega) (Or.inl rfl)]; rfl, rfl, rfl, fun x hx => (by cases hx)⟩
end
section
/-! what the object is: the document's state; the class' and the reference's states stand for it -/
abbrev AB_ : Type := St_ × List Int
def lta (a : AB_) (r : Nat) (j : Int) : Int := if (r : Int) < a.1.1 0 then a.1.2 (1 + (a.1.2 0 (r : Int)).toNat) (j % a.1.1 (4 + (a.1.2 0 (r : Int)).toNat)) else 1 + j % 2
def AI (a : AB_) : Prop := (1 ≤ a.1.1 0 ∧ a.1.1 0 ≤ 3) ∧ (∀ r : Nat, (r : Int) < a.1.1 0 → 0 ≤ a.1.2 0 (r : Int) ∧ a.1.2 0 (r : Int) ≤ 3) ∧ (∀ q : Nat, q < 4 → 2 ≤ a.1.1 (4 + q) ∧ a.1.1 (4 + q) ≤ 4) ∧ (∀ q : Nat, q < 4 → ∀ j : Int, 0 ≤ j → j < a.1.1 (4 + q) → (1 ≤ a.1.2 (1 + q) j ∧ a.1.2 (1 + q) j ≤ 6) ∧ a.1.2 (1 + q) j ≠ a.1.2 (1 + q) (if j + 1 < a.1.1 (4 + q) then j + 1 else 0)) ∧ (a.2.length ≤ 60 ∧ ∀ x ∈ a.2, 1 ≤ x ∧ x ≤ 6) ∧ (0 ≤ a.1.1 2 ∧ a.1.1 2 ≤ 10) ∧ (0 ≤ a.1.1 3 ∧ a.1.1 3 ≤ 40)
theorem mod_s {j s : Int} (hj : 0 ≤ j) (hs : 2 ≤ s ∧ s ≤ 4) : (j + 1) % s = if j % s + 1 < s then j % s + 1 else 0 := by
  rcases (show s = 2 ∨ s = 3 ∨ s = 4 by omega) with q | q | q <;> subst q <;> split <;> omega
theorem AI.LT {a : AB_} (h : AI a) : LT (lta a) := by
  refine ⟨fun r j hj => ?_, fun r j hj => ?_⟩
  · unfold lta
    by_cases hr : (r : Int) < a.1.1 0
    · rw [if_pos hr]
      have h1 := h.2.1 r hr
      have h2 := h.2.2.1 (a.1.2 0 (r : Int)).toNat (by omega)
      exact (h.2.2.2.1 (a.1.2 0 (r : Int)).toNat (by omega) _ (Int.emod_nonneg _ (by omega)) (Int.emod_lt_of_pos _ (by omega))).1
    · rw [if_neg hr]; omega
  · unfold lta
    by_cases hr : (r : Int) < a.1.1 0
    · rw [if_pos hr, if_pos hr]
      have h1 := h.2.1 r hr
      have h2 := h.2.2.1 (a.1.2 0 (r : Int)).toNat (by omega)
      have h3 := (h.2.2.2.1 (a.1.2 0 (r : Int)).toNat (by omega) _ (Int.emod_nonneg j (show a.1.1 (4 + (a.1.2 0 (r : Int)).toNat) ≠ 0 by omega)) (Int.emod_lt_of_pos j (by omega))).2
      rw [mod_s hj h2]
      exact h3
    · rw [if_neg hr, if_neg hr]; omega
theorem AH_same {st st2 : St_} (h1 : ∀ j, 2 ≤ j → j ≤ 9 → st2.1 j = st.1 j) (h2 : ∀ q, q ≤ 13 → st2.2 q = st.2 q) (h : AH st) : AH st2 := by
  have e1 := h1 2 (by omega) (by omega)
  have e0 := h2 0 (by omega)
  refine ⟨by rw [e1]; exact h.1, fun r hr => by rw [e0]; rw [e1] at hr; exact h.2.1 r hr, fun a ha => by rw [h1 _ (by omega) (by omega)]; exact h.2.2.1 a ha, fun a ha j h0 h3 => ?_⟩
  rw [h1 _ (by omega) (by omega)] at h3
  rw [h2 _ (by omega)]
  exact h.2.2.2 a ha j h0 h3
theorem RH_same {lt : Nat → Int → Int} {st st2 : St_} (h1 : ∀ j, 2 ≤ j → j ≤ 9 → st2.1 j = st.1 j) (h2 : ∀ q, q ≤ 13 → st2.2 q = st.2 q) (h : RH lt st) : RH lt st2 := by
  have e1 := h1 2 (by omega) (by omega)
  have e0 := h2 0 (by omega)
  have hn := h.2.1.1
  refine ⟨h.1, AH_same h1 h2 h.2.1, fun r j hr hj => ?_, ?_, fun r c hr h0 h3 => by rw [h2 _ (by omega)]; exact h.2.2.2.2 r c hr h0 h3⟩
  · rw [e1] at hr
    have := h.2.1.2.1 r hr
    rw [← h.2.2.1 r j hr hj]
    unfold ltx
    rw [e0, h2 _ (by omega), h1 _ (by omega) (by omega)]
  · rw [e1]
    intro r hr
    have := h.2.2.2.1 r hr
    rw [h2 _ (by omega), h2 _ (by omega), h2 _ (by omega), h1 _ (by omega) (by omega)]
    exact this
/-- the words' rooms -/
def WS (st : St_) : Prop := ∀ w : Nat, w < 3 → (0 ≤ st.1 (10 + w) ∧ st.1 (10 + w) ≤ 60) ∧ ∀ j : Int, 0 ≤ j → j < 60 → 0 ≤ st.2 (14 + w) j ∧ st.2 (14 + w) j ≤ 60
/-- the class' state stands for a -/
def CI (st : St_) (a : AB_) : Prop := st.1 2 = a.1.1 0 ∧ wl (st.2 (14 + 0)) (st.1 (10 + 0)) = a.2 ∧ (st.1 0 = a.1.1 2 ∧ st.1 1 = a.1.1 3) ∧ (∀ q : Nat, q < 4 → st.1 (3 + q) = a.1.1 (4 + q) ∧ ∀ j : Int, 0 ≤ j → j < st.1 (3 + q) → st.2 (1 + q) j = a.1.2 (1 + q) j) ∧ (∀ r : Nat, (r : Int) < st.1 2 → st.2 0 (r : Int) = a.1.2 0 (r : Int)) ∧ WS st ∧ RH (lta a) st ∧ AI a
theorem CI_grw {st st2 : St_} {a : AB_} (h : CI st a) (hg : grw st st2) (hH : RH (lta a) st2) : CI st2 a := by
  obtain ⟨h1, h2, h3, h4, h5, h6, h7, h8⟩ := h
  have f := hg.1
  refine ⟨by rw [f.1 2 (by omega)]; exact h1, by rw [f.1 _ (by omega), f.2 _ (by omega)]; exact h2, by rw [f.1 0 (by omega), f.1 1 (by omega)]; exact h3, fun q hq => ?_, fun r hr => ?_, fun w hw => ?_, hH, h8⟩
  · rw [f.1 _ (by omega), f.2 _ (by omega)]; exact h4 q hq
  · rw [f.1 2 (by omega)] at hr; rw [f.2 0 (by omega)]; exact h5 r hr
  · rw [f.1 _ (by omega), f.2 _ (by omega)]; exact h6 w hw
/-- THE WORD is another -/
theorem CI_word {st : St_} {a : AB_} (h : CI st a) {k : Int} {f : Int → Int} {W : List Int} (hk : 0 ≤ k ∧ k ≤ 60) (hf : ∀ j : Int, 0 ≤ j → j < 60 → 0 ≤ f j ∧ f j ≤ 60) (hW : wl f k = W) (hl : ∀ x ∈ W, 1 ≤ x ∧ x ≤ 6) : CI (sF (sG st (10 + 0) k) (14 + 0) f) (a.1, W) := by
  obtain ⟨h1, h2, h3, h4, h5, h6, h7, h8⟩ := h
  have hL : (W.length : Int) = k := by rw [← hW]; exact wl_len f hk.1
  refine ⟨h1, hW, h3, fun q hq => ?_, fun r hr => h5 r hr, fun w hw => ?_, RH_same (st := st) (fun j h0 h9 => by rw [sF_1, sG_n _ _ (by omega)]) (fun q hq => by rw [sF_n _ _ (by omega), sG_2]) h7, ⟨h8.1, h8.2.1, h8.2.2.1, h8.2.2.2.1, ⟨by show W.length ≤ 60; omega, hl⟩, h8.2.2.2.2.2⟩⟩
  · rw [sF_1, sG_n _ _ (by omega), sF_n _ _ (by omega), sG_2]; exact h4 q hq
  · by_cases hw0 : w = 0
    · subst hw0; rw [sF_1, sG_s, sF_s]; exact ⟨hk, hf⟩
    · rw [sF_1, sG_n _ _ (by omega), sF_n _ _ (by omega), sG_2]; exact h6 w hw
/-- another word than THE WORD -/
theorem CI_oth {st : St_} {a : AB_} (h : CI st a) {v : Nat} (hv : v = 1 ∨ v = 2) {k : Int} {f : Int → Int} (hk : 0 ≤ k ∧ k ≤ 60) (hf : ∀ j : Int, 0 ≤ j → j < 60 → 0 ≤ f j ∧ f j ≤ 60) : CI (sF (sG st (10 + v) k) (14 + v) f) a := by
  obtain ⟨h1, h2, h3, h4, h5, h6, h7, h8⟩ := h
  refine ⟨by rw [sF_1, sG_n _ _ (by omega)]; exact h1, by rw [sF_1, sG_n _ _ (by omega), sF_n _ _ (by omega), sG_2]; exact h2, by rw [sF_1, sG_n _ _ (by omega), sG_n _ _ (by omega)]; exact h3, fun q hq => ?_, fun r hr => ?_, fun w hw => ?_, RH_same (st := st) (fun j h0 h9 => by rw [sF_1, sG_n _ _ (by omega)]) (fun q hq => by rw [sF_n _ _ (by omega), sG_2]) h7, h8⟩
  · rw [sF_1, sG_n _ _ (by omega), sF_n _ _ (by omega), sG_2]; exact h4 q hq
  · rw [sF_1, sG_n _ _ (by omega)] at hr; rw [sF_n _ _ (by omega), sG_2]; exact h5 r hr
  · by_cases hw0 : w = v
    · subst hw0; rw [sF_1, sG_s, sF_s]; exact ⟨hk, hf⟩
    · rw [sF_1, sG_n _ _ (by omega), sF_n _ _ (by omega), sG_2]; exact h6 w hw
/-- the seats don't show -/
theorem CI_seat {st : St_} {a : AB_} (h : CI st a) (g : Int → Int) : CI (sF st 17 g) a := by
  obtain ⟨h1, h2, h3, h4, h5, h6, h7, h8⟩ := h
  refine ⟨h1, h2, h3, fun q hq => ?_, fun r hr => ?_, fun w hw => ?_, RH_same (st := st) (fun j h0 h9 => rfl) (fun q hq => by rw [sF_n _ _ (by omega)]) h7, h8⟩
  · rw [sF_1, sF_n _ _ (by omega)]; exact h4 q hq
  · rw [sF_n _ _ (by omega)]; exact h5 r hr
  · rw [sF_1, sF_n _ _ (by omega)]; exact h6 w hw
def aM (a : AB_) : AB_ := (sG a.1 2 (a.1.1 2 + 1), a.2)
def aU (a : AB_) : AB_ := (sG a.1 3 (a.1.1 3 + 1), a.2)
theorem lta_M (a : AB_) : lta (aM a) = lta a := by
  funext r j
  unfold lta aM
  simp only [sG_2]
  rw [sG_n _ _ (by omega), sG_n _ _ (by omega)]
theorem lta_U (a : AB_) : lta (aU a) = lta a := by
  funext r j
  unfold lta aU
  simp only [sG_2]
  rw [sG_n _ _ (by omega), sG_n _ _ (by omega)]
theorem CI_M {st : St_} {a : AB_} (h : CI st a) (hm : a.1.1 2 < 10) : CI (sG st 0 (st.1 0 + 1)) (aM a) := by
  obtain ⟨h1, h2, h3, h4, h5, h6, h7, h8⟩ := h
  refine ⟨by show (sG st 0 _).1 2 = (sG a.1 2 _).1 0; rw [sG_n _ _ (by omega), sG_n _ _ (by omega)]; exact h1, h2, ⟨by show (sG st 0 _).1 0 = (sG a.1 2 _).1 2; rw [sG_s, sG_s, h3.1], by show (sG st 0 _).1 1 = (sG a.1 2 _).1 3; rw [sG_n _ _ (by omega), sG_n _ _ (by omega)]; exact h3.2⟩, fun q hq => ?_, fun r hr => ?_, fun w hw => ?_, by rw [lta_M]; exact RH_same (st := st) (fun j h0 h9 => by rw [sG_n _ _ (by omega)]) (fun q hq => rfl) h7, ?_⟩
  · show (sG st 0 _).1 (3 + q) = (sG a.1 2 _).1 (4 + q) ∧ _
    rw [sG_n _ _ (by omega), sG_n _ _ (by omega)]; exact h4 q hq
  · rw [sG_n _ _ (by omega)] at hr; exact h5 r hr
  · rw [sG_n _ _ (by omega)]; exact h6 w hw
  · obtain ⟨b1, b2, b3, b4, b5, b6, b7⟩ := h8
    refine ⟨by show 1 ≤ (sG a.1 2 _).1 0 ∧ _; rw [sG_n _ _ (by omega)]; exact b1, fun r hr => ?_, fun q hq => ?_, fun q hq j h0 h9 => ?_, b5, by show 0 ≤ (sG a.1 2 _).1 2 ∧ (sG a.1 2 _).1 2 ≤ 10; rw [sG_s]; omega, by show 0 ≤ (sG a.1 2 _).1 3 ∧ _; rw [sG_n _ _ (by omega)]; exact b7⟩
    · have hr' : (r : Int) < (sG a.1 2 (a.1.1 2 + 1)).1 0 := hr
      rw [sG_n _ _ (by omega)] at hr'; exact b2 r hr'
    · show 2 ≤ (sG a.1 2 _).1 (4 + q) ∧ (sG a.1 2 _).1 (4 + q) ≤ 4; rw [sG_n _ _ (by omega)]; exact b3 q hq
    · have h9' : j < (sG a.1 2 (a.1.1 2 + 1)).1 (4 + q) := h9
      rw [sG_n _ _ (by omega)] at h9'
      show _ ∧ _ ≠ (sG a.1 2 _).2 (1 + q) (if j + 1 < (sG a.1 2 _).1 (4 + q) then j + 1 else 0)
      rw [sG_n _ _ (by omega)]; exact b4 q hq j h0 h9'
theorem CI_U {st : St_} {a : AB_} (h : CI st a) (hm : a.1.1 3 < 40) : CI (sG st 1 (st.1 1 + 1)) (aU a) := by
  obtain ⟨h1, h2, h3, h4, h5, h6, h7, h8⟩ := h
  refine ⟨by show (sG st 1 _).1 2 = (sG a.1 3 _).1 0; rw [sG_n _ _ (by omega), sG_n _ _ (by omega)]; exact h1, h2, ⟨by show (sG st 1 _).1 0 = (sG a.1 3 _).1 2; rw [sG_n _ _ (by omega), sG_n _ _ (by omega)]; exact h3.1, by show (sG st 1 _).1 1 = (sG a.1 3 _).1 3; rw [sG_s, sG_s, h3.2]⟩, fun q hq => ?_, fun r hr => ?_, fun w hw => ?_, by rw [lta_U]; exact RH_same (st := st) (fun j h0 h9 => by rw [sG_n _ _ (by omega)]) (fun q hq => rfl) h7, ?_⟩
  · show (sG st 1 _).1 (3 + q) = (sG a.1 3 _).1 (4 + q) ∧ _
    rw [sG_n _ _ (by omega), sG_n _ _ (by omega)]; exact h4 q hq
  · rw [sG_n _ _ (by omega)] at hr; exact h5 r hr
  · rw [sG_n _ _ (by omega)]; exact h6 w hw
  · obtain ⟨b1, b2, b3, b4, b5, b6, b7⟩ := h8
    refine ⟨by show 1 ≤ (sG a.1 3 _).1 0 ∧ _; rw [sG_n _ _ (by omega)]; exact b1, fun r hr => ?_, fun q hq => ?_, fun q hq j h0 h9 => ?_, b5, by show 0 ≤ (sG a.1 3 _).1 2 ∧ _; rw [sG_n _ _ (by omega)]; exact b6, by show 0 ≤ (sG a.1 3 _).1 3 ∧ (sG a.1 3 _).1 3 ≤ 40; rw [sG_s]; omega⟩
    · have hr' : (r : Int) < (sG a.1 3 (a.1.1 3 + 1)).1 0 := hr
      rw [sG_n _ _ (by omega)] at hr'; exact b2 r hr'
    · show 2 ≤ (sG a.1 3 _).1 (4 + q) ∧ (sG a.1 3 _).1 (4 + q) ≤ 4; rw [sG_n _ _ (by omega)]; exact b3 q hq
    · have h9' : j < (sG a.1 3 (a.1.1 3 + 1)).1 (4 + q) := h9
      rw [sG_n _ _ (by omega)] at h9'
      show _ ∧ _ ≠ (sG a.1 3 _).2 (1 + q) (if j + 1 < (sG a.1 3 _).1 (4 + q) then j + 1 else 0)
      rw [sG_n _ _ (by omega)]; exact b4 q hq j h0 h9'
theorem lf_wl (f : Int → Int) {n j : Int} (h0 : 0 ≤ j) (h1 : j < n) : lf (wl f n) j = f j := by
  obtain ⟨k, rfl⟩ := Int.eq_ofNat_of_zero_le h0
  show (wln f n.toNat).getD ((k : Int)).toNat 0 = f k
  rw [show ((k : Int)).toNat = k from by omega]
  exact wln_getD f n.toNat k (by omega)
/-- THE WORD by its letters -/
theorem CI.len {st : St_} {a : AB_} (h : CI st a) : (a.2.length : Int) = st.1 (10 + 0) := by rw [← h.2.1]; exact wl_len _ (h.2.2.2.2.2.1 0 (by omega)).1.1
theorem CI.lf {st : St_} {a : AB_} (h : CI st a) : ∀ j : Int, 0 ≤ j → j < st.1 (10 + 0) → lf a.2 j = st.2 (14 + 0) j := by
  intro j h0 h1
  rw [← h.2.1]
  exact lf_wl _ h0 h1
theorem CI.let6 {st : St_} {a : AB_} (h : CI st a) : ∀ j : Int, 0 ≤ j → j < st.1 (10 + 0) → 1 ≤ st.2 (14 + 0) j ∧ st.2 (14 + 0) j ≤ 6 := by
  intro j h0 h1
  have := h.2.2.2.2.2.2.2.2.2.2.2.1.2 (st.2 (14 + 0) j) (by rw [← h.2.1]; exact mem_wl _ h0 h1)
  exact this
theorem lg_congr {f g : Int → Int} {k : Int} (h : ∀ j : Int, 0 ≤ j → j < k → f j = g j) : lg f k = lg g k := by
  have c : ∀ n : Nat, (n : Int) ≤ k → clP f n = clP g n ∧ lgP f n = lgP g n := by
    intro n
    induction n with
    | zero => intro _; exact ⟨rfl, rfl⟩
    | succ n ih =>
      intro hn
      obtain ⟨e1, e2⟩ := ih (by omega)
      have e3 : clP f (n + 1) = clP g (n + 1) := by
        show (if _ then _ else _) = (if _ then _ else _)
        by_cases h0 : n = 0
        · rw [if_pos (Or.inl h0), if_pos (Or.inl h0)]
        · rw [h n (by omega) (by omega), h ((n : Int) - 1) (by omega) (by omega), e1]
      refine ⟨e3, ?_⟩
      show mx2 _ _ = mx2 _ _
      rw [e2, e3]
  by_cases hk : 0 ≤ k
  · exact (c k.toNat (by omega)).2
  · unfold lg; rw [show k.toNat = 0 from by omega]; rfl
theorem wl_letters {f : Int → Int} {k lo hi : Int} (h : ∀ j : Int, 0 ≤ j → j < k → lo ≤ f j ∧ f j ≤ hi) : ∀ x ∈ wl f k, lo ≤ x ∧ x ≤ hi := by
  intro x hx
  obtain ⟨j, h0, h1, h2⟩ := wl_mem f k x hx
  rw [h2]; exact h j h0 h1
theorem dropF_mem (g : Int) (l : List Int) : ∀ x ∈ dropF g l, x ∈ l := by
  intro x hx
  cases l with
  | nil => exact hx
  | cons a t =>
    simp only [dropF] at hx
    split at hx
    · exact List.mem_cons_of_mem _ hx
    · exact hx
theorem dropE_mem (g : Int) (l : List Int) : ∀ x ∈ dropE g l, x ∈ l := by
  induction l with
  | nil => intro x hx; exact hx
  | cons a t ih =>
    intro x hx
    cases t with
    | nil =>
      simp only [dropE] at hx
      split at hx
      · cases hx
      · exact hx
    | cons b t =>
      simp only [dropE] at hx ih
      rcases List.mem_cons.mp hx with h | h
      · rw [h]; exact List.mem_cons_self
      · exact List.mem_cons_of_mem _ (ih x h)
theorem sh_letters {f : Int → Int} {k g : Int} (hk : 0 ≤ k) (h : ¬ 6 < lg f k) : ∀ x ∈ sh g (runs f k), 1 ≤ x ∧ x ≤ 6 := by
  intro x hx
  have h1 := dropF_mem g _ x (dropE_mem g _ x hx)
  have h2 := (runs_facts f hk).1 x h1
  refine ⟨h2, ?_⟩
  rcases Int.lt_or_le 6 x with q | q
  · exact absurd ((lg_lt f hk (by omega)).mpr ⟨x, h1, q⟩) h
  · exact q
noncomputable def trv (f : Int → Int) (n v : Int) : Int := Classical.epsilon (fun z => TR f n v z)
theorem trv_eq {f : Int → Int} {n v z : Int} (h : TR f n v z) : trv f n v = z := TR_u (Classical.epsilon_spec (p := fun z => TR f n v z) ⟨z, h⟩) h
noncomputable def epi (P : Int → Prop) : Int := Classical.epsilon P
theorem epi_eq {P : Int → Prop} {z : Int} (h : P z) (u : ∀ x y, P x → P y → x = y) : epi P = z := u _ _ (Classical.epsilon_spec (p := P) ⟨z, h⟩) h
theorem epi_c {P P2 : Int → Prop} (h : ∀ z, P z ↔ P2 z) : epi P = epi P2 := by rw [show P = P2 from funext (fun z => propext (h z))]
end
section
/-! answers that are told by what holds of them -/
def TWP (f : Int → Int) (n y : Int) : Prop := 0 ≤ y ∧ (y = 0 ∨ ∃ i : Int, 0 ≤ i ∧ i + 2 * y ≤ n ∧ tw f y i) ∧ ∀ v : Int, 1 ≤ v → (y = 0 ∨ v < y) → ∀ i : Int, 0 ≤ i → i + 2 * v ≤ n → ¬ tw f v i
theorem TWP_u {f : Int → Int} {n x y : Int} (h1 : TWP f n x) (h2 : TWP f n y) : x = y := by
  rcases Int.lt_trichotomy x y with q | q | q
  · exfalso
    by_cases hx : x = 0
    · rcases h2.2.1 with z | ⟨i, a, b, c⟩
      · omega
      · exact h1.2.2 y (by omega) (Or.inl hx) i a b c
    · rcases h1.2.1 with z | ⟨i, a, b, c⟩
      · omega
      · have := h1.1
        exact h2.2.2 x (by omega) (Or.inr q) i a b c
  · exact q
  · exfalso
    by_cases hx : y = 0
    · rcases h1.2.1 with z | ⟨i, a, b, c⟩
      · omega
      · exact h2.2.2 x (by omega) (Or.inl hx) i a b c
    · rcases h2.2.1 with z | ⟨i, a, b, c⟩
      · omega
      · have := h2.1
        exact h1.2.2 y (by omega) (Or.inr q) i a b c
theorem tw_congr {f g : Int → Int} {n m i : Int} (h : ∀ j : Int, 0 ≤ j → j < n → f j = g j) (hi : 0 ≤ i) (hn : i + 2 * m ≤ n) : tw f m i ↔ tw g m i := by
  constructor
  · intro a t t0 t1; rw [← h _ (by omega) (by omega), ← h _ (by omega) (by omega)]; exact a t t0 t1
  · intro a t t0 t1; rw [h _ (by omega) (by omega), h _ (by omega) (by omega)]; exact a t t0 t1
theorem TWP_congr {f g : Int → Int} {n y : Int} (h : ∀ j : Int, 0 ≤ j → j < n → f j = g j) (a : TWP f n y) : TWP g n y :=
  ⟨a.1, a.2.1.elim Or.inl (fun ⟨i, b, c, d⟩ => Or.inr ⟨i, b, c, (tw_congr h b c).mp d⟩), fun v b c i d e z => a.2.2 v b c i d e ((tw_congr h d e).mpr z)⟩
/-- the word W (letters f, n of them) stands in S from p on -/
def std (S f : Int → Int) (n p : Int) : Prop := ∀ j : Int, 0 ≤ j → j < n → S (p + j) = f j
def FDP (S f : Int → Int) (n k m y : Int) : Prop := (y = -1 ∧ ∀ p : Int, k ≤ p → p + n ≤ m → ¬ std S f n p) ∨ (k ≤ y ∧ y + n ≤ m ∧ std S f n y ∧ ∀ p : Int, k ≤ p → p < y → ¬ std S f n p)
theorem FDP_u {S f : Int → Int} {n k m x y : Int} (hk : 0 ≤ k) (h1 : FDP S f n k m x) (h2 : FDP S f n k m y) : x = y := by
  rcases h1 with ⟨a1, a2⟩ | ⟨a1, a2, a3, a4⟩
  · rcases h2 with ⟨b1, b2⟩ | ⟨b1, b2, b3, b4⟩
    · omega
    · exact absurd b3 (a2 y b1 b2)
  · rcases h2 with ⟨b1, b2⟩ | ⟨b1, b2, b3, b4⟩
    · exact absurd a3 (b2 x a1 a2)
    · rcases Int.lt_trichotomy x y with q | q | q
      · exact absurd a3 (b4 x a1 q)
      · exact q
      · exact absurd b3 (a4 y b1 q)
theorem CI_lets {st : St_} {a : AB_} (h : CI st a) {q : Nat} (hq : q < 4) : 2 ≤ st.1 (3 + q) ∧ st.1 (3 + q) ≤ 4 := h.2.2.2.2.2.2.1.2.1.2.2.1 q hq
def aA (a : AB_) (q : Nat) (n w x y z : Int) : AB_ := (sG (sA (sA (sA (sA a.1 (1 + q) 0 w) (1 + q) 1 x) (1 + q) 2 y) (1 + q) 3 z) (4 + q) n, a.2)
def aR (a : AB_) (n b c d : Int) : AB_ := (sG (sA (sA (sA a.1 0 0 b) 0 1 c) 0 2 d) 0 n, a.2)
def okA (n w x y z : Int) : Prop := (2 ≤ n ∧ n ≤ 4 ∧ 1 ≤ w ∧ w ≤ 6 ∧ 1 ≤ x ∧ x ≤ 6 ∧ w ≠ x ∧ (3 ≤ n → 1 ≤ y ∧ y ≤ 6 ∧ x ≠ y) ∧ (4 ≤ n → 1 ≤ z ∧ z ≤ 6 ∧ y ≠ z) ∧ (n = 3 → y ≠ w) ∧ (n = 4 → z ≠ w))
theorem z4_0 (f : Int → Int) (w x y z : Int) : zup (zup (zup (zup f 0 w) 1 x) 2 y) 3 z 0 = w := by rw [zup_ne _ _ (by omega), zup_ne _ _ (by omega), zup_ne _ _ (by omega), zup_eq]
theorem z4_1 (f : Int → Int) (w x y z : Int) : zup (zup (zup (zup f 0 w) 1 x) 2 y) 3 z 1 = x := by rw [zup_ne _ _ (by omega), zup_ne _ _ (by omega), zup_eq]
theorem z4_2 (f : Int → Int) (w x y z : Int) : zup (zup (zup (zup f 0 w) 1 x) 2 y) 3 z 2 = y := by rw [zup_ne _ _ (by omega), zup_eq]
theorem z4_3 (f : Int → Int) (w x y z : Int) : zup (zup (zup (zup f 0 w) 1 x) 2 y) 3 z 3 = z := by rw [zup_eq]
theorem sA4 (st : St_) (r : Nat) (w x y z : Int) : sA (sA (sA (sA st r 0 w) r 1 x) r 2 y) r 3 z = sF st r (zup (zup (zup (zup (st.2 r) 0 w) 1 x) 2 y) 3 z) := by
  refine Prod.ext rfl (funext fun q => ?_)
  by_cases h : q = r
  · subst h; rw [sA_s, sA_s, sA_s, sA_s, sF_s]
  · rw [sA_n _ _ _ h, sA_n _ _ _ h, sA_n _ _ _ h, sA_n _ _ _ h, sF_n _ _ h]
theorem sA3 (st : St_) (r : Nat) (w x y : Int) : sA (sA (sA st r 0 w) r 1 x) r 2 y = sF st r (zup (zup (zup (st.2 r) 0 w) 1 x) 2 y) := by
  refine Prod.ext rfl (funext fun q => ?_)
  by_cases h : q = r
  · subst h; rw [sA_s, sA_s, sA_s, sF_s]
  · rw [sA_n _ _ _ h, sA_n _ _ _ h, sA_n _ _ _ h, sF_n _ _ h]
theorem aA_AI {a : AB_} (h : AI a) {q : Nat} {n w x y z : Int} (ho : okA n w x y z) : AI (aA a q n w x y z) := by
  obtain ⟨b1, b2, b3, b4, b5, b6, b7⟩ := h
  unfold okA at ho
  unfold aA
  rw [sA4]
  refine ⟨by rw [sG_n _ _ (by omega)]; exact b1, fun r hr => ?_, fun p hp => ?_, fun p hp j h0 h1 => ?_, b5, by rw [sG_n _ _ (by omega)]; exact b6, by rw [sG_n _ _ (by omega)]; exact b7⟩
  · simp only [sG_2] at hr ⊢
    rw [sG_n _ _ (by omega)] at hr
    rw [sF_n _ _ (by omega)]
    exact b2 r hr
  · by_cases hpq : p = q
    · subst hpq; simp only [sG_s]; omega
    · simp only [sG_n _ _ (show 4 + p ≠ 4 + q by omega)]; exact b3 p hp
  · by_cases hpq : p = q
    · subst hpq
      simp only [sG_s, sG_2, sF_s] at h1 ⊢
      rcases (show j = 0 ∨ j = 1 ∨ j = 2 ∨ j = 3 by omega) with e | e | e | e <;> subst e
      · rw [z4_0, if_pos (by omega), show (0 : Int) + 1 = 1 from rfl, z4_1]; omega
      · rw [z4_1]
        by_cases h3 : 1 + 1 < n
        · rw [if_pos h3, show (1 : Int) + 1 = 2 from rfl, z4_2]; omega
        · rw [if_neg h3, z4_0]; omega
      · rw [z4_2]
        by_cases h3 : 2 + 1 < n
        · rw [if_pos h3, show (2 : Int) + 1 = 3 from rfl, z4_3]; omega
        · rw [if_neg h3, z4_0]; omega
      · rw [z4_3, if_neg (by omega), z4_0]; omega
    · simp only [sG_2] at h1 ⊢
      rw [sG_n _ _ (by omega)] at h1 ⊢
      rw [sF_n _ _ (by omega)]
      exact b4 p hp j h0 h1
theorem aR_AI {a : AB_} (h : AI a) {n b c d : Int} (hn : 1 ≤ n ∧ n ≤ 3) (hb : 0 ≤ b ∧ b ≤ 3) (hc : 2 ≤ n → 0 ≤ c ∧ c ≤ 3) (hd : 3 ≤ n → 0 ≤ d ∧ d ≤ 3) : AI (aR a n b c d) := by
  obtain ⟨b1, b2, b3, b4, b5, b6, b7⟩ := h
  unfold aR
  rw [sA3]
  refine ⟨by simp only [sG_s]; exact hn, fun r hr => ?_, fun p hp => by simp only [sG_n _ _ (show 4 + p ≠ 0 by omega)]; exact b3 p hp, fun p hp j h0 h1 => ?_, b5, by simp only [sG_n _ _ (show 2 ≠ 0 by omega)]; exact b6, by simp only [sG_n _ _ (show 3 ≠ 0 by omega)]; exact b7⟩
  · simp only [sG_s, sG_2, sF_s] at hr ⊢
    rcases (show r = 0 ∨ r = 1 ∨ r = 2 by omega) with e | e | e <;> subst e
    · rw [show (((0 : Nat)) : Int) = 0 from rfl, zup_ne _ _ (by omega), zup_ne _ _ (by omega), zup_eq]; exact hb
    · rw [show (((1 : Nat)) : Int) = 1 from rfl, zup_ne _ _ (by omega), zup_eq]; exact hc (by omega)
    · rw [show (((2 : Nat)) : Int) = 2 from rfl, zup_eq]; exact hd (by omega)
  · simp only [sG_2] at h1 ⊢
    rw [sG_n _ _ (by omega)] at h1 ⊢
    rw [sF_n _ _ (by omega)]
    exact b4 p hp j h0 h1
end
section
/-! a new object of alphabets or ring: nothing is made -/
def FG (st st2 : St_) : Prop := (∀ j, (j < 7 ∨ 9 < j) → st2.1 j = st.1 j) ∧ (∀ q, (q < 11 ∨ 13 < q) → st2.2 q = st.2 q) ∧ (∀ r : Nat, r < 3 → st2.1 (7 + r) = 0) ∧ ∀ (r : Nat) (c : Int), r < 3 → 0 ≤ c → c < 7 → st2.2 (11 + r) c = 0
-- CUT
theorem CI_FG {S st2 : St_} {a : AB_} (h1 : S.1 2 = a.1.1 0) (h2 : wl (S.2 (14 + 0)) (S.1 (10 + 0)) = a.2) (h3 : S.1 0 = a.1.1 2 ∧ S.1 1 = a.1.1 3) (h4 : ∀ q : Nat, q < 4 → S.1 (3 + q) = a.1.1 (4 + q) ∧ ∀ j : Int, 0 ≤ j → j < S.1 (3 + q) → S.2 (1 + q) j = a.1.2 (1 + q) j) (h5 : ∀ r : Nat, (r : Int) < S.1 2 → S.2 0 (r : Int) = a.1.2 0 (r : Int)) (h6 : WS S) (hK : KZ S) (h8 : AI a) (hF : FG S st2) : CI st2 a := by
  obtain ⟨f1, f2, f3, f4⟩ := hF
  have c1 : st2.1 2 = a.1.1 0 := by rw [f1 2 (by omega)]; exact h1
  have c4 : ∀ q : Nat, q < 4 → st2.1 (3 + q) = a.1.1 (4 + q) ∧ ∀ j : Int, 0 ≤ j → j < st2.1 (3 + q) → st2.2 (1 + q) j = a.1.2 (1 + q) j := fun q hq => by rw [f1 _ (by omega), f2 _ (by omega)]; exact h4 q hq
  have c5 : ∀ r : Nat, (r : Int) < st2.1 2 → st2.2 0 (r : Int) = a.1.2 0 (r : Int) := fun r hr => by rw [f1 2 (by omega)] at hr; rw [f2 0 (by omega)]; exact h5 r hr
  have cK : KZ st2 := fun r c hr a0 a1 => by rw [f2 _ (by omega)]; exact hK r c hr a0 a1
  have hn := h8.1
  have cA : AH st2 := ⟨by rw [c1]; exact hn, fun r hr => by rw [c5 r hr]; exact h8.2.1 r (by omega), fun q hq => by rw [(c4 q hq).1]; exact h8.2.2.1 q hq, fun q hq j a0 a1 => by rw [(c4 q hq).2 j a0 a1]; exact (h8.2.2.2.1 q hq j a0 (by rw [← (c4 q hq).1]; exact a1)).1⟩
  refine ⟨c1, by rw [f1 _ (by omega), f2 _ (by omega)]; exact h2, by rw [f1 0 (by omega), f1 1 (by omega)]; exact h3, c4, c5, fun w hw => by rw [f1 _ (by omega), f2 _ (by omega)]; exact h6 w hw, ⟨h8.LT, cA, fun r j hr hj => ?_, RI_0 (fun r hr => f3 r (by omega)) (fun r c hr a0 a1 => ⟨f4 r c (by omega) a0 a1, cK r c (by omega) a0 a1⟩), cK⟩, h8⟩
  have e1 := cA.2.1 r hr
  have e2 := c4 (st2.2 0 (r : Int)).toNat (by omega)
  have e3 := cA.2.2.1 (st2.2 0 (r : Int)).toNat (by omega)
  unfold ltx lta
  rw [if_pos (by omega), ← c5 r hr, ← e2.1]
  exact e2.2 _ (Int.emod_nonneg _ (by omega)) (Int.emod_lt_of_pos _ (by omega))
theorem CI_alph {st st2 : St_} {a : AB_} (h : CI st a) {q : Nat} (hq : q < 4) {n w x y z : Int} (ho : okA n w x y z) (hF : FG (sG (sA (sA (sA (sA st (1 + q) 0 w) (1 + q) 1 x) (1 + q) 2 y) (1 + q) 3 z) (3 + q) n) st2) : CI st2 (aA a q n w x y z) := by
  have hA := aA_AI (q := q) h.2.2.2.2.2.2.2 ho
  obtain ⟨h1, h2, h3, h4, h5, h6, h7, h8⟩ := h
  rw [sA4] at hF
  unfold aA at hA ⊢
  rw [sA4] at hA ⊢
  refine CI_FG ?_ ?_ ?_ (fun p hp => ?_) (fun r hr => ?_) (fun v hv => ?_) (fun r c hr a0 a1 => ?_) hA hF
  · simp only [sG_n _ _ (show 2 ≠ 3 + q by omega), sG_n _ _ (show 0 ≠ 4 + q by omega), sF_1]; exact h1
  · simp only [sG_2, sF_n _ _ (show 14 + 0 ≠ 1 + q by omega), sG_n _ _ (show 10 + 0 ≠ 3 + q by omega), sF_1]; exact h2
  · simp only [sG_n _ _ (show 0 ≠ 3 + q by omega), sG_n _ _ (show 1 ≠ 3 + q by omega), sG_n _ _ (show 2 ≠ 4 + q by omega), sG_n _ _ (show 3 ≠ 4 + q by omega), sF_1]; exact h3
  · have e := h4 p hp
    by_cases hpq : p = q
    · subst hpq
      simp only [sG_s, sG_2, sF_s]
      refine ⟨trivial, fun j j0 j1 => ?_⟩
      unfold okA at ho
      rcases (show j = 0 ∨ j = 1 ∨ j = 2 ∨ j = 3 by omega) with e | e | e | e <;> subst e
      · rw [z4_0, z4_0]
      · rw [z4_1, z4_1]
      · rw [z4_2, z4_2]
      · rw [z4_3, z4_3]
    · simp only [sG_2, sG_n _ _ (show 3 + p ≠ 3 + q by omega), sG_n _ _ (show 4 + p ≠ 4 + q by omega), sF_n _ _ (show 1 + p ≠ 1 + q by omega), sF_1]; exact e
  · simp only [sG_2, sG_n _ _ (show 2 ≠ 3 + q by omega), sF_n _ _ (show 0 ≠ 1 + q by omega), sF_1] at hr ⊢; exact h5 r hr
  · simp only [sG_2, sF_n _ _ (show 14 + v ≠ 1 + q by omega), sG_n _ _ (show 10 + v ≠ 3 + q by omega), sF_1]; exact h6 v hv
  · simp only [sG_2, sF_n _ _ (show 8 + r ≠ 1 + q by omega)]; exact h7.2.2.2.2 r c hr a0 a1
theorem CI_ring {st st2 : St_} {a : AB_} (h : CI st a) {n b c d : Int} (hn : 1 ≤ n ∧ n ≤ 3) (hb : 0 ≤ b ∧ b ≤ 3) (hc : 2 ≤ n → 0 ≤ c ∧ c ≤ 3) (hd : 3 ≤ n → 0 ≤ d ∧ d ≤ 3) (hF : FG (sA (sA (sA (sG st 2 n) 0 0 b) 0 1 c) 0 2 d) st2) : CI st2 (aR a n b c d) := by
  have hA := aR_AI h.2.2.2.2.2.2.2 hn hb hc hd
  obtain ⟨h1, h2, h3, h4, h5, h6, h7, h8⟩ := h
  rw [sA3] at hF
  unfold aR at hA ⊢
  rw [sA3] at hA ⊢
  refine CI_FG ?_ ?_ ?_ (fun p hp => ?_) (fun r hr => ?_) (fun v hv => ?_) (fun r c2 hr a0 a1 => ?_) hA hF
  · simp only [sF_1, sG_s]
  · simp only [sF_1, sG_2, sF_n _ _ (show 14 + 0 ≠ 0 by omega), sG_n _ _ (show 10 + 0 ≠ 2 by omega)]; exact h2
  · simp only [sF_1, sG_n _ _ (show 0 ≠ 2 by omega), sG_n _ _ (show 1 ≠ 2 by omega), sG_n _ _ (show 2 ≠ 0 by omega), sG_n _ _ (show 3 ≠ 0 by omega)]; exact h3
  · simp only [sF_1, sG_2, sG_n _ _ (show 3 + p ≠ 2 by omega), sG_n _ _ (show 4 + p ≠ 0 by omega), sF_n _ _ (show 1 + p ≠ 0 by omega)]; exact h4 p hp
  · simp only [sF_1, sG_s, sG_2, sF_s] at hr ⊢
    rcases (show r = 0 ∨ r = 1 ∨ r = 2 by omega) with e | e | e <;> subst e
    · rw [show (((0 : Nat)) : Int) = 0 from rfl, zup_ne _ _ (by omega), zup_ne _ _ (by omega), zup_eq, zup_ne _ _ (by omega), zup_ne _ _ (by omega), zup_eq]
    · rw [show (((1 : Nat)) : Int) = 1 from rfl, zup_ne _ _ (by omega), zup_eq, zup_ne _ _ (by omega), zup_eq]
    · rw [show (((2 : Nat)) : Int) = 2 from rfl, zup_eq, zup_eq]
  · simp only [sF_1, sG_2, sF_n _ _ (show 14 + v ≠ 0 by omega), sG_n _ _ (show 10 + v ≠ 2 by omega)]; exact h6 v hv
  · simp only [sG_2, sF_n _ _ (show 8 + r ≠ 0 by omega)]; exact h7.2.2.2.2 r c2 hr a0 a1
end
section
/-! the reference's rows -/
def ltm (st : St_) (r : Nat) (j : Int) : Int := st.2 0 (4 * st.2 2 (r : Int) + j % st.2 1 (st.2 2 (r : Int)))
def AM (st : St_) : Prop := (1 ≤ st.1 0 ∧ st.1 0 ≤ 3) ∧ (∀ r : Nat, (r : Int) < st.1 0 → 0 ≤ st.2 2 (r : Int) ∧ st.2 2 (r : Int) ≤ 3) ∧ ∀ q : Int, 0 ≤ q → q < 4 → 2 ≤ st.2 1 q ∧ st.2 1 q ≤ 4
def mrow (S B : Int → Int) (m : Int) (f : Int → Int) (J : Int) : Prop := (0 ≤ m ∧ m ≤ 100001) ∧ (∀ k : Int, 0 ≤ k → k < m → f k = S k) ∧ ((B J ≤ 100001 ∧ m = B J) ∨ (100001 < B J ∧ m = 100001))
def Mq (lt : Nat → Int → Int) (n : Int) (st : St_) (J : Nat → Int) : Prop := ∀ r : Nat, (r : Int) < n → mrow (SQ lt (nxn n) r) (BQ lt (nxn n) r) (st.2 6 (r : Int)) (st.2 (3 + r)) (J r)
def frm (st st2 : St_) : Prop := (∀ j, j ≠ 1 → j ≠ 2 → st2.1 j = st.1 j) ∧ ∀ q, (q < 3 ∨ 6 < q) → st2.2 q = st.2 q
theorem frm_rf (st : St_) : frm st st := ⟨fun _ _ _ => rfl, fun _ _ => rfl⟩
theorem frm_tr {a b c : St_} (h1 : frm a b) (h2 : frm b c) : frm a c := ⟨fun j x y => (h2.1 j x y).trans (h1.1 j x y), fun q x => (h2.2 q x).trans (h1.2 q x)⟩
/-- what holds of the reference between calls -/
def MH (lt : Nat → Int → Int) (st : St_) : Prop := LT lt ∧ AM st ∧ (∀ (r : Nat) (j : Int), (r : Int) < st.1 0 → 0 ≤ j → ltm st r j = lt r j) ∧ (st.1 1 = 0 ∨ st.1 1 = 1) ∧ (st.1 1 = 0 → 0 ≤ st.1 2 ∧ Mq lt (st.1 0) st (fun _ => st.1 2))
theorem AM_frm {st st2 : St_} (h : frm st st2) (hA : AM st) : AM st2 := by
  have e0 : st2.1 0 = st.1 0 := h.1 0 (by omega) (by omega)
  have e1 : st2.2 1 = st.2 1 := h.2 1 (by omega)
  have e2 : st2.2 2 = st.2 2 := h.2 2 (by omega)
  unfold AM
  rw [e0, e1, e2]
  exact hA
theorem ltm_frm {st st2 : St_} (h : frm st st2) : ltm st2 = ltm st := by
  funext r j
  unfold ltm
  rw [h.2 0 (by omega), h.2 1 (by omega), h.2 2 (by omega)]
theorem nxn_mod {n : Int} {r : Nat} (hn : 1 ≤ n ∧ n ≤ 3) (hr : (r : Int) < n) : ((r : Int) + 1) % n = ((nxn n r : Nat) : Int) := by
  unfold nxn
  rcases (show n = 1 ∨ n = 2 ∨ n = 3 by omega) with e | e | e <;> subst e <;> split <;> omega
/-- how often: the number that the next row tells, made or not -/
theorem Mq.tell {lt : Nat → Int → Int} {n : Int} {st : St_} {J : Nat → Int} (hL : LT lt) (h : Mq lt n st J) {t : Nat} (ht : (t : Int) < n) {j : Int} (hj : 0 ≤ j ∧ j ≤ 100000) (hJ : J t = j ∨ J t = j + 1) : (j < st.2 6 (t : Int) → st.2 (3 + t) j = SQ lt (nxn n) t j) ∧ (¬ j < st.2 6 (t : Int) → lt t j = SQ lt (nxn n) t j) := by
  obtain ⟨h1, h2, h3⟩ := h t ht
  refine ⟨fun z => h2 j hj.1 z, fun z => ?_⟩
  have g0 := BQ_ge (nx := nxn n) hL.pos t hj.1
  have g1 := BQ_ge (nx := nxn n) hL.pos t (b := j + 1) (by omega)
  have g2 := BQ_s lt (nxn n) t hj.1
  have g3 := SQ_pos (nx := nxn n) hL.pos (nxn n t) j hj.1
  rcases hJ with e | e
  · rw [e] at h3
    exact (SQ_run hL.pos hj.1 (by omega) (by omega)).symm
  · rw [e] at h3
    exfalso; omega
/-- the numbers of the next run -/
theorem Mq.run {lt : Nat → Int → Int} {n : Int} (hL : LT lt) {r : Nat} {j : Int} (hj : 0 ≤ j) : ∀ k : Int, BQ lt (nxn n) r j ≤ k → k < BQ lt (nxn n) r j + SQ lt (nxn n) (nxn n r) j → SQ lt (nxn n) r k = lt r j := by
  intro k h0 h1
  have g2 := BQ_s lt (nxn n) r hj
  exact SQ_run hL.pos hj h0 (by omega)
/-- a row is a run further -/
theorem Mq.put {lt : Nat → Int → Int} {n : Int} {st st2 : St_} {J : Nat → Int} (h : Mq lt n st J) (hn3 : n ≤ 3) {i : Nat} {m : Int} {f g6 : Int → Int} (e1 : st2.2 6 = g6) (e2 : st2.2 (3 + i) = f) (e3 : ∀ r : Nat, r < 3 → r ≠ i → st2.2 (3 + r) = st.2 (3 + r)) (hm : g6 (i : Int) = m) (ho : ∀ x : Int, x ≠ (i : Int) → g6 x = st.2 6 x) {J2 : Nat → Int} (hJ : ∀ r, r ≠ i → J2 r = J r) (hr : mrow (SQ lt (nxn n) i) (BQ lt (nxn n) i) m f (J2 i)) : Mq lt n st2 J2 := by
  intro r hrn
  by_cases hri : r = i
  · subst hri; rw [e1, e2, hm]; exact hr
  · rw [e1, e3 r (by omega) hri, ho _ (by omega), hJ r hri]; exact h r hrn
theorem Mq_J {lt : Nat → Int → Int} {n : Int} {st : St_} {J J2 : Nat → Int} (h : Mq lt n st J) (e : ∀ r : Nat, (r : Int) < n → J2 r = J r) : Mq lt n st J2 := by
  intro r hr; rw [e r hr]; exact h r hr
theorem Mq_0 {lt : Nat → Int → Int} {n : Int} {st : St_} (h : ∀ r : Nat, (r : Int) < n → st.2 6 (r : Int) = 0) : Mq lt n st (fun _ => 0) := by
  intro r hr
  rw [h r hr]
  exact ⟨by omega, fun k h0 h1 => absurd h1 (by omega), Or.inl ⟨by rw [BQ_0]; omega, rfl⟩⟩
theorem Mq.num {lt : Nat → Int → Int} {n : Int} {st : St_} {J : Nat → Int} (h : Mq lt n st J) {r : Nat} (hr : (r : Int) < n) {k : Int} (h0 : 0 ≤ k) (h1 : k < st.2 6 (r : Int)) : st.2 (3 + r) k = SQ lt (nxn n) r k := (h r hr).2.1 k h0 h1
end
section
/-! lengthened words -/
def lgP2 (fl f : Int → Int) : Nat → List Int
  | 0 => []
  | j + 1 => lgP2 fl f j ++ List.replicate (f (j : Int)).toNat (fl (j : Int))
def lgn (fl f : Int → Int) (k : Int) : List Int := lgP2 fl f k.toNat
theorem lgn_0 (fl f : Int → Int) : lgn fl f 0 = [] := rfl
theorem lgn_s (fl f : Int → Int) {k : Int} (h : 0 ≤ k) : lgn fl f (k + 1) = lgn fl f k ++ List.replicate (f k).toNat (fl k) := by
  obtain ⟨n, rfl⟩ := Int.eq_ofNat_of_zero_le h
  unfold lgn
  rw [toNat_s h, show ((n : Int)).toNat = n from by omega]
  rfl
theorem lgn_congr {fl gl f g : Int → Int} {k : Int} (h1 : ∀ j : Int, 0 ≤ j → j < k → fl j = gl j) (h2 : ∀ j : Int, 0 ≤ j → j < k → f j = g j) : lgn fl f k = lgn gl g k := by
  have : ∀ n : Nat, (n : Int) ≤ k → lgP2 fl f n = lgP2 gl g n := by
    intro n
    induction n with
    | zero => intro _; rfl
    | succ n ih =>
      intro hn
      show lgP2 fl f n ++ _ = lgP2 gl g n ++ _
      rw [ih (by omega), h1 n (by omega) (by omega), h2 n (by omega) (by omega)]
  by_cases hk : 0 ≤ k
  · exact this _ (by omega)
  · unfold lgn; rw [show k.toNat = 0 from by omega]; rfl
theorem lgn_letters {fl f : Int → Int} {k lo hi : Int} (h : ∀ j : Int, 0 ≤ j → j < k → lo ≤ fl j ∧ fl j ≤ hi) : ∀ x ∈ lgn fl f k, lo ≤ x ∧ x ≤ hi := by
  have : ∀ n : Nat, (n : Int) ≤ k → ∀ x ∈ lgP2 fl f n, lo ≤ x ∧ x ≤ hi := by
    intro n
    induction n with
    | zero => intro _ x hx; cases hx
    | succ n ih =>
      intro hn x hx
      rcases List.mem_append.mp hx with y | y
      · exact ih (by omega) x y
      · rw [(List.mem_replicate.mp y).2]; exact h n (by omega) (by omega)
  by_cases hk : 0 ≤ k
  · exact this _ (by omega)
  · unfold lgn; rw [show k.toNat = 0 from by omega]; intro x hx; cases hx
theorem isum_up {f : Int → Int} {n : Int} (h : ∀ j : Int, 0 ≤ j → j < n → 0 ≤ f j) {a b : Int} (h0 : 0 ≤ a) (h1 : a ≤ b) (h2 : b ≤ n) : isum f a ≤ isum f b := by
  obtain ⟨d, hd⟩ : ∃ d : Nat, b = a + d := ⟨(b - a).toNat, by omega⟩
  subst hd
  clear h1
  induction d with
  | zero => rw [show a + ((0 : Nat) : Int) = a from by omega]; exact Int.le_refl _
  | succ d ih =>
    have e : a + ((d + 1 : Nat) : Int) = (a + d) + 1 := by omega
    rw [e, isum_s f (by omega)]
    have := h (a + d) (by omega) (by omega)
    have := ih (by omega)
    omega
end
section
/-! the reference's state stands for a -/
def MI (st : St_) (a : AB_) : Prop := st.1 0 = a.1.1 0 ∧ wl (st.2 7) (st.1 3) = a.2 ∧ (st.1 6 = a.1.1 2 ∧ st.1 7 = a.1.1 3) ∧ (∀ q : Nat, q < 4 → st.2 1 (q : Int) = a.1.1 (4 + q) ∧ ∀ j : Int, 0 ≤ j → j < st.2 1 (q : Int) → st.2 0 (4 * (q : Int) + j) = a.1.2 (1 + q) j) ∧ (∀ r : Nat, (r : Int) < st.1 0 → st.2 2 (r : Int) = a.1.2 0 (r : Int)) ∧ (0 ≤ st.1 3 ∧ st.1 3 ≤ 60) ∧ MH (lta a) st ∧ AI a
theorem MH_same {lt : Nat → Int → Int} {st st2 : St_} (h1 : ∀ j, j ≤ 2 → st2.1 j = st.1 j) (h2 : ∀ q, q ≤ 6 → st2.2 q = st.2 q) (h : MH lt st) : MH lt st2 := by
  have e0 := h1 0 (by omega)
  have e1 := h1 1 (by omega)
  have e2 := h1 2 (by omega)
  obtain ⟨a1, a2, a3, a4, a5⟩ := h
  have hn := a2.1
  refine ⟨a1, ?_, fun r j hr hj => ?_, by rw [e1]; exact a4, fun z => ?_⟩
  · unfold AM; rw [e0, h2 1 (by omega), h2 2 (by omega)]; exact a2
  · rw [e0] at hr
    rw [← a3 r j hr hj]
    unfold ltm
    rw [h2 0 (by omega), h2 1 (by omega), h2 2 (by omega)]
  · rw [e1] at z
    obtain ⟨b1, b2⟩ := a5 z
    rw [e2, e0]
    refine ⟨b1, fun r hr => ?_⟩
    rw [h2 6 (by omega), h2 (3 + r) (by omega)]
    exact b2 r hr
theorem MI_frm {st st2 : St_} {a : AB_} (h : MI st a) (hf : frm st st2) (hH : MH (lta a) st2) : MI st2 a := by
  obtain ⟨h1, h2, h3, h4, h5, h6, h7, h8⟩ := h
  have e0 := hf.1 0 (by omega) (by omega)
  refine ⟨by rw [e0]; exact h1, by rw [hf.1 3 (by omega) (by omega), hf.2 7 (by omega)]; exact h2, by rw [hf.1 6 (by omega) (by omega), hf.1 7 (by omega) (by omega)]; exact h3, by rw [hf.2 0 (by omega), hf.2 1 (by omega)]; exact h4, by rw [e0, hf.2 2 (by omega)]; exact h5, by rw [hf.1 3 (by omega) (by omega)]; exact h6, hH, h8⟩
theorem MI_w {st st2 : St_} {a : AB_} {W : List Int} (h : MI st a) (h1 : ∀ j, j ≤ 2 → st2.1 j = st.1 j) (h16 : st2.1 6 = st.1 6 ∧ st2.1 7 = st.1 7) (h2 : ∀ q, q ≤ 6 → st2.2 q = st.2 q) (hW : wl (st2.2 7) (st2.1 3) = W) (hk : 0 ≤ st2.1 3 ∧ st2.1 3 ≤ 60) (hl : ∀ x ∈ W, 1 ≤ x ∧ x ≤ 6) : MI st2 (a.1, W) := by
  obtain ⟨b1, b2, b3, b4, b5, b6, b7, b8⟩ := h
  have e0 := h1 0 (by omega)
  have hL : (W.length : Int) = st2.1 3 := by rw [← hW]; exact wl_len _ hk.1
  exact ⟨by rw [e0]; exact b1, hW, by rw [h16.1, h16.2]; exact b3, by rw [h2 0 (by omega), h2 1 (by omega)]; exact b4, by rw [e0, h2 2 (by omega)]; exact b5, hk, MH_same h1 h2 b7, ⟨b8.1, b8.2.1, b8.2.2.1, b8.2.2.2.1, ⟨by show W.length ≤ 60; omega, hl⟩, b8.2.2.2.2.2⟩⟩
theorem MI.len {st : St_} {a : AB_} (h : MI st a) : (a.2.length : Int) = st.1 3 := by rw [← h.2.1]; exact wl_len _ h.2.2.2.2.2.1.1
theorem MI.lf {st : St_} {a : AB_} (h : MI st a) : ∀ j : Int, 0 ≤ j → j < st.1 3 → lf a.2 j = st.2 7 j := by
  intro j h0 h1
  rw [← h.2.1]
  exact lf_wl _ h0 h1
theorem MI.let6 {st : St_} {a : AB_} (h : MI st a) : ∀ j : Int, 0 ≤ j → j < st.1 3 → 1 ≤ st.2 7 j ∧ st.2 7 j ≤ 6 := by
  intro j h0 h1
  exact h.2.2.2.2.2.2.2.2.2.2.2.1.2 (st.2 7 j) (by rw [← h.2.1]; exact mem_wl _ h0 h1)
theorem MI_same {st st2 : St_} {a : AB_} (h : MI st a) (h1 : ∀ j, j ≤ 3 → st2.1 j = st.1 j) (h16 : st2.1 6 = st.1 6 ∧ st2.1 7 = st.1 7) (h2 : ∀ q, q ≤ 7 → st2.2 q = st.2 q) : MI st2 a := by
  have := MI_w (W := a.2) h (fun j hj => h1 j (by omega)) h16 (fun q hq => h2 q (by omega)) (by rw [h1 3 (by omega), h2 7 (by omega)]; exact h.2.1) (by rw [h1 3 (by omega)]; exact h.2.2.2.2.2.1) h.2.2.2.2.2.2.2.2.2.2.2.1.2
  exact this
theorem MH.rows {lt : Nat → Int → Int} {st : St_} (h : MH lt st) (hs : st.1 1 = 0) {r : Nat} (hr : (r : Int) < st.1 0) : ∀ j : Int, 0 ≤ j → j < st.2 6 (r : Int) → st.2 (3 + r) j = SQ lt (nxn (st.1 0)) r j := fun j h0 h1 => ((h.2.2.2.2 hs).2 r hr).2.1 j h0 h1
end
section
/-! the reference's shortening -/
theorem wl_cons (f : Int → Int) {n : Int} (h : 0 < n) : wl f n = f 0 :: wl (fun j => f (j + 1)) (n - 1) := by
  obtain ⟨k, rfl⟩ : ∃ k : Nat, n = (k : Int) + 1 := ⟨(n - 1).toNat, by omega⟩
  clear h
  rw [show (k : Int) + 1 - 1 = (k : Int) from by omega]
  induction k with
  | zero => rfl
  | succ k ih =>
    rw [wl_s _ (by omega), show (((k + 1 : Nat)) : Int) = (k : Int) + 1 from by omega, ih, wl_s _ (by omega)]
    rfl
theorem sh_wl (g : Int) (f : Int → Int) {n fr to : Int} (hn : 0 ≤ n) (h1 : fr = if 0 < n ∧ f 0 < g then 1 else 0) (h2 : to = if 0 < n ∧ f (n - 1) < g then n - 1 else n) : sh g (wl f n) = wl (fun j => f (fr + j)) (to - fr) := by
  by_cases h0 : n = 0
  · subst h0
    rw [if_neg (by omega)] at h1 h2
    subst h1; subst h2; rfl
  · have hd : dropF g (wl f n) = wl (fun j => f (fr + j)) (n - fr) := by
      rw [wl_cons f (by omega)]
      show (if f 0 < g then _ else _) = _
      by_cases hf : f 0 < g
      · rw [if_pos hf, h1, if_pos ⟨by omega, hf⟩]
        exact wl_congr (fun j _ _ => by rw [Int.add_comm])
      · rw [if_neg hf, h1, if_neg (fun z => hf z.2), ← wl_cons f (by omega), Int.sub_zero]
        exact wl_congr (fun j _ _ => by rw [Int.zero_add])
    unfold sh
    rw [hd]
    by_cases hm : n - fr = 0
    · rw [hm]
      have : to - fr ≤ 0 := by
        rw [h2]; split
        · omega
        · omega
      rw [show wl (fun j => f (fr + j)) (to - fr) = [] from by unfold wl; rw [show (to - fr).toNat = 0 from by omega]; rfl]
      rfl
    · have hfr : fr = 0 ∨ fr = 1 := by rw [h1]; split <;> omega
      rw [show n - fr = (n - fr - 1) + 1 from by omega, wl_s _ (by omega), dropE_app, show fr + (n - fr - 1) = n - 1 from by omega]
      by_cases hl : f (n - 1) < g
      · rw [if_pos hl, h2, if_pos ⟨by omega, hl⟩, show n - fr - 1 = n - 1 - fr from by omega]
      · rw [if_neg hl, h2, if_neg (fun z => hl z.2), show n - fr = (n - fr - 1) + 1 from by omega, wl_s _ (by omega), show fr + (n - fr - 1) = n - 1 from by omega, show n - fr - 1 + 1 - 1 = n - fr - 1 from by omega]
theorem wl_inc (t : Int → Int) {k : Int} (h : 1 ≤ k) : wl (zup t (k - 1) (t (k - 1) + 1)) k = incL (wl t k) := by
  rw [show k = (k - 1) + 1 from by omega, wl_s t (by omega), incL_app, show k - 1 + 1 - 1 = k - 1 from by omega, wl_put _ _ (by omega)]
end
section
/-! the reference's own: depths, alphabets, the ring -/
theorem sh_mem {g : Int} {l : List Int} : ∀ x ∈ sh g l, x ∈ l := fun x hx => dropF_mem g l x (dropE_mem g _ x hx)
theorem runs_le {f : Int → Int} {k : Int} (hk : 0 ≤ k) : ∀ x ∈ runs f k, 1 ≤ x ∧ x ≤ k := by
  intro x hx
  have h1 := (runs_facts f hk).1 x hx
  refine ⟨h1, ?_⟩
  have h2 := (lg_b f hk).2
  apply Classical.byContradiction
  intro h3
  have h4 := (lg_lt f (k := k) (g := x - 1) hk (by omega)).mpr ⟨x, hx, by omega⟩
  omega
theorem runs_b {f t : Int → Int} {k k1 : Int} (hk : 0 ≤ k) (e : wl t k1 = runs f k) : ∀ j : Int, 0 ≤ j → j < k1 → 1 ≤ t j ∧ t j ≤ k := fun j j0 j1 => runs_le hk _ (by rw [← e]; exact mem_wl _ j0 j1)
theorem cut_b {g : Int} {f t : Int → Int} {k k1 : Int} (hk : 0 ≤ k) (e : wl t k1 = sh g (runs f k)) : ∀ j : Int, 0 ≤ j → j < k1 → 1 ≤ t j ∧ t j ≤ k := fun j j0 j1 => runs_le hk _ (sh_mem _ (by rw [← e]; exact mem_wl _ j0 j1))
theorem wl_ne {f : Int → Int} {k : Int} (hk : 0 < k) : wl f k ≠ [] := by
  intro y
  have := wl_len f (k := k) (by omega)
  rw [y] at this
  have h2 : ((([] : List Int).length : Nat) : Int) = 0 := rfl
  omega
theorem cut_less {g : Int} {f t : Int → Int} {k k1 : Int} (hg : 2 ≤ g) (hk : 0 < k) (h1 : 0 ≤ k1) (e : wl t k1 = sh g (runs f k)) : k1 < k := by
  have h2 := sh_less hg (wl f k) (wl_ne hk)
  rw [RLw_w f (by omega), ← e] at h2
  have h3 := wl_len f (k := k) (by omega)
  have h4 := wl_len t h1
  omega
theorem dpt_badf {g : Int} {f : Int → Int} {k i : Int} (h0 : 0 ≤ i) (h1 : i < k) (h : g < f i) : dpt g (wl f k) = -1 :=
  dpt_bad (wl_ne (by omega)) ((badW_iff _ _).mpr (Or.inl ⟨_, mem_wl f h0 h1, h⟩))
theorem dpt_badr {g : Int} {f : Int → Int} {k : Int} (hk : 0 < k) (hg : 0 ≤ g) (h : g < lg f k) : dpt g (wl f k) = -1 :=
  dpt_bad (wl_ne hk) ((badW_iff _ _).mpr (Or.inr (by rw [RLw_w f (by omega)]; exact (lg_lt f (by omega) hg).mp h)))
theorem dpt_step {g : Int} {f t : Int → Int} {k k1 : Int} (hg : 2 ≤ g) (hk : 0 < k) (hf : ∀ j : Int, 0 ≤ j → j < k → f j ≤ g) (hl : lg f k ≤ g) (e : wl t k1 = sh g (runs f k)) : dpt g (wl f k) = if dpt g (wl t k1) = -1 then -1 else dpt g (wl t k1) + 1 := by
  have hb : badW g (wl f k) = false := by
    cases hbw : badW g (wl f k) with
    | false => rfl
    | true =>
      exfalso
      rcases (badW_iff g (wl f k)).mp hbw with ⟨x, x1, x2⟩ | y
      · obtain ⟨j, j0, j1, j2⟩ := wl_mem f k x x1
        have := hf j j0 j1
        omega
      · rw [RLw_w f (by omega)] at y
        have := (lg_lt f (k := k) (g := g) (by omega) (by omega)).mpr y
        omega
  rw [dpt_s hg (wl_ne hk) hb, RLw_w f (by omega), e]
theorem dpt_acc {g : Int} {d k1 : Int} {w : List Int} {t f : Int → Int} {k : Int} (h : dpt g w = (if dpt g (wl f k) = -1 then -1 else d + dpt g (wl f k))) (e : dpt g (wl f k) = if dpt g (wl t k1) = -1 then -1 else dpt g (wl t k1) + 1) : dpt g w = (if dpt g (wl t k1) = -1 then -1 else d + 1 + dpt g (wl t k1)) := by
  rw [h, e]
  by_cases hq : dpt g (wl t k1) = -1
  · rw [if_pos hq, if_pos rfl, if_pos hq]
  · have := dpt_ge g (wl t k1)
    rw [if_neg hq, if_neg (by omega), if_neg hq]; omega
theorem trv_c {f g : Int → Int} {n v : Int} (h : ∀ j : Int, 0 ≤ j → j < n → f j = g j) : trv f n v = trv g n v := by
  unfold trv
  rw [show (fun z => TR f n v z) = (fun z => TR g n v z) from funext (fun z => propext ⟨TR_congr h, TR_congr (fun j a b => (h j a b).symm)⟩)]
theorem rep_s (x : Int) {t : Int} (h : 0 ≤ t) : List.replicate (t + 1).toNat x = List.replicate t.toNat x ++ [x] := by
  rw [toNat_s h]; exact List.replicate_succ' ..
theorem rep_0 (x : Int) : List.replicate (0 : Int).toNat x = [] := rfl
theorem MI_mk {S : St_} {a : AB_} (h1 : S.1 0 = a.1.1 0) (h2 : wl (S.2 7) (S.1 3) = a.2) (h3 : S.1 6 = a.1.1 2 ∧ S.1 7 = a.1.1 3) (h4 : ∀ q : Nat, q < 4 → S.2 1 (q : Int) = a.1.1 (4 + q) ∧ ∀ j : Int, 0 ≤ j → j < S.2 1 (q : Int) → S.2 0 (4 * (q : Int) + j) = a.1.2 (1 + q) j) (h5 : ∀ r : Nat, (r : Int) < S.1 0 → S.2 2 (r : Int) = a.1.2 0 (r : Int)) (h6 : 0 ≤ S.1 3 ∧ S.1 3 ≤ 60) (hs : S.1 1 = 1) (h8 : AI a) : MI S a := by
  refine ⟨h1, h2, h3, h4, h5, h6, ⟨h8.LT, ⟨by rw [h1]; exact h8.1, fun r hr => ?_, fun q q0 q1 => ?_⟩, fun r j hr hj => ?_, Or.inr hs, fun z => absurd (hs.symm.trans z) (by decide)⟩, h8⟩
  · rw [h5 r hr]; exact h8.2.1 r (by omega)
  · have := (h4 q.toNat (by omega)).1
    rw [show ((q.toNat : Nat) : Int) = q from by omega] at this
    rw [this]; exact h8.2.2.1 q.toNat (by omega)
  · unfold ltm lta
    have b1 := h8.2.1 r (by omega)
    have b2 := h8.2.2.1 (a.1.2 0 (r : Int)).toNat (by omega)
    have b3 := h4 (a.1.2 0 (r : Int)).toNat (by omega)
    rw [show (((a.1.2 0 (r : Int)).toNat : Nat) : Int) = a.1.2 0 (r : Int) from by omega] at b3
    rw [if_pos (by omega), h5 r hr, b3.1]
    exact b3.2 _ (Int.emod_nonneg _ (by omega)) (by rw [b3.1]; exact Int.emod_lt_of_pos _ (by omega))
theorem MI_ring {st : St_} {a : AB_} (h : MI st a) {n b c d : Int} (hn : 1 ≤ n ∧ n ≤ 3) (hb : 0 ≤ b ∧ b ≤ 3) (hc : 2 ≤ n → 0 ≤ c ∧ c ≤ 3) (hd : 3 ≤ n → 0 ≤ d ∧ d ≤ 3) : MI (sG (sA (sA (sA (sG st 0 n) 2 0 b) 2 1 c) 2 2 d) 1 1) (aR a n b c d) := by
  have hA := aR_AI h.2.2.2.2.2.2.2 hn hb hc hd
  obtain ⟨h1, h2, h3, h4, h5, h6, h7, h8⟩ := h
  unfold aR at hA ⊢
  rw [sA3] at hA ⊢
  rw [sA3]
  refine MI_mk ?_ ?_ ?_ (fun p hp => ?_) (fun r hr => ?_) ?_ ?_ hA
  · simp only [sF_1, sG_s, sG_n _ _ (show 0 ≠ 1 by omega)]
  · simp only [sF_1, sG_2, sG_n _ _ (show 3 ≠ 1 by omega), sG_n _ _ (show 3 ≠ 0 by omega), sF_n _ _ (show 7 ≠ 2 by omega)]; exact h2
  · simp only [sF_1, sG_n _ _ (show 6 ≠ 1 by omega), sG_n _ _ (show 6 ≠ 0 by omega), sG_n _ _ (show 7 ≠ 1 by omega), sG_n _ _ (show 7 ≠ 0 by omega), sG_n _ _ (show 2 ≠ 0 by omega), sG_n _ _ (show 3 ≠ 0 by omega)]; exact h3
  · simp only [sF_1, sG_2, sG_n _ _ (show 4 + p ≠ 0 by omega), sF_n _ _ (show 1 ≠ 2 by omega), sF_n _ _ (show 0 ≠ 2 by omega), sF_n _ _ (show 1 + p ≠ 0 by omega)]; exact h4 p hp
  · simp only [sF_1, sG_s, sG_2, sF_s, sG_n _ _ (show 0 ≠ 1 by omega)] at hr ⊢
    rcases (show r = 0 ∨ r = 1 ∨ r = 2 by omega) with e | e | e <;> subst e
    · rw [show (((0 : Nat)) : Int) = 0 from rfl, zup_ne _ _ (by omega), zup_ne _ _ (by omega), zup_eq, zup_ne _ _ (by omega), zup_ne _ _ (by omega), zup_eq]
    · rw [show (((1 : Nat)) : Int) = 1 from rfl, zup_ne _ _ (by omega), zup_eq, zup_ne _ _ (by omega), zup_eq]
    · rw [show (((2 : Nat)) : Int) = 2 from rfl, zup_eq, zup_eq]
  · simp only [sF_1, sG_n _ _ (show 3 ≠ 1 by omega), sG_n _ _ (show 3 ≠ 0 by omega)]; exact h6
  · simp only [sG_s]
theorem sA4b (st : St_) (b w x y z : Int) : sA (sA (sA (sA st 0 b w) 0 (b + 1) x) 0 (b + 2) y) 0 (b + 3) z = sF st 0 (zup (zup (zup (zup (st.2 0) b w) (b + 1) x) (b + 2) y) (b + 3) z) := by
  refine Prod.ext (funext fun k => ?_) (funext fun q => ?_)
  · simp only [sA_1, sF_1]
  · by_cases hq : q = 0
    · subst hq; simp only [sA_s, sF_s]
    · rw [sA_n _ _ _ hq, sA_n _ _ _ hq, sA_n _ _ _ hq, sA_n _ _ _ hq, sF_n _ _ hq]
theorem z4b (f : Int → Int) (b w x y z : Int) : zup (zup (zup (zup f b w) (b + 1) x) (b + 2) y) (b + 3) z b = w ∧ zup (zup (zup (zup f b w) (b + 1) x) (b + 2) y) (b + 3) z (b + 1) = x ∧ zup (zup (zup (zup f b w) (b + 1) x) (b + 2) y) (b + 3) z (b + 2) = y ∧ zup (zup (zup (zup f b w) (b + 1) x) (b + 2) y) (b + 3) z (b + 3) = z ∧ ∀ j : Int, (j < b ∨ b + 3 < j) → zup (zup (zup (zup f b w) (b + 1) x) (b + 2) y) (b + 3) z j = f j := by
  refine ⟨?_, ?_, ?_, zup_eq _ _ _, fun j hj => ?_⟩
  · rw [zup_ne _ _ (by omega), zup_ne _ _ (by omega), zup_ne _ _ (by omega), zup_eq]
  · rw [zup_ne _ _ (by omega), zup_ne _ _ (by omega), zup_eq]
  · rw [zup_ne _ _ (by omega), zup_eq]
  · rw [zup_ne _ _ (by omega), zup_ne _ _ (by omega), zup_ne _ _ (by omega), zup_ne _ _ (by omega)]
theorem MI_alph {st : St_} {a : AB_} (h : MI st a) {q : Nat} (hq : q < 4) {n w x y z : Int} (ho : okA n w x y z) : MI (sG (sA (sA (sA (sA (sA st 0 (4 * (q : Int)) w) 0 (4 * (q : Int) + 1) x) 0 (4 * (q : Int) + 2) y) 0 (4 * (q : Int) + 3) z) 1 (q : Int) n) 1 1) (aA a q n w x y z) := by
  have hA := aA_AI h.2.2.2.2.2.2.2 (q := q) ho
  have hon : 2 ≤ n ∧ n ≤ 4 := ⟨ho.1, ho.2.1⟩
  obtain ⟨h1, h2, h3, h4, h5, h6, h7, h8⟩ := h
  unfold aA at hA ⊢
  rw [sA4] at hA ⊢
  rw [sA4b]
  obtain ⟨z1, z2, z3, z4, z5⟩ := z4b (st.2 0) (4 * (q : Int)) w x y z
  refine MI_mk ?_ ?_ ?_ (fun p hp => ?_) (fun r hr => ?_) ?_ ?_ hA
  · simp only [sF_1, sA_1, sG_n _ _ (show 0 ≠ 1 by omega), sG_n _ _ (show 0 ≠ 4 + q by omega)]; exact h1
  · simp only [sF_1, sA_1, sG_2, sG_n _ _ (show 3 ≠ 1 by omega), sA_n _ _ _ (show 7 ≠ 1 by omega), sF_n _ _ (show 7 ≠ 0 by omega)]; exact h2
  · simp only [sF_1, sA_1, sG_n _ _ (show 6 ≠ 1 by omega), sG_n _ _ (show 7 ≠ 1 by omega), sG_n _ _ (show 2 ≠ 4 + q by omega), sG_n _ _ (show 3 ≠ 4 + q by omega)]; exact h3
  · by_cases e : p = q
    · subst e
      simp only [sF_1, sG_2, sG_s, sA_s, sF_s, sA_n _ _ _ (show 0 ≠ 1 by omega), sF_n _ _ (show 1 ≠ 0 by omega), zup_eq]
      refine ⟨trivial, fun j j0 j1 => ?_⟩
      rcases (show j = 0 ∨ j = 1 ∨ j = 2 ∨ j = 3 by omega) with e | e | e | e <;> subst e
      · rw [z4_0, Int.add_zero]; exact z1
      · rw [z4_1]; exact z2
      · rw [z4_2]; exact z3
      · rw [z4_3]; exact z4
    · simp only [sF_1, sG_2, sA_s, sF_s, sA_n _ _ _ (show 0 ≠ 1 by omega), sF_n _ _ (show 1 ≠ 0 by omega), sF_n _ _ (show 1 + p ≠ 1 + q by omega), sG_n _ _ (show 4 + p ≠ 4 + q by omega), zup_ne _ _ (show (p : Int) ≠ (q : Int) by omega)]
      have h9 := h4 p hp
      have h10 := h8.2.2.1 p hp
      refine ⟨h9.1, fun j j0 j1 => ?_⟩
      rw [z5 _ (by omega)]
      exact h9.2 j j0 j1
  · simp only [sF_1, sA_1, sG_2, sA_n _ _ _ (show 2 ≠ 1 by omega), sF_n _ _ (show 2 ≠ 0 by omega), sF_n _ _ (show 0 ≠ 1 + q by omega), sG_n _ _ (show 0 ≠ 1 by omega)] at hr ⊢; exact h5 r hr
  · simp only [sF_1, sA_1, sG_n _ _ (show 3 ≠ 1 by omega)]; exact h6
  · simp only [sG_s]
end
