/-! words as lists: the runs' lengths, the shortened word, the depth -/
def wln (f : Int → Int) : Nat → List Int
  | 0 => []
  | n + 1 => wln f n ++ [f (n : Int)]
def wl (f : Int → Int) (n : Int) : List Int := wln f n.toNat
theorem wl_0 (f : Int → Int) : wl f 0 = [] := rfl
theorem wl_n (f : Int → Int) (n : Nat) : wl f (n : Int) = wln f n := by show wln f ((n : Int)).toNat = _; rw [show ((n : Int)).toNat = n from by omega]
theorem wl_s (f : Int → Int) {k : Int} (h : 0 ≤ k) : wl f (k + 1) = wl f k ++ [f k] := by
  obtain ⟨n, rfl⟩ := Int.eq_ofNat_of_zero_le h
  rw [show ((n : Int) + 1) = ((n + 1 : Nat) : Int) from by omega, wl_n, wl_n]
  rfl
theorem wln_len (f : Int → Int) (n : Nat) : (wln f n).length = n := by
  induction n with
  | zero => rfl
  | succ n ih => simp [wln, ih]
theorem wl_len (f : Int → Int) {k : Int} (h : 0 ≤ k) : ((wl f k).length : Int) = k := by
  show ((wln f k.toNat).length : Int) = k
  rw [wln_len]; omega
theorem wln_congr {f g : Int → Int} (n : Nat) (h : ∀ j : Int, 0 ≤ j → j < n → f j = g j) : wln f n = wln g n := by
  induction n with
  | zero => rfl
  | succ n ih =>
    show wln f n ++ [f n] = wln g n ++ [g n]
    rw [ih (fun j h0 h1 => h j h0 (by omega)), h n (by omega) (by omega)]
theorem wl_congr {f g : Int → Int} {k : Int} (h : ∀ j : Int, 0 ≤ j → j < k → f j = g j) : wl f k = wl g k :=
  wln_congr _ (fun j h0 h1 => h j h0 (by omega))
theorem wl_zup (f : Int → Int) {k z : Int} (v : Int) (h : k ≤ z) : wl (zup f z v) k = wl f k :=
  wl_congr (fun j _ h1 => zup_ne f v (by omega))
theorem wl_put (f : Int → Int) {k : Int} (v : Int) (h : 0 ≤ k) : wl (zup f k v) (k + 1) = wl f k ++ [v] := by
  rw [wl_s _ h, wl_zup f v (by omega), zup_eq]
theorem wln_inj {f g : Int → Int} (n : Nat) (h : wln f n = wln g n) : ∀ j : Int, 0 ≤ j → j < n → f j = g j := by
  induction n with
  | zero => intro j h0 h1; omega
  | succ n ih =>
    intro j h0 h1
    have h2 : wln f n ++ [f n] = wln g n ++ [g n] := h
    obtain ⟨h3, h4⟩ := List.append_inj h2 (by rw [wln_len, wln_len])
    by_cases hj : j = n
    · rw [hj]; exact (List.cons.inj h4).1
    · exact ih h3 j h0 (by omega)
theorem wl_inj {f g : Int → Int} {k : Int} (h : wl f k = wl g k) : ∀ j : Int, 0 ≤ j → j < k → f j = g j := fun j h0 h1 => wln_inj _ h j h0 (by omega)
theorem wl_eq {f g : Int → Int} {a b : Int} (ha : 0 ≤ a) (hb : 0 ≤ b) (h : wl f a = wl g b) : a = b ∧ ∀ j : Int, 0 ≤ j → j < a → f j = g j := by
  have h1 : a = b := by rw [← wl_len f ha, ← wl_len g hb, h]
  subst h1
  exact ⟨rfl, wl_inj h⟩
theorem wln_mem (f : Int → Int) (n : Nat) (x : Int) (h : x ∈ wln f n) : ∃ j : Int, 0 ≤ j ∧ j < n ∧ x = f j := by
  induction n with
  | zero => cases h
  | succ n ih =>
    rcases List.mem_append.mp h with h | h
    · obtain ⟨j, h0, h1, h2⟩ := ih h
      exact ⟨j, h0, by omega, h2⟩
    · exact ⟨n, by omega, by omega, List.mem_singleton.mp h⟩
theorem wl_mem (f : Int → Int) (k : Int) (x : Int) (h : x ∈ wl f k) : ∃ j : Int, 0 ≤ j ∧ j < k ∧ x = f j := by
  obtain ⟨j, h0, h1, h2⟩ := wln_mem f _ x h
  exact ⟨j, h0, by omega, h2⟩
theorem mem_wln (f : Int → Int) (n : Nat) (j : Int) (h0 : 0 ≤ j) (h1 : j < n) : f j ∈ wln f n := by
  induction n with
  | zero => omega
  | succ n ih =>
    by_cases hj : j = n
    · rw [hj]; exact List.mem_append_right _ (List.mem_singleton.mpr rfl)
    · exact List.mem_append_left _ (ih (by omega))
theorem mem_wl (f : Int → Int) {k j : Int} (h0 : 0 ≤ j) (h1 : j < k) : f j ∈ wl f k := mem_wln f _ j h0 (by omega)
/-- the last of a list grows by one -/
def incL : List Int → List Int
  | [] => []
  | [x] => [x + 1]
  | x :: y :: t => x :: incL (y :: t)
theorem incL_app (q : List Int) (x : Int) : incL (q ++ [x]) = q ++ [x + 1] := by
  induction q with
  | nil => rfl
  | cons a t ih =>
    cases t with
    | nil => rfl
    | cons b t => exact congrArg (a :: ·) ih
/-- the lengths of the runs of the first n letters -/
def runsP (f : Int → Int) : Nat → List Int
  | 0 => []
  | n + 1 => if n = 0 ∨ f (n : Int) ≠ f ((n : Int) - 1) then runsP f n ++ [1] else incL (runsP f n)
theorem runsP_congr {f g : Int → Int} (n : Nat) (h : ∀ j : Int, 0 ≤ j → j < n → f j = g j) : runsP f n = runsP g n := by
  induction n with
  | zero => rfl
  | succ n ih =>
    have h1 := ih (fun j h0 h1 => h j h0 (by omega))
    by_cases h0 : n = 0
    · subst h0; rfl
    · show (if _ then _ else _) = (if _ then _ else _)
      rw [h1, h n (by omega) (by omega), h ((n : Int) - 1) (by omega) (by omega)]
theorem runsP_new {f : Int → Int} {n : Nat} (h : n = 0 ∨ f (n : Int) ≠ f ((n : Int) - 1)) : runsP f (n + 1) = runsP f n ++ [1] := if_pos h
theorem runsP_old {f : Int → Int} {n : Nat} (h : ¬ (n = 0 ∨ f (n : Int) ≠ f ((n : Int) - 1))) : runsP f (n + 1) = incL (runsP f n) := if_neg h
def lsum (l : List Int) : Int := l.foldr (· + ·) 0
theorem lsum_app (a b : List Int) : lsum (a ++ b) = lsum a + lsum b := by
  induction a with
  | nil => simp [lsum]
  | cons x t ih => simp only [lsum, List.cons_append, List.foldr_cons] at ih ⊢; omega
theorem runsP_facts (f : Int → Int) (n : Nat) : (∀ x ∈ runsP f n, 1 ≤ x) ∧ lsum (runsP f n) = n ∧ (0 < n → ∃ q x, runsP f n = q ++ [x]) := by
  induction n with
  | zero => exact ⟨fun x h => (by cases h), rfl, fun h => absurd h (by omega)⟩
  | succ n ih =>
    obtain ⟨h1, h2, h3⟩ := ih
    by_cases hc : n = 0 ∨ f (n : Int) ≠ f ((n : Int) - 1)
    · rw [runsP_new hc]
      refine ⟨fun x hx => ?_, ?_, fun _ => ⟨_, _, rfl⟩⟩
      · rcases List.mem_append.mp hx with h | h
        · exact h1 x h
        · rw [List.mem_singleton.mp h]; omega
      · rw [lsum_app, h2]; simp [lsum]
    · rw [runsP_old hc]
      obtain ⟨q, y, hq⟩ := h3 (by omega)
      rw [hq, incL_app]
      rw [hq] at h1 h2
      refine ⟨fun x hx => ?_, ?_, fun _ => ⟨_, _, rfl⟩⟩
      · rcases List.mem_append.mp hx with h | h
        · exact h1 x (List.mem_append_left _ h)
        · have := h1 y (List.mem_append_right _ (List.mem_singleton.mpr rfl))
          rw [List.mem_singleton.mp h]; omega
      · rw [lsum_app] at h2 ⊢
        simp only [lsum, List.foldr] at h2 ⊢
        omega
/-- the ends that are shorter than g left out -/
def dropF (g : Int) : List Int → List Int
  | [] => []
  | x :: t => if x < g then t else x :: t
def dropE (g : Int) : List Int → List Int
  | [] => []
  | [x] => if x < g then [] else [x]
  | x :: y :: t => x :: dropE g (y :: t)
theorem dropE_app (g : Int) (q : List Int) (x : Int) : dropE g (q ++ [x]) = if x < g then q else q ++ [x] := by
  induction q with
  | nil => rfl
  | cons a t ih =>
    cases t with
    | nil => simp only [List.cons_append, List.nil_append, dropE]; split <;> rfl
    | cons b t =>
      show a :: dropE g (b :: t ++ [x]) = _
      rw [ih]; split <;> rfl
theorem dropF_app (g : Int) (q : List Int) (x : Int) (h : q ≠ []) : dropF g (q ++ [x]) = dropF g q ++ [x] := by
  cases q with
  | nil => exact absurd rfl h
  | cons a t => simp only [List.cons_append, dropF]; split <;> rfl
def sh (g : Int) (r : List Int) : List Int := dropE g (dropF g r)
theorem dropF_len (g : Int) (l : List Int) : (dropF g l).length ≤ l.length := by
  cases l with
  | nil => exact Nat.le_refl _
  | cons a t => simp only [dropF]; split <;> simp
theorem dropE_len (g : Int) (l : List Int) : (dropE g l).length ≤ l.length := by
  induction l with
  | nil => exact Nat.le_refl _
  | cons a t ih =>
    cases t with
    | nil => simp only [dropE]; split <;> simp
    | cons b t => simp only [dropE, List.length_cons] at ih ⊢; omega
theorem sh_len (g : Int) (l : List Int) : (sh g l).length ≤ l.length := Nat.le_trans (dropE_len _ _) (dropF_len _ _)
theorem lsum_len (l : List Int) (h : ∀ x ∈ l, 1 ≤ x) : (l.length : Int) ≤ lsum l := by
  induction l with
  | nil => exact Int.le_refl _
  | cons a t ih =>
    have h1 := ih (fun x hx => h x (List.mem_cons_of_mem _ hx))
    have h2 := h a List.mem_cons_self
    simp only [lsum, List.foldr_cons, List.length_cons] at h1 ⊢
    omega
/-- a list's letters as a function; the runs of a list -/
def lf (w : List Int) : Int → Int := fun k => w.getD k.toNat 0
def RLw (w : List Int) : List Int := runsP (lf w) w.length
theorem wln_getD (f : Int → Int) (n : Nat) (j : Nat) (h : j < n) : (wln f n).getD j 0 = f j := by
  induction n with
  | zero => omega
  | succ n ih =>
    show (wln f n ++ [f n]).getD j 0 = f j
    by_cases hj : j = n
    · subst hj
      rw [List.getD_eq_getElem?_getD, List.getElem?_append_right (by rw [wln_len]; omega), wln_len]
      simp
    · rw [List.getD_eq_getElem?_getD, List.getElem?_append_left (by rw [wln_len]; omega), ← List.getD_eq_getElem?_getD]
      exact ih (by omega)
theorem RLw_wl (f : Int → Int) (n : Nat) : RLw (wl f (n : Int)) = runsP f n := by
  rw [wl_n]
  show runsP (lf (wln f n)) (wln f n).length = _
  rw [wln_len]
  refine runsP_congr n (fun j h0 h1 => ?_)
  obtain ⟨k, rfl⟩ := Int.eq_ofNat_of_zero_le h0
  show (wln f n).getD ((k : Int)).toNat 0 = f k
  rw [show ((k : Int)).toNat = k from by omega]
  exact wln_getD f n k (by omega)
theorem RLw_facts (w : List Int) : (∀ x ∈ RLw w, 1 ≤ x) ∧ lsum (RLw w) = w.length := ⟨(runsP_facts (lf w) w.length).1, (runsP_facts (lf w) w.length).2.1⟩
theorem RLw_len (w : List Int) : (RLw w).length ≤ w.length := by
  have h := lsum_len _ (RLw_facts w).1
  rw [(RLw_facts w).2] at h
  omega
/-- above g: a letter, or a run -/
def badW (g : Int) (w : List Int) : Bool := w.any (fun x => decide (g < x)) || (RLw w).any (fun x => decide (g < x))
/-- how often a word is shortened till it is empty; -1: it may not stand -/
def dp (g : Int) : Nat → List Int → Int
  | 0, w => if w = [] then 0 else -1
  | n + 1, w => if w = [] then 0 else if badW g w = true then -1 else if dp g n (sh g (RLw w)) = -1 then -1 else dp g n (sh g (RLw w)) + 1
theorem sh_less {g : Int} (hg : 2 ≤ g) (w : List Int) (h : w ≠ []) : (sh g (RLw w)).length < w.length := by
  have h1 := RLw_facts w
  have h2 := sh_len g (RLw w)
  have h3 := RLw_len w
  have hp : 0 < w.length := List.length_pos_iff.mpr h
  by_cases hl : (RLw w).length = w.length
  · cases hr : RLw w with
    | nil => rw [hr] at hl; simp at hl; omega
    | cons a t =>
      have ha : a = 1 := by
        have h4 := h1.1 a (by rw [hr]; exact List.mem_cons_self)
        have h5 := lsum_len t (fun x hx => h1.1 x (by rw [hr]; exact List.mem_cons_of_mem _ hx))
        have h6 := h1.2
        rw [hr] at h6 hl
        simp only [lsum, List.foldr_cons, List.length_cons] at h6 hl h5
        omega
      have h7 : dropF g (a :: t) = t := by simp only [dropF]; rw [if_pos (by omega)]
      show (dropE g (dropF g (a :: t))).length < w.length
      rw [h7]
      have h8 := dropE_len g t
      rw [hr] at hl
      simp only [List.length_cons] at hl
      omega
  · omega
theorem dp_more {g : Int} (hg : 2 ≤ g) : ∀ (n k : Nat) (w : List Int), w.length ≤ n → w.length ≤ k → dp g n w = dp g k w := by
  intro n
  induction n with
  | zero =>
    intro k w h1 h2
    have : w = [] := List.length_eq_zero_iff.mp (by omega)
    subst this
    cases k <;> rfl
  | succ n ih =>
    intro k w h1 h2
    cases k with
    | zero =>
      have : w = [] := List.length_eq_zero_iff.mp (by omega)
      subst this
      rfl
    | succ k =>
      by_cases hw : w = []
      · subst hw; rfl
      · have h3 := sh_less hg w hw
        show (if _ then _ else _) = (if _ then _ else _)
        rw [ih k (sh g (RLw w)) (by omega) (by omega)]
/-- the depth -/
def dpt (g : Int) (w : List Int) : Int := dp g w.length w
theorem dpt_0 (g : Int) : dpt g [] = 0 := rfl
theorem dpt_bad {g : Int} {w : List Int} (h : w ≠ []) (hb : badW g w = true) : dpt g w = -1 := by
  unfold dpt
  cases hl : w.length with
  | zero => exact absurd (List.length_eq_zero_iff.mp hl) h
  | succ n => show (if _ then _ else _) = _; rw [if_neg h, if_pos hb]
theorem dpt_s {g : Int} (hg : 2 ≤ g) {w : List Int} (h : w ≠ []) (hb : badW g w = false) : dpt g w = if dpt g (sh g (RLw w)) = -1 then -1 else dpt g (sh g (RLw w)) + 1 := by
  unfold dpt
  have h3 := sh_less hg w h
  cases hl : w.length with
  | zero => exact absurd (List.length_eq_zero_iff.mp hl) h
  | succ n =>
    rw [dp_more hg (sh g (RLw w)).length n (sh g (RLw w)) (by omega) (by omega)]
    show (if _ then _ else _) = _
    rw [if_neg h, if_neg (by rw [hb]; exact Bool.false_ne_true)]
theorem dpt_ge (g : Int) (w : List Int) : -1 ≤ dpt g w := by
  have h : ∀ (n : Nat) (w : List Int), -1 ≤ dp g n w := by
    intro n
    induction n with
    | zero => intro w; simp only [dp]; split <;> omega
    | succ n ih =>
      intro w
      have h1 := ih (sh g (RLw w))
      simp only [dp]
      split
      · omega
      · split
        · omega
        · split <;> omega
  exact h _ _
theorem badW_iff (g : Int) (w : List Int) : badW g w = true ↔ (∃ x ∈ w, g < x) ∨ ∃ x ∈ RLw w, g < x := by
  unfold badW
  rw [Bool.or_eq_true, List.any_eq_true, List.any_eq_true]
  constructor
  · rintro (⟨x, h1, h2⟩ | ⟨x, h1, h2⟩)
    · exact Or.inl ⟨x, h1, of_decide_eq_true h2⟩
    · exact Or.inr ⟨x, h1, of_decide_eq_true h2⟩
  · rintro (⟨x, h1, h2⟩ | ⟨x, h1, h2⟩)
    · exact Or.inl ⟨x, h1, decide_eq_true h2⟩
    · exact Or.inr ⟨x, h1, decide_eq_true h2⟩
