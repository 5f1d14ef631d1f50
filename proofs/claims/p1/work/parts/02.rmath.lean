/-! the rows that tell the lengths of their runs -/
theorem nsum_congr {f g : Int → Int} (n : Nat) (h : ∀ j : Int, 0 ≤ j → j < n → f j = g j) : nsum f n = nsum g n := by
  induction n with
  | zero => rfl
  | succ n ih =>
    show nsum f n + f n = nsum g n + g n
    rw [ih (fun j h0 h1 => h j h0 (by omega)), h n (by omega) (by omega)]
theorem isum_congr {f g : Int → Int} {k : Int} (h : ∀ j : Int, 0 ≤ j → j < k → f j = g j) : isum f k = isum g k :=
  nsum_congr _ (fun j h0 h1 => h j h0 (by omega))
theorem isum_n (f : Int → Int) (n : Nat) : isum f (n : Int) = nsum f n := by
  show nsum f ((n : Int)).toNat = _
  rw [show ((n : Int)).toNat = n from by omega]
theorem isum_neg (f : Int → Int) {k : Int} (h : k ≤ 0) : isum f k = 0 := by
  show nsum f k.toNat = 0
  rw [show k.toNat = 0 from by omega]
  rfl
/-- f is at least 1 -/
theorem isum_mono {f : Int → Int} (h : ∀ j : Int, 0 ≤ j → 1 ≤ f j) {a b : Int} (h0 : 0 ≤ a) (h1 : a ≤ b) : isum f a + (b - a) ≤ isum f b := by
  obtain ⟨d, hd⟩ : ∃ d : Nat, b = a + d := ⟨(b - a).toNat, by omega⟩
  subst hd
  clear h1
  induction d with
  | zero => rw [show a + ((0 : Nat) : Int) = a from by omega]; omega
  | succ d ih =>
    have e : a + ((d + 1 : Nat) : Int) = (a + d) + 1 := by omega
    rw [e, isum_s f (by omega)]
    have := h (a + d) (by omega)
    omega
theorem isum_ge {f : Int → Int} (h : ∀ j : Int, 0 ≤ j → 1 ≤ f j) {b : Int} (h0 : 0 ≤ b) : b ≤ isum f b := by
  have := isum_mono h (Int.le_refl 0) h0
  rw [isum_0] at this
  omega
/-- the greatest t up to c with isum f t ≤ k -/
def fj (f : Int → Int) (k : Int) : Nat → Nat
  | 0 => 0
  | c + 1 => if isum f ((c : Int) + 1) ≤ k then c + 1 else fj f k c
theorem fj_le (f : Int → Int) (k : Int) (c : Nat) : fj f k c ≤ c := by
  induction c with
  | zero => exact Nat.le_refl 0
  | succ c ih => simp only [fj]; split <;> omega
theorem fj_sum {f : Int → Int} {k : Int} (hk : 0 ≤ k) (c : Nat) : isum f (fj f k c : Nat) ≤ k := by
  induction c with
  | zero => exact hk
  | succ c ih =>
    simp only [fj]
    split
    · rw [show (((c + 1 : Nat)) : Int) = (c : Int) + 1 from by omega]; assumption
    · exact ih
theorem fj_gt {f : Int → Int} {k : Int} (c : Nat) : ∀ t : Nat, fj f k c < t → t ≤ c → k < isum f (t : Int) := by
  induction c with
  | zero => intro t h1 h2; omega
  | succ c ih =>
    intro t h1 h2
    simp only [fj] at h1
    split at h1
    · omega
    · by_cases ht : t = c + 1
      · subst ht
        rw [show (((c + 1 : Nat)) : Int) = (c : Int) + 1 from by omega]
        omega
      · exact ih t h1 (by omega)
theorem fj_congr {f g : Int → Int} {k : Int} (c : Nat) (h : ∀ j : Int, 0 ≤ j → j < c → f j = g j) : fj f k c = fj g k c := by
  induction c with
  | zero => rfl
  | succ c ih =>
    simp only [fj]
    rw [ih (fun j h0 h1 => h j h0 (by omega)), isum_congr (fun j h0 h1 => h j h0 (by omega))]
def TQ (lt : Nat → Int → Int) (nx : Nat → Nat) : Nat → Nat → Int → Int
  | 0 => fun _ _ => 0
  | m + 1 => fun r u => if u < (m : Int) then TQ lt nx m r u else lt r ((fj (TQ lt nx m (nx r)) (m : Int) m : Nat) : Int)
/-- number k of row r -/
def SQ (lt : Nat → Int → Int) (nx : Nat → Nat) (r : Nat) (k : Int) : Int := TQ lt nx (k.toNat + 1) r k
theorem TQ_eq (lt : Nat → Int → Int) (nx : Nat → Nat) (m : Nat) : ∀ (r : Nat) (u : Int), 0 ≤ u → u < m → TQ lt nx m r u = SQ lt nx r u := by
  induction m with
  | zero => intro r u h0 h1; omega
  | succ m ih =>
    intro r u h0 h1
    by_cases hu : u < (m : Int)
    · show (if _ then _ else _) = _
      rw [if_pos hu]
      exact ih r u h0 hu
    · have : u.toNat = m := by omega
      unfold SQ
      rw [this]
theorem SQ_val (lt : Nat → Int → Int) (nx : Nat → Nat) (r : Nat) (m : Nat) : SQ lt nx r (m : Int) = lt r ((fj (SQ lt nx (nx r)) (m : Int) m : Nat) : Int) := by
  unfold SQ
  rw [show ((m : Int)).toNat = m from by omega]
  show (if _ then _ else _) = _
  rw [if_neg (by omega), fj_congr m (fun j h0 h1 => TQ_eq lt nx m (nx r) j h0 h1)]
  rfl
theorem SQ_pos {lt : Nat → Int → Int} {nx : Nat → Nat} (h : ∀ r j, 0 ≤ j → 1 ≤ lt r j) (r : Nat) : ∀ k : Int, 0 ≤ k → 1 ≤ SQ lt nx r k := by
  intro k hk
  obtain ⟨m, rfl⟩ := Int.eq_ofNat_of_zero_le hk
  rw [SQ_val]
  exact h _ _ (by omega)
theorem SQ_le {lt : Nat → Int → Int} {nx : Nat → Nat} {b : Int} (h : ∀ r j, 0 ≤ j → lt r j ≤ b) (r : Nat) : ∀ k : Int, 0 ≤ k → SQ lt nx r k ≤ b := by
  intro k hk
  obtain ⟨m, rfl⟩ := Int.eq_ofNat_of_zero_le hk
  rw [SQ_val]
  exact h _ _ (by omega)
/-- where run j of row r begins -/
def BQ (lt : Nat → Int → Int) (nx : Nat → Nat) (r : Nat) (j : Int) : Int := isum (SQ lt nx (nx r)) j
theorem BQ_0 (lt : Nat → Int → Int) (nx : Nat → Nat) (r : Nat) : BQ lt nx r 0 = 0 := rfl
theorem BQ_s (lt : Nat → Int → Int) (nx : Nat → Nat) (r : Nat) {j : Int} (h : 0 ≤ j) : BQ lt nx r (j + 1) = BQ lt nx r j + SQ lt nx (nx r) j := isum_s _ h
theorem BQ_mono {lt : Nat → Int → Int} {nx : Nat → Nat} (h : ∀ r j, 0 ≤ j → 1 ≤ lt r j) (r : Nat) {a b : Int} (h0 : 0 ≤ a) (h1 : a ≤ b) : BQ lt nx r a + (b - a) ≤ BQ lt nx r b := isum_mono (SQ_pos h _) h0 h1
theorem BQ_ge {lt : Nat → Int → Int} {nx : Nat → Nat} (h : ∀ r j, 0 ≤ j → 1 ≤ lt r j) (r : Nat) {b : Int} (h0 : 0 ≤ b) : b ≤ BQ lt nx r b := isum_ge (SQ_pos h _) h0
theorem SQ_run {lt : Nat → Int → Int} {nx : Nat → Nat} (h : ∀ r j, 0 ≤ j → 1 ≤ lt r j) {r : Nat} {j k : Int} (hj : 0 ≤ j) (h1 : BQ lt nx r j ≤ k) (h2 : k < BQ lt nx r (j + 1)) : SQ lt nx r k = lt r j := by
  have hg := BQ_ge (nx := nx) h r hj
  obtain ⟨m, rfl⟩ := Int.eq_ofNat_of_zero_le (show 0 ≤ k by omega)
  obtain ⟨i, rfl⟩ := Int.eq_ofNat_of_zero_le hj
  rw [SQ_val]
  have a1 := fj_le (SQ lt nx (nx r)) (m : Int) m
  have a2 : BQ lt nx r ((fj (SQ lt nx (nx r)) (m : Int) m : Nat) : Int) ≤ m := fj_sum (by omega) m
  have a3 := fj_gt (f := SQ lt nx (nx r)) (k := (m : Int)) m
  generalize fj (SQ lt nx (nx r)) (m : Int) m = w at a1 a2 a3
  have hw : w = i := by
    rcases Nat.lt_trichotomy w i with q | q | q
    · have h3 : (m : Int) < BQ lt nx r (i : Int) := a3 i q (by omega)
      omega
    · exact q
    · have := BQ_mono (nx := nx) h r (a := (i : Int) + 1) (b := (w : Int)) (by omega) (by omega)
      omega
  rw [hw]
/-- how many of the first n places begin a run of f -/
def chg (f : Int → Int) (n : Int) : Int := isum (fun k => if k = 0 ∨ f k ≠ f (k - 1) then 1 else 0) n
/-- how many of the first n are v -/
def cntv (f : Int → Int) (v n : Int) : Int := isum (fun k => if f k = v then 1 else 0) n
theorem chg_s (f : Int → Int) {n : Int} (h : 0 ≤ n) : chg f (n + 1) = chg f n + if n = 0 ∨ f n ≠ f (n - 1) then 1 else 0 := isum_s _ h
theorem cntv_s (f : Int → Int) (v : Int) {n : Int} (h : 0 ≤ n) : cntv f v (n + 1) = cntv f v n + if f n = v then 1 else 0 := isum_s _ h
theorem chg_congr {f g : Int → Int} {n : Int} (h : ∀ j : Int, 0 ≤ j → j < n → f j = g j) : chg f n = chg g n := by
  refine isum_congr (fun j h0 h1 => ?_)
  by_cases hj : j = 0
  · rw [if_pos (Or.inl hj), if_pos (Or.inl hj)]
  · rw [h j h0 h1, h (j - 1) (by omega) (by omega)]
theorem cntv_congr {f g : Int → Int} {v n : Int} (h : ∀ j : Int, 0 ≤ j → j < n → f j = g j) : cntv f v n = cntv g v n :=
  isum_congr (fun j h0 h1 => by rw [h j h0 h1])
theorem chg_run {lt : Nat → Int → Int} {nx : Nat → Nat} (h : ∀ r j, 0 ≤ j → 1 ≤ lt r j) {r : Nat} (hd : ∀ j, 0 ≤ j → lt r j ≠ lt r (j + 1)) : ∀ (n : Nat) (R : Int), 1 ≤ n → 1 ≤ R → BQ lt nx r (R - 1) < n → (n : Int) ≤ BQ lt nx r R → chg (SQ lt nx r) n = R := by
  intro n
  induction n with
  | zero => intro R h0; omega
  | succ n ih =>
    intro R h0 hR h1 h2
    rw [show (((n + 1 : Nat)) : Int) = (n : Int) + 1 from by omega] at h1 h2 ⊢
    rw [chg_s _ (by omega)]
    by_cases hn : n = 0
    · subst hn
      have h3 := BQ_ge (nx := nx) h r (show 0 ≤ R - 1 by omega)
      rw [if_pos (by exact Or.inl rfl)]
      show (0 : Int) + 1 = R
      omega
    · by_cases h4 : BQ lt nx r (R - 1) < n
      · rw [ih R (by omega) hR h4 (by omega)]
        have e1 : SQ lt nx r n = lt r (R - 1) := SQ_run h (by omega) (by omega) (by rw [show R - 1 + 1 = R from by omega]; omega)
        have e2 : SQ lt nx r ((n : Int) - 1) = lt r (R - 1) := SQ_run h (by omega) (by omega) (by rw [show R - 1 + 1 = R from by omega]; omega)
        rw [if_neg (by rw [e1, e2]; rintro (q | q); · omega
                       · exact q rfl)]
        omega
      · have hR2 : 2 ≤ R := by
          rcases Int.lt_or_le 1 R with q | q
          · omega
          · have : R - 1 = 0 := by omega
            rw [this, BQ_0] at h4
            omega
        have h5 := BQ_mono (nx := nx) h r (a := R - 1 - 1) (b := R - 1) (by omega) (by omega)
        have h6 := BQ_s lt nx r (j := R - 1 - 1) (by omega)
        rw [show R - 1 - 1 + 1 = R - 1 from by omega] at h6
        rw [ih (R - 1) (by omega) (by omega) (by omega) (by omega)]
        have e1 : SQ lt nx r n = lt r (R - 1) := SQ_run h (by omega) (by omega) (by rw [show R - 1 + 1 = R from by omega]; omega)
        have e2 : SQ lt nx r ((n : Int) - 1) = lt r (R - 1 - 1) := SQ_run h (by omega) (by omega) (by rw [show R - 1 - 1 + 1 = R - 1 from by omega]; omega)
        have e3 := hd (R - 1 - 1) (by omega)
        rw [show R - 1 - 1 + 1 = R - 1 from by omega] at e3
        rw [if_pos (Or.inr (by rw [e1, e2]; exact fun q => e3 q.symm))]
        omega
theorem run_ex {lt : Nat → Int → Int} {nx : Nat → Nat} (h : ∀ r j, 0 ≤ j → 1 ≤ lt r j) (r : Nat) {n : Int} (h1 : 1 ≤ n) : ∃ R : Int, 1 ≤ R ∧ BQ lt nx r (R - 1) < n ∧ n ≤ BQ lt nx r R := by
  obtain ⟨m, rfl⟩ := Int.eq_ofNat_of_zero_le (show 0 ≤ n by omega)
  have a1 := fj_le (SQ lt nx (nx r)) ((m : Int) - 1) m
  have a2 : BQ lt nx r ((fj (SQ lt nx (nx r)) ((m : Int) - 1) m : Nat) : Int) ≤ (m : Int) - 1 := fj_sum (by omega) m
  have a3 := fj_gt (f := SQ lt nx (nx r)) (k := (m : Int) - 1) m
  generalize fj (SQ lt nx (nx r)) ((m : Int) - 1) m = w at a1 a2 a3
  have a4 := BQ_ge (nx := nx) h r (b := (w : Int)) (by omega)
  refine ⟨(w : Int) + 1, by omega, ?_, ?_⟩
  · rw [show (w : Int) + 1 - 1 = (w : Int) from by omega]; omega
  · have a5 : (m : Int) - 1 < BQ lt nx r ((w + 1 : Nat) : Int) := a3 (w + 1) (by omega) (by omega)
    rw [show (((w + 1 : Nat)) : Int) = (w : Int) + 1 from by omega] at a5
    omega
theorem chg_iff {lt : Nat → Int → Int} {nx : Nat → Nat} (h : ∀ r j, 0 ≤ j → 1 ≤ lt r j) {r : Nat} (hd : ∀ j, 0 ≤ j → lt r j ≠ lt r (j + 1)) {n j : Int} (h1 : 1 ≤ n) (h2 : 0 ≤ j) : chg (SQ lt nx r) n ≤ j ↔ n ≤ BQ lt nx r j := by
  obtain ⟨R, a1, a2, a3⟩ := run_ex (nx := nx) h r h1
  obtain ⟨m, rfl⟩ := Int.eq_ofNat_of_zero_le (show 0 ≤ n by omega)
  rw [chg_run h hd m R (by omega) a1 a2 a3]
  constructor
  · intro q
    have := BQ_mono (nx := nx) h r (a := R) (b := j) (by omega) q
    omega
  · intro q
    rcases Int.lt_or_le j R with w | w
    · have := BQ_mono (nx := nx) h r (a := j) (b := R - 1) h2 (by omega)
      omega
    · exact w
theorem SQ_congr {lt lt' : Nat → Int → Int} {nx : Nat → Nat} (h : ∀ r j, 0 ≤ j → lt r j = lt' r j) (r : Nat) : ∀ k : Int, SQ lt nx r k = SQ lt' nx r k := by
  have e : ∀ (m : Nat) (r : Nat), TQ lt nx m r = TQ lt' nx m r := by
    intro m
    induction m with
    | zero => intro r; rfl
    | succ m ih =>
      intro r
      funext u
      show (if _ then _ else _) = (if _ then _ else _)
      rw [ih r, ih (nx r), h _ _ (by omega)]
  intro k
  unfold SQ
  rw [e]
/-- the numbers' sum by their counts -/
theorem isum_cnt {f : Int → Int} {n : Int} (h : ∀ k : Int, 0 ≤ k → k < n → 1 ≤ f k ∧ f k ≤ 6) (hn : 0 ≤ n) : isum f n = 1 * cntv f 1 n + 2 * cntv f 2 n + 3 * cntv f 3 n + 4 * cntv f 4 n + 5 * cntv f 5 n + 6 * cntv f 6 n := by
  obtain ⟨m, rfl⟩ := Int.eq_ofNat_of_zero_le hn
  induction m with
  | zero => rfl
  | succ m ih =>
    have e := ih (fun k h0 h1 => h k h0 (by omega)) (by omega)
    have b := h m (by omega) (by omega)
    rw [show (((m + 1 : Nat)) : Int) = (m : Int) + 1 from by omega, isum_s f (by omega), cntv_s _ _ (by omega), cntv_s _ _ (by omega), cntv_s _ _ (by omega), cntv_s _ _ (by omega), cntv_s _ _ (by omega), cntv_s _ _ (by omega), e]
    have hc : f m = 1 ∨ f m = 2 ∨ f m = 3 ∨ f m = 4 ∨ f m = 5 ∨ f m = 6 := by omega
    rcases hc with q | q | q | q | q | q <;> rw [q] <;> simp only [reduceIte, Int.reduceEq] <;> omega
theorem cntv_b (f : Int → Int) (v : Int) {n : Int} (hn : 0 ≤ n) : 0 ≤ cntv f v n ∧ cntv f v n ≤ n := by
  obtain ⟨m, rfl⟩ := Int.eq_ofNat_of_zero_le hn
  induction m with
  | zero => exact ⟨Int.le_refl 0, Int.le_refl 0⟩
  | succ m ih =>
    have e := ih (by omega)
    rw [show (((m + 1 : Nat)) : Int) = (m : Int) + 1 from by omega, cntv_s _ _ (by omega)]
    split <;> omega
theorem chg_b (f : Int → Int) {n : Int} (hn : 0 ≤ n) : 0 ≤ chg f n ∧ chg f n ≤ n := by
  obtain ⟨m, rfl⟩ := Int.eq_ofNat_of_zero_le hn
  induction m with
  | zero => exact ⟨Int.le_refl 0, Int.le_refl 0⟩
  | succ m ih =>
    have e := ih (by omega)
    rw [show (((m + 1 : Nat)) : Int) = (m : Int) + 1 from by omega, chg_s _ (by omega)]
    split <;> omega
theorem isum_b {f : Int → Int} {n b : Int} (hn : 0 ≤ n) (h : ∀ k : Int, 0 ≤ k → k < n → 0 ≤ f k ∧ f k ≤ b) : 0 ≤ isum f n ∧ isum f n ≤ n * b := by
  obtain ⟨m, rfl⟩ := Int.eq_ofNat_of_zero_le hn
  induction m with
  | zero => rw [show (((0 : Nat)) : Int) = 0 from rfl, isum_0]; omega
  | succ m ih =>
    have e := ih (by omega) (fun k h0 h1 => h k h0 (by omega))
    have c := h m (by omega) (by omega)
    rw [show (((m + 1 : Nat)) : Int) = (m : Int) + 1 from by omega, isum_s f (by omega)]
    have : ((m : Int) + 1) * b = (m : Int) * b + b := by rw [Int.add_mul, Int.one_mul]
    omega
