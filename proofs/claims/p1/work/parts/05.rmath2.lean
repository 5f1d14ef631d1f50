/-! a row's state: S its numbers; f what is made, kp the kept counts, h the counts, m how many are made -/
def KP (S kp : Int → Int) (m : Int) : Prop := (∀ b v : Int, 0 ≤ b → 256 * b ≤ m → 1 ≤ v → v ≤ 6 → kp (b * 7 + v) = cntv S v (256 * b)) ∧ (∀ b : Int, 0 ≤ b → 256 * b ≤ m → kp (b * 7) = chg S (256 * b))
def RS (S f kp h : Int → Int) (m R : Int) : Prop := (0 ≤ m ∧ m ≤ 100001) ∧ h 0 = R ∧ (∀ k : Int, 0 ≤ k → k < m → f k = S k) ∧ (∀ v : Int, 1 ≤ v → v ≤ 6 → h v = cntv S v m) ∧ KP S kp m
/-- the kept counts are of the next block -/
theorem KP_s {S kp kp2 h : Int → Int} {m : Int} (h0 : KP S kp (m - 1)) (hm : 1 ≤ m) (hd : m % 256 = 0)
    (h1 : ∀ c : Int, 0 ≤ c → c < 7 → kp2 (m / 256 * 7 + c) = h c) (h2 : ∀ c : Int, c < m / 256 * 7 ∨ m / 256 * 7 + 7 ≤ c → kp2 c = kp c)
    (h3 : ∀ v : Int, 1 ≤ v → v ≤ 6 → h v = cntv S v m) (h4 : h 0 = chg S m) : KP S kp2 m := by
  refine ⟨fun b v a1 a2 a3 a4 => ?_, fun b a1 a2 => ?_⟩
  · by_cases hb : 256 * b = m
    · have e : m / 256 = b := by omega
      rw [← e, h1 v (by omega) (by omega), h3 v a3 a4, show 256 * (m / 256) = m from by omega]
    · rw [h2 _ (Or.inl (by omega))]
      exact h0.1 b v a1 (by omega) a3 a4
  · by_cases hb : 256 * b = m
    · have e : m / 256 = b := by omega
      have := h1 0 (by omega) (by omega)
      rw [Int.add_zero] at this
      rw [← e, this, h4, show 256 * (m / 256) = m from by omega]
    · rw [h2 _ (Or.inl (by omega))]
      exact h0.2 b a1 (by omega)
theorem KP_n {S kp : Int → Int} {m : Int} (h0 : KP S kp (m - 1)) (hd : m % 256 ≠ 0) : KP S kp m :=
  ⟨fun b v a1 a2 a3 a4 => h0.1 b v a1 (by omega) a3 a4, fun b a1 a2 => h0.2 b a1 (by omega)⟩
/-- the greatest difference -/
def iab (d : Int) : Int := if 0 ≤ d then d else -d
def ofP (f : Int → Int) (v s : Int) : Nat → Int
  | 0 => 0
  | n + 1 => mx2 (ofP f v s n) (iab (cntv f v ((n : Int) + 1) * s - ((n : Int) + 1)))
def ofn (f : Int → Int) (v s k : Int) : Int := ofP f v s k.toNat
theorem ofn_0 (f : Int → Int) (v s : Int) : ofn f v s 0 = 0 := rfl
theorem ofn_s (f : Int → Int) (v s : Int) {k : Int} (h : 0 ≤ k) : ofn f v s (k + 1) = mx2 (ofn f v s k) (iab (cntv f v (k + 1) * s - (k + 1))) := by
  obtain ⟨n, rfl⟩ := Int.eq_ofNat_of_zero_le h
  unfold ofn
  rw [toNat_s h, show ((n : Int)).toNat = n from by omega]
  rfl
theorem ofn_congr {f g : Int → Int} {v s k : Int} (h : ∀ j : Int, 0 ≤ j → j < k → f j = g j) : ofn f v s k = ofn g v s k := by
  unfold ofn
  have : ∀ n : Nat, (n : Int) ≤ k → ofP f v s n = ofP g v s n := by
    intro n
    induction n with
    | zero => intro _; rfl
    | succ n ih =>
      intro hn
      show mx2 _ _ = mx2 _ _
      rw [ih (by omega), cntv_congr (fun j h0 h1 => h j h0 (by omega))]
  by_cases hk : 0 ≤ k
  · exact this _ (by omega)
  · rw [show k.toNat = 0 from by omega]; rfl
theorem wsum6 (c : Int → Int) : isum (fun u => u * c u) 7 = 1 * c 1 + 2 * c 2 + 3 * c 3 + 4 * c 4 + 5 * c 5 + 6 * c 6 := by
  show ((((((0 + (0 : Int) * c 0) + (1 : Int) * c 1) + (2 : Int) * c 2) + (3 : Int) * c 3) + (4 : Int) * c 4) + (5 : Int) * c 5) + (6 : Int) * c 6 = _
  omega
theorem isum_z {f : Int → Int} {n : Int} (h : ∀ k : Int, 0 ≤ k → k < n → f k = 0) : isum f n = 0 := by
  have : ∀ w : Nat, (w : Int) ≤ n → nsum f w = 0 := by
    intro w
    induction w with
    | zero => intro _; rfl
    | succ w ih =>
      intro hw
      show nsum f w + f w = 0
      rw [ih (by omega), h w (by omega) (by omega)]; rfl
  by_cases hn : 0 ≤ n
  · exact this _ (by omega)
  · exact isum_neg f (by omega)
theorem cntv_z {f : Int → Int} {v n : Int} (h : ∀ k : Int, 0 ≤ k → k < n → f k ≠ v) : cntv f v n = 0 := isum_z (fun k h0 h1 => if_neg (h k h0 h1))
