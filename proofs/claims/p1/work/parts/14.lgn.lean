/-! lengthened words -/
def lgP2 (fl f : Int → Int) : Nat → List Int
  | 0 => []
  | j + 1 => lgP2 fl f j ++ List.replicate (f (j : Int)).toNat (fl (j : Int))
def lgn (fl f : Int → Int) (k : Int) : List Int := lgP2 fl f k.toNat
theorem lgn_0 (fl f : Int → Int) : lgn fl f 0 = [] := rfl
theorem lgn_s (fl f : Int → Int) {k : Int} (h : 0 ≤ k) : lgn fl f (k + 1) = lgn fl f k ++ List.replicate (f k).toNat (fl k) := by
  obtain ⟨n, rfl⟩ := Int.eq_ofNat_of_zero_le h
  unfold lgn
  rw [toNat_s h, show ((n : Int)).toNat = n from by omega]
  rfl
theorem lgn_congr {fl gl f g : Int → Int} {k : Int} (h1 : ∀ j : Int, 0 ≤ j → j < k → fl j = gl j) (h2 : ∀ j : Int, 0 ≤ j → j < k → f j = g j) : lgn fl f k = lgn gl g k := by
  have : ∀ n : Nat, (n : Int) ≤ k → lgP2 fl f n = lgP2 gl g n := by
    intro n
    induction n with
    | zero => intro _; rfl
    | succ n ih =>
      intro hn
      show lgP2 fl f n ++ _ = lgP2 gl g n ++ _
      rw [ih (by omega), h1 n (by omega) (by omega), h2 n (by omega) (by omega)]
  by_cases hk : 0 ≤ k
  · exact this _ (by omega)
  · unfold lgn; rw [show k.toNat = 0 from by omega]; rfl
theorem lgn_letters {fl f : Int → Int} {k lo hi : Int} (h : ∀ j : Int, 0 ≤ j → j < k → lo ≤ fl j ∧ fl j ≤ hi) : ∀ x ∈ lgn fl f k, lo ≤ x ∧ x ≤ hi := by
  have : ∀ n : Nat, (n : Int) ≤ k → ∀ x ∈ lgP2 fl f n, lo ≤ x ∧ x ≤ hi := by
    intro n
    induction n with
    | zero => intro _ x hx; cases hx
    | succ n ih =>
      intro hn x hx
      rcases List.mem_append.mp hx with y | y
      · exact ih (by omega) x y
      · rw [(List.mem_replicate.mp y).2]; exact h n (by omega) (by omega)
  by_cases hk : 0 ≤ k
  · exact this _ (by omega)
  · unfold lgn; rw [show k.toNat = 0 from by omega]; intro x hx; cases hx
theorem isum_up {f : Int → Int} {n : Int} (h : ∀ j : Int, 0 ≤ j → j < n → 0 ≤ f j) {a b : Int} (h0 : 0 ≤ a) (h1 : a ≤ b) (h2 : b ≤ n) : isum f a ≤ isum f b := by
  obtain ⟨d, hd⟩ : ∃ d : Nat, b = a + d := ⟨(b - a).toNat, by omega⟩
  subst hd
  clear h1
  induction d with
  | zero => rw [show a + ((0 : Nat) : Int) = a from by omega]; exact Int.le_refl _
  | succ d ih =>
    have e : a + ((d + 1 : Nat) : Int) = (a + d) + 1 := by omega
    rw [e, isum_s f (by omega)]
    have := h (a + d) (by omega) (by omega)
    have := ih (by omega)
    omega
