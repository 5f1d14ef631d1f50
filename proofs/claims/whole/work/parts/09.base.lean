/-! base: whole arrays changed, sums, word numbers -/
def sF (st : St_) (q : Nat) (f : Int → Int) : St_ := (st.1, fun r => if r = q then f else st.2 r)
theorem sF_1 (st : St_) (q : Nat) (f : Int → Int) : (sF st q f).1 = st.1 := rfl
theorem sF_2 (st : St_) (q : Nat) (f : Int → Int) (r : Nat) : (sF st q f).2 r = if r = q then f else st.2 r := rfl
theorem sF_s (st : St_) (q : Nat) (f : Int → Int) : (sF st q f).2 q = f := by simp [sF]
theorem sF_n (st : St_) {q r : Nat} (f : Int → Int) (h : r ≠ q) : (sF st q f).2 r = st.2 r := by simp [sF, h]
def nsum (f : Int → Int) : Nat → Int
  | 0 => 0
  | n + 1 => nsum f n + f (n : Int)
def isum (f : Int → Int) (k : Int) : Int := nsum f k.toNat
theorem isum_0 (f : Int → Int) : isum f 0 = 0 := rfl
theorem isum_s (f : Int → Int) {k : Int} (h : 0 ≤ k) : isum f (k + 1) = isum f k + f k := by
  obtain ⟨n, rfl⟩ := Int.eq_ofNat_of_zero_le h
  show nsum f ((n : Int) + 1).toNat = nsum f ((n : Int)).toNat + f n
  rw [show ((n : Int) + 1).toNat = n + 1 from by omega, show ((n : Int)).toNat = n from by omega]
  rfl
