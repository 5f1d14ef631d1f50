abbrev St_ : Type := (Nat → Int) × (Nat → Int → Int)
def zup (f : Int → Int) (k v : Int) : Int → Int := fun j => if j = k then v else f j
theorem zup_eq (f : Int → Int) (k v : Int) : zup f k v k = v := by simp [zup]
theorem zup_ne (f : Int → Int) {k j : Int} (v : Int) (h : j ≠ k) : zup f k v j = f j := by simp [zup, h]
def nsum (f : Int → Int) : Nat → Int
  | 0 => 0
  | n + 1 => nsum f n + f (n : Int)
def isum (f : Int → Int) (k : Int) : Int := nsum f k.toNat
theorem isum_0 (f : Int → Int) : isum f 0 = 0 := rfl
theorem isum_s (f : Int → Int) {k : Int} (h : 0 ≤ k) : isum f (k + 1) = isum f k + f k := by
  obtain ⟨n, rfl⟩ := Int.eq_ofNat_of_zero_le h
  show nsum f ((n : Int) + 1).toNat = nsum f ((n : Int)).toNat + f n
  rw [show ((n : Int) + 1).toNat = n + 1 from by omega, show ((n : Int)).toNat = n from by omega]
  rfl
