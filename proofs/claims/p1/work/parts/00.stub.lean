abbrev St_ : Type := (Nat → Int) × (Nat → Int → Int)
def zup (f : Int → Int) (k v : Int) : Int → Int := fun j => if j = k then v else f j
theorem zup_eq (f : Int → Int) (k v : Int) : zup f k v k = v := by simp [zup]
theorem zup_ne (f : Int → Int) {k j : Int} (v : Int) (h : j ≠ k) : zup f k v j = f j := by simp [zup, h]
def nsum (f : Int → Int) : Nat → Int
  | 0 => 0
  | n + 1 => nsum f n + f (n : Int)
def isum (f : Int → Int) (k : Int) : Int := nsum f k.toNat
theorem isum_0 (f : Int → Int) : isum f 0 = 0 := rfl
theorem isum_s (f : Int → Int) {k : Int} (h : 0 ≤ k) : isum f (k + 1) = isum f k + f k := by
  obtain ⟨n, rfl⟩ := Int.eq_ofNat_of_zero_le h
  show nsum f ((n : Int) + 1).toNat = nsum f ((n : Int)).toNat + f n
  rw [show ((n : Int) + 1).toNat = n + 1 from by omega, show ((n : Int)).toNat = n from by omega]
  rfl
def sG (st : St_) (k : Nat) (v : Int) : St_ := (fun j => if j = k then v else st.1 j, st.2)
def sA (st : St_) (r : Nat) (z v : Int) : St_ := (st.1, fun q => if q = r then zup (st.2 r) z v else st.2 q)
theorem sG_1 (st : St_) (k : Nat) (v : Int) (j : Nat) : (sG st k v).1 j = if j = k then v else st.1 j := rfl
theorem sG_2 (st : St_) (k : Nat) (v : Int) : (sG st k v).2 = st.2 := rfl
theorem sA_1 (st : St_) (r : Nat) (z v : Int) : (sA st r z v).1 = st.1 := rfl
theorem sA_2 (st : St_) (r : Nat) (z v : Int) (q : Nat) : (sA st r z v).2 q = if q = r then zup (st.2 r) z v else st.2 q := rfl
theorem sG_s (st : St_) (k : Nat) (v : Int) : (sG st k v).1 k = v := by simp [sG]
theorem sG_n (st : St_) {k j : Nat} (v : Int) (h : j ≠ k) : (sG st k v).1 j = st.1 j := by simp [sG, h]
theorem sA_s (st : St_) (r : Nat) (z v : Int) : (sA st r z v).2 r = zup (st.2 r) z v := by simp [sA]
theorem sA_n (st : St_) {r q : Nat} (z v : Int) (h : q ≠ r) : (sA st r z v).2 q = st.2 q := by simp [sA, h]
def sF (st : St_) (q : Nat) (f : Int → Int) : St_ := (st.1, fun r => if r = q then f else st.2 r)
theorem sF_1 (st : St_) (q : Nat) (f : Int → Int) : (sF st q f).1 = st.1 := rfl
theorem sF_2 (st : St_) (q : Nat) (f : Int → Int) (r : Nat) : (sF st q f).2 r = if r = q then f else st.2 r := rfl
theorem sF_s (st : St_) (q : Nat) (f : Int → Int) : (sF st q f).2 q = f := by simp [sF]
theorem sF_n (st : St_) {q r : Nat} (f : Int → Int) (h : r ≠ q) : (sF st q f).2 r = st.2 r := by simp [sF, h]
