/-! the reference's rows -/
def ltm (st : St_) (r : Nat) (j : Int) : Int := st.2 0 (4 * st.2 2 (r : Int) + j % st.2 1 (st.2 2 (r : Int)))
def AM (st : St_) : Prop := (1 ≤ st.1 0 ∧ st.1 0 ≤ 3) ∧ (∀ r : Nat, (r : Int) < st.1 0 → 0 ≤ st.2 2 (r : Int) ∧ st.2 2 (r : Int) ≤ 3) ∧ ∀ q : Int, 0 ≤ q → q < 4 → 2 ≤ st.2 1 q ∧ st.2 1 q ≤ 4
def mrow (S B : Int → Int) (m : Int) (f : Int → Int) (J : Int) : Prop := (0 ≤ m ∧ m ≤ 100001) ∧ (∀ k : Int, 0 ≤ k → k < m → f k = S k) ∧ ((B J ≤ 100001 ∧ m = B J) ∨ (100001 < B J ∧ m = 100001))
def Mq (lt : Nat → Int → Int) (n : Int) (st : St_) (J : Nat → Int) : Prop := ∀ r : Nat, (r : Int) < n → mrow (SQ lt (nxn n) r) (BQ lt (nxn n) r) (st.2 6 (r : Int)) (st.2 (3 + r)) (J r)
def frm (st st2 : St_) : Prop := (∀ j, j ≠ 1 → j ≠ 2 → st2.1 j = st.1 j) ∧ ∀ q, (q < 3 ∨ 6 < q) → st2.2 q = st.2 q
theorem frm_rf (st : St_) : frm st st := ⟨fun _ _ _ => rfl, fun _ _ => rfl⟩
theorem frm_tr {a b c : St_} (h1 : frm a b) (h2 : frm b c) : frm a c := ⟨fun j x y => (h2.1 j x y).trans (h1.1 j x y), fun q x => (h2.2 q x).trans (h1.2 q x)⟩
/-- what holds of the reference between calls -/
def MH (lt : Nat → Int → Int) (st : St_) : Prop := LT lt ∧ AM st ∧ (∀ (r : Nat) (j : Int), (r : Int) < st.1 0 → 0 ≤ j → ltm st r j = lt r j) ∧ (st.1 1 = 0 ∨ st.1 1 = 1) ∧ (st.1 1 = 0 → 0 ≤ st.1 2 ∧ Mq lt (st.1 0) st (fun _ => st.1 2))
theorem AM_frm {st st2 : St_} (h : frm st st2) (hA : AM st) : AM st2 := by
  have e0 : st2.1 0 = st.1 0 := h.1 0 (by omega) (by omega)
  have e1 : st2.2 1 = st.2 1 := h.2 1 (by omega)
  have e2 : st2.2 2 = st.2 2 := h.2 2 (by omega)
  unfold AM
  rw [e0, e1, e2]
  exact hA
theorem ltm_frm {st st2 : St_} (h : frm st st2) : ltm st2 = ltm st := by
  funext r j
  unfold ltm
  rw [h.2 0 (by omega), h.2 1 (by omega), h.2 2 (by omega)]
theorem nxn_mod {n : Int} {r : Nat} (hn : 1 ≤ n ∧ n ≤ 3) (hr : (r : Int) < n) : ((r : Int) + 1) % n = ((nxn n r : Nat) : Int) := by
  unfold nxn
  rcases (show n = 1 ∨ n = 2 ∨ n = 3 by omega) with e | e | e <;> subst e <;> split <;> omega
/-- how often: the number that the next row tells, made or not -/
theorem Mq.tell {lt : Nat → Int → Int} {n : Int} {st : St_} {J : Nat → Int} (hL : LT lt) (h : Mq lt n st J) {t : Nat} (ht : (t : Int) < n) {j : Int} (hj : 0 ≤ j ∧ j ≤ 100000) (hJ : J t = j ∨ J t = j + 1) : (j < st.2 6 (t : Int) → st.2 (3 + t) j = SQ lt (nxn n) t j) ∧ (¬ j < st.2 6 (t : Int) → lt t j = SQ lt (nxn n) t j) := by
  obtain ⟨h1, h2, h3⟩ := h t ht
  refine ⟨fun z => h2 j hj.1 z, fun z => ?_⟩
  have g0 := BQ_ge (nx := nxn n) hL.pos t hj.1
  have g1 := BQ_ge (nx := nxn n) hL.pos t (b := j + 1) (by omega)
  have g2 := BQ_s lt (nxn n) t hj.1
  have g3 := SQ_pos (nx := nxn n) hL.pos (nxn n t) j hj.1
  rcases hJ with e | e
  · rw [e] at h3
    exact (SQ_run hL.pos hj.1 (by omega) (by omega)).symm
  · rw [e] at h3
    exfalso; omega
/-- the numbers of the next run -/
theorem Mq.run {lt : Nat → Int → Int} {n : Int} (hL : LT lt) {r : Nat} {j : Int} (hj : 0 ≤ j) : ∀ k : Int, BQ lt (nxn n) r j ≤ k → k < BQ lt (nxn n) r j + SQ lt (nxn n) (nxn n r) j → SQ lt (nxn n) r k = lt r j := by
  intro k h0 h1
  have g2 := BQ_s lt (nxn n) r hj
  exact SQ_run hL.pos hj h0 (by omega)
/-- a row is a run further -/
theorem Mq.put {lt : Nat → Int → Int} {n : Int} {st st2 : St_} {J : Nat → Int} (h : Mq lt n st J) (hn3 : n ≤ 3) {i : Nat} {m : Int} {f g6 : Int → Int} (e1 : st2.2 6 = g6) (e2 : st2.2 (3 + i) = f) (e3 : ∀ r : Nat, r < 3 → r ≠ i → st2.2 (3 + r) = st.2 (3 + r)) (hm : g6 (i : Int) = m) (ho : ∀ x : Int, x ≠ (i : Int) → g6 x = st.2 6 x) {J2 : Nat → Int} (hJ : ∀ r, r ≠ i → J2 r = J r) (hr : mrow (SQ lt (nxn n) i) (BQ lt (nxn n) i) m f (J2 i)) : Mq lt n st2 J2 := by
  intro r hrn
  by_cases hri : r = i
  · subst hri; rw [e1, e2, hm]; exact hr
  · rw [e1, e3 r (by omega) hri, ho _ (by omega), hJ r hri]; exact h r hrn
theorem Mq_J {lt : Nat → Int → Int} {n : Int} {st : St_} {J J2 : Nat → Int} (h : Mq lt n st J) (e : ∀ r : Nat, (r : Int) < n → J2 r = J r) : Mq lt n st J2 := by
  intro r hr; rw [e r hr]; exact h r hr
theorem Mq_0 {lt : Nat → Int → Int} {n : Int} {st : St_} (h : ∀ r : Nat, (r : Int) < n → st.2 6 (r : Int) = 0) : Mq lt n st (fun _ => 0) := by
  intro r hr
  rw [h r hr]
  exact ⟨by omega, fun k h0 h1 => absurd h1 (by omega), Or.inl ⟨by rw [BQ_0]; omega, rfl⟩⟩
theorem Mq.num {lt : Nat → Int → Int} {n : Int} {st : St_} {J : Nat → Int} (h : Mq lt n st J) {r : Nat} (hr : (r : Int) < n) {k : Int} (h0 : 0 ≤ k) (h1 : k < st.2 6 (r : Int)) : st.2 (3 + r) k = SQ lt (nxn n) r k := (h r hr).2.1 k h0 h1
