/-! the ring: its rows' states together -/
def nxn (n : Int) (r : Nat) : Nat := if (r : Int) + 1 < n then r + 1 else 0
def LT (lt : Nat → Int → Int) : Prop := (∀ r j, 0 ≤ j → 1 ≤ lt r j ∧ lt r j ≤ 6) ∧ ∀ r j, 0 ≤ j → lt r j ≠ lt r (j + 1)
theorem LT.pos {lt : Nat → Int → Int} (h : LT lt) : ∀ r j, 0 ≤ j → 1 ≤ lt r j := fun r j hj => (h.1 r j hj).1
/-- how far a row is made, as R runs of it are begun -/
def RB (B : Int → Int) (m R : Int) : Prop := 0 ≤ R ∧ ((m < 100001 ∧ m = B R) ∨ (m = 100001 ∧ 1 ≤ R ∧ B (R - 1) < 100001 ∧ 100001 ≤ B R))
def RI (lt : Nat → Int → Int) (n : Int) (st : St_) : Prop := ∀ r : Nat, (r : Int) < n → RS (SQ lt (nxn n) r) (st.2 (5 + r)) (st.2 (8 + r)) (st.2 (11 + r)) (st.1 (7 + r)) (st.2 (11 + r) 0) ∧ RB (BQ lt (nxn n) r) (st.1 (7 + r)) (st.2 (11 + r) 0)
/-- outside the rows nothing is changed -/
def frr (st st2 : St_) : Prop := (∀ j, (j < 7 ∨ 9 < j) → st2.1 j = st.1 j) ∧ (∀ q, (q < 5 ∨ 13 < q) → st2.2 q = st.2 q)
theorem frr_rf (st : St_) : frr st st := ⟨fun _ _ => rfl, fun _ _ => rfl⟩
theorem frr_tr {a b c : St_} (h1 : frr a b) (h2 : frr b c) : frr a c := ⟨fun j hj => (h2.1 j hj).trans (h1.1 j hj), fun q hq => (h2.2 q hq).trans (h1.2 q hq)⟩
theorem nxn_lt {n : Int} {r : Nat} (h0 : 1 ≤ n) : ((nxn n r : Nat) : Int) < n := by unfold nxn; split <;> omega
theorem RI.b {lt : Nat → Int → Int} {n : Int} {st : St_} (hL : LT lt) (h : RI lt n st) {r : Nat} (hr : (r : Int) < n) : (0 ≤ st.1 (7 + r) ∧ st.1 (7 + r) ≤ 100001) ∧ (∀ k : Int, 0 ≤ k → k < st.1 (7 + r) → 1 ≤ st.2 (5 + r) k ∧ st.2 (5 + r) k ≤ 6) ∧ 0 ≤ st.2 (11 + r) 0 ∧ st.2 (11 + r) 0 ≤ st.1 (7 + r) := by
  obtain ⟨h1, h2⟩ := h r hr
  refine ⟨h1.1, fun k h0 h3 => ?_, h2.1, ?_⟩
  · rw [h1.2.2.1 k h0 h3]
    exact ⟨SQ_pos hL.pos r k h0, SQ_le (fun r j hj => (hL.1 r j hj).2) r k h0⟩
  · rcases h2.2 with ⟨a, b⟩ | ⟨a, b, c, d⟩
    · rw [b]; exact BQ_ge hL.pos r h2.1
    · have := BQ_ge (nx := nxn n) hL.pos r (b := st.2 (11 + r) 0 - 1) (by omega)
      omega
theorem RI.num {lt : Nat → Int → Int} {n : Int} {st : St_} (h : RI lt n st) {r : Nat} (hr : (r : Int) < n) {k : Int} (h0 : 0 ≤ k) (h1 : k < st.1 (7 + r)) : st.2 (5 + r) k = SQ lt (nxn n) r k := (h r hr).1.2.2.1 k h0 h1
theorem KP_congr {S f kp : Int → Int} {m : Int} (h : KP S kp m) (e : ∀ k : Int, 0 ≤ k → k < m → f k = S k) : KP f kp m :=
  ⟨fun b v h0 h1 h2 h3 => by rw [h.1 b v h0 h1 h2 h3]; exact (cntv_congr (fun j a b => e j a (by omega))).symm, fun b h0 h1 => by rw [h.2 b h0 h1]; exact (chg_congr (fun j a b => e j a (by omega))).symm⟩
theorem RI.kp {lt : Nat → Int → Int} {n : Int} {st : St_} (h : RI lt n st) {r : Nat} (hr : (r : Int) < n) : KP (st.2 (5 + r)) (st.2 (8 + r)) (st.1 (7 + r)) := KP_congr (h r hr).1.2.2.2.2 (h r hr).1.2.2.1
/-- what is needed to put the next run -/
theorem RI.next {lt : Nat → Int → Int} {n : Int} {st : St_} (hL : LT lt) (h : RI lt n st) {r : Nat} (hr : (r : Int) < n) (hm : st.1 (7 + r) < 100001) :
    (∀ k : Int, st.1 (7 + r) ≤ k → k < st.1 (7 + r) + SQ lt (nxn n) (nxn n r) (st.2 (11 + r) 0) → SQ lt (nxn n) r k = lt r (st.2 (11 + r) 0)) ∧ ∀ x : Int, st.1 (7 + r) < x → x ≤ st.1 (7 + r) + SQ lt (nxn n) (nxn n r) (st.2 (11 + r) 0) → chg (SQ lt (nxn n) r) x = st.2 (11 + r) 0 + 1 := by
  obtain ⟨h1, h2, h3⟩ := h r hr
  have h4 : st.1 (7 + r) = BQ lt (nxn n) r (st.2 (11 + r) 0) := by
    rcases h3 with ⟨a, b⟩ | ⟨a, b, c, d⟩
    · exact b
    · omega
  have h5 := BQ_s lt (nxn n) r h2
  have h6 := BQ_ge (nx := nxn n) hL.pos r h2
  refine ⟨fun k h0 h7 => SQ_run hL.pos h2 (by omega) (by omega), fun x h0 h7 => ?_⟩
  obtain ⟨w, rfl⟩ := Int.eq_ofNat_of_zero_le (show 0 ≤ x by omega)
  exact chg_run hL.pos (hL.2 r) w (st.2 (11 + r) 0 + 1) (by omega) (by omega) (by rw [show st.2 (11 + r) 0 + 1 - 1 = st.2 (11 + r) 0 from by omega]; omega) (by omega)
/-- a run is put -/
theorem RI.put {lt : Nat → Int → Int} {n : Int} {st : St_} (hL : LT lt) (h : RI lt n st) (hn : n ≤ 3) {i : Nat} (hi : (i : Int) < n) (hm : st.1 (7 + i) < 100001) {m1 : Int} {f k1 h1 : Int → Int} (hS : RS (SQ lt (nxn n) i) f k1 h1 m1 (st.2 (11 + i) 0 + 1)) (hm1 : m1 = if st.1 (7 + i) + SQ lt (nxn n) (nxn n i) (st.2 (11 + i) 0) ≤ 100001 then st.1 (7 + i) + SQ lt (nxn n) (nxn n i) (st.2 (11 + i) 0) else 100001) : RI lt n (sF (sF (sF (sG st (7 + i) m1) (11 + i) h1) (5 + i) f) (8 + i) k1) := by
  intro r hr
  by_cases hri : r = i
  · subst hri
    have e1 : (sF (sF (sF (sG st (7 + r) m1) (11 + r) h1) (5 + r) f) (8 + r) k1).2 (5 + r) = f := by rw [sF_n _ _ (by omega), sF_s]
    have e2 : (sF (sF (sF (sG st (7 + r) m1) (11 + r) h1) (5 + r) f) (8 + r) k1).2 (8 + r) = k1 := by rw [sF_s]
    have e3 : (sF (sF (sF (sG st (7 + r) m1) (11 + r) h1) (5 + r) f) (8 + r) k1).2 (11 + r) = h1 := by rw [sF_n _ _ (by omega), sF_n _ _ (by omega), sF_s]
    have e4 : (sF (sF (sF (sG st (7 + r) m1) (11 + r) h1) (5 + r) f) (8 + r) k1).1 (7 + r) = m1 := by rw [sF_1, sF_1, sF_1, sG_s]
    rw [e1, e2, e3, e4, hS.2.1]
    refine ⟨hS, ?_⟩
    obtain ⟨-, h2, h3⟩ := h r hr
    have h4 : st.1 (7 + r) = BQ lt (nxn n) r (st.2 (11 + r) 0) := by
      rcases h3 with ⟨a, b⟩ | ⟨a, b, c, d⟩
      · exact b
      · omega
    have h5 := BQ_s lt (nxn n) r h2
    refine ⟨by omega, ?_⟩
    rw [show st.2 (11 + r) 0 + 1 - 1 = st.2 (11 + r) 0 from by omega]
    split at hm1
    · by_cases hx : m1 < 100001
      · exact Or.inl ⟨hx, by omega⟩
      · exact Or.inr ⟨by omega, by omega, by omega, by omega⟩
    · exact Or.inr ⟨by omega, by omega, by omega, by omega⟩
  · have e1 : (sF (sF (sF (sG st (7 + i) m1) (11 + i) h1) (5 + i) f) (8 + i) k1).2 (5 + r) = st.2 (5 + r) := by rw [sF_n _ _ (by omega), sF_n _ _ (by omega), sF_n _ _ (by omega), sG_2]
    have e2 : (sF (sF (sF (sG st (7 + i) m1) (11 + i) h1) (5 + i) f) (8 + i) k1).2 (8 + r) = st.2 (8 + r) := by rw [sF_n _ _ (by omega), sF_n _ _ (by omega), sF_n _ _ (by omega), sG_2]
    have e3 : (sF (sF (sF (sG st (7 + i) m1) (11 + i) h1) (5 + i) f) (8 + i) k1).2 (11 + r) = st.2 (11 + r) := by rw [sF_n _ _ (by omega), sF_n _ _ (by omega), sF_n _ _ (by omega), sG_2]
    have e4 : (sF (sF (sF (sG st (7 + i) m1) (11 + i) h1) (5 + i) f) (8 + i) k1).1 (7 + r) = st.1 (7 + r) := by rw [sF_1, sF_1, sF_1, sG_n _ _ (by omega)]
    rw [e1, e2, e3, e4]
    exact h r hr
theorem frr_put (st : St_) {i : Nat} (hi : i < 3) (m1 : Int) (f k1 h1 : Int → Int) : frr st (sF (sF (sF (sG st (7 + i) m1) (11 + i) h1) (5 + i) f) (8 + i) k1) :=
  ⟨fun j hj => by rw [sF_1, sF_1, sF_1, sG_n _ _ (by omega)], fun q hq => by rw [sF_n _ _ (by omega), sF_n _ _ (by omega), sF_n _ _ (by omega), sG_2]⟩
theorem RI.congr {lt lt' : Nat → Int → Int} {n : Int} {st : St_} (e : ∀ r j, 0 ≤ j → lt r j = lt' r j) (h : RI lt n st) : RI lt' n st := by
  have : lt' = fun r j => if 0 ≤ j then lt r j else lt' r j := by
    funext r j
    by_cases hj : 0 ≤ j
    · rw [if_pos hj, e r j hj]
    · rw [if_neg hj]
  have hq : ∀ r, SQ lt (nxn n) r = SQ lt' (nxn n) r := fun r => funext (fun k => SQ_congr e r k)
  intro r hr
  obtain ⟨h1, h2⟩ := h r hr
  have hb : BQ lt (nxn n) r = BQ lt' (nxn n) r := funext (fun j => by unfold BQ; rw [hq])
  rw [hq] at h1
  rw [hb] at h2
  exact ⟨h1, h2⟩
/-- nothing is made yet -/
theorem RI_0 {lt : Nat → Int → Int} {n : Int} {st : St_} (h1 : ∀ r : Nat, (r : Int) < n → st.1 (7 + r) = 0) (h2 : ∀ (r : Nat) (c : Int), (r : Int) < n → 0 ≤ c → c < 7 → st.2 (11 + r) c = 0 ∧ st.2 (8 + r) c = 0) : RI lt n st := by
  intro r hr
  have e1 := h1 r hr
  have e2 := (h2 r 0 hr (by omega) (by omega)).1
  rw [e1, e2]
  refine ⟨⟨by omega, e2, fun k h0 h3 => absurd h3 (by omega), fun v h0 h3 => ?_, fun b v a1 a2 a3 a4 => ?_, fun b a1 a2 => ?_⟩, Int.le_refl 0, Or.inl ⟨by omega, rfl⟩⟩
  · exact (h2 r v hr (by omega) (by omega)).1
  · have : b = 0 := by omega
    subst this
    rw [show (0 : Int) * 7 + v = v from by omega]
    exact (h2 r v hr (by omega) (by omega)).2
  · have : b = 0 := by omega
    subst this
    exact (h2 r 0 hr (by omega) (by omega)).2
