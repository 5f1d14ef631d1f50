/-! what holds of the ring between calls -/
def ltx (st : St_) (r : Nat) (j : Int) : Int := st.2 (1 + (st.2 0 (r : Int)).toNat) (j % st.1 (3 + (st.2 0 (r : Int)).toNat))
def KZ (st : St_) : Prop := ∀ (r : Nat) (c : Int), r < 3 → 0 ≤ c → c < 7 → st.2 (8 + r) c = 0
/-- alphabets and the ring's rows name what there is -/
def AH (st : St_) : Prop := (1 ≤ st.1 2 ∧ st.1 2 ≤ 3) ∧ (∀ r : Nat, (r : Int) < st.1 2 → 0 ≤ st.2 0 (r : Int) ∧ st.2 0 (r : Int) ≤ 3) ∧ (∀ a : Nat, a < 4 → 2 ≤ st.1 (3 + a) ∧ st.1 (3 + a) ≤ 4) ∧ ∀ a : Nat, a < 4 → ∀ j : Int, 0 ≤ j → j < st.1 (3 + a) → 1 ≤ st.2 (1 + a) j ∧ st.2 (1 + a) j ≤ 6
def RH (lt : Nat → Int → Int) (st : St_) : Prop := LT lt ∧ AH st ∧ (∀ (r : Nat) (j : Int), (r : Int) < st.1 2 → 0 ≤ j → ltx st r j = lt r j) ∧ RI lt (st.1 2) st ∧ KZ st
theorem ltx_frr {st st2 : St_} (h : frr st st2) (r : Nat) (j : Int) (ha : (st.2 0 (r : Int)).toNat < 4) : ltx st2 r j = ltx st r j := by
  unfold ltx
  have e0 : st2.2 0 = st.2 0 := h.2 0 (by omega)
  rw [e0, h.2 _ (by omega), h.1 _ (by omega)]
theorem AH_frr {st st2 : St_} (h : frr st st2) (hA : AH st) : AH st2 := by
  have e0 : st2.2 0 = st.2 0 := h.2 0 (by omega)
  have e1 : st2.1 2 = st.1 2 := h.1 2 (by omega)
  refine ⟨by rw [e1]; exact hA.1, fun r hr => by rw [e0]; rw [e1] at hr; exact hA.2.1 r hr, fun a ha => by rw [h.1 _ (by omega)]; exact hA.2.2.1 a ha, fun a ha j h0 h1 => ?_⟩
  rw [h.1 _ (by omega)] at h1
  rw [h.2 _ (by omega)]
  exact hA.2.2.2 a ha j h0 h1
theorem RH_frr {lt : Nat → Int → Int} {st st2 : St_} (h : RH lt st) (hf : frr st st2) (hI : RI lt (st.1 2) st2) (hK : KZ st2) : RH lt st2 := by
  have e1 : st2.1 2 = st.1 2 := hf.1 2 (by omega)
  refine ⟨h.1, AH_frr hf h.2.1, fun r j hr hj => ?_, by rw [e1]; exact hI, hK⟩
  rw [e1] at hr
  have hA := h.2.1
  have h0 := hA.1
  have := hA.2.1 r (by omega)
  rw [ltx_frr hf r j (by omega)]
  exact h.2.2.1 r j hr hj
theorem KZ_put {lt : Nat → Int → Int} {n : Int} {st : St_} (hK : KZ st) {i : Nat} (hi : i < 3) {m1 R : Int} {S f k1 h1 : Int → Int} (hS : RS S f k1 h1 m1 R) : KZ (sF (sF (sF (sG st (7 + i) m1) (11 + i) h1) (5 + i) f) (8 + i) k1) := by
  intro r c hr h0 h2
  by_cases hri : r = i
  · subst hri
    rw [sF_s]
    by_cases hc : c = 0
    · subst hc
      have := hS.2.2.2.2.2 0 (by omega) (by have := hS.1; omega)
      rw [show (0 : Int) * 7 = 0 from rfl] at this
      rw [this]; rfl
    · have := hS.2.2.2.2.1 0 c (by omega) (by have := hS.1; omega) (by omega) (by omega)
      rw [show (0 : Int) * 7 + c = c from by omega] at this
      rw [this]; rfl
  · rw [sF_n _ _ (by omega), sF_n _ _ (by omega), sF_n _ _ (by omega), sG_2]
    exact hK r c hr h0 h2
theorem RH.put {lt : Nat → Int → Int} {st : St_} (h : RH lt st) {i : Nat} (hi : (i : Int) < st.1 2) (hm : st.1 (7 + i) < 100001) {m1 : Int} {f k1 h1 : Int → Int} (hS : RS (SQ lt (nxn (st.1 2)) i) f k1 h1 m1 (st.2 (11 + i) 0 + 1)) (hm1 : m1 = if st.1 (7 + i) + SQ lt (nxn (st.1 2)) (nxn (st.1 2) i) (st.2 (11 + i) 0) ≤ 100001 then st.1 (7 + i) + SQ lt (nxn (st.1 2)) (nxn (st.1 2) i) (st.2 (11 + i) 0) else 100001) : RH lt (sF (sF (sF (sG st (7 + i) m1) (11 + i) h1) (5 + i) f) (8 + i) k1) := by
  have hA := h.2.1.1
  exact RH_frr h (frr_put st (by omega) m1 f k1 h1) (RI.put h.1 h.2.2.2.1 (by omega) hi hm hS hm1) (KZ_put (lt := lt) (n := st.1 2) h.2.2.2.2 (by omega) hS)
/-- the number that tells the next run, where the next row is far enough -/
theorem RI.tell {lt : Nat → Int → Int} {n : Int} {st : St_} (hL : LT lt) (h : RI lt n st) {t : Nat} (ht : (t : Int) < n) (hm : st.1 (7 + t) < 100001) : SQ lt (nxn n) t (st.1 (7 + t)) = lt t (st.2 (11 + t) 0) := by
  obtain ⟨h1, h2, h3⟩ := h t ht
  have h4 : st.1 (7 + t) = BQ lt (nxn n) t (st.2 (11 + t) 0) := by
    rcases h3 with ⟨a, b⟩ | ⟨a, b, c, d⟩
    · exact b
    · omega
  have h5 := BQ_s lt (nxn n) t h2
  have h6 := SQ_pos (nx := nxn n) hL.pos (nxn n t) _ h2
  exact SQ_run hL.pos h2 (by omega) (by omega)
theorem nxn_1 {n : Int} {r : Nat} (hn : n = 1) (hr : (r : Int) < n) : nxn n r = r := by unfold nxn; split <;> omega
theorem nxn_2 {n : Int} {r : Nat} (hn : n = 2) (hr : (r : Int) < n) : nxn n (nxn n r) = r := by unfold nxn; split <;> split <;> omega
theorem nxn_3 {n : Int} {r : Nat} (hn : n = 3) (hr : (r : Int) < n) : nxn n (nxn n (nxn n r)) = r := by
  subst hn
  rcases (show r = 0 ∨ r = 1 ∨ r = 2 by omega) with q | q | q <;> subst q <;> rfl
/-- only the rows grow -/
def grw (st st2 : St_) : Prop := frr st st2 ∧ ∀ r : Nat, r < 3 → st.1 (7 + r) ≤ st2.1 (7 + r)
theorem grw_rf (st : St_) : grw st st := ⟨frr_rf st, fun _ _ => Int.le_refl _⟩
theorem grw_tr {a b c : St_} (h1 : grw a b) (h2 : grw b c) : grw a c := ⟨frr_tr h1.1 h2.1, fun r hr => Int.le_trans (h1.2 r hr) (h2.2 r hr)⟩
theorem grw_put (st : St_) {i : Nat} (hi : i < 3) {m1 : Int} (f k1 h1 : Int → Int) (hm : st.1 (7 + i) ≤ m1) : grw st (sF (sF (sF (sG st (7 + i) m1) (11 + i) h1) (5 + i) f) (8 + i) k1) := by
  refine ⟨frr_put st hi m1 f k1 h1, fun r hr => ?_⟩
  rw [sF_1, sF_1, sF_1]
  by_cases hri : r = i
  · subst hri; rw [sG_s]; exact hm
  · rw [sG_n _ _ (by omega)]; exact Int.le_refl _
