/-! the reference's state stands for a -/
def MI (st : St_) (a : AB_) : Prop := st.1 0 = a.1.1 0 ∧ wl (st.2 7) (st.1 3) = a.2 ∧ (st.1 6 = a.1.1 2 ∧ st.1 7 = a.1.1 3) ∧ (∀ q : Nat, q < 4 → st.2 1 (q : Int) = a.1.1 (4 + q) ∧ ∀ j : Int, 0 ≤ j → j < st.2 1 (q : Int) → st.2 0 (4 * (q : Int) + j) = a.1.2 (1 + q) j) ∧ (∀ r : Nat, (r : Int) < st.1 0 → st.2 2 (r : Int) = a.1.2 0 (r : Int)) ∧ (0 ≤ st.1 3 ∧ st.1 3 ≤ 60) ∧ MH (lta a) st ∧ AI a
theorem MH_same {lt : Nat → Int → Int} {st st2 : St_} (h1 : ∀ j, j ≤ 2 → st2.1 j = st.1 j) (h2 : ∀ q, q ≤ 6 → st2.2 q = st.2 q) (h : MH lt st) : MH lt st2 := by
  have e0 := h1 0 (by omega)
  have e1 := h1 1 (by omega)
  have e2 := h1 2 (by omega)
  obtain ⟨a1, a2, a3, a4, a5⟩ := h
  have hn := a2.1
  refine ⟨a1, ?_, fun r j hr hj => ?_, by rw [e1]; exact a4, fun z => ?_⟩
  · unfold AM; rw [e0, h2 1 (by omega), h2 2 (by omega)]; exact a2
  · rw [e0] at hr
    rw [← a3 r j hr hj]
    unfold ltm
    rw [h2 0 (by omega), h2 1 (by omega), h2 2 (by omega)]
  · rw [e1] at z
    obtain ⟨b1, b2⟩ := a5 z
    rw [e2, e0]
    refine ⟨b1, fun r hr => ?_⟩
    rw [h2 6 (by omega), h2 (3 + r) (by omega)]
    exact b2 r hr
theorem MI_frm {st st2 : St_} {a : AB_} (h : MI st a) (hf : frm st st2) (hH : MH (lta a) st2) : MI st2 a := by
  obtain ⟨h1, h2, h3, h4, h5, h6, h7, h8⟩ := h
  have e0 := hf.1 0 (by omega) (by omega)
  refine ⟨by rw [e0]; exact h1, by rw [hf.1 3 (by omega) (by omega), hf.2 7 (by omega)]; exact h2, by rw [hf.1 6 (by omega) (by omega), hf.1 7 (by omega) (by omega)]; exact h3, by rw [hf.2 0 (by omega), hf.2 1 (by omega)]; exact h4, by rw [e0, hf.2 2 (by omega)]; exact h5, by rw [hf.1 3 (by omega) (by omega)]; exact h6, hH, h8⟩
theorem MI_w {st st2 : St_} {a : AB_} {W : List Int} (h : MI st a) (h1 : ∀ j, j ≤ 2 → st2.1 j = st.1 j) (h16 : st2.1 6 = st.1 6 ∧ st2.1 7 = st.1 7) (h2 : ∀ q, q ≤ 6 → st2.2 q = st.2 q) (hW : wl (st2.2 7) (st2.1 3) = W) (hk : 0 ≤ st2.1 3 ∧ st2.1 3 ≤ 60) (hl : ∀ x ∈ W, 1 ≤ x ∧ x ≤ 6) : MI st2 (a.1, W) := by
  obtain ⟨b1, b2, b3, b4, b5, b6, b7, b8⟩ := h
  have e0 := h1 0 (by omega)
  have hL : (W.length : Int) = st2.1 3 := by rw [← hW]; exact wl_len _ hk.1
  exact ⟨by rw [e0]; exact b1, hW, by rw [h16.1, h16.2]; exact b3, by rw [h2 0 (by omega), h2 1 (by omega)]; exact b4, by rw [e0, h2 2 (by omega)]; exact b5, hk, MH_same h1 h2 b7, ⟨b8.1, b8.2.1, b8.2.2.1, b8.2.2.2.1, ⟨by show W.length ≤ 60; omega, hl⟩, b8.2.2.2.2.2⟩⟩
theorem MI.len {st : St_} {a : AB_} (h : MI st a) : (a.2.length : Int) = st.1 3 := by rw [← h.2.1]; exact wl_len _ h.2.2.2.2.2.1.1
theorem MI.lf {st : St_} {a : AB_} (h : MI st a) : ∀ j : Int, 0 ≤ j → j < st.1 3 → lf a.2 j = st.2 7 j := by
  intro j h0 h1
  rw [← h.2.1]
  exact lf_wl _ h0 h1
theorem MI.let6 {st : St_} {a : AB_} (h : MI st a) : ∀ j : Int, 0 ≤ j → j < st.1 3 → 1 ≤ st.2 7 j ∧ st.2 7 j ≤ 6 := by
  intro j h0 h1
  exact h.2.2.2.2.2.2.2.2.2.2.2.1.2 (st.2 7 j) (by rw [← h.2.1]; exact mem_wl _ h0 h1)
theorem MI_same {st st2 : St_} {a : AB_} (h : MI st a) (h1 : ∀ j, j ≤ 3 → st2.1 j = st.1 j) (h16 : st2.1 6 = st.1 6 ∧ st2.1 7 = st.1 7) (h2 : ∀ q, q ≤ 7 → st2.2 q = st.2 q) : MI st2 a := by
  have := MI_w (W := a.2) h (fun j hj => h1 j (by omega)) h16 (fun q hq => h2 q (by omega)) (by rw [h1 3 (by omega), h2 7 (by omega)]; exact h.2.1) (by rw [h1 3 (by omega)]; exact h.2.2.2.2.2.1) h.2.2.2.2.2.2.2.2.2.2.2.1.2
  exact this
theorem MH.rows {lt : Nat → Int → Int} {st : St_} (h : MH lt st) (hs : st.1 1 = 0) {r : Nat} (hr : (r : Int) < st.1 0) : ∀ j : Int, 0 ≤ j → j < st.2 6 (r : Int) → st.2 (3 + r) j = SQ lt (nxn (st.1 0)) r j := fun j h0 h1 => ((h.2.2.2.2 hs).2 r hr).2.1 j h0 h1
