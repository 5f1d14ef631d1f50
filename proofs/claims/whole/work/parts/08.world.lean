abbrev tyX (T : Nat → ClassId) : List (ClassId × FieldType) := [(T 0, .int), (T 1, .byte), (T 2, .long), (T 3, .object "SelfRows$Alphabet"), (T 4, .object "SelfRows$Row")]
def XW (T : Nat → ClassId) (ad : Nat → Nat) (st : St_) : va_W := [(ad 0, .inr (5, [.ref (ad 1), .ref (ad 25), .ref (ad 26), .ref (ad 27), .ref (ad 31), .int (ii (st.1 0)), .int (ii (st.1 1))])),
  (ad 1, .inr (1, [.ref (ad 2), .ref (ad 3), .ref (ad 4), .int (ii (st.1 2))])),
  (ad 2, .inl (T 3, 4, .inr (.inr (.inr (.inr (fun k => some (ad (5 + k)))))))),
  (ad 3, .inl (T 4, 3, .inr (.inr (.inr (.inr (fun k => some (ad (13 + k)))))))),
  (ad 4, .inl (T 0, 3, .inl (fun k => ii (st.2 (0) (k : Int))))),
  (ad 5, .inr (0, [.ref (ad 9), .int (ii (st.1 3))])),
  (ad 6, .inr (0, [.ref (ad 10), .int (ii (st.1 4))])),
  (ad 7, .inr (0, [.ref (ad 11), .int (ii (st.1 5))])),
  (ad 8, .inr (0, [.ref (ad 12), .int (ii (st.1 6))])),
  (ad 9, .inl (T 0, 4, .inl (fun k => ii (st.2 (1) (k : Int))))),
  (ad 10, .inl (T 0, 4, .inl (fun k => ii (st.2 (2) (k : Int))))),
  (ad 11, .inl (T 0, 4, .inl (fun k => ii (st.2 (3) (k : Int))))),
  (ad 12, .inl (T 0, 4, .inl (fun k => ii (st.2 (4) (k : Int))))),
  (ad 13, .inr (2, [.ref (ad 16), .ref (ad 19), .ref (ad 22), .int (ii (st.1 7))])),
  (ad 14, .inr (2, [.ref (ad 17), .ref (ad 20), .ref (ad 23), .int (ii (st.1 8))])),
  (ad 15, .inr (2, [.ref (ad 18), .ref (ad 21), .ref (ad 24), .int (ii (st.1 9))])),
  (ad 16, .inl (T 1, 100001, .inl (fun k => ii (st.2 (5) (k : Int))))),
  (ad 17, .inl (T 1, 100001, .inl (fun k => ii (st.2 (6) (k : Int))))),
  (ad 18, .inl (T 1, 100001, .inl (fun k => ii (st.2 (7) (k : Int))))),
  (ad 19, .inl (T 0, 2737, .inl (fun k => ii (st.2 (8) (k : Int))))),
  (ad 20, .inl (T 0, 2737, .inl (fun k => ii (st.2 (9) (k : Int))))),
  (ad 21, .inl (T 0, 2737, .inl (fun k => ii (st.2 (10) (k : Int))))),
  (ad 22, .inl (T 0, 7, .inl (fun k => ii (st.2 (11) (k : Int))))),
  (ad 23, .inl (T 0, 7, .inl (fun k => ii (st.2 (12) (k : Int))))),
  (ad 24, .inl (T 0, 7, .inl (fun k => ii (st.2 (13) (k : Int))))),
  (ad 25, .inr (4, [.ref (ad 28), .int (ii (st.1 10))])),
  (ad 26, .inr (4, [.ref (ad 29), .int (ii (st.1 11))])),
  (ad 27, .inr (4, [.ref (ad 30), .int (ii (st.1 12))])),
  (ad 28, .inl (T 0, 60, .inl (fun k => ii (st.2 (14) (k : Int))))),
  (ad 29, .inl (T 0, 60, .inl (fun k => ii (st.2 (15) (k : Int))))),
  (ad 30, .inl (T 0, 60, .inl (fun k => ii (st.2 (16) (k : Int))))),
  (ad 31, .inr (3, [.ref (ad 32)])),
  (ad 32, .inl (T 2, 4096, .inr (.inl (fun k => jj (st.2 17 (k : Int))))))]
def alX (ad : Nat → Nat) : List Nat := (List.range 33).map ad
theorem XW_map (T : Nat → ClassId) (ad : Nat → Nat) (st : St_) : (XW T ad st).map Prod.fst = (List.range 33).map ad := rfl
theorem XW_at (T : Nat → ClassId) (ad : Nat → Nat) (st : St_) {k : Nat} {q : Nat × va_E} (h : (XW T ad st)[k]? = some q) : k < 33 ∧ q.1 = ad k := by
  have h1 : ((XW T ad st).map Prod.fst)[k]? = some q.1 := by rw [List.getElem?_map, h]; rfl
  rw [XW_map, List.getElem?_map] at h1
  by_cases hk : k < 33
  · rw [List.getElem?_range hk] at h1
    exact ⟨hk, (Option.some.inj h1).symm⟩
  · rw [List.getElem?_eq_none (by rw [List.length_range]; omega)] at h1
    cases h1
theorem XW_ok {T : Nat → ClassId} {ad : Nat → Nat} (h : ∀ i j, i < 33 → j < 33 → ad i = ad j → i = j) : okW (XW T ad) (alX ad) := by
  intro st
  refine ⟨fun i j p q hp hq e => ?_, fun k q hq => ?_⟩
  · obtain ⟨h1, h2⟩ := XW_at T ad st hp
    obtain ⟨h3, h4⟩ := XW_at T ad st hq
    exact h i j h1 h3 (by rw [← h2, ← h4, e])
  · obtain ⟨h1, h2⟩ := XW_at T ad st hq
    rw [h2]
    exact List.mem_map.mpr ⟨k, List.mem_range.mpr h1, rfl⟩
def MW (T : Nat → ClassId) (ad : Nat → Nat) (st : St_) : va_W := [(ad 0, .inr (6, [.ref (ad 1), .ref (ad 2), .int (ii (st.1 0)), .ref (ad 3), .int (ii (st.1 1)), .ref (ad 4), .ref (ad 5), .ref (ad 6), .ref (ad 7), .int (ii (st.1 2)), .ref (ad 8), .int (ii (st.1 3)), .ref (ad 9), .int (ii (st.1 4)), .ref (ad 10), .int (ii (st.1 5)), .int (ii (st.1 6)), .ref (ad 11), .int (ii (st.1 7)), .ref (ad 12)])),
  (ad 1, .inl (T 0, 16, .inl (fun k => ii (st.2 (0) (k : Int))))),
  (ad 2, .inl (T 0, 4, .inl (fun k => ii (st.2 (1) (k : Int))))),
  (ad 3, .inl (T 0, 3, .inl (fun k => ii (st.2 (2) (k : Int))))),
  (ad 4, .inl (T 1, 100001, .inl (fun k => ii (st.2 (3) (k : Int))))),
  (ad 5, .inl (T 1, 100001, .inl (fun k => ii (st.2 (4) (k : Int))))),
  (ad 6, .inl (T 1, 100001, .inl (fun k => ii (st.2 (5) (k : Int))))),
  (ad 7, .inl (T 0, 3, .inl (fun k => ii (st.2 (6) (k : Int))))),
  (ad 8, .inl (T 0, 60, .inl (fun k => ii (st.2 (7) (k : Int))))),
  (ad 9, .inl (T 0, 60, .inl (fun k => ii (st.2 (8) (k : Int))))),
  (ad 10, .inl (T 0, 60, .inl (fun k => ii (st.2 (9) (k : Int))))),
  (ad 11, .inl (T 0, 15, .inl (fun k => ii (st.2 (10) (k : Int))))),
  (ad 12, .inl (T 2, 2000, .inr (.inl (fun k => jj (st.2 11 (k : Int))))))]
def alM (ad : Nat → Nat) : List Nat := (List.range 13).map ad
theorem MW_map (T : Nat → ClassId) (ad : Nat → Nat) (st : St_) : (MW T ad st).map Prod.fst = (List.range 13).map ad := rfl
theorem MW_at (T : Nat → ClassId) (ad : Nat → Nat) (st : St_) {k : Nat} {q : Nat × va_E} (h : (MW T ad st)[k]? = some q) : k < 13 ∧ q.1 = ad k := by
  have h1 : ((MW T ad st).map Prod.fst)[k]? = some q.1 := by rw [List.getElem?_map, h]; rfl
  rw [MW_map, List.getElem?_map] at h1
  by_cases hk : k < 13
  · rw [List.getElem?_range hk] at h1
    exact ⟨hk, (Option.some.inj h1).symm⟩
  · rw [List.getElem?_eq_none (by rw [List.length_range]; omega)] at h1
    cases h1
theorem MW_ok {T : Nat → ClassId} {ad : Nat → Nat} (h : ∀ i j, i < 13 → j < 13 → ad i = ad j → i = j) : okW (MW T ad) (alM ad) := by
  intro st
  refine ⟨fun i j p q hp hq e => ?_, fun k q hq => ?_⟩
  · obtain ⟨h1, h2⟩ := MW_at T ad st hp
    obtain ⟨h3, h4⟩ := MW_at T ad st hq
    exact h i j h1 h3 (by rw [← h2, ← h4, e])
  · obtain ⟨h1, h2⟩ := MW_at T ad st hq
    rw [h2]
    exact List.mem_map.mpr ⟨k, List.mem_range.mpr h1, rfl⟩
theorem xg_row {T : Nat → ClassId} {ad : Nat → Nat} {st : St_} {i : Nat} (hi : i < 3) : (XW T ad st)[13 + i]? = some (ad (13 + i), .inr (2, [.ref (ad (16 + i)), .ref (ad (19 + i)), .ref (ad (22 + i)), .int (ii (st.1 (7 + i)))])) := by
  match i, hi with
  | 0, _ => rfl
  | 1, _ => rfl
  | 2, _ => rfl
  | k + 3, h => exact absurd h (by omega)
theorem xs_row {T : Nat → ClassId} {ad : Nat → Nat} {st : St_} {i : Nat} (hi : i < 3) (v : Int) : (XW T ad st).set (13 + i) (ad (13 + i), .inr (2, [.ref (ad (16 + i)), .ref (ad (19 + i)), .ref (ad (22 + i)), .int (ii v)])) = XW T ad (sG st (7 + i) v) := by
  match i, hi with
  | 0, _ => rfl
  | 1, _ => rfl
  | 2, _ => rfl
  | k + 3, h => exact absurd h (by omega)
theorem xg_alph {T : Nat → ClassId} {ad : Nat → Nat} {st : St_} {i : Nat} (hi : i < 4) : (XW T ad st)[5 + i]? = some (ad (5 + i), .inr (0, [.ref (ad (9 + i)), .int (ii (st.1 (3 + i)))])) := by
  match i, hi with
  | 0, _ => rfl
  | 1, _ => rfl
  | 2, _ => rfl
  | 3, _ => rfl
  | k + 4, h => exact absurd h (by omega)
theorem xs_alph {T : Nat → ClassId} {ad : Nat → Nat} {st : St_} {i : Nat} (hi : i < 4) (v : Int) : (XW T ad st).set (5 + i) (ad (5 + i), .inr (0, [.ref (ad (9 + i)), .int (ii v)])) = XW T ad (sG st (3 + i) v) := by
  match i, hi with
  | 0, _ => rfl
  | 1, _ => rfl
  | 2, _ => rfl
  | 3, _ => rfl
  | k + 4, h => exact absurd h (by omega)
theorem xg_word {T : Nat → ClassId} {ad : Nat → Nat} {st : St_} {i : Nat} (hi : i < 3) : (XW T ad st)[25 + i]? = some (ad (25 + i), .inr (4, [.ref (ad (28 + i)), .int (ii (st.1 (10 + i)))])) := by
  match i, hi with
  | 0, _ => rfl
  | 1, _ => rfl
  | 2, _ => rfl
  | k + 3, h => exact absurd h (by omega)
theorem xs_word {T : Nat → ClassId} {ad : Nat → Nat} {st : St_} {i : Nat} (hi : i < 3) (v : Int) : (XW T ad st).set (25 + i) (ad (25 + i), .inr (4, [.ref (ad (28 + i)), .int (ii v)])) = XW T ad (sG st (10 + i) v) := by
  match i, hi with
  | 0, _ => rfl
  | 1, _ => rfl
  | 2, _ => rfl
  | k + 3, h => exact absurd h (by omega)
theorem xg_let {T : Nat → ClassId} {ad : Nat → Nat} {st : St_} {i : Nat} (hi : i < 4) : (XW T ad st)[9 + i]? = some (ad (9 + i), .inl (T 0, 4, .inl (fun k => ii (st.2 (1 + i) (k : Int))))) := by
  match i, hi with
  | 0, _ => rfl
  | 1, _ => rfl
  | 2, _ => rfl
  | 3, _ => rfl
  | k + 4, h => exact absurd h (by omega)
theorem xs_let {T : Nat → ClassId} {ad : Nat → Nat} {st : St_} {i : Nat} (hi : i < 4) (z v : Int) : (XW T ad st).set (9 + i) (ad (9 + i), .inl (T 0, 4, .inl (fun k => ii (zup (st.2 (1 + i)) z v (k : Int))))) = XW T ad (sA st (1 + i) z v) := by
  match i, hi with
  | 0, _ => rfl
  | 1, _ => rfl
  | 2, _ => rfl
  | 3, _ => rfl
  | k + 4, h => exact absurd h (by omega)
theorem xg_num {T : Nat → ClassId} {ad : Nat → Nat} {st : St_} {i : Nat} (hi : i < 3) : (XW T ad st)[16 + i]? = some (ad (16 + i), .inl (T 1, 100001, .inl (fun k => ii (st.2 (5 + i) (k : Int))))) := by
  match i, hi with
  | 0, _ => rfl
  | 1, _ => rfl
  | 2, _ => rfl
  | k + 3, h => exact absurd h (by omega)
theorem xs_num {T : Nat → ClassId} {ad : Nat → Nat} {st : St_} {i : Nat} (hi : i < 3) (z v : Int) : (XW T ad st).set (16 + i) (ad (16 + i), .inl (T 1, 100001, .inl (fun k => ii (zup (st.2 (5 + i)) z v (k : Int))))) = XW T ad (sA st (5 + i) z v) := by
  match i, hi with
  | 0, _ => rfl
  | 1, _ => rfl
  | 2, _ => rfl
  | k + 3, h => exact absurd h (by omega)
theorem xg_kep {T : Nat → ClassId} {ad : Nat → Nat} {st : St_} {i : Nat} (hi : i < 3) : (XW T ad st)[19 + i]? = some (ad (19 + i), .inl (T 0, 2737, .inl (fun k => ii (st.2 (8 + i) (k : Int))))) := by
  match i, hi with
  | 0, _ => rfl
  | 1, _ => rfl
  | 2, _ => rfl
  | k + 3, h => exact absurd h (by omega)
theorem xs_kep {T : Nat → ClassId} {ad : Nat → Nat} {st : St_} {i : Nat} (hi : i < 3) (z v : Int) : (XW T ad st).set (19 + i) (ad (19 + i), .inl (T 0, 2737, .inl (fun k => ii (zup (st.2 (8 + i)) z v (k : Int))))) = XW T ad (sA st (8 + i) z v) := by
  match i, hi with
  | 0, _ => rfl
  | 1, _ => rfl
  | 2, _ => rfl
  | k + 3, h => exact absurd h (by omega)
theorem xg_cnt {T : Nat → ClassId} {ad : Nat → Nat} {st : St_} {i : Nat} (hi : i < 3) : (XW T ad st)[22 + i]? = some (ad (22 + i), .inl (T 0, 7, .inl (fun k => ii (st.2 (11 + i) (k : Int))))) := by
  match i, hi with
  | 0, _ => rfl
  | 1, _ => rfl
  | 2, _ => rfl
  | k + 3, h => exact absurd h (by omega)
theorem xs_cnt {T : Nat → ClassId} {ad : Nat → Nat} {st : St_} {i : Nat} (hi : i < 3) (z v : Int) : (XW T ad st).set (22 + i) (ad (22 + i), .inl (T 0, 7, .inl (fun k => ii (zup (st.2 (11 + i)) z v (k : Int))))) = XW T ad (sA st (11 + i) z v) := by
  match i, hi with
  | 0, _ => rfl
  | 1, _ => rfl
  | 2, _ => rfl
  | k + 3, h => exact absurd h (by omega)
theorem xg_wl {T : Nat → ClassId} {ad : Nat → Nat} {st : St_} {i : Nat} (hi : i < 3) : (XW T ad st)[28 + i]? = some (ad (28 + i), .inl (T 0, 60, .inl (fun k => ii (st.2 (14 + i) (k : Int))))) := by
  match i, hi with
  | 0, _ => rfl
  | 1, _ => rfl
  | 2, _ => rfl
  | k + 3, h => exact absurd h (by omega)
theorem xs_wl {T : Nat → ClassId} {ad : Nat → Nat} {st : St_} {i : Nat} (hi : i < 3) (z v : Int) : (XW T ad st).set (28 + i) (ad (28 + i), .inl (T 0, 60, .inl (fun k => ii (zup (st.2 (14 + i)) z v (k : Int))))) = XW T ad (sA st (14 + i) z v) := by
  match i, hi with
  | 0, _ => rfl
  | 1, _ => rfl
  | 2, _ => rfl
  | k + 3, h => exact absurd h (by omega)
theorem xs_aor {T : Nat → ClassId} {ad : Nat → Nat} {st : St_} (z v : Int) : (XW T ad st).set (4) (ad (4), .inl (T 0, 3, .inl (fun k => ii (zup (st.2 0) z v (k : Int))))) = XW T ad (sA st 0 z v) := by
  rfl
theorem xs_seat {T : Nat → ClassId} {ad : Nat → Nat} {st : St_} (z v : Int) : (XW T ad st).set (32) (ad (32), .inl (T 2, 4096, .inr (.inl (fun k => jj (zup (st.2 17) z v (k : Int)))))) = XW T ad (sA st 17 z v) := by
  rfl
theorem xs_s0 {T : Nat → ClassId} {ad : Nat → Nat} {st : St_} (v : Int) : (XW T ad st).set (0) (ad (0), .inr (5, [.ref (ad 1), .ref (ad 25), .ref (ad 26), .ref (ad 27), .ref (ad 31), .int (ii v), .int (ii (st.1 1))])) = XW T ad (sG st 0 v) := by
  rfl
theorem xs_s1 {T : Nat → ClassId} {ad : Nat → Nat} {st : St_} (v : Int) : (XW T ad st).set (0) (ad (0), .inr (5, [.ref (ad 1), .ref (ad 25), .ref (ad 26), .ref (ad 27), .ref (ad 31), .int (ii (st.1 0)), .int (ii v)])) = XW T ad (sG st 1 v) := by
  rfl
theorem xs_s2 {T : Nat → ClassId} {ad : Nat → Nat} {st : St_} (v : Int) : (XW T ad st).set (1) (ad (1), .inr (1, [.ref (ad 2), .ref (ad 3), .ref (ad 4), .int (ii v)])) = XW T ad (sG st 2 v) := by
  rfl
theorem ms_0 {T : Nat → ClassId} {ad : Nat → Nat} {st : St_} (v : Int) : (MW T ad st).set (0) (ad (0), .inr (6, [.ref (ad 1), .ref (ad 2), .int (ii v), .ref (ad 3), .int (ii (st.1 1)), .ref (ad 4), .ref (ad 5), .ref (ad 6), .ref (ad 7), .int (ii (st.1 2)), .ref (ad 8), .int (ii (st.1 3)), .ref (ad 9), .int (ii (st.1 4)), .ref (ad 10), .int (ii (st.1 5)), .int (ii (st.1 6)), .ref (ad 11), .int (ii (st.1 7)), .ref (ad 12)])) = MW T ad (sG st 0 v) := by
  rfl
theorem ms_1 {T : Nat → ClassId} {ad : Nat → Nat} {st : St_} (v : Int) : (MW T ad st).set (0) (ad (0), .inr (6, [.ref (ad 1), .ref (ad 2), .int (ii (st.1 0)), .ref (ad 3), .int (ii v), .ref (ad 4), .ref (ad 5), .ref (ad 6), .ref (ad 7), .int (ii (st.1 2)), .ref (ad 8), .int (ii (st.1 3)), .ref (ad 9), .int (ii (st.1 4)), .ref (ad 10), .int (ii (st.1 5)), .int (ii (st.1 6)), .ref (ad 11), .int (ii (st.1 7)), .ref (ad 12)])) = MW T ad (sG st 1 v) := by
  rfl
theorem ms_2 {T : Nat → ClassId} {ad : Nat → Nat} {st : St_} (v : Int) : (MW T ad st).set (0) (ad (0), .inr (6, [.ref (ad 1), .ref (ad 2), .int (ii (st.1 0)), .ref (ad 3), .int (ii (st.1 1)), .ref (ad 4), .ref (ad 5), .ref (ad 6), .ref (ad 7), .int (ii v), .ref (ad 8), .int (ii (st.1 3)), .ref (ad 9), .int (ii (st.1 4)), .ref (ad 10), .int (ii (st.1 5)), .int (ii (st.1 6)), .ref (ad 11), .int (ii (st.1 7)), .ref (ad 12)])) = MW T ad (sG st 2 v) := by
  rfl
theorem ms_3 {T : Nat → ClassId} {ad : Nat → Nat} {st : St_} (v : Int) : (MW T ad st).set (0) (ad (0), .inr (6, [.ref (ad 1), .ref (ad 2), .int (ii (st.1 0)), .ref (ad 3), .int (ii (st.1 1)), .ref (ad 4), .ref (ad 5), .ref (ad 6), .ref (ad 7), .int (ii (st.1 2)), .ref (ad 8), .int (ii v), .ref (ad 9), .int (ii (st.1 4)), .ref (ad 10), .int (ii (st.1 5)), .int (ii (st.1 6)), .ref (ad 11), .int (ii (st.1 7)), .ref (ad 12)])) = MW T ad (sG st 3 v) := by
  rfl
theorem ms_4 {T : Nat → ClassId} {ad : Nat → Nat} {st : St_} (v : Int) : (MW T ad st).set (0) (ad (0), .inr (6, [.ref (ad 1), .ref (ad 2), .int (ii (st.1 0)), .ref (ad 3), .int (ii (st.1 1)), .ref (ad 4), .ref (ad 5), .ref (ad 6), .ref (ad 7), .int (ii (st.1 2)), .ref (ad 8), .int (ii (st.1 3)), .ref (ad 9), .int (ii v), .ref (ad 10), .int (ii (st.1 5)), .int (ii (st.1 6)), .ref (ad 11), .int (ii (st.1 7)), .ref (ad 12)])) = MW T ad (sG st 4 v) := by
  rfl
theorem ms_5 {T : Nat → ClassId} {ad : Nat → Nat} {st : St_} (v : Int) : (MW T ad st).set (0) (ad (0), .inr (6, [.ref (ad 1), .ref (ad 2), .int (ii (st.1 0)), .ref (ad 3), .int (ii (st.1 1)), .ref (ad 4), .ref (ad 5), .ref (ad 6), .ref (ad 7), .int (ii (st.1 2)), .ref (ad 8), .int (ii (st.1 3)), .ref (ad 9), .int (ii (st.1 4)), .ref (ad 10), .int (ii v), .int (ii (st.1 6)), .ref (ad 11), .int (ii (st.1 7)), .ref (ad 12)])) = MW T ad (sG st 5 v) := by
  rfl
theorem ms_6 {T : Nat → ClassId} {ad : Nat → Nat} {st : St_} (v : Int) : (MW T ad st).set (0) (ad (0), .inr (6, [.ref (ad 1), .ref (ad 2), .int (ii (st.1 0)), .ref (ad 3), .int (ii (st.1 1)), .ref (ad 4), .ref (ad 5), .ref (ad 6), .ref (ad 7), .int (ii (st.1 2)), .ref (ad 8), .int (ii (st.1 3)), .ref (ad 9), .int (ii (st.1 4)), .ref (ad 10), .int (ii (st.1 5)), .int (ii v), .ref (ad 11), .int (ii (st.1 7)), .ref (ad 12)])) = MW T ad (sG st 6 v) := by
  rfl
theorem ms_7 {T : Nat → ClassId} {ad : Nat → Nat} {st : St_} (v : Int) : (MW T ad st).set (0) (ad (0), .inr (6, [.ref (ad 1), .ref (ad 2), .int (ii (st.1 0)), .ref (ad 3), .int (ii (st.1 1)), .ref (ad 4), .ref (ad 5), .ref (ad 6), .ref (ad 7), .int (ii (st.1 2)), .ref (ad 8), .int (ii (st.1 3)), .ref (ad 9), .int (ii (st.1 4)), .ref (ad 10), .int (ii (st.1 5)), .int (ii (st.1 6)), .ref (ad 11), .int (ii v), .ref (ad 12)])) = MW T ad (sG st 7 v) := by
  rfl
theorem ma_0 {T : Nat → ClassId} {ad : Nat → Nat} {st : St_} (z v : Int) : (MW T ad st).set (1) (ad (1), .inl (T 0, 16, .inl (fun k => ii (zup (st.2 0) z v (k : Int))))) = MW T ad (sA st 0 z v) := by
  rfl
theorem ma_1 {T : Nat → ClassId} {ad : Nat → Nat} {st : St_} (z v : Int) : (MW T ad st).set (2) (ad (2), .inl (T 0, 4, .inl (fun k => ii (zup (st.2 1) z v (k : Int))))) = MW T ad (sA st 1 z v) := by
  rfl
theorem ma_2 {T : Nat → ClassId} {ad : Nat → Nat} {st : St_} (z v : Int) : (MW T ad st).set (3) (ad (3), .inl (T 0, 3, .inl (fun k => ii (zup (st.2 2) z v (k : Int))))) = MW T ad (sA st 2 z v) := by
  rfl
theorem ma_3 {T : Nat → ClassId} {ad : Nat → Nat} {st : St_} (z v : Int) : (MW T ad st).set (4) (ad (4), .inl (T 1, 100001, .inl (fun k => ii (zup (st.2 3) z v (k : Int))))) = MW T ad (sA st 3 z v) := by
  rfl
theorem ma_4 {T : Nat → ClassId} {ad : Nat → Nat} {st : St_} (z v : Int) : (MW T ad st).set (5) (ad (5), .inl (T 1, 100001, .inl (fun k => ii (zup (st.2 4) z v (k : Int))))) = MW T ad (sA st 4 z v) := by
  rfl
theorem ma_5 {T : Nat → ClassId} {ad : Nat → Nat} {st : St_} (z v : Int) : (MW T ad st).set (6) (ad (6), .inl (T 1, 100001, .inl (fun k => ii (zup (st.2 5) z v (k : Int))))) = MW T ad (sA st 5 z v) := by
  rfl
theorem ma_6 {T : Nat → ClassId} {ad : Nat → Nat} {st : St_} (z v : Int) : (MW T ad st).set (7) (ad (7), .inl (T 0, 3, .inl (fun k => ii (zup (st.2 6) z v (k : Int))))) = MW T ad (sA st 6 z v) := by
  rfl
theorem ma_7 {T : Nat → ClassId} {ad : Nat → Nat} {st : St_} (z v : Int) : (MW T ad st).set (8) (ad (8), .inl (T 0, 60, .inl (fun k => ii (zup (st.2 7) z v (k : Int))))) = MW T ad (sA st 7 z v) := by
  rfl
theorem ma_8 {T : Nat → ClassId} {ad : Nat → Nat} {st : St_} (z v : Int) : (MW T ad st).set (9) (ad (9), .inl (T 0, 60, .inl (fun k => ii (zup (st.2 8) z v (k : Int))))) = MW T ad (sA st 8 z v) := by
  rfl
theorem ma_9 {T : Nat → ClassId} {ad : Nat → Nat} {st : St_} (z v : Int) : (MW T ad st).set (10) (ad (10), .inl (T 0, 60, .inl (fun k => ii (zup (st.2 9) z v (k : Int))))) = MW T ad (sA st 9 z v) := by
  rfl
theorem ma_10 {T : Nat → ClassId} {ad : Nat → Nat} {st : St_} (z v : Int) : (MW T ad st).set (11) (ad (11), .inl (T 0, 15, .inl (fun k => ii (zup (st.2 10) z v (k : Int))))) = MW T ad (sA st 10 z v) := by
  rfl
theorem ma_11 {T : Nat → ClassId} {ad : Nat → Nat} {st : St_} (z v : Int) : (MW T ad st).set (12) (ad (12), .inl (T 2, 2000, .inr (.inl (fun k => jj (zup (st.2 11) z v (k : Int)))))) = MW T ad (sA st 11 z v) := by
  rfl
