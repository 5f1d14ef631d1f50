/-! the start: what the tables say, the two objects, the loop -/
set_option maxRecDepth 100000 in
set_option maxHeartbeats 4000000 in
theorem law_KN {s : State} {b : Nat} (hts : ∀ w ∈ lw_tbl, w.before #[Value.ref b] s = true) : ∃ (D : va_G) (T : Nat → ClassId), KN D T s := by
  obtain ⟨c0, i0, h0⟩ := u_known (C := RX0) (T := TX0) (N := 2) (n := 2) hts inX0 (hts (Cond.instantiable RX0 2) (by decide +kernel))
  obtain ⟨c1, i1, h1⟩ := u_known (C := RX1) (T := TX1) (N := 4) (n := 4) hts inX1 (hts (Cond.instantiable RX1 4) (by decide +kernel))
  obtain ⟨c2, i2, h2⟩ := u_known (C := RX2) (T := TX2) (N := 4) (n := 4) hts inX2 (hts (Cond.instantiable RX2 4) (by decide +kernel))
  obtain ⟨c3, i3, h3⟩ := u_known (C := RX3) (T := TX3) (N := 1) (n := 1) hts inX3 (hts (Cond.instantiable RX3 1) (by decide +kernel))
  obtain ⟨c4, i4, h4⟩ := u_known (C := RX4) (T := TX4) (N := 2) (n := 2) hts inX4 (hts (Cond.instantiable RX4 2) (by decide +kernel))
  obtain ⟨c5, i5, h5⟩ := u_known (C := RX5) (T := TX5) (N := 7) (n := 7) hts inX5 (hts (Cond.instantiable RX5 7) (by decide +kernel))
  obtain ⟨c6, i6, h6⟩ := u_known (C := RX6) (T := TX6) (N := 20) (n := 20) hts inX6 (hts (Cond.instantiable RX6 20) (by decide +kernel))
  obtain ⟨t0, kA0, p0, f0, g0, d0⟩ := Cond.arrayClass_spec (hts (Cond.arrayClass .int) (by decide +kernel))
  obtain ⟨t1, kA1, p1, f1, g1, d1⟩ := Cond.arrayClass_spec (hts (Cond.arrayClass .byte) (by decide +kernel))
  obtain ⟨t2, kA2, p2, f2, g2, d2⟩ := Cond.arrayClass_spec (hts (Cond.arrayClass .long) (by decide +kernel))
  have hao1 := hts (Cond.arrayOver (.object "SelfRows$Alphabet")) (by decide +kernel)
  have hao2 := hts (Cond.arrayOver (.object "SelfRows$Row")) (by decide +kernel)
  obtain ⟨p3, t3, kA3, f3, x3, g3, d3, e3⟩ := Cond.arrayOver_spec hao1
  obtain ⟨p4, t4, kA4, f4, x4, g4, d4, e4⟩ := Cond.arrayOver_spec hao2
  refine ⟨(fun c => match c with | 0 => c0 | 1 => c1 | 2 => c2 | 3 => c3 | 4 => c4 | 5 => c5 | _ => c6, fun c => match c with | 0 => i0 | 1 => i1 | 2 => i2 | 3 => i3 | 4 => i4 | 5 => i5 | _ => i6), fun k => match k with | 0 => t0 | 1 => t1 | 2 => t2 | 3 => t3 | _ => t4, ⟨fun c q hq => ?_, fun k q hk => ?_⟩, ⟨va_Nw.of rfl (hts (Cond.methodLinkNest RX0 23 yX5_isLetter "SelfRows") (by decide +kernel)), va_Nw.of rfl (hts (Cond.methodLinkNest RX2 27 yX5_isLetter "SelfRows") (by decide +kernel)), va_Nw.of rfl (hts (Cond.methodLinkNest RX1 32 yX2_init "SelfRows") (by decide +kernel)), va_Nw.of rfl (hts (Cond.methodLinkNest RX5 18 yX4_init "SelfRows") (by decide +kernel)), va_Nw.of rfl (hts (Cond.methodLinkNest RX5 31 yX3_init "SelfRows") (by decide +kernel))⟩, va_AO.of hao1, va_AO.of hao2⟩
  · have hc : c < 7 := (List.getElem?_eq_some_iff.mp hq).1
    rcases (show c = 0 ∨ c = 1 ∨ c = 2 ∨ c = 3 ∨ c = 4 ∨ c = 5 ∨ c = 6 by omega) with y | y | y | y | y | y | y <;> subst y <;> cases hq
    · exact h0
    · exact h1
    · exact h2
    · exact h3
    · exact h4
    · exact h5
    · exact h6
  · have hc : k < 5 := (List.getElem?_eq_some_iff.mp hk).1
    rcases (show k = 0 ∨ k = 1 ∨ k = 2 ∨ k = 3 ∨ k = 4 by omega) with y | y | y | y | y <;> subst y <;> cases hk
    · exact ⟨fun n z => ⟨fun k h => (by cases h), kA0, g0, p0, d0⟩, f0⟩
    · exact ⟨fun n z => ⟨fun k h => (by cases h), kA1, g1, p1, d1⟩, f1⟩
    · exact ⟨fun n z => ⟨fun k h => (by cases h), kA2, g2, p2, d2⟩, f2⟩
    · exact ⟨fun n z => ⟨fun k h => (by cases h), kA3, g3, p3, d3⟩, ⟨kA3, p3, g3, d3, f3, e3⟩⟩
    · exact ⟨fun n z => ⟨fun k h => (by cases h), kA4, g4, p4, d4⟩, ⟨kA4, p4, g4, d4, f4, e4⟩⟩
theorem WL_map (T : Nat → ClassId) (ad ad2 : Nat → Nat) (st : St_ × St_) : (WL T ad ad2 st).map Prod.fst = (List.range 33).map ad ++ (List.range 13).map ad2 := rfl
theorem va_D_map {A : Nat → Prop} {w w2 : va_W} (h : va_D A w) (e : w2.map Prod.fst = w.map Prod.fst) : va_D A w2 := by
  have g : ∀ (k : Nat) (q : Nat × va_E), w2[k]? = some q → ∃ z, w[k]? = some (q.1, z) := by
    intro k q hk
    have h1 : (w2.map Prod.fst)[k]? = some q.1 := by rw [List.getElem?_map, hk]; rfl
    rw [e, List.getElem?_map] at h1
    cases h2 : w[k]? with
    | none => rw [h2] at h1; cases h1
    | some x =>
      rw [h2] at h1
      obtain ⟨x1, x2⟩ := x
      exact ⟨x2, by rw [show x1 = q.1 from Option.some.inj h1]⟩
  refine ⟨fun i j p q hp hq e1 => ?_, fun k q hq => ?_⟩
  · obtain ⟨z1, e2⟩ := g i p hp
    obtain ⟨z2, e3⟩ := g j q hq
    exact h.1 i j _ _ e2 e3 e1
  · obtain ⟨z, e2⟩ := g k q hq
    exact h.2 k (q.1, z) e2
theorem WL_x {T : Nat → ClassId} {ad ad2 : Nat → Nat} {st : St_ × St_} {k : Nat} (hk : k < 33) : ∃ z, (WL T ad ad2 st)[k]? = some (ad k, z) := by
  have h1 : ((WL T ad ad2 st).map Prod.fst)[k]? = some (ad k) := by
    rw [WL_map, List.getElem?_append_left (by rw [List.length_map, List.length_range]; exact hk), List.getElem?_map, List.getElem?_range hk]; rfl
  rw [List.getElem?_map] at h1
  cases h2 : (WL T ad ad2 st)[k]? with
  | none => rw [h2] at h1; cases h1
  | some x =>
    rw [h2] at h1
    obtain ⟨x1, x2⟩ := x
    exact ⟨x2, by rw [show x1 = ad k from Option.some.inj h1]⟩
theorem WL_m {T : Nat → ClassId} {ad ad2 : Nat → Nat} {st : St_ × St_} {k : Nat} (hk : k < 13) : ∃ z, (WL T ad ad2 st)[33 + k]? = some (ad2 k, z) := by
  have h1 : ((WL T ad ad2 st).map Prod.fst)[33 + k]? = some (ad2 k) := by
    rw [WL_map, List.getElem?_append_right (by rw [List.length_map, List.length_range]; omega), List.length_map, List.length_range, show 33 + k - 33 = k from by omega, List.getElem?_map, List.getElem?_range hk]; rfl
  rw [List.getElem?_map] at h1
  cases h2 : (WL T ad ad2 st)[33 + k]? with
  | none => rw [h2] at h1; cases h1
  | some x =>
    rw [h2] at h1
    obtain ⟨x1, x2⟩ := x
    exact ⟨x2, by rw [show x1 = ad2 k from Option.some.inj h1]⟩
theorem y_astore_n {p : Program} {l : Launch} {e : Env} {R : Room} {s : State} {m : MethodId} {args : Array Value} {below : List Frame} {meth : Method} {c : Code} {cc : ByteArray} {nL : Nat} {Ts : List Cond} {own : String} {D : va_G} {T : Nat → ClassId} {A : Nat → Prop} {Q : State → Prop} {ce sl : Nat} {ws : va_W} {pc q : Nat} {lv lv' : List (Nat × Value)} {r : List Value} (E : EY R p s m args meth c cc nL Ts own D T A) {k : Fin 4} {x : Nat} (hdg : decode cc pc = .ok (.astore_n k, 1)) (hn : (k : Nat) < nL) (hl' : ((k : Nat), Value.ref x) :: lv.filter (fun q => !(q.1 == (k : Nat)) && !(q.1 + 1 == (k : Nat) && q.2.category == 2)) = lv') (hq : pc + 1 = q) (kk : YJ p l e R s m args below meth c D A nL Q ce sl ws q lv' r) : YJ p l e R s m args below meth c D A nL Q ce sl ws pc lv (.ref x :: r) := by
  subst hq
  intro H locs ls hP hD hS hl
  exact lv_astore_n E.1 E.2.1 hdg rfl hl hn hl' (fun ls hl => kk H locs ls hP hD hS hl)
theorem iL_X5 : ∀ w ∈ wsX50, w ∈ wsL_law := inlX5
theorem iL_X6 : ∀ w ∈ wsX60, w ∈ wsL_law := inlX6
set_option maxRecDepth 100000 in
set_option maxHeartbeats 4000000 in
theorem whole_start {p : Program} {e : Env} {s : State} {m : MethodId} {below : List Frame} {meth : Method} {c : Code} (l : Launch) (hflags : l.flags = flags0) {b L : Nat} {xs : Nat → Int32} (hL : L ≤ 3584) (C0 : lw_At p s m meth c b L xs) : W p l e room_1 s m #[Value.ref b] below meth c s.heap [] 0 0 (lw_Z below #[Value.ref b] s) (entryFrame m ([Value.ref b] : List Value).toArray 4) := by
  obtain ⟨hx, hb, hr, hml, hown, hts, hX, hbl, hlocks, hgv⟩ := C0
  obtain ⟨D, T, hKN⟩ := law_KN hts
  have hl := lv_entry ([.ref b]) (n := 4) (Nat.le_of_ble_eq_true rfl)
  rw [lg_entry_eq]
  have hts1 : ∀ w ∈ wsL_law, w.before #[Value.ref b] s = true := fun w h => hts w (wsL_law_in w h)
  have E : EY room_1 p s m #[Value.ref b] meth c code 4 wsL_law RL D T (fun q => s.heap.size ≤ q) := ⟨hx, hb, hml, trivial, hlocks, hown, hts1, hKN, fun q h => h, fun h => absurd rfl h⟩
  refine (?_ : YJ p l e room_1 s m #[Value.ref b] below meth c D (fun q => s.heap.size ≤ q) 4 (lw_Z below #[Value.ref b] s) 0 0 [] 0 [(0, .ref b)] []) s.heap [] _ (fun k q h => (by cases h)) ⟨fun i j p q h => (by cases h), fun k q h => (by cases h)⟩ va_S.rf hl
  refine y_new (q := 3) (ci := 5) E iL_X5 tyX5 tyX5_ok (by decide +kernel) (by decide +kernel) (by decide +kernel) rfl [.null, .null, .null, .null, .null, .int 0, .int 0] (fun j hj => by rcases (show j = 0 ∨ j = 1 ∨ j = 2 ∨ j = 3 ∨ j = 4 ∨ j = 5 ∨ j = 6 by omega) with rfl | rfl | rfl | rfl | rfl | rfl | rfl <;> rfl) (Nat.le_of_ble_eq_true rfl) (Nat.le_of_ble_eq_true rfl) dL_law_0 rfl (fun a1 => ?_)
  refine y_dup (q := 4) E dL_law_3 rfl rfl ?_
  refine y_ctor (q := 7) (wr := []) E (c_X5_init l D T a1) gL_law_X5_init rfl rfl rfl (by decide +kernel) (by decide +kernel) (by decide +kernel) rfl (by decide +kernel) ⟨Nat.le_of_ble_eq_true rfl, Nat.le_of_ble_eq_true rfl⟩ [0] [] rfl (by decide) rfl (by decide) (by decide) (Nat.le_of_ble_eq_true rfl) (Nat.le_of_ble_eq_true rfl) (Nat.le_of_ble_eq_true rfl) dL_law_4 rfl (fun u9 hu9 => ?_)
  obtain ⟨ad, had, rfl⟩ := hu9
  subst had
  refine y_astore_n (q := 8) (lv' := [(1, .ref (ad 0)), (0, .ref b)]) E dL_law_7 (by decide) rfl rfl ?_
  refine y_new (q := 11) (ci := 6) E iL_X6 tyX6 tyX6_ok (by decide +kernel) (by decide +kernel) (by decide +kernel) rfl [.null, .null, .int 0, .null, .int 0, .null, .null, .null, .null, .int 0, .null, .int 0, .null, .int 0, .null, .int 0, .int 0, .null, .int 0, .null] (fun j hj => by rcases (show j = 0 ∨ j = 1 ∨ j = 2 ∨ j = 3 ∨ j = 4 ∨ j = 5 ∨ j = 6 ∨ j = 7 ∨ j = 8 ∨ j = 9 ∨ j = 10 ∨ j = 11 ∨ j = 12 ∨ j = 13 ∨ j = 14 ∨ j = 15 ∨ j = 16 ∨ j = 17 ∨ j = 18 ∨ j = 19 by omega) with rfl | rfl | rfl | rfl | rfl | rfl | rfl | rfl | rfl | rfl | rfl | rfl | rfl | rfl | rfl | rfl | rfl | rfl | rfl | rfl <;> rfl) (Nat.le_of_ble_eq_true rfl) (Nat.le_of_ble_eq_true rfl) dL_law_8 rfl (fun a2 => ?_)
  refine y_dup (q := 12) E dL_law_11 rfl rfl ?_
  refine y_ctor (q := 15) (wr := XW T ad XS0) E (c_X6_init l D T a2) gL_law_X6_init rfl rfl rfl (by decide +kernel) (by decide +kernel) (by decide +kernel) rfl (by decide +kernel) ⟨Nat.le_of_ble_eq_true rfl, Nat.le_of_ble_eq_true rfl⟩ [33] [0, 1, 2, 3, 4, 5, 6, 7, 8, 9, 10, 11, 12, 13, 14, 15, 16, 17, 18, 19, 20, 21, 22, 23, 24, 25, 26, 27, 28, 29, 30, 31, 32] rfl (by decide) rfl (by decide) (by decide) (Nat.le_of_ble_eq_true rfl) (Nat.le_of_ble_eq_true rfl) (Nat.le_of_ble_eq_true rfl) dL_law_12 rfl (fun u9 hu9 => ?_)
  obtain ⟨ad2, had2, rfl⟩ := hu9
  subst had2
  refine y_astore_n (q := 16) (lv' := [(2, .ref (ad2 0)), (1, .ref (ad 0)), (0, .ref b)]) E dL_law_15 (by decide) rfl rfl ?_
  refine y_iconst (q := 17) E dL_law_16 rfl ?_
  refine y_istore_n (q := 18) (lv' := [(3, .int (ii 0)), (2, .ref (ad2 0)), (1, .ref (ad 0)), (0, .ref b)]) E dL_law_17 (by decide) rfl rfl ?_
  intro H locs ls hP hD hS hl
  have hD : va_D (fun q => s.heap.size ≤ q) (WL T ad ad2 (XS0, MS0)) := hD
  have hN : ∀ i j, i < 33 → j < 33 → ad i = ad j → i = j := by
    intro i j hi hj h
    obtain ⟨z1, e1⟩ := WL_x (T := T) (ad := ad) (ad2 := ad2) (st := (XS0, MS0)) hi
    obtain ⟨z2, e2⟩ := WL_x (T := T) (ad := ad) (ad2 := ad2) (st := (XS0, MS0)) hj
    exact hD.1 i j _ _ e1 e2 h
  have hM : ∀ i j, i < 13 → j < 13 → ad2 i = ad2 j → i = j := by
    intro i j hi hj h
    obtain ⟨z1, e1⟩ := WL_m (T := T) (ad := ad) (ad2 := ad2) (st := (XS0, MS0)) hi
    obtain ⟨z2, e2⟩ := WL_m (T := T) (ad := ad) (ad2 := ad2) (st := (XS0, MS0)) hj
    have := hD.1 (33 + i) (33 + j) _ _ e1 e2 h
    omega
  have hdj : ∀ i j, i < 33 → j < 13 → ad i ≠ ad2 j := by
    intro i j hi hj h
    obtain ⟨z1, e1⟩ := WL_x (T := T) (ad := ad) (ad2 := ad2) (st := (XS0, MS0)) hi
    obtain ⟨z2, e2⟩ := WL_m (T := T) (ad := ad) (ad2 := ad2) (st := (XS0, MS0)) hj
    have := hD.1 i (33 + j) _ _ e1 e2 h
    omega
  have hal : ∀ q ∈ alX ad ++ alM ad2, s.heap.size ≤ q := by
    intro q hq
    rcases List.mem_append.mp hq with h | h
    · obtain ⟨i, hi, e1⟩ := alX_in h
      obtain ⟨z1, e2⟩ := WL_x (T := T) (ad := ad) (ad2 := ad2) (st := (XS0, MS0)) hi
      rw [e1]; exact hD.2 i _ e2
    · obtain ⟨i, hi, e1⟩ := alM_in h
      obtain ⟨z1, e2⟩ := WL_m (T := T) (ad := ad) (ad2 := ad2) (st := (XS0, MS0)) hi
      rw [e1]; exact hD.2 (33 + i) _ e2
  have EE : EN room_1 46 614819 p s m #[Value.ref b] meth c code 4 ret wsL_law RL D (tyX T) (WL T ad ad2) (alX ad ++ alM ad2) (fun q => s.heap.size ≤ q) := ⟨hx, hb, hml, hr, hlocks, hown, hts1, hKN.1, fun st => va_D_map hD rfl, hal, fun q h => h, Nat.le_of_ble_eq_true rfl, Nat.le_of_ble_eq_true rfl, hKN.2.1⟩
  exact law_loop EE hX hbl (Nat.not_le.mpr hbl) hL hN hM hdj (fun q h => h) _ 0 A0_ XS0 MS0 (Nat.lt_succ_self _) (by omega) (by omega) CI_0 MI_0 H locs ls hP hS (lv_sub hl [3, 2, 1, 0] rfl)
