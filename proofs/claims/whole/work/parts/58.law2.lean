set_option maxRecDepth 100000 in
set_option maxHeartbeats 4000000 in
theorem law_run {p : Program} {l : Launch} {e : Env} {s : State} {m : MethodId} {below : List Frame} {meth : Method} {c : Code} {D : va_G} {T : Nat → ClassId} {ad ad2 : Nat → Nat} {A : Nat → Prop} {b L : Nat} {xs : Nat → Int32} (E : EN room_1 46 614819 p s m #[Value.ref b] meth c code 4 ret wsL_law RL D (tyX T) (WL T ad ad2) (alX ad ++ alM ad2) A) (hX : va_X b L xs s s.heap) (hbl : b < s.heap.size) (hbA : ¬ A b) (hL : L ≤ 3584) (hN : ∀ i j, i < 33 → j < 33 → ad i = ad j → i = j) (hM : ∀ i j, i < 13 → j < 13 → ad2 i = ad2 j → i = j) (hdj : ∀ i j, i < 33 → j < 13 → ad i ≠ ad2 j) {a : AB_} {s1 s2 : St_} {i : Int} (hi : 0 ≤ i ∧ i + 7 ≤ (L : Int)) (hC : CI s1 a) (hI : MI s2 a) (kk : ∀ (a1 : AB_) (t1 t2 : St_), CI t1 a1 → MI t2 a1 → XJ p l e room_1 s m #[Value.ref b] below meth c D (WL T ad ad2) A 4 (lw_Z below #[Value.ref b] s) 46 614819 (t1, t2) 916 [(0, .ref b), (1, .ref (ad 0)), (2, .ref (ad2 0)), (3, .int (ii i))] []) : XJ p l e room_1 s m #[Value.ref b] below meth c D (WL T ad ad2) A 4 (lw_Z below #[Value.ref b] s) 46 614819 (s1, s2) 385 [(0, .ref b), (1, .ref (ad 0)), (2, .ref (ad2 0)), (3, .int (ii i))] [] := by
  have k1 := hC.1
  have k2 := hI.1
  have k3 := hC.2.2.2.2.2.2.2.1
  rcases (show (0 ≤ sc xs (i + 1) ∧ sc xs (i + 1) < s1.1 2) ∨ (sc xs (i + 1) < 0 ∨ s1.1 2 ≤ sc xs (i + 1)) by omega) with c9 | c9
  · obtain ⟨r, hr⟩ : ∃ r : Nat, sc xs (i + 1) = (r : Int) := ⟨(sc xs (i + 1)).toNat, by omega⟩
    have hr9 : r < 3 := by omega
    refine x_aload_n (q := 386) E dL_law_385 1 rfl rfl ?_
    refine x_aload_n (q := 387) E dL_law_386 0 rfl rfl ?_
    refine x_iload_n (q := 388) E dL_law_387 3 rfl rfl ?_
    refine x_iconst (q := 389) E dL_law_388 rfl ?_
    refine x_iadd (q := 390) E dL_law_389 rfl ?_
    refine x_sld (q := 391) E hX hbl hbA (by omega) (by omega) (by omega) dL_law_390 rfl ?_
    refine x_ti hr ?_
    refine x_aload_n (q := 392) E dL_law_391 0 rfl rfl ?_
    refine x_iload_n (q := 393) E dL_law_392 3 rfl rfl ?_
    refine x_iconst (q := 394) E dL_law_393 rfl ?_
    refine x_iadd (q := 395) E dL_law_394 rfl ?_
    refine x_sld (q := 396) E hX hbl hbA (by omega) (by omega) (by omega) dL_law_395 rfl ?_
    refine x_pLi (q := 399) (n := 2) (As := [.int (ii ((r : Int))), .int (ii (sc xs (i + 2)))]) (r := []) E (c_X5_run l D T ad hN s1 r hr9 (sc xs (i + 2)) (sc_b xs (i + 2)) (by omega) a hC) gL_law_X5_run rfl rfl rfl (by decide +kernel) ⟨Nat.le_of_ble_eq_true rfl, Nat.le_of_ble_eq_true rfl⟩ 0 rfl rfl rfl rfl (Nat.le_of_ble_eq_true rfl) (fun q hq => E.2.2.2.2.2.2.2.2.2.1 q (List.mem_append_left _ hq)) hdj dL_law_396 rfl (fun z1 t1 q1 => ?_)
    refine x_aload_n (q := 400) E dL_law_399 2 rfl rfl ?_
    refine x_aload_n (q := 401) E dL_law_400 0 rfl rfl ?_
    refine x_iload_n (q := 402) E dL_law_401 3 rfl rfl ?_
    refine x_iconst (q := 403) E dL_law_402 rfl ?_
    refine x_iadd (q := 404) E dL_law_403 rfl ?_
    refine x_sld (q := 405) E hX hbl hbA (by omega) (by omega) (by omega) dL_law_404 rfl ?_
    refine x_ti hr ?_
    refine x_aload_n (q := 406) E dL_law_405 0 rfl rfl ?_
    refine x_iload_n (q := 407) E dL_law_406 3 rfl rfl ?_
    refine x_iconst (q := 408) E dL_law_407 rfl ?_
    refine x_iadd (q := 409) E dL_law_408 rfl ?_
    refine x_sld (q := 410) E hX hbl hbA (by omega) (by omega) (by omega) dL_law_409 rfl ?_
    refine x_pRi (q := 413) (n := 2) (As := [.int (ii ((r : Int))), .int (ii (sc xs (i + 2)))]) (r := [.int (ii z1)]) E (c_X6_run l D T ad2 hM s2 r hr9 (sc xs (i + 2)) (sc_b xs (i + 2)) (by omega) a hI) gL_law_X6_run rfl rfl rfl (by decide +kernel) ⟨Nat.le_of_ble_eq_true rfl, Nat.le_of_ble_eq_true rfl⟩ 0 rfl rfl rfl rfl (Nat.le_of_ble_eq_true rfl) (fun q hq => E.2.2.2.2.2.2.2.2.2.1 q (List.mem_append_right _ hq)) hdj dL_law_410 rfl (fun z2 t2 q2 => ?_)
    obtain ⟨e1, hC1⟩ := q1
    obtain ⟨e2, hI1⟩ := q2
    subst e1
    subst e2
    refine x_same (tgt := 916) E dL_law_413 (by decide) ?_
    exact kk _ _ _ hC1 hI1
  · refine x_aload_n (q := 386) E dL_law_385 1 rfl rfl ?_
    refine x_aload_n (q := 387) E dL_law_386 0 rfl rfl ?_
    refine x_iload_n (q := 388) E dL_law_387 3 rfl rfl ?_
    refine x_iconst (q := 389) E dL_law_388 rfl ?_
    refine x_iadd (q := 390) E dL_law_389 rfl ?_
    refine x_sld (q := 391) E hX hbl hbA (by omega) (by omega) (by omega) dL_law_390 rfl ?_
    refine x_aload_n (q := 392) E dL_law_391 0 rfl rfl ?_
    refine x_iload_n (q := 393) E dL_law_392 3 rfl rfl ?_
    refine x_iconst (q := 394) E dL_law_393 rfl ?_
    refine x_iadd (q := 395) E dL_law_394 rfl ?_
    refine x_sld (q := 396) E hX hbl hbA (by omega) (by omega) (by omega) dL_law_395 rfl ?_
    refine x_pLi (q := 399) (n := 2) (As := [.int (ii (sc xs (i + 1))), .int (ii (sc xs (i + 2)))]) (r := []) E (c_X5_run_n l D T ad hN s1 (sc xs (i + 1)) (sc_b xs (i + 1)) (sc xs (i + 2)) (sc_b xs (i + 2)) (by omega) a hC) gL_law_X5_run rfl rfl rfl (by decide +kernel) ⟨Nat.le_of_ble_eq_true rfl, Nat.le_of_ble_eq_true rfl⟩ 0 rfl rfl rfl rfl (Nat.le_of_ble_eq_true rfl) (fun q hq => E.2.2.2.2.2.2.2.2.2.1 q (List.mem_append_left _ hq)) hdj dL_law_396 rfl (fun z1 t1 q1 => ?_)
    refine x_aload_n (q := 400) E dL_law_399 2 rfl rfl ?_
    refine x_aload_n (q := 401) E dL_law_400 0 rfl rfl ?_
    refine x_iload_n (q := 402) E dL_law_401 3 rfl rfl ?_
    refine x_iconst (q := 403) E dL_law_402 rfl ?_
    refine x_iadd (q := 404) E dL_law_403 rfl ?_
    refine x_sld (q := 405) E hX hbl hbA (by omega) (by omega) (by omega) dL_law_404 rfl ?_
    refine x_aload_n (q := 406) E dL_law_405 0 rfl rfl ?_
    refine x_iload_n (q := 407) E dL_law_406 3 rfl rfl ?_
    refine x_iconst (q := 408) E dL_law_407 rfl ?_
    refine x_iadd (q := 409) E dL_law_408 rfl ?_
    refine x_sld (q := 410) E hX hbl hbA (by omega) (by omega) (by omega) dL_law_409 rfl ?_
    refine x_pRi (q := 413) (n := 2) (As := [.int (ii (sc xs (i + 1))), .int (ii (sc xs (i + 2)))]) (r := [.int (ii z1)]) E (c_X6_run_n l D T ad2 hM s2 (sc xs (i + 1)) (sc_b xs (i + 1)) (sc xs (i + 2)) (sc_b xs (i + 2)) (by omega) a hI) gL_law_X6_run rfl rfl rfl (by decide +kernel) ⟨Nat.le_of_ble_eq_true rfl, Nat.le_of_ble_eq_true rfl⟩ 0 rfl rfl rfl rfl (Nat.le_of_ble_eq_true rfl) (fun q hq => E.2.2.2.2.2.2.2.2.2.1 q (List.mem_append_right _ hq)) hdj dL_law_410 rfl (fun z2 t2 q2 => ?_)
    obtain ⟨e1, hC1⟩ := q1
    obtain ⟨e2, hI1⟩ := q2
    subst e1
    subst e2
    refine x_same (tgt := 916) E dL_law_413 (by decide) ?_
    exact kk _ _ _ hC1 hI1

set_option maxRecDepth 100000 in
set_option maxHeartbeats 4000000 in
theorem law_begins {p : Program} {l : Launch} {e : Env} {s : State} {m : MethodId} {below : List Frame} {meth : Method} {c : Code} {D : va_G} {T : Nat → ClassId} {ad ad2 : Nat → Nat} {A : Nat → Prop} {b L : Nat} {xs : Nat → Int32} (E : EN room_1 46 614819 p s m #[Value.ref b] meth c code 4 ret wsL_law RL D (tyX T) (WL T ad ad2) (alX ad ++ alM ad2) A) (hX : va_X b L xs s s.heap) (hbl : b < s.heap.size) (hbA : ¬ A b) (hL : L ≤ 3584) (hN : ∀ i j, i < 33 → j < 33 → ad i = ad j → i = j) (hM : ∀ i j, i < 13 → j < 13 → ad2 i = ad2 j → i = j) (hdj : ∀ i j, i < 33 → j < 13 → ad i ≠ ad2 j) {a : AB_} {s1 s2 : St_} {i : Int} (hi : 0 ≤ i ∧ i + 7 ≤ (L : Int)) (hC : CI s1 a) (hI : MI s2 a) (kk : ∀ (a1 : AB_) (t1 t2 : St_), CI t1 a1 → MI t2 a1 → XJ p l e room_1 s m #[Value.ref b] below meth c D (WL T ad ad2) A 4 (lw_Z below #[Value.ref b] s) 46 614819 (t1, t2) 916 [(0, .ref b), (1, .ref (ad 0)), (2, .ref (ad2 0)), (3, .int (ii i))] []) : XJ p l e room_1 s m #[Value.ref b] below meth c D (WL T ad ad2) A 4 (lw_Z below #[Value.ref b] s) 46 614819 (s1, s2) 418 [(0, .ref b), (1, .ref (ad 0)), (2, .ref (ad2 0)), (3, .int (ii i))] [] := by
  have k1 := hC.1
  have k2 := hI.1
  have k3 := hC.2.2.2.2.2.2.2.1
  rcases (show (0 ≤ sc xs (i + 1) ∧ sc xs (i + 1) < s1.1 2) ∨ (sc xs (i + 1) < 0 ∨ s1.1 2 ≤ sc xs (i + 1)) by omega) with c9 | c9
  · obtain ⟨r, hr⟩ : ∃ r : Nat, sc xs (i + 1) = (r : Int) := ⟨(sc xs (i + 1)).toNat, by omega⟩
    have hr9 : r < 3 := by omega
    refine x_aload_n (q := 419) E dL_law_418 1 rfl rfl ?_
    refine x_aload_n (q := 420) E dL_law_419 0 rfl rfl ?_
    refine x_iload_n (q := 421) E dL_law_420 3 rfl rfl ?_
    refine x_iconst (q := 422) E dL_law_421 rfl ?_
    refine x_iadd (q := 423) E dL_law_422 rfl ?_
    refine x_sld (q := 424) E hX hbl hbA (by omega) (by omega) (by omega) dL_law_423 rfl ?_
    refine x_ti hr ?_
    refine x_aload_n (q := 425) E dL_law_424 0 rfl rfl ?_
    refine x_iload_n (q := 426) E dL_law_425 3 rfl rfl ?_
    refine x_iconst (q := 427) E dL_law_426 rfl ?_
    refine x_iadd (q := 428) E dL_law_427 rfl ?_
    refine x_sld (q := 429) E hX hbl hbA (by omega) (by omega) (by omega) dL_law_428 rfl ?_
    refine x_pLi (q := 432) (n := 2) (As := [.int (ii ((r : Int))), .int (ii (sc xs (i + 2)))]) (r := []) E (c_X5_begins l D T ad hN s1 r hr9 (sc xs (i + 2)) (sc_b xs (i + 2)) (by omega) a hC) gL_law_X5_begins rfl rfl rfl (by decide +kernel) ⟨Nat.le_of_ble_eq_true rfl, Nat.le_of_ble_eq_true rfl⟩ 0 rfl rfl rfl rfl (Nat.le_of_ble_eq_true rfl) (fun q hq => E.2.2.2.2.2.2.2.2.2.1 q (List.mem_append_left _ hq)) hdj dL_law_429 rfl (fun z1 t1 q1 => ?_)
    refine x_aload_n (q := 433) E dL_law_432 2 rfl rfl ?_
    refine x_aload_n (q := 434) E dL_law_433 0 rfl rfl ?_
    refine x_iload_n (q := 435) E dL_law_434 3 rfl rfl ?_
    refine x_iconst (q := 436) E dL_law_435 rfl ?_
    refine x_iadd (q := 437) E dL_law_436 rfl ?_
    refine x_sld (q := 438) E hX hbl hbA (by omega) (by omega) (by omega) dL_law_437 rfl ?_
    refine x_ti hr ?_
    refine x_aload_n (q := 439) E dL_law_438 0 rfl rfl ?_
    refine x_iload_n (q := 440) E dL_law_439 3 rfl rfl ?_
    refine x_iconst (q := 441) E dL_law_440 rfl ?_
    refine x_iadd (q := 442) E dL_law_441 rfl ?_
    refine x_sld (q := 443) E hX hbl hbA (by omega) (by omega) (by omega) dL_law_442 rfl ?_
    refine x_pRi (q := 446) (n := 2) (As := [.int (ii ((r : Int))), .int (ii (sc xs (i + 2)))]) (r := [.int (ii z1)]) E (c_X6_begins l D T ad2 hM s2 r hr9 (sc xs (i + 2)) (sc_b xs (i + 2)) (by omega) a hI) gL_law_X6_begins rfl rfl rfl (by decide +kernel) ⟨Nat.le_of_ble_eq_true rfl, Nat.le_of_ble_eq_true rfl⟩ 0 rfl rfl rfl rfl (Nat.le_of_ble_eq_true rfl) (fun q hq => E.2.2.2.2.2.2.2.2.2.1 q (List.mem_append_right _ hq)) hdj dL_law_443 rfl (fun z2 t2 q2 => ?_)
    obtain ⟨e1, hC1⟩ := q1
    obtain ⟨e2, hI1⟩ := q2
    subst e1
    subst e2
    refine x_same (tgt := 916) E dL_law_446 (by decide) ?_
    exact kk _ _ _ hC1 hI1
  · refine x_aload_n (q := 419) E dL_law_418 1 rfl rfl ?_
    refine x_aload_n (q := 420) E dL_law_419 0 rfl rfl ?_
    refine x_iload_n (q := 421) E dL_law_420 3 rfl rfl ?_
    refine x_iconst (q := 422) E dL_law_421 rfl ?_
    refine x_iadd (q := 423) E dL_law_422 rfl ?_
    refine x_sld (q := 424) E hX hbl hbA (by omega) (by omega) (by omega) dL_law_423 rfl ?_
    refine x_aload_n (q := 425) E dL_law_424 0 rfl rfl ?_
    refine x_iload_n (q := 426) E dL_law_425 3 rfl rfl ?_
    refine x_iconst (q := 427) E dL_law_426 rfl ?_
    refine x_iadd (q := 428) E dL_law_427 rfl ?_
    refine x_sld (q := 429) E hX hbl hbA (by omega) (by omega) (by omega) dL_law_428 rfl ?_
    refine x_pLi (q := 432) (n := 2) (As := [.int (ii (sc xs (i + 1))), .int (ii (sc xs (i + 2)))]) (r := []) E (c_X5_begins_n l D T ad hN s1 (sc xs (i + 1)) (sc_b xs (i + 1)) (sc xs (i + 2)) (sc_b xs (i + 2)) (by omega) a hC) gL_law_X5_begins rfl rfl rfl (by decide +kernel) ⟨Nat.le_of_ble_eq_true rfl, Nat.le_of_ble_eq_true rfl⟩ 0 rfl rfl rfl rfl (Nat.le_of_ble_eq_true rfl) (fun q hq => E.2.2.2.2.2.2.2.2.2.1 q (List.mem_append_left _ hq)) hdj dL_law_429 rfl (fun z1 t1 q1 => ?_)
    refine x_aload_n (q := 433) E dL_law_432 2 rfl rfl ?_
    refine x_aload_n (q := 434) E dL_law_433 0 rfl rfl ?_
    refine x_iload_n (q := 435) E dL_law_434 3 rfl rfl ?_
    refine x_iconst (q := 436) E dL_law_435 rfl ?_
    refine x_iadd (q := 437) E dL_law_436 rfl ?_
    refine x_sld (q := 438) E hX hbl hbA (by omega) (by omega) (by omega) dL_law_437 rfl ?_
    refine x_aload_n (q := 439) E dL_law_438 0 rfl rfl ?_
    refine x_iload_n (q := 440) E dL_law_439 3 rfl rfl ?_
    refine x_iconst (q := 441) E dL_law_440 rfl ?_
    refine x_iadd (q := 442) E dL_law_441 rfl ?_
    refine x_sld (q := 443) E hX hbl hbA (by omega) (by omega) (by omega) dL_law_442 rfl ?_
    refine x_pRi (q := 446) (n := 2) (As := [.int (ii (sc xs (i + 1))), .int (ii (sc xs (i + 2)))]) (r := [.int (ii z1)]) E (c_X6_begins_n l D T ad2 hM s2 (sc xs (i + 1)) (sc_b xs (i + 1)) (sc xs (i + 2)) (sc_b xs (i + 2)) (by omega) a hI) gL_law_X6_begins rfl rfl rfl (by decide +kernel) ⟨Nat.le_of_ble_eq_true rfl, Nat.le_of_ble_eq_true rfl⟩ 0 rfl rfl rfl rfl (Nat.le_of_ble_eq_true rfl) (fun q hq => E.2.2.2.2.2.2.2.2.2.1 q (List.mem_append_right _ hq)) hdj dL_law_443 rfl (fun z2 t2 q2 => ?_)
    obtain ⟨e1, hC1⟩ := q1
    obtain ⟨e2, hI1⟩ := q2
    subst e1
    subst e2
    refine x_same (tgt := 916) E dL_law_446 (by decide) ?_
    exact kk _ _ _ hC1 hI1

set_option maxRecDepth 100000 in
set_option maxHeartbeats 4000000 in
theorem law_off {p : Program} {l : Launch} {e : Env} {s : State} {m : MethodId} {below : List Frame} {meth : Method} {c : Code} {D : va_G} {T : Nat → ClassId} {ad ad2 : Nat → Nat} {A : Nat → Prop} {b L : Nat} {xs : Nat → Int32} (E : EN room_1 46 614819 p s m #[Value.ref b] meth c code 4 ret wsL_law RL D (tyX T) (WL T ad ad2) (alX ad ++ alM ad2) A) (hX : va_X b L xs s s.heap) (hbl : b < s.heap.size) (hbA : ¬ A b) (hL : L ≤ 3584) (hN : ∀ i j, i < 33 → j < 33 → ad i = ad j → i = j) (hM : ∀ i j, i < 13 → j < 13 → ad2 i = ad2 j → i = j) (hdj : ∀ i j, i < 33 → j < 13 → ad i ≠ ad2 j) {a : AB_} {s1 s2 : St_} {i : Int} (hi : 0 ≤ i ∧ i + 7 ≤ (L : Int)) (hC : CI s1 a) (hI : MI s2 a) (kk : ∀ (a1 : AB_) (t1 t2 : St_), CI t1 a1 → MI t2 a1 → XJ p l e room_1 s m #[Value.ref b] below meth c D (WL T ad ad2) A 4 (lw_Z below #[Value.ref b] s) 46 614819 (t1, t2) 916 [(0, .ref b), (1, .ref (ad 0)), (2, .ref (ad2 0)), (3, .int (ii i))] []) : XJ p l e room_1 s m #[Value.ref b] below meth c D (WL T ad ad2) A 4 (lw_Z below #[Value.ref b] s) 46 614819 (s1, s2) 451 [(0, .ref b), (1, .ref (ad 0)), (2, .ref (ad2 0)), (3, .int (ii i))] [] := by
  have k1 := hC.1
  have k2 := hI.1
  have k3 := hC.2.2.2.2.2.2.2.1
  rcases (show (0 ≤ sc xs (i + 1) ∧ sc xs (i + 1) < s1.1 2) ∨ (sc xs (i + 1) < 0 ∨ s1.1 2 ≤ sc xs (i + 1)) by omega) with c9 | c9
  · obtain ⟨r, hr⟩ : ∃ r : Nat, sc xs (i + 1) = (r : Int) := ⟨(sc xs (i + 1)).toNat, by omega⟩
    have hr9 : r < 3 := by omega
    refine x_aload_n (q := 452) E dL_law_451 1 rfl rfl ?_
    refine x_aload_n (q := 453) E dL_law_452 0 rfl rfl ?_
    refine x_iload_n (q := 454) E dL_law_453 3 rfl rfl ?_
    refine x_iconst (q := 455) E dL_law_454 rfl ?_
    refine x_iadd (q := 456) E dL_law_455 rfl ?_
    refine x_sld (q := 457) E hX hbl hbA (by omega) (by omega) (by omega) dL_law_456 rfl ?_
    refine x_ti hr ?_
    refine x_aload_n (q := 458) E dL_law_457 0 rfl rfl ?_
    refine x_iload_n (q := 459) E dL_law_458 3 rfl rfl ?_
    refine x_iconst (q := 460) E dL_law_459 rfl ?_
    refine x_iadd (q := 461) E dL_law_460 rfl ?_
    refine x_sld (q := 462) E hX hbl hbA (by omega) (by omega) (by omega) dL_law_461 rfl ?_
    refine x_aload_n (q := 463) E dL_law_462 0 rfl rfl ?_
    refine x_iload_n (q := 464) E dL_law_463 3 rfl rfl ?_
    refine x_iconst (q := 465) E dL_law_464 rfl ?_
    refine x_iadd (q := 466) E dL_law_465 rfl ?_
    refine x_sld (q := 467) E hX hbl hbA (by omega) (by omega) (by omega) dL_law_466 rfl ?_
    refine x_aload_n (q := 468) E dL_law_467 0 rfl rfl ?_
    refine x_iload_n (q := 469) E dL_law_468 3 rfl rfl ?_
    refine x_iconst (q := 470) E dL_law_469 rfl ?_
    refine x_iadd (q := 471) E dL_law_470 rfl ?_
    refine x_sld (q := 472) E hX hbl hbA (by omega) (by omega) (by omega) dL_law_471 rfl ?_
    refine x_pLi (q := 475) (n := 4) (As := [.int (ii ((r : Int))), .int (ii (sc xs (i + 2))), .int (ii (sc xs (i + 3))), .int (ii (sc xs (i + 4)))]) (r := []) E (c_X5_off l D T ad hN s1 r hr9 (sc xs (i + 2)) (sc_b xs (i + 2)) (sc xs (i + 3)) (sc_b xs (i + 3)) (sc xs (i + 4)) (sc_b xs (i + 4)) (by omega) a hC) gL_law_X5_off rfl rfl rfl (by decide +kernel) ⟨Nat.le_of_ble_eq_true rfl, Nat.le_of_ble_eq_true rfl⟩ 0 rfl rfl rfl rfl (Nat.le_of_ble_eq_true rfl) (fun q hq => E.2.2.2.2.2.2.2.2.2.1 q (List.mem_append_left _ hq)) hdj dL_law_472 rfl (fun z1 t1 q1 => ?_)
    refine x_aload_n (q := 476) E dL_law_475 2 rfl rfl ?_
    refine x_aload_n (q := 477) E dL_law_476 0 rfl rfl ?_
    refine x_iload_n (q := 478) E dL_law_477 3 rfl rfl ?_
    refine x_iconst (q := 479) E dL_law_478 rfl ?_
    refine x_iadd (q := 480) E dL_law_479 rfl ?_
    refine x_sld (q := 481) E hX hbl hbA (by omega) (by omega) (by omega) dL_law_480 rfl ?_
    refine x_ti hr ?_
    refine x_aload_n (q := 482) E dL_law_481 0 rfl rfl ?_
    refine x_iload_n (q := 483) E dL_law_482 3 rfl rfl ?_
    refine x_iconst (q := 484) E dL_law_483 rfl ?_
    refine x_iadd (q := 485) E dL_law_484 rfl ?_
    refine x_sld (q := 486) E hX hbl hbA (by omega) (by omega) (by omega) dL_law_485 rfl ?_
    refine x_aload_n (q := 487) E dL_law_486 0 rfl rfl ?_
    refine x_iload_n (q := 488) E dL_law_487 3 rfl rfl ?_
    refine x_iconst (q := 489) E dL_law_488 rfl ?_
    refine x_iadd (q := 490) E dL_law_489 rfl ?_
    refine x_sld (q := 491) E hX hbl hbA (by omega) (by omega) (by omega) dL_law_490 rfl ?_
    refine x_aload_n (q := 492) E dL_law_491 0 rfl rfl ?_
    refine x_iload_n (q := 493) E dL_law_492 3 rfl rfl ?_
    refine x_iconst (q := 494) E dL_law_493 rfl ?_
    refine x_iadd (q := 495) E dL_law_494 rfl ?_
    refine x_sld (q := 496) E hX hbl hbA (by omega) (by omega) (by omega) dL_law_495 rfl ?_
    refine x_pRi (q := 499) (n := 4) (As := [.int (ii ((r : Int))), .int (ii (sc xs (i + 2))), .int (ii (sc xs (i + 3))), .int (ii (sc xs (i + 4)))]) (r := [.int (ii z1)]) E (c_X6_off l D T ad2 hM s2 r hr9 (sc xs (i + 2)) (sc_b xs (i + 2)) (sc xs (i + 3)) (sc_b xs (i + 3)) (sc xs (i + 4)) (sc_b xs (i + 4)) (by omega) a hI) gL_law_X6_off rfl rfl rfl (by decide +kernel) ⟨Nat.le_of_ble_eq_true rfl, Nat.le_of_ble_eq_true rfl⟩ 0 rfl rfl rfl rfl (Nat.le_of_ble_eq_true rfl) (fun q hq => E.2.2.2.2.2.2.2.2.2.1 q (List.mem_append_right _ hq)) hdj dL_law_496 rfl (fun z2 t2 q2 => ?_)
    obtain ⟨e1, hC1⟩ := q1
    obtain ⟨e2, hI1⟩ := q2
    subst e1
    subst e2
    refine x_same (tgt := 916) E dL_law_499 (by decide) ?_
    exact kk _ _ _ hC1 hI1
  · refine x_aload_n (q := 452) E dL_law_451 1 rfl rfl ?_
    refine x_aload_n (q := 453) E dL_law_452 0 rfl rfl ?_
    refine x_iload_n (q := 454) E dL_law_453 3 rfl rfl ?_
    refine x_iconst (q := 455) E dL_law_454 rfl ?_
    refine x_iadd (q := 456) E dL_law_455 rfl ?_
    refine x_sld (q := 457) E hX hbl hbA (by omega) (by omega) (by omega) dL_law_456 rfl ?_
    refine x_aload_n (q := 458) E dL_law_457 0 rfl rfl ?_
    refine x_iload_n (q := 459) E dL_law_458 3 rfl rfl ?_
    refine x_iconst (q := 460) E dL_law_459 rfl ?_
    refine x_iadd (q := 461) E dL_law_460 rfl ?_
    refine x_sld (q := 462) E hX hbl hbA (by omega) (by omega) (by omega) dL_law_461 rfl ?_
    refine x_aload_n (q := 463) E dL_law_462 0 rfl rfl ?_
    refine x_iload_n (q := 464) E dL_law_463 3 rfl rfl ?_
    refine x_iconst (q := 465) E dL_law_464 rfl ?_
    refine x_iadd (q := 466) E dL_law_465 rfl ?_
    refine x_sld (q := 467) E hX hbl hbA (by omega) (by omega) (by omega) dL_law_466 rfl ?_
    refine x_aload_n (q := 468) E dL_law_467 0 rfl rfl ?_
    refine x_iload_n (q := 469) E dL_law_468 3 rfl rfl ?_
    refine x_iconst (q := 470) E dL_law_469 rfl ?_
    refine x_iadd (q := 471) E dL_law_470 rfl ?_
    refine x_sld (q := 472) E hX hbl hbA (by omega) (by omega) (by omega) dL_law_471 rfl ?_
    refine x_pLi (q := 475) (n := 4) (As := [.int (ii (sc xs (i + 1))), .int (ii (sc xs (i + 2))), .int (ii (sc xs (i + 3))), .int (ii (sc xs (i + 4)))]) (r := []) E (c_X5_off_n l D T ad hN s1 (sc xs (i + 1)) (sc_b xs (i + 1)) (sc xs (i + 2)) (sc_b xs (i + 2)) (sc xs (i + 3)) (sc_b xs (i + 3)) (sc xs (i + 4)) (sc_b xs (i + 4)) (by omega) a hC) gL_law_X5_off rfl rfl rfl (by decide +kernel) ⟨Nat.le_of_ble_eq_true rfl, Nat.le_of_ble_eq_true rfl⟩ 0 rfl rfl rfl rfl (Nat.le_of_ble_eq_true rfl) (fun q hq => E.2.2.2.2.2.2.2.2.2.1 q (List.mem_append_left _ hq)) hdj dL_law_472 rfl (fun z1 t1 q1 => ?_)
    refine x_aload_n (q := 476) E dL_law_475 2 rfl rfl ?_
    refine x_aload_n (q := 477) E dL_law_476 0 rfl rfl ?_
    refine x_iload_n (q := 478) E dL_law_477 3 rfl rfl ?_
    refine x_iconst (q := 479) E dL_law_478 rfl ?_
    refine x_iadd (q := 480) E dL_law_479 rfl ?_
    refine x_sld (q := 481) E hX hbl hbA (by omega) (by omega) (by omega) dL_law_480 rfl ?_
    refine x_aload_n (q := 482) E dL_law_481 0 rfl rfl ?_
    refine x_iload_n (q := 483) E dL_law_482 3 rfl rfl ?_
    refine x_iconst (q := 484) E dL_law_483 rfl ?_
    refine x_iadd (q := 485) E dL_law_484 rfl ?_
    refine x_sld (q := 486) E hX hbl hbA (by omega) (by omega) (by omega) dL_law_485 rfl ?_
    refine x_aload_n (q := 487) E dL_law_486 0 rfl rfl ?_
    refine x_iload_n (q := 488) E dL_law_487 3 rfl rfl ?_
    refine x_iconst (q := 489) E dL_law_488 rfl ?_
    refine x_iadd (q := 490) E dL_law_489 rfl ?_
    refine x_sld (q := 491) E hX hbl hbA (by omega) (by omega) (by omega) dL_law_490 rfl ?_
    refine x_aload_n (q := 492) E dL_law_491 0 rfl rfl ?_
    refine x_iload_n (q := 493) E dL_law_492 3 rfl rfl ?_
    refine x_iconst (q := 494) E dL_law_493 rfl ?_
    refine x_iadd (q := 495) E dL_law_494 rfl ?_
    refine x_sld (q := 496) E hX hbl hbA (by omega) (by omega) (by omega) dL_law_495 rfl ?_
    refine x_pRi (q := 499) (n := 4) (As := [.int (ii (sc xs (i + 1))), .int (ii (sc xs (i + 2))), .int (ii (sc xs (i + 3))), .int (ii (sc xs (i + 4)))]) (r := [.int (ii z1)]) E (c_X6_off_n l D T ad2 hM s2 (sc xs (i + 1)) (sc_b xs (i + 1)) (sc xs (i + 2)) (sc_b xs (i + 2)) (sc xs (i + 3)) (sc_b xs (i + 3)) (sc xs (i + 4)) (sc_b xs (i + 4)) (by omega) a hI) gL_law_X6_off rfl rfl rfl (by decide +kernel) ⟨Nat.le_of_ble_eq_true rfl, Nat.le_of_ble_eq_true rfl⟩ 0 rfl rfl rfl rfl (Nat.le_of_ble_eq_true rfl) (fun q hq => E.2.2.2.2.2.2.2.2.2.1 q (List.mem_append_right _ hq)) hdj dL_law_496 rfl (fun z2 t2 q2 => ?_)
    obtain ⟨e1, hC1⟩ := q1
    obtain ⟨e2, hI1⟩ := q2
    subst e1
    subst e2
    refine x_same (tgt := 916) E dL_law_499 (by decide) ?_
    exact kk _ _ _ hC1 hI1

set_option maxRecDepth 100000 in
set_option maxHeartbeats 4000000 in
theorem law_add {p : Program} {l : Launch} {e : Env} {s : State} {m : MethodId} {below : List Frame} {meth : Method} {c : Code} {D : va_G} {T : Nat → ClassId} {ad ad2 : Nat → Nat} {A : Nat → Prop} {b L : Nat} {xs : Nat → Int32} (E : EN room_1 46 614819 p s m #[Value.ref b] meth c code 4 ret wsL_law RL D (tyX T) (WL T ad ad2) (alX ad ++ alM ad2) A) (hX : va_X b L xs s s.heap) (hbl : b < s.heap.size) (hbA : ¬ A b) (hL : L ≤ 3584) (hN : ∀ i j, i < 33 → j < 33 → ad i = ad j → i = j) (hM : ∀ i j, i < 13 → j < 13 → ad2 i = ad2 j → i = j) (hdj : ∀ i j, i < 33 → j < 13 → ad i ≠ ad2 j) {a : AB_} {s1 s2 : St_} {i : Int} (hi : 0 ≤ i ∧ i + 7 ≤ (L : Int)) (hC : CI s1 a) (hI : MI s2 a) (kk : ∀ (a1 : AB_) (t1 t2 : St_), CI t1 a1 → MI t2 a1 → XJ p l e room_1 s m #[Value.ref b] below meth c D (WL T ad ad2) A 4 (lw_Z below #[Value.ref b] s) 46 614819 (t1, t2) 916 [(0, .ref b), (1, .ref (ad 0)), (2, .ref (ad2 0)), (3, .int (ii i))] []) : XJ p l e room_1 s m #[Value.ref b] below meth c D (WL T ad ad2) A 4 (lw_Z below #[Value.ref b] s) 46 614819 (s1, s2) 504 [(0, .ref b), (1, .ref (ad 0)), (2, .ref (ad2 0)), (3, .int (ii i))] [] := by
  have k1 := hC.1
  have k2 := hI.1
  refine x_aload_n (q := 505) E dL_law_504 1 rfl rfl ?_
  refine x_aload_n (q := 506) E dL_law_505 0 rfl rfl ?_
  refine x_iload_n (q := 507) E dL_law_506 3 rfl rfl ?_
  refine x_iconst (q := 508) E dL_law_507 rfl ?_
  refine x_iadd (q := 509) E dL_law_508 rfl ?_
  refine x_sld (q := 510) E hX hbl hbA (by omega) (by omega) (by omega) dL_law_509 rfl ?_
  refine x_pLi (q := 513) (n := 1) (As := [.int (ii (sc xs (i + 1)))]) (r := []) E (c_X5_add l D T ad hN s1 (sc xs (i + 1)) (sc_b xs (i + 1)) a hC) gL_law_X5_add rfl rfl rfl (by decide +kernel) ⟨Nat.le_of_ble_eq_true rfl, Nat.le_of_ble_eq_true rfl⟩ 0 rfl rfl rfl rfl (Nat.le_of_ble_eq_true rfl) (fun q hq => E.2.2.2.2.2.2.2.2.2.1 q (List.mem_append_left _ hq)) hdj dL_law_510 rfl (fun z1 t1 q1 => ?_)
  refine x_aload_n (q := 514) E dL_law_513 2 rfl rfl ?_
  refine x_aload_n (q := 515) E dL_law_514 0 rfl rfl ?_
  refine x_iload_n (q := 516) E dL_law_515 3 rfl rfl ?_
  refine x_iconst (q := 517) E dL_law_516 rfl ?_
  refine x_iadd (q := 518) E dL_law_517 rfl ?_
  refine x_sld (q := 519) E hX hbl hbA (by omega) (by omega) (by omega) dL_law_518 rfl ?_
  refine x_pRi (q := 522) (n := 1) (As := [.int (ii (sc xs (i + 1)))]) (r := [.int (ii z1)]) E (c_X6_add l D T ad2 hM s2 (sc xs (i + 1)) (sc_b xs (i + 1)) a hI) gL_law_X6_add rfl rfl rfl (by decide +kernel) ⟨Nat.le_of_ble_eq_true rfl, Nat.le_of_ble_eq_true rfl⟩ 0 rfl rfl rfl rfl (Nat.le_of_ble_eq_true rfl) (fun q hq => E.2.2.2.2.2.2.2.2.2.1 q (List.mem_append_right _ hq)) hdj dL_law_519 rfl (fun z2 t2 q2 => ?_)
  obtain ⟨e1, hC1⟩ := q1
  obtain ⟨e2, hI1⟩ := q2
  subst e1
  subst e2
  refine x_same (tgt := 916) E dL_law_522 (by decide) ?_
  exact kk _ _ _ hC1 hI1

set_option maxRecDepth 100000 in
set_option maxHeartbeats 4000000 in
theorem law_take {p : Program} {l : Launch} {e : Env} {s : State} {m : MethodId} {below : List Frame} {meth : Method} {c : Code} {D : va_G} {T : Nat → ClassId} {ad ad2 : Nat → Nat} {A : Nat → Prop} {b L : Nat} {xs : Nat → Int32} (E : EN room_1 46 614819 p s m #[Value.ref b] meth c code 4 ret wsL_law RL D (tyX T) (WL T ad ad2) (alX ad ++ alM ad2) A) (hX : va_X b L xs s s.heap) (hbl : b < s.heap.size) (hbA : ¬ A b) (hL : L ≤ 3584) (hN : ∀ i j, i < 33 → j < 33 → ad i = ad j → i = j) (hM : ∀ i j, i < 13 → j < 13 → ad2 i = ad2 j → i = j) (hdj : ∀ i j, i < 33 → j < 13 → ad i ≠ ad2 j) {a : AB_} {s1 s2 : St_} {i : Int} (hi : 0 ≤ i ∧ i + 7 ≤ (L : Int)) (hC : CI s1 a) (hI : MI s2 a) (kk : ∀ (a1 : AB_) (t1 t2 : St_), CI t1 a1 → MI t2 a1 → XJ p l e room_1 s m #[Value.ref b] below meth c D (WL T ad ad2) A 4 (lw_Z below #[Value.ref b] s) 46 614819 (t1, t2) 916 [(0, .ref b), (1, .ref (ad 0)), (2, .ref (ad2 0)), (3, .int (ii i))] []) : XJ p l e room_1 s m #[Value.ref b] below meth c D (WL T ad ad2) A 4 (lw_Z below #[Value.ref b] s) 46 614819 (s1, s2) 527 [(0, .ref b), (1, .ref (ad 0)), (2, .ref (ad2 0)), (3, .int (ii i))] [] := by
  have k1 := hC.1
  have k2 := hI.1
  have k3 := hC.2.2.2.2.2.2.2.1
  rcases (show (0 ≤ sc xs (i + 1) ∧ sc xs (i + 1) < s1.1 2) ∨ (sc xs (i + 1) < 0 ∨ s1.1 2 ≤ sc xs (i + 1)) by omega) with c9 | c9
  · obtain ⟨r, hr⟩ : ∃ r : Nat, sc xs (i + 1) = (r : Int) := ⟨(sc xs (i + 1)).toNat, by omega⟩
    have hr9 : r < 3 := by omega
    refine x_aload_n (q := 528) E dL_law_527 1 rfl rfl ?_
    refine x_aload_n (q := 529) E dL_law_528 0 rfl rfl ?_
    refine x_iload_n (q := 530) E dL_law_529 3 rfl rfl ?_
    refine x_iconst (q := 531) E dL_law_530 rfl ?_
    refine x_iadd (q := 532) E dL_law_531 rfl ?_
    refine x_sld (q := 533) E hX hbl hbA (by omega) (by omega) (by omega) dL_law_532 rfl ?_
    refine x_ti hr ?_
    refine x_aload_n (q := 534) E dL_law_533 0 rfl rfl ?_
    refine x_iload_n (q := 535) E dL_law_534 3 rfl rfl ?_
    refine x_iconst (q := 536) E dL_law_535 rfl ?_
    refine x_iadd (q := 537) E dL_law_536 rfl ?_
    refine x_sld (q := 538) E hX hbl hbA (by omega) (by omega) (by omega) dL_law_537 rfl ?_
    refine x_aload_n (q := 539) E dL_law_538 0 rfl rfl ?_
    refine x_iload_n (q := 540) E dL_law_539 3 rfl rfl ?_
    refine x_iconst (q := 541) E dL_law_540 rfl ?_
    refine x_iadd (q := 542) E dL_law_541 rfl ?_
    refine x_sld (q := 543) E hX hbl hbA (by omega) (by omega) (by omega) dL_law_542 rfl ?_
    refine x_pLi (q := 546) (n := 3) (As := [.int (ii ((r : Int))), .int (ii (sc xs (i + 2))), .int (ii (sc xs (i + 3)))]) (r := []) E (c_X5_take l D T ad hN s1 r hr9 (sc xs (i + 2)) (sc_b xs (i + 2)) (sc xs (i + 3)) (sc_b xs (i + 3)) (by omega) a hC) gL_law_X5_take rfl rfl rfl (by decide +kernel) ⟨Nat.le_of_ble_eq_true rfl, Nat.le_of_ble_eq_true rfl⟩ 0 rfl rfl rfl rfl (Nat.le_of_ble_eq_true rfl) (fun q hq => E.2.2.2.2.2.2.2.2.2.1 q (List.mem_append_left _ hq)) hdj dL_law_543 rfl (fun z1 t1 q1 => ?_)
    refine x_aload_n (q := 547) E dL_law_546 2 rfl rfl ?_
    refine x_aload_n (q := 548) E dL_law_547 0 rfl rfl ?_
    refine x_iload_n (q := 549) E dL_law_548 3 rfl rfl ?_
    refine x_iconst (q := 550) E dL_law_549 rfl ?_
    refine x_iadd (q := 551) E dL_law_550 rfl ?_
    refine x_sld (q := 552) E hX hbl hbA (by omega) (by omega) (by omega) dL_law_551 rfl ?_
    refine x_ti hr ?_
    refine x_aload_n (q := 553) E dL_law_552 0 rfl rfl ?_
    refine x_iload_n (q := 554) E dL_law_553 3 rfl rfl ?_
    refine x_iconst (q := 555) E dL_law_554 rfl ?_
    refine x_iadd (q := 556) E dL_law_555 rfl ?_
    refine x_sld (q := 557) E hX hbl hbA (by omega) (by omega) (by omega) dL_law_556 rfl ?_
    refine x_aload_n (q := 558) E dL_law_557 0 rfl rfl ?_
    refine x_iload_n (q := 559) E dL_law_558 3 rfl rfl ?_
    refine x_iconst (q := 560) E dL_law_559 rfl ?_
    refine x_iadd (q := 561) E dL_law_560 rfl ?_
    refine x_sld (q := 562) E hX hbl hbA (by omega) (by omega) (by omega) dL_law_561 rfl ?_
    refine x_pRi (q := 565) (n := 3) (As := [.int (ii ((r : Int))), .int (ii (sc xs (i + 2))), .int (ii (sc xs (i + 3)))]) (r := [.int (ii z1)]) E (c_X6_take l D T ad2 hM s2 r hr9 (sc xs (i + 2)) (sc_b xs (i + 2)) (sc xs (i + 3)) (sc_b xs (i + 3)) (by omega) a hI) gL_law_X6_take rfl rfl rfl (by decide +kernel) ⟨Nat.le_of_ble_eq_true rfl, Nat.le_of_ble_eq_true rfl⟩ 0 rfl rfl rfl rfl (Nat.le_of_ble_eq_true rfl) (fun q hq => E.2.2.2.2.2.2.2.2.2.1 q (List.mem_append_right _ hq)) hdj dL_law_562 rfl (fun z2 t2 q2 => ?_)
    obtain ⟨e1, hC1⟩ := q1
    obtain ⟨e2, hI1⟩ := q2
    subst e1
    subst e2
    refine x_same (tgt := 916) E dL_law_565 (by decide) ?_
    exact kk _ _ _ hC1 hI1
  · refine x_aload_n (q := 528) E dL_law_527 1 rfl rfl ?_
    refine x_aload_n (q := 529) E dL_law_528 0 rfl rfl ?_
    refine x_iload_n (q := 530) E dL_law_529 3 rfl rfl ?_
    refine x_iconst (q := 531) E dL_law_530 rfl ?_
    refine x_iadd (q := 532) E dL_law_531 rfl ?_
    refine x_sld (q := 533) E hX hbl hbA (by omega) (by omega) (by omega) dL_law_532 rfl ?_
    refine x_aload_n (q := 534) E dL_law_533 0 rfl rfl ?_
    refine x_iload_n (q := 535) E dL_law_534 3 rfl rfl ?_
    refine x_iconst (q := 536) E dL_law_535 rfl ?_
    refine x_iadd (q := 537) E dL_law_536 rfl ?_
    refine x_sld (q := 538) E hX hbl hbA (by omega) (by omega) (by omega) dL_law_537 rfl ?_
    refine x_aload_n (q := 539) E dL_law_538 0 rfl rfl ?_
    refine x_iload_n (q := 540) E dL_law_539 3 rfl rfl ?_
    refine x_iconst (q := 541) E dL_law_540 rfl ?_
    refine x_iadd (q := 542) E dL_law_541 rfl ?_
    refine x_sld (q := 543) E hX hbl hbA (by omega) (by omega) (by omega) dL_law_542 rfl ?_
    refine x_pLi (q := 546) (n := 3) (As := [.int (ii (sc xs (i + 1))), .int (ii (sc xs (i + 2))), .int (ii (sc xs (i + 3)))]) (r := []) E (c_X5_take_n l D T ad hN s1 (sc xs (i + 1)) (sc_b xs (i + 1)) (sc xs (i + 2)) (sc_b xs (i + 2)) (sc xs (i + 3)) (sc_b xs (i + 3)) (by omega) a hC) gL_law_X5_take rfl rfl rfl (by decide +kernel) ⟨Nat.le_of_ble_eq_true rfl, Nat.le_of_ble_eq_true rfl⟩ 0 rfl rfl rfl rfl (Nat.le_of_ble_eq_true rfl) (fun q hq => E.2.2.2.2.2.2.2.2.2.1 q (List.mem_append_left _ hq)) hdj dL_law_543 rfl (fun z1 t1 q1 => ?_)
    refine x_aload_n (q := 547) E dL_law_546 2 rfl rfl ?_
    refine x_aload_n (q := 548) E dL_law_547 0 rfl rfl ?_
    refine x_iload_n (q := 549) E dL_law_548 3 rfl rfl ?_
    refine x_iconst (q := 550) E dL_law_549 rfl ?_
    refine x_iadd (q := 551) E dL_law_550 rfl ?_
    refine x_sld (q := 552) E hX hbl hbA (by omega) (by omega) (by omega) dL_law_551 rfl ?_
    refine x_aload_n (q := 553) E dL_law_552 0 rfl rfl ?_
    refine x_iload_n (q := 554) E dL_law_553 3 rfl rfl ?_
    refine x_iconst (q := 555) E dL_law_554 rfl ?_
    refine x_iadd (q := 556) E dL_law_555 rfl ?_
    refine x_sld (q := 557) E hX hbl hbA (by omega) (by omega) (by omega) dL_law_556 rfl ?_
    refine x_aload_n (q := 558) E dL_law_557 0 rfl rfl ?_
    refine x_iload_n (q := 559) E dL_law_558 3 rfl rfl ?_
    refine x_iconst (q := 560) E dL_law_559 rfl ?_
    refine x_iadd (q := 561) E dL_law_560 rfl ?_
    refine x_sld (q := 562) E hX hbl hbA (by omega) (by omega) (by omega) dL_law_561 rfl ?_
    refine x_pRi (q := 565) (n := 3) (As := [.int (ii (sc xs (i + 1))), .int (ii (sc xs (i + 2))), .int (ii (sc xs (i + 3)))]) (r := [.int (ii z1)]) E (c_X6_take_n l D T ad2 hM s2 (sc xs (i + 1)) (sc_b xs (i + 1)) (sc xs (i + 2)) (sc_b xs (i + 2)) (sc xs (i + 3)) (sc_b xs (i + 3)) (by omega) a hI) gL_law_X6_take rfl rfl rfl (by decide +kernel) ⟨Nat.le_of_ble_eq_true rfl, Nat.le_of_ble_eq_true rfl⟩ 0 rfl rfl rfl rfl (Nat.le_of_ble_eq_true rfl) (fun q hq => E.2.2.2.2.2.2.2.2.2.1 q (List.mem_append_right _ hq)) hdj dL_law_562 rfl (fun z2 t2 q2 => ?_)
    obtain ⟨e1, hC1⟩ := q1
    obtain ⟨e2, hI1⟩ := q2
    subst e1
    subst e2
    refine x_same (tgt := 916) E dL_law_565 (by decide) ?_
    exact kk _ _ _ hC1 hI1

set_option maxRecDepth 100000 in
set_option maxHeartbeats 4000000 in
theorem law_clear {p : Program} {l : Launch} {e : Env} {s : State} {m : MethodId} {below : List Frame} {meth : Method} {c : Code} {D : va_G} {T : Nat → ClassId} {ad ad2 : Nat → Nat} {A : Nat → Prop} {b L : Nat} {xs : Nat → Int32} (E : EN room_1 46 614819 p s m #[Value.ref b] meth c code 4 ret wsL_law RL D (tyX T) (WL T ad ad2) (alX ad ++ alM ad2) A) (hX : va_X b L xs s s.heap) (hbl : b < s.heap.size) (hbA : ¬ A b) (hL : L ≤ 3584) (hN : ∀ i j, i < 33 → j < 33 → ad i = ad j → i = j) (hM : ∀ i j, i < 13 → j < 13 → ad2 i = ad2 j → i = j) (hdj : ∀ i j, i < 33 → j < 13 → ad i ≠ ad2 j) {a : AB_} {s1 s2 : St_} {i : Int} (hi : 0 ≤ i ∧ i + 7 ≤ (L : Int)) (hC : CI s1 a) (hI : MI s2 a) (kk : ∀ (a1 : AB_) (t1 t2 : St_), CI t1 a1 → MI t2 a1 → XJ p l e room_1 s m #[Value.ref b] below meth c D (WL T ad ad2) A 4 (lw_Z below #[Value.ref b] s) 46 614819 (t1, t2) 916 [(0, .ref b), (1, .ref (ad 0)), (2, .ref (ad2 0)), (3, .int (ii i))] []) : XJ p l e room_1 s m #[Value.ref b] below meth c D (WL T ad ad2) A 4 (lw_Z below #[Value.ref b] s) 46 614819 (s1, s2) 570 [(0, .ref b), (1, .ref (ad 0)), (2, .ref (ad2 0)), (3, .int (ii i))] [] := by
  have k1 := hC.1
  have k2 := hI.1
  refine x_aload_n (q := 571) E dL_law_570 1 rfl rfl ?_
  refine x_pLi (q := 574) (n := 0) (As := []) (r := []) E (c_X5_clear l D T ad hN s1 a hC) gL_law_X5_clear rfl rfl rfl (by decide +kernel) ⟨Nat.le_of_ble_eq_true rfl, Nat.le_of_ble_eq_true rfl⟩ 0 rfl rfl rfl rfl (Nat.le_of_ble_eq_true rfl) (fun q hq => E.2.2.2.2.2.2.2.2.2.1 q (List.mem_append_left _ hq)) hdj dL_law_571 rfl (fun z1 t1 q1 => ?_)
  refine x_aload_n (q := 575) E dL_law_574 2 rfl rfl ?_
  refine x_pRi (q := 578) (n := 0) (As := []) (r := [.int (ii z1)]) E (c_X6_clear l D T ad2 hM s2 a hI) gL_law_X6_clear rfl rfl rfl (by decide +kernel) ⟨Nat.le_of_ble_eq_true rfl, Nat.le_of_ble_eq_true rfl⟩ 0 rfl rfl rfl rfl (Nat.le_of_ble_eq_true rfl) (fun q hq => E.2.2.2.2.2.2.2.2.2.1 q (List.mem_append_right _ hq)) hdj dL_law_575 rfl (fun z2 t2 q2 => ?_)
  obtain ⟨e1, hC1⟩ := q1
  obtain ⟨e2, hI1⟩ := q2
  subst e1
  subst e2
  refine x_same (tgt := 916) E dL_law_578 (by decide) ?_
  exact kk _ _ _ hC1 hI1
