/-! the law's rows: both worlds side by side -/
def WL (T : Nat → ClassId) (ad ad2 : Nat → Nat) (st : St_ × St_) : va_W := XW T ad st.1 ++ MW T ad2 st.2
theorem va_P_l {D : va_G} {w1 w2 : va_W} {H : Heap} (h : va_P D vwCl (w1 ++ w2) H) : va_P D vwCl w1 H := fun k q hk => h k q (by rw [List.getElem?_append_left (List.getElem?_eq_some_iff.mp hk).1]; exact hk)
theorem va_P_r {D : va_G} {w1 w2 : va_W} {H : Heap} (h : va_P D vwCl (w1 ++ w2) H) : va_P D vwCl w2 H := fun k q hk => h (w1.length + k) q (by rw [List.getElem?_append_right (by omega), show w1.length + k - w1.length = k from by omega]; exact hk)
theorem XW_in {T : Nat → ClassId} {ad : Nat → Nat} {st : St_} {k : Nat} {x : Nat × va_E} (h : (XW T ad st)[k]? = some x) : ∃ i, i < 33 ∧ x.1 = ad i := ⟨k, XW_at T ad st h⟩
theorem MW_in {T : Nat → ClassId} {ad : Nat → Nat} {st : St_} {k : Nat} {x : Nat × va_E} (h : (MW T ad st)[k]? = some x) : ∃ i, i < 13 ∧ x.1 = ad i := ⟨k, MW_at T ad st h⟩
theorem alX_in {ad : Nat → Nat} {q : Nat} (h : q ∈ alX ad) : ∃ i, i < 33 ∧ q = ad i := by
  obtain ⟨i, h1, h2⟩ := List.mem_map.mp h
  exact ⟨i, List.mem_range.mp h1, h2.symm⟩
theorem alM_in {ad : Nat → Nat} {q : Nat} (h : q ∈ alM ad) : ∃ i, i < 13 ∧ q = ad i := by
  obtain ⟨i, h1, h2⟩ := List.mem_map.mp h
  exact ⟨i, List.mem_range.mp h1, h2.symm⟩
def sc (xs : Nat → Int32) (z : Int) : Int := (xs z.toNat).toInt
theorem sc_b (xs : Nat → Int32) (z : Int) : -2147483648 ≤ sc xs z ∧ sc xs z < 2147483648 := by
  have h1 := Int32.le_toInt (xs z.toNat)
  have h2 := Int32.toInt_lt (xs z.toNat)
  unfold sc
  omega
def iw (a b : Int) : Int := (ii a &&& ii b).toInt
theorem iw_b (a b : Int) : -2147483648 ≤ iw a b ∧ iw a b < 2147483648 := by
  have h1 := Int32.le_toInt (ii a &&& ii b)
  have h2 := Int32.toInt_lt (ii a &&& ii b)
  unfold iw
  omega
section LR
variable {p : Program} {l : Launch} {e : Env} {R : Room} {s : State} {m : MethodId} {args : Array Value} {below : List Frame} {meth : Method} {c : Code} {cc : ByteArray} {nL : Nat} {ret : Option FieldType} {Ts : List Cond} {own : String} {D : va_G} {T : Nat → ClassId} {ad ad2 : Nat → Nat} {al : List Nat} {A : Nat → Prop} {Q : State → Prop} {ce sl : Nat} {st : St_ × St_} {pc q : Nat} {lv lv' : List (Nat × Value)} {r stk : List Value}
theorem x_slen (E : EN R ce sl p s m args meth c cc nL ret Ts own D (tyX T) (WL T ad ad2) al A) {b L : Nat} {xs : Nat → Int32} (hX : va_X b L xs s s.heap) (hbl : b < s.heap.size) (hbA : ¬ A b) (hdg : decode cc pc = .ok (.arraylength, 1)) (hq : pc + 1 = q) (kk : XJ p l e R s m args below meth c D (WL T ad ad2) A nL Q ce sl st q lv (.int (ii (L : Int)) :: r)) : XJ p l e R s m args below meth c D (WL T ad ad2) A nL Q ce sl st pc lv (.ref b :: r) := by
  subst hq
  intro H locs ls hP hS hl
  refine va_slen E.1 E.2.1 hX hbl hbA hS hdg ?_
  rw [show Int32.ofNat L = ii (L : Int) from ii_nI L]
  exact kk H locs ls hP hS hl
theorem x_sld (E : EN R ce sl p s m args meth c cc nL ret Ts own D (tyX T) (WL T ad ad2) al A) {b L : Nat} {xs : Nat → Int32} (hX : va_X b L xs s s.heap) (hbl : b < s.heap.size) (hbA : ¬ A b) {z : Int} (h0 : 0 ≤ z) (h1 : z < (L : Int)) (hL : L < 2147483648) (hdg : decode cc pc = .ok (.iaload, 1)) (hq : pc + 1 = q) (kk : XJ p l e R s m args below meth c D (WL T ad ad2) A nL Q ce sl st q lv (.int (ii (sc xs z)) :: r)) : XJ p l e R s m args below meth c D (WL T ad ad2) A nL Q ce sl st pc lv (.int (ii z) :: .ref b :: r) := by
  subst hq
  intro H locs ls hP hS hl
  refine va_sld E.1 E.2.1 hX hbl hbA hS (ii_in h0 h1 hL) hdg ?_
  rw [ii_cl h0 (by omega), show xs z.toNat = ii (sc xs z) from (ii_self _).symm]
  exact kk H locs ls hP hS hl
theorem x_iand (E : EN R ce sl p s m args meth c cc nL ret Ts own D (tyX T) (WL T ad ad2) al A) {a b : Int} (hdg : decode cc pc = .ok (.iand, 1)) (hq : pc + 1 = q) (kk : XJ p l e R s m args below meth c D (WL T ad ad2) A nL Q ce sl st q lv (.int (ii (iw a b)) :: r)) : XJ p l e R s m args below meth c D (WL T ad ad2) A nL Q ce sl st pc lv (.int (ii b) :: .int (ii a) :: r) := by
  subst hq
  intro H locs ls hP hS hl
  refine lv_iand E.1 E.2.1 hdg ?_
  rw [show ii a &&& ii b = ii (iw a b) from (ii_self _).symm]
  exact kk H locs ls hP hS hl
theorem x_tsIn (E : EN R ce sl p s m args meth c cc nL ret Ts own D (tyX T) (WL T ad ad2) al A) {z dflt lo hi off : Int} {offs : Array Int} {len tgt : Nat} (hz : -2147483648 ≤ z ∧ z < 2147483648) (hdg : decode cc pc = .ok (.tableswitch dflt lo hi offs, len)) (h1 : ¬ z < lo) (h2 : ¬ hi < z) (ho : offs[(z - lo).toNat]? = some off) (ht : (pc : Int) + off = (tgt : Int)) (kk : XJ p l e R s m args below meth c D (WL T ad ad2) A nL Q ce sl st tgt lv r) : XJ p l e R s m args below meth c D (WL T ad ad2) A nL Q ce sl st pc lv (.int (ii z) :: r) := by
  intro H locs ls hP hS hl
  exact lv_tableIn E.1 E.2.1 hdg (by rw [ii_toInt hz]; exact h1) (by rw [ii_toInt hz]; exact h2) (by rw [ii_toInt hz]; exact ho) ht (kk H locs ls hP hS hl)
theorem x_tsOut (E : EN R ce sl p s m args meth c cc nL ret Ts own D (tyX T) (WL T ad ad2) al A) {z dflt lo hi : Int} {offs : Array Int} {len tgt : Nat} (hz : -2147483648 ≤ z ∧ z < 2147483648) (hdg : decode cc pc = .ok (.tableswitch dflt lo hi offs, len)) (h : z < lo ∨ hi < z) (ht : (pc : Int) + dflt = (tgt : Int)) (kk : XJ p l e R s m args below meth c D (WL T ad ad2) A nL Q ce sl st tgt lv r) : XJ p l e R s m args below meth c D (WL T ad ad2) A nL Q ce sl st pc lv (.int (ii z) :: r) := by
  intro H locs ls hP hS hl
  exact lv_tableOut E.1 E.2.1 hdg (by rw [ii_toInt hz]; exact h) ht (kk H locs ls hP hS hl)
theorem x_same (E : EN R ce sl p s m args meth c cc nL ret Ts own D (tyX T) (WL T ad ad2) al A) {v : Int32} {off : Int} {tgt : Nat} (hdg : decode cc pc = .ok (.if_icmp .eq off, 3)) (ht : (pc : Int) + off = (tgt : Int)) (kk : XJ p l e R s m args below meth c D (WL T ad ad2) A nL Q ce sl st tgt lv r) : XJ p l e R s m args below meth c D (WL T ad ad2) A nL Q ce sl st pc lv (.int v :: .int v :: r) := by
  intro H locs ls hP hS hl
  exact lv_icmp_eq E.1 E.2.1 hdg ht (fun _ => kk H locs ls hP hS hl) (fun h => absurd rfl h)
theorem x_lsame (E : EN R ce sl p s m args meth c cc nL ret Ts own D (tyX T) (WL T ad ad2) al A) {v : Int64} (hdg : decode cc pc = .ok (.lcmp, 1)) (hq : pc + 1 = q) (kk : XJ p l e R s m args below meth c D (WL T ad ad2) A nL Q ce sl st q lv (.int 0 :: r)) : XJ p l e R s m args below meth c D (WL T ad ad2) A nL Q ce sl st pc lv (.long v :: .long v :: r) := by
  subst hq
  intro H locs ls hP hS hl
  refine W.lcmp E.1 E.2.1 hdg ?_
  rw [show lg_cmp v v = 0 from by unfold lg_cmp; rw [if_neg (fun h => absurd h Int64.lt_irrefl), if_pos rfl]]
  exact kk H locs ls hP hS hl
theorem x_z0 (E : EN R ce sl p s m args meth c cc nL ret Ts own D (tyX T) (WL T ad ad2) al A) {off : Int} {tgt : Nat} (hdg : decode cc pc = .ok (.ifCond .eq off, 3)) (ht : (pc : Int) + off = (tgt : Int)) (kk : XJ p l e R s m args below meth c D (WL T ad ad2) A nL Q ce sl st tgt lv r) : XJ p l e R s m args below meth c D (WL T ad ad2) A nL Q ce sl st pc lv (.int 0 :: r) := by
  intro H locs ls hP hS hl
  exact lv_if_eq E.1 E.2.1 hdg ht (fun _ => kk H locs ls hP hS hl) (fun h => absurd rfl h)
theorem x_pLi (E : EN R ce sl p s m args meth c cc nL ret Ts own D (tyX T) (WL T ad ad2) al A) {y : MethodName} {ws ws' : List Cond} {rm : Room} {As : List Value} {ix n maxL : Nat} {bytes : ByteArray} {rt : Option FieldType} {post : Int → St_ → Prop} {b : Nat} {C : String} {F : u_T} {N ci : Nat} {fs : List Value} (hM : CXi l y ws rm (.ref b :: As) D (tyX T) (XW T ad) (alX ad) st.1 post) (hT : GoodIn Ts (wsV own ix C y ws)) (hw : ws = Cond.code y bytes maxL rt :: ws') (hrc : rm.cells = 0) (hrs : rm.slots = 0) (hd : y.cls = C ∧ y.cls ≠ "java/lang/invoke/MethodHandle" ∧ y.cls ≠ "java/lang/invoke/VarHandle" ∧ (parseMethodDescriptor y.desc).map (fun d => d.parameters.length) = some n) (hR : rm.frames + 1 ≤ R.frames ∧ 8 + (maxL + 11) + rm.locals ≤ R.locals) (q0 : Nat) (hrecv : (XW T ad st.1)[q0]? = some (b, .inr (ci, fs))) (hc : vwCl[ci]? = some (C, F, N)) (hn : As.length = n) (hst : stk = As.reverse ++ .ref b :: r) (hroom : (r.map fun v => v.category).sum ≤ 8) (halA : ∀ q ∈ alX ad, A q) (hdj : ∀ i j, i < 33 → j < 13 → ad i ≠ ad2 j) (hdg : decode cc pc = .ok (.invokevirtual ix, 3)) (hq : pc + 3 = q) (kk : ∀ (z : Int) (st1 : St_), post z st1 → XJ p l e R s m args below meth c D (WL T ad ad2) A nL Q ce sl (st1, st.2) q lv (.int (ii z) :: r)) : XJ p l e R s m args below meth c D (WL T ad ad2) A nL Q ce sl st pc lv stk := by
  subst hq
  intro H locs ls hP hS hl
  have hPm := va_P_l hP
  have hPo := va_P_r hP
  refine va_calli (va_runV (As := As) (rest := r) (Ts := Ts) (own := own) ⟨E.1, E.2.1, E.2.2.1, E.2.2.2.2.2.1, E.2.2.2.2.2.2.1⟩ (hM H.size) (cwV n E.2.2.2.2.2.2.1 hT hw hrc hrs hd hR) ⟨kX_blind _ _ _ _ _, va_recv E.2.2.2.2.2.2.2.1 hPm hc hrecv, fun U hU hW => ⟨rfl, by rw [hU], by rw [hU]; exact hPm, va_K.moved hW.alike E.2.2.2.2.2.2.2.1, NW.warm hW E.2.2.2.2.2.2.2.2.2.2.2.2.2⟩⟩ rfl hn hl.1 hst (lv_room hroom) hdg ⟨by rw [Nat.add_zero]; exact E.2.2.2.2.2.2.2.2.2.2.2.1, by rw [Nat.add_zero]; exact E.2.2.2.2.2.2.2.2.2.2.2.2.1⟩) hS (fun q hq h => h.elim (halA q) (fun z => absurd z (Nat.not_le.mpr hq))) (fun q h => h.elim (halA q) (fun z => E.2.2.2.2.2.2.2.2.2.2.1 q (Nat.le_trans hS.1 z))) (fun r9 u t H1 locs1 ht hvm hw' hB hz1 hk1 hS1 => ?_)
  obtain ⟨z, st1⟩ := u
  obtain ⟨rfl, hp⟩ := hw'
  rw [ht] at hB
  have hO := hPo.kept (H1 := H1) (fun k x hx => hk1 x.1 (hPo k x hx).lt (fun h => h.elim (fun hq => by
    obtain ⟨j, hj, e1⟩ := MW_in hx
    obtain ⟨i, hi, e2⟩ := alX_in hq
    exact hdj i j hi hj (e2.symm.trans e1)) (fun z => absurd z (Nat.not_le.mpr (hPo k x hx).lt))))
  exact kk z st1 hp H1 locs1 ls (va_P.app hB hO) hS1 hl
theorem x_pRi (E : EN R ce sl p s m args meth c cc nL ret Ts own D (tyX T) (WL T ad ad2) al A) {y : MethodName} {ws ws' : List Cond} {rm : Room} {As : List Value} {ix n maxL : Nat} {bytes : ByteArray} {rt : Option FieldType} {post : Int → St_ → Prop} {b : Nat} {C : String} {F : u_T} {N ci : Nat} {fs : List Value} (hM : CXi l y ws rm (.ref b :: As) D (tyX T) (MW T ad2) (alM ad2) st.2 post) (hT : GoodIn Ts (wsV own ix C y ws)) (hw : ws = Cond.code y bytes maxL rt :: ws') (hrc : rm.cells = 0) (hrs : rm.slots = 0) (hd : y.cls = C ∧ y.cls ≠ "java/lang/invoke/MethodHandle" ∧ y.cls ≠ "java/lang/invoke/VarHandle" ∧ (parseMethodDescriptor y.desc).map (fun d => d.parameters.length) = some n) (hR : rm.frames + 1 ≤ R.frames ∧ 8 + (maxL + 11) + rm.locals ≤ R.locals) (q0 : Nat) (hrecv : (MW T ad2 st.2)[q0]? = some (b, .inr (ci, fs))) (hc : vwCl[ci]? = some (C, F, N)) (hn : As.length = n) (hst : stk = As.reverse ++ .ref b :: r) (hroom : (r.map fun v => v.category).sum ≤ 8) (halA : ∀ q ∈ alM ad2, A q) (hdj : ∀ i j, i < 33 → j < 13 → ad i ≠ ad2 j) (hdg : decode cc pc = .ok (.invokevirtual ix, 3)) (hq : pc + 3 = q) (kk : ∀ (z : Int) (st1 : St_), post z st1 → XJ p l e R s m args below meth c D (WL T ad ad2) A nL Q ce sl (st.1, st1) q lv (.int (ii z) :: r)) : XJ p l e R s m args below meth c D (WL T ad ad2) A nL Q ce sl st pc lv stk := by
  subst hq
  intro H locs ls hP hS hl
  have hPm := va_P_r hP
  have hPo := va_P_l hP
  refine va_calli (va_runV (As := As) (rest := r) (Ts := Ts) (own := own) ⟨E.1, E.2.1, E.2.2.1, E.2.2.2.2.2.1, E.2.2.2.2.2.2.1⟩ (hM H.size) (cwV n E.2.2.2.2.2.2.1 hT hw hrc hrs hd hR) ⟨kX_blind _ _ _ _ _, va_recv E.2.2.2.2.2.2.2.1 hPm hc hrecv, fun U hU hW => ⟨rfl, by rw [hU], by rw [hU]; exact hPm, va_K.moved hW.alike E.2.2.2.2.2.2.2.1, NW.warm hW E.2.2.2.2.2.2.2.2.2.2.2.2.2⟩⟩ rfl hn hl.1 hst (lv_room hroom) hdg ⟨by rw [Nat.add_zero]; exact E.2.2.2.2.2.2.2.2.2.2.2.1, by rw [Nat.add_zero]; exact E.2.2.2.2.2.2.2.2.2.2.2.2.1⟩) hS (fun q hq h => h.elim (halA q) (fun z => absurd z (Nat.not_le.mpr hq))) (fun q h => h.elim (halA q) (fun z => E.2.2.2.2.2.2.2.2.2.2.1 q (Nat.le_trans hS.1 z))) (fun r9 u t H1 locs1 ht hvm hw' hB hz1 hk1 hS1 => ?_)
  obtain ⟨z, st1⟩ := u
  obtain ⟨rfl, hp⟩ := hw'
  rw [ht] at hB
  have hO := hPo.kept (H1 := H1) (fun k x hx => hk1 x.1 (hPo k x hx).lt (fun h => h.elim (fun hq => by
    obtain ⟨j, hj, e1⟩ := XW_in hx
    obtain ⟨i, hi, e2⟩ := alM_in hq
    exact hdj j i hj hi (e1.symm.trans e2)) (fun z => absurd z (Nat.not_le.mpr (hPo k x hx).lt))))
  exact kk z st1 hp H1 locs1 ls (va_P.app hO hB) hS1 hl
theorem x_pLl (E : EN R ce sl p s m args meth c cc nL ret Ts own D (tyX T) (WL T ad ad2) al A) {y : MethodName} {ws ws' : List Cond} {rm : Room} {As : List Value} {ix n maxL : Nat} {bytes : ByteArray} {rt : Option FieldType} {post : Int → St_ → Prop} {b : Nat} {C : String} {F : u_T} {N ci : Nat} {fs : List Value} (hM : CXl l y ws rm (.ref b :: As) D (tyX T) (XW T ad) (alX ad) st.1 post) (hT : GoodIn Ts (wsV own ix C y ws)) (hw : ws = Cond.code y bytes maxL rt :: ws') (hrc : rm.cells = 0) (hrs : rm.slots = 0) (hd : y.cls = C ∧ y.cls ≠ "java/lang/invoke/MethodHandle" ∧ y.cls ≠ "java/lang/invoke/VarHandle" ∧ (parseMethodDescriptor y.desc).map (fun d => d.parameters.length) = some n) (hR : rm.frames + 1 ≤ R.frames ∧ 8 + (maxL + 11) + rm.locals ≤ R.locals) (q0 : Nat) (hrecv : (XW T ad st.1)[q0]? = some (b, .inr (ci, fs))) (hc : vwCl[ci]? = some (C, F, N)) (hn : As.length = n) (hst : stk = As.reverse ++ .ref b :: r) (hroom : (r.map fun v => v.category).sum ≤ 8) (halA : ∀ q ∈ alX ad, A q) (hdj : ∀ i j, i < 33 → j < 13 → ad i ≠ ad2 j) (hdg : decode cc pc = .ok (.invokevirtual ix, 3)) (hq : pc + 3 = q) (kk : ∀ (z : Int) (st1 : St_), post z st1 → XJ p l e R s m args below meth c D (WL T ad ad2) A nL Q ce sl (st1, st.2) q lv (.long (jj z) :: r)) : XJ p l e R s m args below meth c D (WL T ad ad2) A nL Q ce sl st pc lv stk := by
  subst hq
  intro H locs ls hP hS hl
  have hPm := va_P_l hP
  have hPo := va_P_r hP
  refine va_calll (va_runV (As := As) (rest := r) (Ts := Ts) (own := own) ⟨E.1, E.2.1, E.2.2.1, E.2.2.2.2.2.1, E.2.2.2.2.2.2.1⟩ (hM H.size) (cwV n E.2.2.2.2.2.2.1 hT hw hrc hrs hd hR) ⟨kX_blind _ _ _ _ _, va_recv E.2.2.2.2.2.2.2.1 hPm hc hrecv, fun U hU hW => ⟨rfl, by rw [hU], by rw [hU]; exact hPm, va_K.moved hW.alike E.2.2.2.2.2.2.2.1, NW.warm hW E.2.2.2.2.2.2.2.2.2.2.2.2.2⟩⟩ rfl hn hl.1 hst (lv_room hroom) hdg ⟨by rw [Nat.add_zero]; exact E.2.2.2.2.2.2.2.2.2.2.2.1, by rw [Nat.add_zero]; exact E.2.2.2.2.2.2.2.2.2.2.2.2.1⟩) hS (fun q hq h => h.elim (halA q) (fun z => absurd z (Nat.not_le.mpr hq))) (fun q h => h.elim (halA q) (fun z => E.2.2.2.2.2.2.2.2.2.2.1 q (Nat.le_trans hS.1 z))) (fun r9 u t H1 locs1 ht hvm hw' hB hz1 hk1 hS1 => ?_)
  obtain ⟨z, st1⟩ := u
  obtain ⟨rfl, hp⟩ := hw'
  rw [ht] at hB
  have hO := hPo.kept (H1 := H1) (fun k x hx => hk1 x.1 (hPo k x hx).lt (fun h => h.elim (fun hq => by
    obtain ⟨j, hj, e1⟩ := MW_in hx
    obtain ⟨i, hi, e2⟩ := alX_in hq
    exact hdj i j hi hj (e2.symm.trans e1)) (fun z => absurd z (Nat.not_le.mpr (hPo k x hx).lt))))
  exact kk z st1 hp H1 locs1 ls (va_P.app hB hO) hS1 hl
theorem x_pRl (E : EN R ce sl p s m args meth c cc nL ret Ts own D (tyX T) (WL T ad ad2) al A) {y : MethodName} {ws ws' : List Cond} {rm : Room} {As : List Value} {ix n maxL : Nat} {bytes : ByteArray} {rt : Option FieldType} {post : Int → St_ → Prop} {b : Nat} {C : String} {F : u_T} {N ci : Nat} {fs : List Value} (hM : CXl l y ws rm (.ref b :: As) D (tyX T) (MW T ad2) (alM ad2) st.2 post) (hT : GoodIn Ts (wsV own ix C y ws)) (hw : ws = Cond.code y bytes maxL rt :: ws') (hrc : rm.cells = 0) (hrs : rm.slots = 0) (hd : y.cls = C ∧ y.cls ≠ "java/lang/invoke/MethodHandle" ∧ y.cls ≠ "java/lang/invoke/VarHandle" ∧ (parseMethodDescriptor y.desc).map (fun d => d.parameters.length) = some n) (hR : rm.frames + 1 ≤ R.frames ∧ 8 + (maxL + 11) + rm.locals ≤ R.locals) (q0 : Nat) (hrecv : (MW T ad2 st.2)[q0]? = some (b, .inr (ci, fs))) (hc : vwCl[ci]? = some (C, F, N)) (hn : As.length = n) (hst : stk = As.reverse ++ .ref b :: r) (hroom : (r.map fun v => v.category).sum ≤ 8) (halA : ∀ q ∈ alM ad2, A q) (hdj : ∀ i j, i < 33 → j < 13 → ad i ≠ ad2 j) (hdg : decode cc pc = .ok (.invokevirtual ix, 3)) (hq : pc + 3 = q) (kk : ∀ (z : Int) (st1 : St_), post z st1 → XJ p l e R s m args below meth c D (WL T ad ad2) A nL Q ce sl (st.1, st1) q lv (.long (jj z) :: r)) : XJ p l e R s m args below meth c D (WL T ad ad2) A nL Q ce sl st pc lv stk := by
  subst hq
  intro H locs ls hP hS hl
  have hPm := va_P_r hP
  have hPo := va_P_l hP
  refine va_calll (va_runV (As := As) (rest := r) (Ts := Ts) (own := own) ⟨E.1, E.2.1, E.2.2.1, E.2.2.2.2.2.1, E.2.2.2.2.2.2.1⟩ (hM H.size) (cwV n E.2.2.2.2.2.2.1 hT hw hrc hrs hd hR) ⟨kX_blind _ _ _ _ _, va_recv E.2.2.2.2.2.2.2.1 hPm hc hrecv, fun U hU hW => ⟨rfl, by rw [hU], by rw [hU]; exact hPm, va_K.moved hW.alike E.2.2.2.2.2.2.2.1, NW.warm hW E.2.2.2.2.2.2.2.2.2.2.2.2.2⟩⟩ rfl hn hl.1 hst (lv_room hroom) hdg ⟨by rw [Nat.add_zero]; exact E.2.2.2.2.2.2.2.2.2.2.2.1, by rw [Nat.add_zero]; exact E.2.2.2.2.2.2.2.2.2.2.2.2.1⟩) hS (fun q hq h => h.elim (halA q) (fun z => absurd z (Nat.not_le.mpr hq))) (fun q h => h.elim (halA q) (fun z => E.2.2.2.2.2.2.2.2.2.2.1 q (Nat.le_trans hS.1 z))) (fun r9 u t H1 locs1 ht hvm hw' hB hz1 hk1 hS1 => ?_)
  obtain ⟨z, st1⟩ := u
  obtain ⟨rfl, hp⟩ := hw'
  rw [ht] at hB
  have hO := hPo.kept (H1 := H1) (fun k x hx => hk1 x.1 (hPo k x hx).lt (fun h => h.elim (fun hq => by
    obtain ⟨j, hj, e1⟩ := XW_in hx
    obtain ⟨i, hi, e2⟩ := alM_in hq
    exact hdj j i hj hi (e1.symm.trans e2)) (fun z => absurd z (Nat.not_le.mpr (hPo k x hx).lt))))
  exact kk z st1 hp H1 locs1 ls (va_P.app hO hB) hS1 hl
end LR
