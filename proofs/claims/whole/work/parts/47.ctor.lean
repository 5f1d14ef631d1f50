/-! constructors: worlds that grow -/
def KN (D : va_G) (T : Nat → ClassId) (U : State) : Prop := va_K D vwCl (tyX T) U ∧ NW U ∧ va_AO "SelfRows$Alphabet" U ∧ va_AO "SelfRows$Row" U
theorem KN.warm {D : va_G} {T : Nat → ClassId} {s U : State} (hW : s.WarmedH U.vm) (h : KN D T s) : KN D T U := ⟨va_K.moved hW.alike h.1, NW.warm hW h.2.1, h.2.2.1.moved hW.alike, h.2.2.2.moved hW.alike⟩
/-- a constructor's contract: its object is at h0, what it makes goes behind -/
def CN (l : Launch) (y : MethodName) (ws : List Cond) (rm : Room) (h0 : Nat) (D : va_G) (T : Nat → ClassId) (wd0 : va_W) (mc ms : Nat) (post : va_W → Prop) : Prop :=
  ∀ sz : Nat, Met l y ws rm (va_Pc [.ref h0] (fun U => U.heap.size = sz ∧ va_P D vwCl wd0 U.heap ∧ KN D T U ∧ va_D (fun _ => True) wd0)) (va_Qv (fun u : va_W => post u) (fun u t => va_P D vwCl u t.heap ∧ va_D (va_A wd0 sz) u) (va_A wd0 sz)) mc ms (va_A wd0 sz)
def EY (R : Room) (p : Program) (s : State) (m : MethodId) (args : Array Value) (meth : Method) (c : Code) (cc : ByteArray) (nL : Nat) (Ts : List Cond) (own : String) (D : va_G) (T : Nat → ClassId) (A : Nat → Prop) : Prop :=
  p.tables.exec = Jvm.exec ∧ c.code = cc ∧ c.maxLocals = nL ∧ True ∧ meth.locks = false ∧ s.vm.findClass own = some m.cls ∧ (∀ w ∈ Ts, w.before args s = true) ∧ KN D T s ∧ (∀ q : Nat, s.heap.size ≤ q → A q) ∧ (own ≠ "SelfRowsLaw" → meth.name = "<init>")
def YJ (p : Program) (l : Launch) (e : Env) (R : Room) (s : State) (m : MethodId) (args : Array Value) (below : List Frame) (meth : Method) (c : Code) (D : va_G) (A : Nat → Prop) (nL : Nat) (Q : State → Prop) (ce sl : Nat) (ws : va_W) (pc : Nat) (lv : List (Nat × Value)) (stk : List Value) : Prop :=
  ∀ (H : Heap) (locs : List Loc) (ls : Array Slot), va_P D vwCl ws H → va_D A ws → va_S A s.heap H locs → lv_has ls nL lv → W p l e R s m args below meth c H locs ce sl Q (F0 m pc ls stk)
theorem KN.blind (h0 : Nat) (D : va_G) (T : Nat → ClassId) (wd0 : va_W) (sz : Nat) : FrameBlind (va_Pc [.ref h0] (fun U => U.heap.size = sz ∧ va_P D vwCl wd0 U.heap ∧ KN D T U ∧ va_D (fun _ => True) wd0)) :=
  fun a U g mk q => ⟨q.1, q.2.1, q.2.2.1, ⟨va_K.moved (u := U) (U := U.calling g mk a) (Vm.Alike.refl U.vm) q.2.2.2.1.1, NW.same rfl q.2.2.2.1.2.1, va_AO.moved (u := U) (U := U.calling g mk a) (Vm.Alike.refl U.vm) q.2.2.2.1.2.2.1, va_AO.moved (u := U) (U := U.calling g mk a) (Vm.Alike.refl U.vm) q.2.2.2.1.2.2.2⟩, q.2.2.2.2⟩
theorem CN.mk {l : Launch} {y : MethodName} {ws ws' : List Cond} {rm : Room} {h0 : Nat} {D : va_G} {T : Nat → ClassId} {wd0 : va_W} {mc ms : Nat} {post : va_W → Prop} {cc : ByteArray} {nL : Nat} (hy : plainName y.cls = true) (hyn : y.name = "<init>") (hw : ws = Cond.code y cc nL none :: ws') (hlen : (lg_sl [Value.ref h0]).length ≤ nL)
    (body : ∀ (p : Program) (e : Env) (s : State) (m : MethodId) (args : Array Value) (below : List Frame) (meth : Method) (c : Code) (A : Nat → Prop) (Q : State → Prop), EY (headSpec ws rm).room p s m args meth c cc nL ws y.cls D T A → (∀ (ce sl : Nat) (u : va_W) (pc : Nat) (lv : List (Nat × Value)), ce ≤ mc → sl ≤ ms → decode cc pc = .ok (.return_, 1) → post u → YJ p l e (headSpec ws rm).room s m args below meth c D A nL Q ce sl u pc lv []) → YJ p l e (headSpec ws rm).room s m args below meth c D A nL Q 0 0 wd0 0 [(0, .ref h0)] []) : CN l y ws rm h0 D T wd0 mc ms post := by
  intro sz
  refine Met.ofW (cc := cc) (maxL := nL) (ret := none) hy hw ?_
  intro p e s m args below meth c s₁ B hml hv
  obtain ⟨rfl, hsz, hP, hK, hD0⟩ := hv
  subst hsz
  have hD := hD0.self (sz := s.heap.size)
  have hl := lv_entry ([.ref h0]) (n := nL) hlen
  rw [lg_entry_eq]
  have hin := (name_of_methodNamed B.named B.method).1
  refine body p e s m _ below meth c (va_A wd0 s.heap.size) _ ⟨B.exec, B.bytes, hml, trivial, B.notSynchronized, findClass_of_methodNamed B.named, atoms_spec (ws := ws) B.pre, hK, fun q h => Or.inr h, fun _ => hin.trans hyn⟩ ?_ s.heap [] _ hP hD va_S.rf hl
  intro ce sl u pc lv hce hsl hdg hp H locs ls hP hD hS hl
  refine W.widen (k := mc) (n := ms) hce hsl ?_
  exact W.vret B.exec B.bytes B.returns (fun t ht hW => ⟨⟨u, rfl, hp, by rw [ht]; exact hP, hD⟩, hS.F ht⟩) hS.2.2 hdg B.notSynchronized
theorem T_uni {D : va_G} {T : Nat → ClassId} {s : State} {cA : ClassId} {k : Nat} (h : va_K D vwCl (tyX T) s) (hk : k < 5) : ∀ ty, (tyX T)[k]? = some (T k, ty) → va_K D vwCl (tyX T ++ [(cA, ty)]) s → cA = T k := by
  intro ty ht h2
  have a1 := (h.2 k _ ht).2
  have a2 := (h2.2 5 _ rfl).2
  rcases (show k = 0 ∨ k = 1 ∨ k = 2 ∨ k = 3 ∨ k = 4 by omega) with e | e | e | e | e <;> subst e <;> cases ht
  · exact Option.some.inj ((show s.vm.findClass ("[" ++ FieldType.int.toString) = some cA from a2).symm.trans a1)
  · exact Option.some.inj ((show s.vm.findClass ("[" ++ FieldType.byte.toString) = some cA from a2).symm.trans a1)
  · exact Option.some.inj ((show s.vm.findClass ("[" ++ FieldType.long.toString) = some cA from a2).symm.trans a1)
  · obtain ⟨_, _, _, _, _, b1⟩ := a1
    obtain ⟨_, _, _, _, _, b2⟩ := a2
    exact Option.some.inj (b2.symm.trans b1)
  · obtain ⟨_, _, _, _, _, b1⟩ := a1
    obtain ⟨_, _, _, _, _, b2⟩ := a2
    exact Option.some.inj (b2.symm.trans b1)
theorem arrV_c {cA : ClassId} {n : Nat} {f g : Nat → Value} (h : ∀ k, k < n → f k = g k) : arrV cA n f = arrV cA n g := by
  unfold arrV
  rw [show (fun j : Fin n => f j.val) = (fun j : Fin n => g j.val) from funext fun j => h j.val j.isLt]
theorem va_P_set {D : va_G} {ws : va_W} {H : Heap} (h : va_P D vwCl ws H) {i : Nat} {x : Nat × va_E} (hx : va_at D vwCl x H) : va_P D vwCl (ws.set i x) H := by
  intro k q hk
  by_cases hi : i = k
  · subst hi
    rw [List.getElem?_set] at hk
    simp only [reduceIte] at hk
    split at hk
    · cases hk; exact hx
    · cases hk
  · rw [List.getElem?_set_ne hi] at hk
    exact h k q hk
theorem va_D_set {A : Nat → Prop} {ws : va_W} (h : va_D A ws) {i a : Nat} {x y : va_E} (hx : ws[i]? = some (a, x)) : va_D A (ws.set i (a, y)) := by
  have h1 : ∀ (k : Nat) (q : Nat × va_E), (ws.set i (a, y))[k]? = some q → ∃ z, ws[k]? = some (q.1, z) := by
    intro k q hk
    by_cases hi : i = k
    · subst hi
      rw [List.getElem?_set] at hk
      simp only [reduceIte] at hk
      split at hk
      · cases hk; exact ⟨x, hx⟩
      · cases hk
    · rw [List.getElem?_set_ne hi] at hk
      exact ⟨q.2, hk⟩
  refine ⟨fun i2 j2 p q hp hq e => ?_, fun k q hq => ?_⟩
  · obtain ⟨z1, e1⟩ := h1 i2 p hp
    obtain ⟨z2, e2⟩ := h1 j2 q hq
    exact h.1 i2 j2 _ _ e1 e2 e
  · obtain ⟨z, e⟩ := h1 k q hq
    exact h.2 k (q.1, z) e
section YR
variable {p : Program} {l : Launch} {e : Env} {R : Room} {s : State} {m : MethodId} {args : Array Value} {below : List Frame} {meth : Method} {c : Code} {cc : ByteArray} {nL : Nat} {Ts : List Cond} {own : String} {D : va_G} {T : Nat → ClassId} {A : Nat → Prop} {Q : State → Prop} {ce sl : Nat} {ws : va_W} {pc q : Nat} {lv lv' : List (Nat × Value)} {r stk : List Value}
theorem y_iconst (E : EY R p s m args meth c cc nL Ts own D T A) {n : Int} (hdg : decode cc pc = .ok (.iconst n, 1)) (hq : pc + 1 = q) (kk : YJ p l e R s m args below meth c D A nL Q ce sl ws q lv (.int (ii n) :: r)) : YJ p l e R s m args below meth c D A nL Q ce sl ws pc lv r := by
  subst hq
  intro H locs ls hP hD hS hl
  exact lv_iconst E.1 E.2.1 hdg rfl (kk H locs ls hP hD hS hl)
theorem y_bipush (E : EY R p s m args meth c cc nL Ts own D T A) {n : Int} (hdg : decode cc pc = .ok (.bipush n, 2)) (hv : (Int8.ofInt n).toInt32 = ii n) (hq : pc + 2 = q) (kk : YJ p l e R s m args below meth c D A nL Q ce sl ws q lv (.int (ii n) :: r)) : YJ p l e R s m args below meth c D A nL Q ce sl ws pc lv r := by
  subst hq
  intro H locs ls hP hD hS hl
  exact lv_bipush E.1 E.2.1 hdg hv (kk H locs ls hP hD hS hl)
theorem y_sipush (E : EY R p s m args meth c cc nL Ts own D T A) {n : Int} (hdg : decode cc pc = .ok (.sipush n, 3)) (hv : (Int16.ofInt n).toInt32 = ii n) (hq : pc + 3 = q) (kk : YJ p l e R s m args below meth c D A nL Q ce sl ws q lv (.int (ii n) :: r)) : YJ p l e R s m args below meth c D A nL Q ce sl ws pc lv r := by
  subst hq
  intro H locs ls hP hD hS hl
  exact lv_sipush E.1 E.2.1 hdg hv (kk H locs ls hP hD hS hl)
theorem y_ldc (E : EY R p s m args meth c cc nL Ts own D T A) {ix : Nat} {v : Int32} {z : Int} (hc : Jvm.Cond.constant own ix v ∈ Ts) (hv : v = ii z) (hdg : decode cc pc = .ok (.ldc ix, 2)) (hq : pc + 2 = q) (kk : YJ p l e R s m args below meth c D A nL Q ce sl ws q lv (.int (ii z) :: r)) : YJ p l e R s m args below meth c D A nL Q ce sl ws pc lv r := by
  subst hq
  intro H locs ls hP hD hS hl
  exact lv_ldc E.1 E.2.1 E.2.2.2.2.2.1 (E.2.2.2.2.2.2.1 _ hc) hdg (by rw [hv]; exact (kk H locs ls hP hD hS hl))
theorem y_iload_n (E : EY R p s m args meth c cc nL Ts own D T A) {k : Fin 4} {x : Int32} (hdg : decode cc pc = .ok (.iload_n k, 1)) (j : Nat) (hj : lv[j]? = some ((k : Nat), .int x)) (hq : pc + 1 = q) (kk : YJ p l e R s m args below meth c D A nL Q ce sl ws q lv (.int x :: r)) : YJ p l e R s m args below meth c D A nL Q ce sl ws pc lv r := by
  subst hq
  intro H locs ls hP hD hS hl
  exact lv_iload_n E.1 E.2.1 hdg rfl (lv_at hl j hj) (kk H locs ls hP hD hS hl)
theorem y_aload_n (E : EY R p s m args meth c cc nL Ts own D T A) {k : Fin 4} {x : Nat} (hdg : decode cc pc = .ok (.aload_n k, 1)) (j : Nat) (hj : lv[j]? = some ((k : Nat), .ref x)) (hq : pc + 1 = q) (kk : YJ p l e R s m args below meth c D A nL Q ce sl ws q lv (.ref x :: r)) : YJ p l e R s m args below meth c D A nL Q ce sl ws pc lv r := by
  subst hq
  intro H locs ls hP hD hS hl
  exact lv_aload_n E.1 E.2.1 hdg rfl (lv_at hl j hj) (kk H locs ls hP hD hS hl)
theorem y_istore_n (E : EY R p s m args meth c cc nL Ts own D T A) {k : Fin 4} {x : Int32} (hdg : decode cc pc = .ok (.istore_n k, 1)) (hn : (k : Nat) < nL) (hl' : ((k : Nat), Value.int x) :: lv.filter (fun q => !(q.1 == (k : Nat)) && !(q.1 + 1 == (k : Nat) && q.2.category == 2)) = lv') (hq : pc + 1 = q) (kk : YJ p l e R s m args below meth c D A nL Q ce sl ws q lv' r) : YJ p l e R s m args below meth c D A nL Q ce sl ws pc lv (.int x :: r) := by
  subst hq
  intro H locs ls hP hD hS hl
  exact lv_istore_n E.1 E.2.1 hdg rfl hl hn hl' (fun ls hl => (kk H locs ls hP hD hS hl))
theorem y_iinc (E : EY R p s m args meth c cc nL Ts own D T A) {i k : Nat} {n x : Int} (hdg : decode cc pc = .ok (.iinc i n, 3)) (hk : lv[k]? = some (i, .int (ii x))) (hn : i < nL) (hl' : (i, Value.int (ii (x + n))) :: lv.filter (fun q => !(q.1 == i) && !(q.1 + 1 == i && q.2.category == 2)) = lv') (hq : pc + 3 = q) (kk : YJ p l e R s m args below meth c D A nL Q ce sl ws q lv' r) : YJ p l e R s m args below meth c D A nL Q ce sl ws pc lv r := by
  subst hq
  intro H locs ls hP hD hS hl
  exact lv_iinc E.1 E.2.1 hdg hl hk (ii_add x n) hn hl' (fun ls hl => (kk H locs ls hP hD hS hl))
theorem y_iadd (E : EY R p s m args meth c cc nL Ts own D T A) {a b z : Int} (hdg : decode cc pc = .ok (.iadd, 1)) (hz : a + b = z) (hq : pc + 1 = q) (kk : YJ p l e R s m args below meth c D A nL Q ce sl ws q lv (.int (ii z) :: r)) : YJ p l e R s m args below meth c D A nL Q ce sl ws pc lv (.int (ii b) :: .int (ii a) :: r) := by
  subst hq
  intro H locs ls hP hD hS hl
  exact lv_iadd E.1 E.2.1 hdg (by rw [ii_add, hz]; exact (kk H locs ls hP hD hS hl))
theorem y_imul (E : EY R p s m args meth c cc nL Ts own D T A) {a b z : Int} (hdg : decode cc pc = .ok (.imul, 1)) (hz : a * b = z) (hq : pc + 1 = q) (kk : YJ p l e R s m args below meth c D A nL Q ce sl ws q lv (.int (ii z) :: r)) : YJ p l e R s m args below meth c D A nL Q ce sl ws pc lv (.int (ii b) :: .int (ii a) :: r) := by
  subst hq
  intro H locs ls hP hD hS hl
  exact lv_imul E.1 E.2.1 hdg (by rw [ii_mul, hz]; exact (kk H locs ls hP hD hS hl))
theorem y_dup (E : EY R p s m args meth c cc nL Ts own D T A) {v : Value} (hdg : decode cc pc = .ok (.dup, 1)) (hv : v.category = 1) (hq : pc + 1 = q) (kk : YJ p l e R s m args below meth c D A nL Q ce sl ws q lv (v :: v :: r)) : YJ p l e R s m args below meth c D A nL Q ce sl ws pc lv (v :: r) := by
  subst hq
  intro H locs ls hP hD hS hl
  exact lv_dup E.1 E.2.1 hdg hv (kk H locs ls hP hD hS hl)
theorem y_icmp_ge (E : EY R p s m args meth c cc nL Ts own D T A) {a b : Int} {off : Int} {tgt : Nat} (hdg : decode cc pc = .ok (.if_icmp .ge off, 3)) (ht : (pc : Int) + off = (tgt : Int)) (hq : pc + 3 = q) (ha : -2147483648 ≤ a ∧ a < 2147483648) (hb' : -2147483648 ≤ b ∧ b < 2147483648) (kt : b ≤ a → YJ p l e R s m args below meth c D A nL Q ce sl ws tgt lv r) (kf : ¬ (b ≤ a) → YJ p l e R s m args below meth c D A nL Q ce sl ws q lv r) : YJ p l e R s m args below meth c D A nL Q ce sl ws pc lv (.int (ii b) :: .int (ii a) :: r) := by
  subst hq
  intro H locs ls hP hD hS hl
  exact lv_icmp_ge E.1 E.2.1 hdg ht (fun z => kt ((ii_le hb' ha).mp z) H locs ls hP hD hS hl) (fun z => kf (fun z' => z ((ii_le hb' ha).mpr z')) H locs ls hP hD hS hl)
theorem y_goto (E : EY R p s m args meth c cc nL Ts own D T A) {off : Int} {tgt : Nat} (hdg : decode cc pc = .ok (.goto off, 3)) (ht : (pc : Int) + off = (tgt : Int)) (kk : YJ p l e R s m args below meth c D A nL Q ce sl ws tgt lv r) : YJ p l e R s m args below meth c D A nL Q ce sl ws pc lv r := by
  intro H locs ls hP hD hS hl
  exact lv_goto E.1 E.2.1 hdg ht (kk H locs ls hP hD hS hl)
theorem y_get (E : EY R p s m args meth c cc nL Ts own D T A) {C : String} {F : u_T} {N ci ix a : Nat} (hin : ∀ w ∈ u_ws C F N, w ∈ Ts) (q0 : Nat) {fs : List Value} (he : ws[q0]? = some (a, .inr (ci, fs))) (hc : vwCl[ci]? = some (C, F, N)) (k : Nat) (hk : k < N) (hlink : Cond.fieldLink own ix (F k).1 (F k).2.1 (F k).2.2.1 ∈ Ts) {v : Value} (hv : fs[k]? = some v) (hdg : decode cc pc = .ok (.getfield ix, 3)) (hq : pc + 3 = q) (kk : YJ p l e R s m args below meth c D A nL Q ce sl ws q lv (v :: r)) : YJ p l e R s m args below meth c D A nL Q ce sl ws pc lv (.ref a :: r) := by
  subst hq
  intro H locs ls hP hD hS hl
  exact va_get E.1 E.2.1 E.2.2.2.2.2.2.1 hin E.2.2.2.2.2.1 E.2.2.2.2.2.2.2.1.1 hP q0 he hc k hk (E.2.2.2.2.2.2.1 _ hlink) (fun _ h => h) hv hdg (kk H locs ls hP hD hS hl)
theorem y_put (E : EY R p s m args meth c cc nL Ts own D T A) {C : String} {F : u_T} {N ci ix a : Nat} (hin : ∀ w ∈ u_ws C F N, w ∈ Ts) (ty0 : Nat → FieldType) (hty : ∀ k, k < N → parseFieldDescriptor (F k).2.2.1 = some (ty0 k)) (hnm : ∀ a, a < N → ∀ b, b < N → a ≠ b → (F a).2.1 ≠ (F b).2.1) (q0 : Nat) {fs : List Value} (he : ws[q0]? = some (a, .inr (ci, fs))) (hc : vwCl[ci]? = some (C, F, N)) (k : Nat) (hk : k < N) (hlink : Cond.fieldLink own ix (F k).1 (F k).2.1 (F k).2.2.1 ∈ Ts) (hfin : (F k).2.2.2 = false) {ty : FieldType} {v : Value} (hd : parseFieldDescriptor (F k).2.2.1 = some ty) (hn : narrow ty v = v) (hfit : fits ty v = true) (hl9 : k < fs.length) (hdg : decode cc pc = .ok (.putfield ix, 3)) {ws' : va_W} (hset : ws.set q0 (a, .inr (ci, fs.set k v)) = ws') (hq : pc + 3 = q) (kk : YJ p l e R s m args below meth c D A nL Q ce sl ws' q lv r) : YJ p l e R s m args below meth c D A nL Q ce sl ws pc lv (v :: .ref a :: r) := by
  subst hq
  subst hset
  intro H locs ls hP hD hS hl
  exact va_put E.1 E.2.1 E.2.2.2.2.2.2.1 hin ty0 hty hnm E.2.2.2.2.2.1 E.2.2.2.2.2.2.2.1.1 hP hD hS q0 he hc k hk (E.2.2.2.2.2.2.1 _ hlink) (fun _ h => h) hfin hd hn hfit hl9 hdg (fun H1 locs1 hP1 hD1 hS1 => kk H1 locs1 ls hP1 hD1 hS1 hl)
theorem y_putF (E : EY R p s m args meth c cc nL Ts own D T A) {C : String} {F : u_T} {N ci ix a : Nat} (hin : ∀ w ∈ u_ws C F N, w ∈ Ts) (ty0 : Nat → FieldType) (hty : ∀ k, k < N → parseFieldDescriptor (F k).2.2.1 = some (ty0 k)) (hnm : ∀ a, a < N → ∀ b, b < N → a ≠ b → (F a).2.1 ≠ (F b).2.1) (q0 : Nat) {fs : List Value} (he : ws[q0]? = some (a, .inr (ci, fs))) (hc : vwCl[ci]? = some (C, F, N)) (k : Nat) (hk : k < N) (hlink : Cond.fieldLink own ix (F k).1 (F k).2.1 (F k).2.2.1 ∈ Ts) (hfin : (F k).2.2.2 = true) (hdecl : (F k).1 = own) (hnl : own ≠ "SelfRowsLaw") {ty : FieldType} {v : Value} (hd : parseFieldDescriptor (F k).2.2.1 = some ty) (hn : narrow ty v = v) (hfit : fits ty v = true) (hl9 : k < fs.length) (hdg : decode cc pc = .ok (.putfield ix, 3)) {ws' : va_W} (hset : ws.set q0 (a, .inr (ci, fs.set k v)) = ws') (hq : pc + 3 = q) (kk : YJ p l e R s m args below meth c D A nL Q ce sl ws' q lv r) : YJ p l e R s m args below meth c D A nL Q ce sl ws pc lv (v :: .ref a :: r) := by
  subst hq
  subst hset
  intro H locs ls hP hD hS hl
  exact va_putF E.1 E.2.1 E.2.2.2.2.2.2.1 hin ty0 hty hnm E.2.2.2.2.2.1 E.2.2.2.2.2.2.2.1.1 hP hD hS q0 he hc k hk (E.2.2.2.2.2.2.1 _ hlink) (fun _ h => h) hfin (E.2.2.2.2.2.2.2.2.2 hnl) hdecl hd hn hfit hl9 hdg (fun H1 locs1 hP1 hD1 hS1 => kk H1 locs1 ls hP1 hD1 hS1 hl)
theorem y_iast (E : EY R p s m args meth c cc nL Ts own D T A) {n a : Nat} (q0 : Nat) {f : Int → Int} (ha : ws[q0]? = some (a, .inl (T 0, n, .inl (fun k => ii (f (k : Int)))))) {z v : Int} (h0 : 0 ≤ z) (h1 : z < (n : Int)) (hn : n < 2147483648) (hdg : decode cc pc = .ok (.iastore, 1)) {ws' : va_W} (hset : ws.set q0 (a, .inl (T 0, n, .inl (fun k => ii (zup f z v (k : Int))))) = ws') (hq : pc + 1 = q) (kk : YJ p l e R s m args below meth c D A nL Q ce sl ws' q lv r) : YJ p l e R s m args below meth c D A nL Q ce sl ws pc lv (.int (ii v) :: .int (ii z) :: .ref a :: r) := by
  subst hq
  subst hset
  intro H locs ls hP hD hS hl
  refine va_iast E.1 E.2.1 E.2.2.2.2.2.2.2.1.1 hP hD hS q0 0 ha rfl (ii_in h0 h1 hn) hdg (fun H1 locs1 hP1 hD1 hS1 => ?_)
  rw [upd_ii f v h0 (by omega)] at hP1 hD1
  exact kk H1 locs1 ls hP1 hD1 hS1 hl
theorem y_astq (E : EY R p s m args meth c cc nL Ts own D T A) {n a b : Nat} {t0 ci : Nat} (q0 qk : Nat) {f : Nat → Option Nat} {C : vw_C} {vs : List Value} (ha : ws[q0]? = some (a, .inl (T t0, n, .inr (.inr (.inr (.inr f)))))) (ht : (tyX T)[t0]? = some (T t0, .object C.1)) (hv : ws[qk]? = some (b, .inr (ci, vs))) (hc : vwCl[ci]? = some C) (j : Nat) {z : Int} (hz : z = (j : Int)) (h1 : j < n) (hn : n < 2147483648) (hdg : decode cc pc = .ok (.aastore, 1)) {ws' : va_W} (hset : ws.set q0 (a, .inl (T t0, n, .inr (.inr (.inr (.inr (va_up f j (some b))))))) = ws') (hq : pc + 1 = q) (kk : YJ p l e R s m args below meth c D A nL Q ce sl ws' q lv r) : YJ p l e R s m args below meth c D A nL Q ce sl ws pc lv (.ref b :: .int (ii z) :: .ref a :: r) := by
  subst hq
  subst hz
  subst hset
  intro H locs ls hP hD hS hl
  refine va_astq E.1 E.2.1 E.2.2.2.2.2.2.2.1.1 hP hD hS q0 t0 qk ci ha ht hv hc (ii_in (by omega) (by omega) hn) hdg (fun H1 locs1 hP1 hD1 hS1 => ?_)
  rw [ii_cl (by omega) (by omega), show ((j : Int)).toNat = j from by omega] at hP1 hD1
  exact kk H1 locs1 ls hP1 hD1 hS1 hl
theorem y_alen (E : EY R p s m args meth c cc nL Ts own D T A) {t0 : Nat} {n a : Nat} {f : ((Nat → Int32) ⊕ (Nat → Int64) ⊕ (Nat → UInt32) ⊕ (Nat → UInt64) ⊕ (Nat → Option Nat))} (q0 : Nat) (ha : ws[q0]? = some (a, .inl (T t0, n, f))) {ty : FieldType} (ht : (tyX T)[t0]? = some (T t0, ty)) {z : Int} (hz : (n : Int) = z) (hdg : decode cc pc = .ok (.arraylength, 1)) (hq : pc + 1 = q) (kk : YJ p l e R s m args below meth c D A nL Q ce sl ws q lv (.int (ii z) :: r)) : YJ p l e R s m args below meth c D A nL Q ce sl ws pc lv (.ref a :: r) := by
  subst hq
  subst hz
  intro H locs ls hP hD hS hl
  exact va_alen E.1 E.2.1 E.2.2.2.2.2.2.2.1.1 hP q0 t0 ha ht (ii_nI n) hdg (kk H locs ls hP hD hS hl)
theorem y_obj (E : EY R p s m args meth c cc nL Ts own D T A) {ix a : Nat} (h1 : Cond.methodLink own ix Lib.objectInit ∈ Ts) (h2 : Cond.instanceMethod Lib.objectInit ∈ Ts) (h3 : Cond.code Lib.objectInit ⟨#[0xb1]⟩ 1 none ∈ Ts) (hf : 1 ≤ R.frames) (hlo : (r.map fun v => v.category).sum + 12 ≤ R.locals) (hdg : decode cc pc = .ok (.invokespecial ix, 3)) (hq : pc + 3 = q) (kk : YJ p l e R s m args below meth c D A nL Q ce sl ws q lv r) : YJ p l e R s m args below meth c D A nL Q ce sl ws pc lv (.ref a :: r) := by
  subst hq
  intro H locs ls hP hD hS hl
  refine W.objInit E.1 E.2.1 E.2.2.2.2.2.1 (E.2.2.2.2.2.2.1 _ h1) (E.2.2.2.2.2.2.1 _ h2) (E.2.2.2.2.2.2.1 _ h3) rfl (by rw [E.2.2.1]; exact hl.1) rfl hdg hf (by show 2 * 0 + _ + 12 ≤ _; omega) ?_
  exact (kk H locs ls hP hD hS hl)
theorem y_newi (E : EY R p s m args meth c cc nL Ts own D T A) {N : Nat} {z : Int} (hz : z = (N : Int)) (hby : N * componentBytes .int ≤ 536870912) (hbd : N < 2147483648) (hce : ce + 1 ≤ R.cells) (hsl : sl + N ≤ R.slots) (hw : Cond.arrayClass .int ∈ Ts) (hdg : decode cc pc = .ok (.newarray .int, 2)) (hq : pc + 2 = q) (kk : ∀ a : Nat, YJ p l e R s m args below meth c D A nL Q (ce + 1) (sl + N) (ws ++ [(a, .inl (T 0, N, .inl (fun k => ii ((fun _ => (0 : Int)) (k : Int)))))]) q lv (.ref a :: r)) : YJ p l e R s m args below meth c D A nL Q ce sl ws pc lv (.int (ii z) :: r) := by
  subst hq
  subst hz
  intro H locs ls hP hD hS hl
  refine va_newa (atype := .int) (ty := .int) (a0 := (N, .inl (fun k => ii ((fun _ => (0 : Int)) (k : Int))))) E.1 E.2.1 (E.2.2.2.2.2.2.1 _ hw) rfl E.2.2.2.2.2.2.2.1.1 hP hD hS E.2.2.2.2.2.2.2.2.1 (fun cA => by rw [vp_cell_i]; exact congrArg (arrV cA N) (funext fun _ => congrArg Value.int ii_0)) (by rw [← ii_0]; exact fun z => absurd ((ii_lt (by omega) (by omega)).mp z) (by omega)) (by rw [ii_cl (by omega) (by omega)]; omega) hby hce hsl hdg (fun a cA H1 hK1 hP1 hD1 hS1 => ?_)
  have e9 : cA = T 0 := T_uni E.2.2.2.2.2.2.2.1.1 (by omega) _ rfl hK1
  subst e9
  exact kk a H1 locs ls hP1 hD1 hS1 hl
theorem y_newb (E : EY R p s m args meth c cc nL Ts own D T A) {N : Nat} {z : Int} (hz : z = (N : Int)) (hby : N * componentBytes .byte ≤ 536870912) (hbd : N < 2147483648) (hce : ce + 1 ≤ R.cells) (hsl : sl + N ≤ R.slots) (hw : Cond.arrayClass .byte ∈ Ts) (hdg : decode cc pc = .ok (.newarray .byte, 2)) (hq : pc + 2 = q) (kk : ∀ a : Nat, YJ p l e R s m args below meth c D A nL Q (ce + 1) (sl + N) (ws ++ [(a, .inl (T 1, N, .inl (fun k => ii ((fun _ => (0 : Int)) (k : Int)))))]) q lv (.ref a :: r)) : YJ p l e R s m args below meth c D A nL Q ce sl ws pc lv (.int (ii z) :: r) := by
  subst hq
  subst hz
  intro H locs ls hP hD hS hl
  refine va_newa (atype := .byte) (ty := .byte) (a0 := (N, .inl (fun k => ii ((fun _ => (0 : Int)) (k : Int))))) E.1 E.2.1 (E.2.2.2.2.2.2.1 _ hw) rfl E.2.2.2.2.2.2.2.1.1 hP hD hS E.2.2.2.2.2.2.2.2.1 (fun cA => by rw [vp_cell_i]; exact congrArg (arrV cA N) (funext fun _ => congrArg Value.int ii_0)) (by rw [← ii_0]; exact fun z => absurd ((ii_lt (by omega) (by omega)).mp z) (by omega)) (by rw [ii_cl (by omega) (by omega)]; omega) hby hce hsl hdg (fun a cA H1 hK1 hP1 hD1 hS1 => ?_)
  have e9 : cA = T 1 := T_uni E.2.2.2.2.2.2.2.1.1 (by omega) _ rfl hK1
  subst e9
  exact kk a H1 locs ls hP1 hD1 hS1 hl
theorem y_newl (E : EY R p s m args meth c cc nL Ts own D T A) {N : Nat} {z : Int} (hz : z = (N : Int)) (hby : N * componentBytes .long ≤ 536870912) (hbd : N < 2147483648) (hce : ce + 1 ≤ R.cells) (hsl : sl + N ≤ R.slots) (hw : Cond.arrayClass .long ∈ Ts) (hdg : decode cc pc = .ok (.newarray .long, 2)) (hq : pc + 2 = q) (kk : ∀ a : Nat, YJ p l e R s m args below meth c D A nL Q (ce + 1) (sl + N) (ws ++ [(a, .inl (T 2, N, .inr (.inl (fun k => jj ((fun _ => (0 : Int)) (k : Int))))))]) q lv (.ref a :: r)) : YJ p l e R s m args below meth c D A nL Q ce sl ws pc lv (.int (ii z) :: r) := by
  subst hq
  subst hz
  intro H locs ls hP hD hS hl
  refine va_newa (atype := .long) (ty := .long) (a0 := (N, .inr (.inl (fun k => jj ((fun _ => (0 : Int)) (k : Int)))))) E.1 E.2.1 (E.2.2.2.2.2.2.1 _ hw) rfl E.2.2.2.2.2.2.2.1.1 hP hD hS E.2.2.2.2.2.2.2.2.1 (fun cA => by rw [vp_cell_l]; exact congrArg (arrV cA N) (funext fun _ => congrArg Value.long (show jj 0 = 0 by decide))) (by rw [← ii_0]; exact fun z => absurd ((ii_lt (by omega) (by omega)).mp z) (by omega)) (by rw [ii_cl (by omega) (by omega)]; omega) hby hce hsl hdg (fun a cA H1 hK1 hP1 hD1 hS1 => ?_)
  have e9 : cA = T 2 := T_uni E.2.2.2.2.2.2.2.1.1 (by omega) _ rfl hK1
  subst e9
  exact kk a H1 locs ls hP1 hD1 hS1 hl
theorem y_newq (E : EY R p s m args meth c cc nL Ts own D T A) {C : String} {ix t0 N : Nat} {z : Int} (hz : z = (N : Int)) (ht0 : t0 < 5) (ht : (tyX T)[t0]? = some (T t0, .object C)) (hby : N * 4 ≤ 536870912) (hbd : N < 2147483648) (hce : ce + 1 ≤ R.cells) (hsl : sl + N ≤ R.slots) (hcl : Cond.classLink own ix C ∈ Ts) (hao : va_AO C s) (hdg : decode cc pc = .ok (.anewarray ix, 3)) (hq : pc + 3 = q) (kk : ∀ a : Nat, YJ p l e R s m args below meth c D A nL Q (ce + 1) (sl + N) (ws ++ [(a, .inl (T t0, N, .inr (.inr (.inr (.inr (fun _ => none))))))]) q lv (.ref a :: r)) : YJ p l e R s m args below meth c D A nL Q ce sl ws pc lv (.int (ii z) :: r) := by
  subst hq
  subst hz
  intro H locs ls hP hD hS hl
  refine va_newq E.1 E.2.1 E.2.2.2.2.2.1 (E.2.2.2.2.2.2.1 _ hcl) hao E.2.2.2.2.2.2.2.1.1 hP hD hS E.2.2.2.2.2.2.2.2.1 (by rw [← ii_0]; exact fun z => absurd ((ii_lt (by omega) (by omega)).mp z) (by omega)) (by rw [ii_cl (by omega) (by omega)]; omega) hby hce hsl hdg (fun a cA H1 hK1 hP1 hD1 hS1 => ?_)
  have e9 : cA = T t0 := T_uni E.2.2.2.2.2.2.2.1.1 ht0 _ ht hK1
  subst e9
  exact kk a H1 locs ls hP1 hD1 hS1 hl
theorem y_new (E : EY R p s m args meth c cc nL Ts own D T A) {C : String} {F : u_T} {N ci ix : Nat} (hin : ∀ w ∈ u_ws C F N, w ∈ Ts) (ty0 : Nat → FieldType) (hty : ∀ k, k < N → parseFieldDescriptor (F k).2.2.1 = some (ty0 k)) (hcl : Cond.classLink own ix C ∈ Ts) (hins : Cond.instantiable C N ∈ Ts) (hini : Cond.initialized C ∈ Ts) (hc : vwCl[ci]? = some (C, F, N)) (fs : List Value) (hfs : ∀ j, j < N → defaultValue (ty0 j) = vp_V fs j) (hce : ce + 1 ≤ R.cells) (hsl : sl + N ≤ R.slots) (hdg : decode cc pc = .ok (.new ix, 3)) (hq : pc + 3 = q) (kk : ∀ a : Nat, YJ p l e R s m args below meth c D A nL Q (ce + 1) (sl + N) (ws ++ [(a, .inr (ci, fs))]) q lv (.ref a :: r)) : YJ p l e R s m args below meth c D A nL Q ce sl ws pc lv r := by
  subst hq
  intro H locs ls hP hD hS hl
  exact va_new E.1 E.2.1 E.2.2.2.2.2.2.1 hin ty0 hty E.2.2.2.2.2.1 (E.2.2.2.2.2.2.1 _ hcl) (E.2.2.2.2.2.2.1 _ hins) (E.2.2.2.2.2.2.1 _ hini) E.2.2.2.2.2.2.2.1.1 hP hD hS E.2.2.2.2.2.2.2.2.1 hc hfs hce hsl hdg (fun a H1 hP1 hD1 hS1 => kk a H1 locs ls hP1 hD1 hS1 hl)
theorem y_ctor (E : EY R p s m args meth c cc nL Ts own D T A) {y : MethodName} {ws' ws'' : List Cond} {rm : Room} {ix maxL : Nat} {bytes : ByteArray} {a mc ms : Nat} {wd0 wr : va_W} {post : va_W → Prop} (hM : CN l y ws' rm a D T wd0 mc ms post) (hT : GoodIn Ts ws') (hw : ws' = Cond.code y bytes maxL none :: ws'') (hrc : rm.cells = mc) (hrs : rm.slots = ms) (hl0 : Cond.methodLink own ix y ∈ Ts) (hini : Cond.initialized y.cls ∈ Ts) (hi1 : Cond.instanceMethod y ∈ Ts) (hyn : y.name = "<init>") (hd : y.cls ≠ "java/lang/invoke/MethodHandle" ∧ y.cls ≠ "java/lang/invoke/VarHandle" ∧ (parseMethodDescriptor y.desc).map (fun d => d.parameters.length) = some 0) (hR : rm.frames + 1 ≤ R.frames ∧ 8 + (maxL + 11) + rm.locals ≤ R.locals)
    (isC isR : List Nat) (hC : isC.map (fun i => ws[i]?) = wd0.map some) (hnC : va_nd isC = true) (hRr : isR.map (fun i => ws[i]?) = wr.map some) (hnR : va_nd isR = true) (hdis : ∀ i ∈ isR, i ∉ isC) (hroom : (r.map fun v => v.category).sum ≤ 8) (hce : ce + mc ≤ R.cells) (hsl : sl + ms ≤ R.slots) (hdg : decode cc pc = .ok (.invokespecial ix, 3)) (hq : pc + 3 = q) (kk : ∀ u : va_W, post u → YJ p l e R s m args below meth c D A nL Q (ce + mc) (sl + ms) (wr ++ u) q lv r) : YJ p l e R s m args below meth c D A nL Q ce sl ws pc lv (.ref a :: r) := by
  subst hq
  intro H locs ls hP hD hS hl
  have hPc : va_P D vwCl wd0 H := by
    intro k q hk
    have h1 : (isC.map (fun i => ws[i]?))[k]? = some (some q) := by rw [hC, List.getElem?_map, hk]; rfl
    rw [List.getElem?_map] at h1
    cases h2 : isC[k]? with
    | none => rw [h2] at h1; cases h1
    | some i => rw [h2] at h1; exact hP i q (Option.some.inj h1)
  have hDc := hD.sub (ws' := wd0) isC hnC hC
  have hFc := va_free (wc := wd0) hD hS E.2.2.2.2.2.2.2.2.1 isC hC
  refine va_callv (va_runI (As := []) (rest := r) (Ts := Ts) (own := own) ⟨E.1, E.2.1, E.2.2.1, E.2.2.2.2.2.1, E.2.2.2.2.2.2.1⟩ (hM H.size) (cwI 0 E.2.2.2.2.2.2.1 hT hw hrc hrs (E.2.2.2.2.2.2.1 _ hini) (E.2.2.2.2.2.2.1 _ hl0) (E.2.2.2.2.2.2.1 _ hi1) hyn hd hR) ⟨KN.blind _ _ _ _ _, fun U hU hW => ⟨rfl, by rw [hU], by rw [hU]; exact hPc, KN.warm hW E.2.2.2.2.2.2.2.1, hDc.weaken (fun _ _ _ _ => trivial)⟩⟩ rfl rfl hl.1 rfl (lv_room hroom) hdg ⟨hce, hsl⟩) hS (fun q _ h => hFc q h) hFc (fun u t H1 locs1 ht hvm hw' hB hz1 hk1 hS1 => ?_)
  obtain ⟨hP1, hD1⟩ := hB
  rw [ht] at hP1
  obtain ⟨hP2, hD2⟩ := va_join (wr := wr) (w1 := u) hP hD isC isR hC hRr hnR hdis hk1 hFc hP1 hD1
  exact kk u hw' H1 locs1 ls hP2 hD2 hS1 hl
theorem y_ctorN (E : EY R p s m args meth c cc nL Ts own D T A) {y : MethodName} {ws' ws'' : List Cond} {rm : Room} {ix maxL : Nat} {bytes : ByteArray} {a mc ms : Nat} {wd0 wr : va_W} {post : va_W → Prop} {host : String} (hM : CN l y ws' rm a D T wd0 mc ms post) (hT : GoodIn Ts ws') (hw : ws' = Cond.code y bytes maxL none :: ws'') (hrc : rm.cells = mc) (hrs : rm.slots = ms) (hl0 : va_Nw (.methodLinkNest own ix y host) s) (hini : Cond.initialized y.cls ∈ Ts) (hi1 : Cond.instanceMethod y ∈ Ts) (hyn : y.name = "<init>") (hd : y.cls ≠ "java/lang/invoke/MethodHandle" ∧ y.cls ≠ "java/lang/invoke/VarHandle" ∧ (parseMethodDescriptor y.desc).map (fun d => d.parameters.length) = some 0) (hR : rm.frames + 1 ≤ R.frames ∧ 8 + (maxL + 11) + rm.locals ≤ R.locals)
    (isC isR : List Nat) (hC : isC.map (fun i => ws[i]?) = wd0.map some) (hnC : va_nd isC = true) (hRr : isR.map (fun i => ws[i]?) = wr.map some) (hnR : va_nd isR = true) (hdis : ∀ i ∈ isR, i ∉ isC) (hroom : (r.map fun v => v.category).sum ≤ 8) (hce : ce + mc ≤ R.cells) (hsl : sl + ms ≤ R.slots) (hdg : decode cc pc = .ok (.invokespecial ix, 3)) (hq : pc + 3 = q) (kk : ∀ u : va_W, post u → YJ p l e R s m args below meth c D A nL Q (ce + mc) (sl + ms) (wr ++ u) q lv r) : YJ p l e R s m args below meth c D A nL Q ce sl ws pc lv (.ref a :: r) := by
  subst hq
  intro H locs ls hP hD hS hl
  have hPc : va_P D vwCl wd0 H := by
    intro k q hk
    have h1 : (isC.map (fun i => ws[i]?))[k]? = some (some q) := by rw [hC, List.getElem?_map, hk]; rfl
    rw [List.getElem?_map] at h1
    cases h2 : isC[k]? with
    | none => rw [h2] at h1; cases h1
    | some i => rw [h2] at h1; exact hP i q (Option.some.inj h1)
  have hDc := hD.sub (ws' := wd0) isC hnC hC
  have hFc := va_free (wc := wd0) hD hS E.2.2.2.2.2.2.2.2.1 isC hC
  refine va_callv (va_runIN (As := []) (rest := r) (Ts := Ts) (own := own) ⟨E.1, E.2.1, E.2.2.1, E.2.2.2.2.2.1, E.2.2.2.2.2.2.1⟩ (hM H.size) ⟨va_cnB 0 E.2.2.2.2.2.2.1 hT hw hrc hrs hl0 (E.2.2.2.2.2.2.1 _ hini) hd hR, hyn, E.2.2.2.2.2.2.1 _ hi1⟩ ⟨KN.blind _ _ _ _ _, fun U hU hW => ⟨rfl, by rw [hU], by rw [hU]; exact hPc, KN.warm hW E.2.2.2.2.2.2.2.1, hDc.weaken (fun _ _ _ _ => trivial)⟩⟩ rfl rfl hl.1 rfl (lv_room hroom) hdg ⟨hce, hsl⟩) hS (fun q _ h => hFc q h) hFc (fun u t H1 locs1 ht hvm hw' hB hz1 hk1 hS1 => ?_)
  obtain ⟨hP1, hD1⟩ := hB
  rw [ht] at hP1
  obtain ⟨hP2, hD2⟩ := va_join (wr := wr) (w1 := u) hP hD isC isR hC hRr hnR hdis hk1 hFc hP1 hD1
  exact kk u hw' H1 locs1 ls hP2 hD2 hS1 hl
theorem y_sub (is : List Nat) (hn : va_nd is = true) {ws' : va_W} (h1 : is.map (fun i => ws[i]?) = ws'.map some) (kk : YJ p l e R s m args below meth c D A nL Q ce sl ws' pc lv r) : YJ p l e R s m args below meth c D A nL Q ce sl ws pc lv r := by
  intro H locs ls hP hD hS hl
  refine kk H locs ls ?_ (hD.sub is hn h1) hS hl
  intro k q hk
  have h2 : (is.map (fun i => ws[i]?))[k]? = some (some q) := by rw [h1, List.getElem?_map, hk]; rfl
  rw [List.getElem?_map] at h2
  cases h3 : is[k]? with
  | none => rw [h3] at h2; cases h2
  | some i => rw [h3] at h2; exact hP i q (Option.some.inj h2)
theorem y_arq (q0 : Nat) {a n : Nat} {cA : ClassId} {f g : Nat → Option Nat} (ha : ws[q0]? = some (a, .inl (cA, n, .inr (.inr (.inr (.inr f)))))) (h : ∀ k, k < n → f k = g k) {ws' : va_W} (hset : ws.set q0 (a, .inl (cA, n, .inr (.inr (.inr (.inr g))))) = ws') (kk : YJ p l e R s m args below meth c D A nL Q ce sl ws' pc lv r) : YJ p l e R s m args below meth c D A nL Q ce sl ws pc lv r := by
  subst hset
  intro H locs ls hP hD hS hl
  refine kk H locs ls (va_P_set hP ?_) (va_D_set hD ha) hS hl
  have h1 : H[a]? = some (vp_cell cA (n, .inr (.inr (.inr (.inr f))))) := hP q0 _ ha
  show H[a]? = some (vp_cell cA (n, .inr (.inr (.inr (.inr g)))))
  rw [h1, vp_cell_q, vp_cell_q, arrV_c (fun k hk => by rw [h k hk])]
end YR
