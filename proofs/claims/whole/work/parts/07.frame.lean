/-! own framework: whole numbers for the machine's ints, a world of one shape, a judgement with heap and locals inside -/
abbrev St_ : Type := (Nat → Int) × (Nat → Int → Int)
def ii (z : Int) : Int32 := Int32.ofInt z
def jj (z : Int) : Int64 := Int64.ofInt z
theorem ii_add (a b : Int) : ii a + ii b = ii (a + b) := (Int32.ofInt_add a b).symm
theorem ii_sub (a b : Int) : ii a - ii b = ii (a - b) := (Int32.ofInt_sub a b).symm
theorem ii_mul (a b : Int) : ii a * ii b = ii (a * b) := (Int32.ofInt_mul a b).symm
theorem ii_neg (a : Int) : - ii a = ii (-a) := (Int32.ofInt_neg a).symm
theorem jj_add (a b : Int) : jj a + jj b = jj (a + b) := (Int64.ofInt_add a b).symm
theorem jj_sub (a b : Int) : jj a - jj b = jj (a - b) := (Int64.ofInt_sub a b).symm
theorem jj_mul (a b : Int) : jj a * jj b = jj (a * b) := (Int64.ofInt_mul a b).symm
theorem ii_toInt {z : Int} (h : -2147483648 ≤ z ∧ z < 2147483648) : (ii z).toInt = z := Int32.toInt_ofInt_of_le (by omega) (by omega)
theorem jj_toInt {z : Int} (h : -9223372036854775808 ≤ z ∧ z < 9223372036854775808) : (jj z).toInt = z := Int64.toInt_ofInt_of_le (by omega) (by omega)
theorem ii_self (x : Int32) : ii x.toInt = x := Int32.ofInt_toInt x
theorem ii_lt {a b : Int} (ha : -2147483648 ≤ a ∧ a < 2147483648) (hb : -2147483648 ≤ b ∧ b < 2147483648) : ii a < ii b ↔ a < b := by
  rw [Int32.lt_iff_toInt_lt, ii_toInt ha, ii_toInt hb]
theorem ii_le {a b : Int} (ha : -2147483648 ≤ a ∧ a < 2147483648) (hb : -2147483648 ≤ b ∧ b < 2147483648) : ii a ≤ ii b ↔ a ≤ b := by
  rw [Int32.le_iff_toInt_le, ii_toInt ha, ii_toInt hb]
theorem ii_eq {a b : Int} (ha : -2147483648 ≤ a ∧ a < 2147483648) (hb : -2147483648 ≤ b ∧ b < 2147483648) : ii a = ii b ↔ a = b := by
  rw [← Int32.toInt_inj, ii_toInt ha, ii_toInt hb]
theorem jj_lt {a b : Int} (ha : -9223372036854775808 ≤ a ∧ a < 9223372036854775808) (hb : -9223372036854775808 ≤ b ∧ b < 9223372036854775808) : jj a < jj b ↔ a < b := by
  rw [Int64.lt_iff_toInt_lt, jj_toInt ha, jj_toInt hb]
theorem jj_le {a b : Int} (ha : -9223372036854775808 ≤ a ∧ a < 9223372036854775808) (hb : -9223372036854775808 ≤ b ∧ b < 9223372036854775808) : jj a ≤ jj b ↔ a ≤ b := by
  rw [Int64.le_iff_toInt_le, jj_toInt ha, jj_toInt hb]
theorem jj_eq {a b : Int} (ha : -9223372036854775808 ≤ a ∧ a < 9223372036854775808) (hb : -9223372036854775808 ≤ b ∧ b < 9223372036854775808) : jj a = jj b ↔ a = b := by
  rw [← Int64.toInt_inj, jj_toInt ha, jj_toInt hb]
theorem ii_0 : ii 0 = 0 := by decide
theorem ii_cl {z : Int} (h0 : 0 ≤ z) (h1 : z < 2147483648) : (ii z).toNatClampNeg = z.toNat := by
  show (ii z).toInt.toNat = _
  rw [ii_toInt (by omega)]
theorem ii_in {z : Int} {n : Nat} (h0 : 0 ≤ z) (h1 : z < (n : Int)) (hn : n < 2147483648) : vp_in (ii z) n := by
  rw [vp_in_iff, ii_toInt (by omega)]
  exact ⟨h0, h1⟩
theorem ii_i2l {z : Int} (h : -2147483648 ≤ z ∧ z < 2147483648) : (ii z).toInt64 = jj z := by
  rw [← Int64.toInt_inj, Int32.toInt_toInt64, ii_toInt h, jj_toInt (by omega)]
theorem ii_nI (n : Nat) : nI n = ii (n : Int) := by
  show Int32.ofNat n = Int32.ofInt (n : Int)
  rw [Int32.ofInt_eq_ofNat]
theorem ii_byte : ∀ z : Nat, z < 128 → (ii (z : Int)).toInt8.toInt32 = ii (z : Int) := by
  intro z hz
  rw [← ii_nI]
  have h : ∀ n, n < 128 → (nI n).toInt8.toInt32 = nI n := by decide +kernel
  exact h z hz
theorem ii_byteZ {z : Int} (h0 : 0 ≤ z) (h1 : z < 128) : (ii z).toInt8.toInt32 = ii z := by
  obtain ⟨n, rfl⟩ := Int.eq_ofNat_of_zero_le h0
  exact ii_byte n (by omega)
theorem ii_remZ {a b : Int} (h0 : 0 ≤ a) (h1 : a < 2147483648) (h2 : 0 < b) (h3 : b < 2147483648) : ii a - ii a / ii b * ii b = ii (a % b) := by
  obtain ⟨n, rfl⟩ := Int.eq_ofNat_of_zero_le h0
  obtain ⟨k, rfl⟩ := Int.eq_ofNat_of_zero_le (Int.le_of_lt h2)
  rw [← ii_nI, ← ii_nI, pk_rem (by omega) (by omega) (by omega), ii_nI]
  rfl
theorem ii_divZ {a b : Int} (h0 : 0 ≤ a) (h1 : a < 2147483648) (h2 : 0 < b) (h3 : b < 2147483648) : ii a / ii b = ii (a / b) := by
  obtain ⟨n, rfl⟩ := Int.eq_ofNat_of_zero_le h0
  obtain ⟨k, rfl⟩ := Int.eq_ofNat_of_zero_le (Int.le_of_lt h2)
  rw [← ii_nI, ← ii_nI, pk_div (by omega) (by omega) (by omega), ii_nI]
  rfl
theorem ii_max (a b : Int) (ha : -2147483648 ≤ a ∧ a < 2147483648) (hb : -2147483648 ≤ b ∧ b < 2147483648) : (if ii a < ii b then ii b else ii a) = ii (if a < b then b else a) := by
  by_cases h : a < b
  · rw [if_pos ((ii_lt ha hb).mpr h), if_pos h]
  · rw [if_neg (fun q => h ((ii_lt ha hb).mp q)), if_neg h]
/-- one place changed -/
def zup (f : Int → Int) (k v : Int) : Int → Int := fun j => if j = k then v else f j
theorem zup_eq (f : Int → Int) (k v : Int) : zup f k v k = v := by simp [zup]
theorem zup_ne (f : Int → Int) {k j : Int} (v : Int) (h : j ≠ k) : zup f k v j = f j := by simp [zup, h]
theorem upd_ii (f : Int → Int) {z : Int} (v : Int) (h0 : 0 ≤ z) (h1 : z < 2147483648) : upd (fun k : Nat => ii (f (k : Int))) (ii z).toNatClampNeg (ii v) = fun k : Nat => ii (zup f z v (k : Int)) := by
  funext j
  rw [ii_cl h0 h1]
  unfold upd zup
  by_cases h : j = z.toNat
  · rw [if_pos h, if_pos (by omega)]
  · rw [if_neg h, if_neg (by omega)]
theorem updL_jj (f : Int → Int) {z : Int} (v : Int) (h0 : 0 ≤ z) (h1 : z < 2147483648) : vp_updL (fun k : Nat => jj (f (k : Int))) (ii z).toNatClampNeg (jj v) = fun k : Nat => jj (zup f z v (k : Int)) := by
  funext j
  rw [ii_cl h0 h1]
  unfold vp_updL zup
  by_cases h : j = z.toNat
  · rw [if_pos h, if_pos (by omega)]
  · rw [if_neg h, if_neg (by omega)]
/-- a scalar, an array's place of the state -/
def sG (st : St_) (k : Nat) (v : Int) : St_ := (fun j => if j = k then v else st.1 j, st.2)
def sA (st : St_) (r : Nat) (z v : Int) : St_ := (st.1, fun q => if q = r then zup (st.2 r) z v else st.2 q)
theorem sG_1 (st : St_) (k : Nat) (v : Int) (j : Nat) : (sG st k v).1 j = if j = k then v else st.1 j := rfl
theorem sG_2 (st : St_) (k : Nat) (v : Int) : (sG st k v).2 = st.2 := rfl
theorem sA_1 (st : St_) (r : Nat) (z v : Int) : (sA st r z v).1 = st.1 := rfl
theorem sA_2 (st : St_) (r : Nat) (z v : Int) (q : Nat) : (sA st r z v).2 q = if q = r then zup (st.2 r) z v else st.2 q := rfl
theorem sG_s (st : St_) (k : Nat) (v : Int) : (sG st k v).1 k = v := by simp [sG]
theorem sG_n (st : St_) {k j : Nat} (v : Int) (h : j ≠ k) : (sG st k v).1 j = st.1 j := by simp [sG, h]
theorem sA_s (st : St_) (r : Nat) (z v : Int) : (sA st r z v).2 r = zup (st.2 r) z v := by simp [sA]
theorem sA_n (st : St_) {r q : Nat} (z v : Int) (h : q ≠ r) : (sA st r z v).2 q = st.2 q := by simp [sA, h]
/-- the words on nest mates, which travel with the state -/
def NW (U : State) : Prop := va_Nw (.methodLinkNest RX0 23 yX5_isLetter "SelfRows") U ∧ va_Nw (.methodLinkNest RX2 27 yX5_isLetter "SelfRows") U ∧ va_Nw (.methodLinkNest RX1 32 yX2_init "SelfRows") U ∧ va_Nw (.methodLinkNest RX5 18 yX4_init "SelfRows") U ∧ va_Nw (.methodLinkNest RX5 31 yX3_init "SelfRows") U
theorem NW.warm {s U : State} (hW : s.WarmedH U.vm) (h : NW s) : NW U := ⟨va_Nw.warmM hW h.1, va_Nw.warmM hW h.2.1, va_Nw.warmM hW h.2.2.1, va_Nw.warmM hW h.2.2.2.1, va_Nw.warmM hW h.2.2.2.2⟩
theorem NW.same {s U : State} (e : s.vm = U.vm) (h : NW s) : NW U := ⟨va_Nw.same rfl e h.1, va_Nw.same rfl e h.2.1, va_Nw.same rfl e h.2.2.1, va_Nw.same rfl e h.2.2.2.1, va_Nw.same rfl e h.2.2.2.2⟩
/-- what a method may change: the world's addresses, and what is new -/
def mX (al : List Nat) (sz : Nat) : Nat → Prop := fun q => q ∈ al ∨ sz ≤ q
def kX (D : va_G) (tys : List (ClassId × FieldType)) (wd : va_W) (sz : Nat) : State → Prop := fun U => U.heap.size = sz ∧ va_P D vwCl wd U.heap ∧ va_K D vwCl tys U ∧ NW U
def okW {σ : Type} (Wd : σ → va_W) (al : List Nat) : Prop := ∀ st, va_D (fun q => q ∈ al) (Wd st)
abbrev rmX (f lo : Nat) : Room := { frames := f, cells := 0, slots := 0, locals := lo }
/-- contracts: an int, a long, nothing, an address -/
def CXi {σ : Type} (l : Launch) (y : MethodName) (ws : List Cond) (rm : Room) (av : List Value) (D : va_G) (tys : List (ClassId × FieldType)) (Wd : σ → va_W) (al : List Nat) (st : σ) (post : Int → σ → Prop) : Prop :=
  ∀ sz : Nat, Met l y ws rm (va_Pc av (kX D tys (Wd st) sz)) (va_Qi (fun (r : Int32) (u : Int × σ) => r = ii u.1 ∧ post u.1 u.2) (fun u t => va_P D vwCl (Wd u.2) t.heap) (mX al sz)) 0 0 (mX al sz)
def CXl {σ : Type} (l : Launch) (y : MethodName) (ws : List Cond) (rm : Room) (av : List Value) (D : va_G) (tys : List (ClassId × FieldType)) (Wd : σ → va_W) (al : List Nat) (st : σ) (post : Int → σ → Prop) : Prop :=
  ∀ sz : Nat, Met l y ws rm (va_Pc av (kX D tys (Wd st) sz)) (va_Ql (fun (r : Int64) (u : Int × σ) => r = jj u.1 ∧ post u.1 u.2) (fun u t => va_P D vwCl (Wd u.2) t.heap) (mX al sz)) 0 0 (mX al sz)
def CXv {σ : Type} (l : Launch) (y : MethodName) (ws : List Cond) (rm : Room) (av : List Value) (D : va_G) (tys : List (ClassId × FieldType)) (Wd : σ → va_W) (al : List Nat) (st : σ) (post : σ → Prop) : Prop :=
  ∀ sz : Nat, Met l y ws rm (va_Pc av (kX D tys (Wd st) sz)) (va_Qv (fun u : σ => post u) (fun u t => va_P D vwCl (Wd u) t.heap) (mX al sz)) 0 0 (mX al sz)
def CXr {σ : Type} (l : Launch) (y : MethodName) (ws : List Cond) (rm : Room) (av : List Value) (D : va_G) (tys : List (ClassId × FieldType)) (Wd : σ → va_W) (al : List Nat) (st : σ) (post : Option Nat → σ → Prop) : Prop :=
  ∀ sz : Nat, Met l y ws rm (va_Pc av (kX D tys (Wd st) sz)) (va_Qq (fun (r : Option Nat) (u : σ) => post r u) (fun u t => va_P D vwCl (Wd u) t.heap) (mX al sz)) 0 0 (mX al sz)
/-- what holds all through a method's body -/
def EN {σ : Type} (R : Room) (ce sl : Nat) (p : Program) (s : State) (m : MethodId) (args : Array Value) (meth : Method) (c : Code) (cc : ByteArray) (nL : Nat) (ret : Option FieldType) (Ts : List Cond) (own : String) (D : va_G) (tys : List (ClassId × FieldType)) (Wd : σ → va_W) (al : List Nat) (A : Nat → Prop) : Prop :=
  p.tables.exec = Jvm.exec ∧ c.code = cc ∧ c.maxLocals = nL ∧ meth.sig.returnType = ret ∧ meth.locks = false ∧ s.vm.findClass own = some m.cls ∧ (∀ w ∈ Ts, w.before args s = true) ∧ va_K D vwCl tys s ∧ (∀ st, va_D A (Wd st)) ∧ (∀ q ∈ al, A q) ∧ (∀ q : Nat, s.heap.size ≤ q → A q) ∧ ce ≤ R.cells ∧ sl ≤ R.slots ∧ NW s
def XJ {σ : Type} (p : Program) (l : Launch) (e : Env) (R : Room) (s : State) (m : MethodId) (args : Array Value) (below : List Frame) (meth : Method) (c : Code) (D : va_G) (Wd : σ → va_W) (A : Nat → Prop) (nL : Nat) (Q : State → Prop) (ce sl : Nat) (st : σ) (pc : Nat) (lv : List (Nat × Value)) (stk : List Value) : Prop :=
  ∀ (H : Heap) (locs : List Loc) (ls : Array Slot), va_P D vwCl (Wd st) H → va_S A s.heap H locs → lv_has ls nL lv → W p l e R s m args below meth c H locs ce sl Q (F0 m pc ls stk)
theorem okW.A {σ : Type} {Wd : σ → va_W} {al : List Nat} (h : okW Wd al) (sz : Nat) (st : σ) : va_D (mX al sz) (Wd st) := (h st).weaken (fun _ _ _ q => Or.inl q)
theorem kX_blind (av : List Value) (D : va_G) (tys : List (ClassId × FieldType)) (wd : va_W) (sz : Nat) : FrameBlind (va_Pc av (kX D tys wd sz)) := fun a U g mk q => ⟨q.1, q.2.1, q.2.2.1, va_K.moved (u := U) (U := U.calling g mk a) (Vm.Alike.refl U.vm) q.2.2.2.1, NW.same rfl q.2.2.2.2⟩
section XR
variable {σ : Type} {p : Program} {l : Launch} {e : Env} {R : Room} {s : State} {m : MethodId} {args : Array Value} {below : List Frame} {meth : Method} {c : Code} {cc : ByteArray} {nL : Nat} {ret : Option FieldType} {Ts : List Cond} {own : String} {D : va_G} {tys : List (ClassId × FieldType)} {Wd : σ → va_W} {al : List Nat} {A : Nat → Prop} {Q : State → Prop} {ce sl : Nat} {st st' : σ} {pc q : Nat} {lv lv' : List (Nat × Value)} {r stk : List Value}
theorem x_iconst (E : EN R ce sl p s m args meth c cc nL ret Ts own D tys Wd al A) {n : Int} (hdg : decode cc pc = .ok (.iconst n, 1)) (hq : pc + 1 = q) (kk : XJ p l e R s m args below meth c D Wd A nL Q ce sl st q lv (.int (ii n) :: r)) : XJ p l e R s m args below meth c D Wd A nL Q ce sl st pc lv r := by
  subst hq
  intro H locs ls hP hS hl
  exact lv_iconst E.1 E.2.1 hdg rfl (kk H locs ls hP hS hl)
theorem x_bipush (E : EN R ce sl p s m args meth c cc nL ret Ts own D tys Wd al A) {n : Int} (hdg : decode cc pc = .ok (.bipush n, 2)) (hv : (Int8.ofInt n).toInt32 = ii n) (hq : pc + 2 = q) (kk : XJ p l e R s m args below meth c D Wd A nL Q ce sl st q lv (.int (ii n) :: r)) : XJ p l e R s m args below meth c D Wd A nL Q ce sl st pc lv r := by
  subst hq
  intro H locs ls hP hS hl
  exact lv_bipush E.1 E.2.1 hdg hv (kk H locs ls hP hS hl)
theorem x_sipush (E : EN R ce sl p s m args meth c cc nL ret Ts own D tys Wd al A) {n : Int} (hdg : decode cc pc = .ok (.sipush n, 3)) (hv : (Int16.ofInt n).toInt32 = ii n) (hq : pc + 3 = q) (kk : XJ p l e R s m args below meth c D Wd A nL Q ce sl st q lv (.int (ii n) :: r)) : XJ p l e R s m args below meth c D Wd A nL Q ce sl st pc lv r := by
  subst hq
  intro H locs ls hP hS hl
  exact lv_sipush E.1 E.2.1 hdg hv (kk H locs ls hP hS hl)
theorem x_ldc (E : EN R ce sl p s m args meth c cc nL ret Ts own D tys Wd al A) {ix : Nat} {v : Int32} {z : Int} (hc : Jvm.Cond.constant own ix v ∈ Ts) (hv : v = ii z) (hdg : decode cc pc = .ok (.ldc ix, 2)) (hq : pc + 2 = q) (kk : XJ p l e R s m args below meth c D Wd A nL Q ce sl st q lv (.int (ii z) :: r)) : XJ p l e R s m args below meth c D Wd A nL Q ce sl st pc lv r := by
  subst hq
  intro H locs ls hP hS hl
  exact lv_ldc E.1 E.2.1 E.2.2.2.2.2.1 (E.2.2.2.2.2.2.1 _ hc) hdg (by rw [hv]; exact (kk H locs ls hP hS hl))
theorem x_ldc2 (E : EN R ce sl p s m args meth c cc nL ret Ts own D tys Wd al A) {ix : Nat} {v : Int64} {z : Int} (hc : Jvm.Cond.constantLong own ix v ∈ Ts) (hv : v = jj z) (hdg : decode cc pc = .ok (.ldc2_w ix, 3)) (hq : pc + 3 = q) (kk : XJ p l e R s m args below meth c D Wd A nL Q ce sl st q lv (.long (jj z) :: r)) : XJ p l e R s m args below meth c D Wd A nL Q ce sl st pc lv r := by
  subst hq
  intro H locs ls hP hS hl
  exact lv_ldc2 E.1 E.2.1 E.2.2.2.2.2.1 (E.2.2.2.2.2.2.1 _ hc) hdg (by rw [hv]; exact (kk H locs ls hP hS hl))
theorem x_lconst (E : EN R ce sl p s m args meth c cc nL ret Ts own D tys Wd al A) {n : Fin 2} {z : Int} (hdg : decode cc pc = .ok (.lconst n, 1)) (hv : Int64.ofNat (n : Nat) = jj z) (hq : pc + 1 = q) (kk : XJ p l e R s m args below meth c D Wd A nL Q ce sl st q lv (.long (jj z) :: r)) : XJ p l e R s m args below meth c D Wd A nL Q ce sl st pc lv r := by
  subst hq
  intro H locs ls hP hS hl
  exact lv_lconst E.1 E.2.1 hdg hv (kk H locs ls hP hS hl)
theorem x_null (E : EN R ce sl p s m args meth c cc nL ret Ts own D tys Wd al A)  (hdg : decode cc pc = .ok (.aconst_null, 1)) (hq : pc + 1 = q) (kk : XJ p l e R s m args below meth c D Wd A nL Q ce sl st q lv (.null :: r)) : XJ p l e R s m args below meth c D Wd A nL Q ce sl st pc lv r := by
  subst hq
  intro H locs ls hP hS hl
  exact lv_null E.1 E.2.1 hdg (kk H locs ls hP hS hl)
theorem x_iload_n (E : EN R ce sl p s m args meth c cc nL ret Ts own D tys Wd al A) {k : Fin 4} {x : Int32} (hdg : decode cc pc = .ok (.iload_n k, 1)) (j : Nat) (hj : lv[j]? = some ((k : Nat), .int x)) (hq : pc + 1 = q) (kk : XJ p l e R s m args below meth c D Wd A nL Q ce sl st q lv (.int x :: r)) : XJ p l e R s m args below meth c D Wd A nL Q ce sl st pc lv r := by
  subst hq
  intro H locs ls hP hS hl
  exact lv_iload_n E.1 E.2.1 hdg rfl (lv_at hl j hj) (kk H locs ls hP hS hl)
theorem x_iload (E : EN R ce sl p s m args meth c cc nL ret Ts own D tys Wd al A) {i : Nat} {x : Int32} (hdg : decode cc pc = .ok (.iload i, 2)) (j : Nat) (hj : lv[j]? = some (i, .int x)) (hq : pc + 2 = q) (kk : XJ p l e R s m args below meth c D Wd A nL Q ce sl st q lv (.int x :: r)) : XJ p l e R s m args below meth c D Wd A nL Q ce sl st pc lv r := by
  subst hq
  intro H locs ls hP hS hl
  exact lv_iload E.1 E.2.1 hdg (lv_at hl j hj) (kk H locs ls hP hS hl)
theorem x_aload_n (E : EN R ce sl p s m args meth c cc nL ret Ts own D tys Wd al A) {k : Fin 4} {x : Nat} (hdg : decode cc pc = .ok (.aload_n k, 1)) (j : Nat) (hj : lv[j]? = some ((k : Nat), .ref x)) (hq : pc + 1 = q) (kk : XJ p l e R s m args below meth c D Wd A nL Q ce sl st q lv (.ref x :: r)) : XJ p l e R s m args below meth c D Wd A nL Q ce sl st pc lv r := by
  subst hq
  intro H locs ls hP hS hl
  exact lv_aload_n E.1 E.2.1 hdg rfl (lv_at hl j hj) (kk H locs ls hP hS hl)
theorem x_aload (E : EN R ce sl p s m args meth c cc nL ret Ts own D tys Wd al A) {i : Nat} {x : Nat} (hdg : decode cc pc = .ok (.aload i, 2)) (j : Nat) (hj : lv[j]? = some (i, .ref x)) (hq : pc + 2 = q) (kk : XJ p l e R s m args below meth c D Wd A nL Q ce sl st q lv (.ref x :: r)) : XJ p l e R s m args below meth c D Wd A nL Q ce sl st pc lv r := by
  subst hq
  intro H locs ls hP hS hl
  exact lv_aload E.1 E.2.1 hdg (lv_at hl j hj) (kk H locs ls hP hS hl)
theorem x_lload_n (E : EN R ce sl p s m args meth c cc nL ret Ts own D tys Wd al A) {k : Fin 4} {x : Int64} (hdg : decode cc pc = .ok (.lload_n k, 1)) (j : Nat) (hj : lv[j]? = some ((k : Nat), .long x)) (hq : pc + 1 = q) (kk : XJ p l e R s m args below meth c D Wd A nL Q ce sl st q lv (.long x :: r)) : XJ p l e R s m args below meth c D Wd A nL Q ce sl st pc lv r := by
  subst hq
  intro H locs ls hP hS hl
  exact lv_lload_n E.1 E.2.1 hdg rfl (lv_at hl j hj) (kk H locs ls hP hS hl)
theorem x_lload (E : EN R ce sl p s m args meth c cc nL ret Ts own D tys Wd al A) {i : Nat} {x : Int64} (hdg : decode cc pc = .ok (.lload i, 2)) (j : Nat) (hj : lv[j]? = some (i, .long x)) (hq : pc + 2 = q) (kk : XJ p l e R s m args below meth c D Wd A nL Q ce sl st q lv (.long x :: r)) : XJ p l e R s m args below meth c D Wd A nL Q ce sl st pc lv r := by
  subst hq
  intro H locs ls hP hS hl
  exact lv_lload E.1 E.2.1 hdg (lv_at hl j hj) (kk H locs ls hP hS hl)
theorem x_istore_n (E : EN R ce sl p s m args meth c cc nL ret Ts own D tys Wd al A) {k : Fin 4} {x : Int32} (hdg : decode cc pc = .ok (.istore_n k, 1)) (hn : (k : Nat) < nL) (hl' : ((k : Nat), Value.int x) :: lv.filter (fun q => !(q.1 == (k : Nat)) && !(q.1 + 1 == (k : Nat) && q.2.category == 2)) = lv') (hq : pc + 1 = q) (kk : XJ p l e R s m args below meth c D Wd A nL Q ce sl st q lv' r) : XJ p l e R s m args below meth c D Wd A nL Q ce sl st pc lv (.int x :: r) := by
  subst hq
  intro H locs ls hP hS hl
  exact lv_istore_n E.1 E.2.1 hdg rfl hl hn hl' (fun ls hl => (kk H locs ls hP hS hl))
theorem x_istore (E : EN R ce sl p s m args meth c cc nL ret Ts own D tys Wd al A) {i : Nat} {x : Int32} (hdg : decode cc pc = .ok (.istore i, 2)) (hn : i < nL) (hl' : (i, Value.int x) :: lv.filter (fun q => !(q.1 == i) && !(q.1 + 1 == i && q.2.category == 2)) = lv') (hq : pc + 2 = q) (kk : XJ p l e R s m args below meth c D Wd A nL Q ce sl st q lv' r) : XJ p l e R s m args below meth c D Wd A nL Q ce sl st pc lv (.int x :: r) := by
  subst hq
  intro H locs ls hP hS hl
  exact lv_istore E.1 E.2.1 hdg hl hn hl' (fun ls hl => (kk H locs ls hP hS hl))
theorem x_astore_n (E : EN R ce sl p s m args meth c cc nL ret Ts own D tys Wd al A) {k : Fin 4} {x : Nat} (hdg : decode cc pc = .ok (.astore_n k, 1)) (hn : (k : Nat) < nL) (hl' : ((k : Nat), Value.ref x) :: lv.filter (fun q => !(q.1 == (k : Nat)) && !(q.1 + 1 == (k : Nat) && q.2.category == 2)) = lv') (hq : pc + 1 = q) (kk : XJ p l e R s m args below meth c D Wd A nL Q ce sl st q lv' r) : XJ p l e R s m args below meth c D Wd A nL Q ce sl st pc lv (.ref x :: r) := by
  subst hq
  intro H locs ls hP hS hl
  exact lv_astore_n E.1 E.2.1 hdg rfl hl hn hl' (fun ls hl => (kk H locs ls hP hS hl))
theorem x_astore (E : EN R ce sl p s m args meth c cc nL ret Ts own D tys Wd al A) {i : Nat} {x : Nat} (hdg : decode cc pc = .ok (.astore i, 2)) (hn : i < nL) (hl' : (i, Value.ref x) :: lv.filter (fun q => !(q.1 == i) && !(q.1 + 1 == i && q.2.category == 2)) = lv') (hq : pc + 2 = q) (kk : XJ p l e R s m args below meth c D Wd A nL Q ce sl st q lv' r) : XJ p l e R s m args below meth c D Wd A nL Q ce sl st pc lv (.ref x :: r) := by
  subst hq
  intro H locs ls hP hS hl
  exact lv_astore E.1 E.2.1 hdg hl hn hl' (fun ls hl => (kk H locs ls hP hS hl))
theorem x_lstore_n (E : EN R ce sl p s m args meth c cc nL ret Ts own D tys Wd al A) {k : Fin 4} {x : Int64} (hdg : decode cc pc = .ok (.lstore_n k, 1)) (hn : (k : Nat) + 1 < nL) (hl' : ((k : Nat), Value.long x) :: lv.filter (fun q => !(q.1 == (k : Nat)) && (!(q.1 == (k : Nat) + 1) && !(q.1 + 1 == (k : Nat) && q.2.category == 2))) = lv') (hq : pc + 1 = q) (kk : XJ p l e R s m args below meth c D Wd A nL Q ce sl st q lv' r) : XJ p l e R s m args below meth c D Wd A nL Q ce sl st pc lv (.long x :: r) := by
  subst hq
  intro H locs ls hP hS hl
  exact lv_lstore_n E.1 E.2.1 hdg rfl hl hn hl' (fun ls hl => (kk H locs ls hP hS hl))
theorem x_lstore (E : EN R ce sl p s m args meth c cc nL ret Ts own D tys Wd al A) {i : Nat} {x : Int64} (hdg : decode cc pc = .ok (.lstore i, 2)) (hn : i + 1 < nL) (hl' : (i, Value.long x) :: lv.filter (fun q => !(q.1 == i) && (!(q.1 == i + 1) && !(q.1 + 1 == i && q.2.category == 2))) = lv') (hq : pc + 2 = q) (kk : XJ p l e R s m args below meth c D Wd A nL Q ce sl st q lv' r) : XJ p l e R s m args below meth c D Wd A nL Q ce sl st pc lv (.long x :: r) := by
  subst hq
  intro H locs ls hP hS hl
  exact lv_lstore E.1 E.2.1 hdg hl hn hl' (fun ls hl => (kk H locs ls hP hS hl))
theorem x_iinc (E : EN R ce sl p s m args meth c cc nL ret Ts own D tys Wd al A) {i k : Nat} {n x : Int} (hdg : decode cc pc = .ok (.iinc i n, 3)) (hk : lv[k]? = some (i, .int (ii x))) (hn : i < nL) (hl' : (i, Value.int (ii (x + n))) :: lv.filter (fun q => !(q.1 == i) && !(q.1 + 1 == i && q.2.category == 2)) = lv') (hq : pc + 3 = q) (kk : XJ p l e R s m args below meth c D Wd A nL Q ce sl st q lv' r) : XJ p l e R s m args below meth c D Wd A nL Q ce sl st pc lv r := by
  subst hq
  intro H locs ls hP hS hl
  exact lv_iinc E.1 E.2.1 hdg hl hk (ii_add x n) hn hl' (fun ls hl => (kk H locs ls hP hS hl))
theorem x_iadd (E : EN R ce sl p s m args meth c cc nL ret Ts own D tys Wd al A) {a b : Int} (hdg : decode cc pc = .ok (.iadd, 1)) (hq : pc + 1 = q) (kk : XJ p l e R s m args below meth c D Wd A nL Q ce sl st q lv (.int (ii (a + b)) :: r)) : XJ p l e R s m args below meth c D Wd A nL Q ce sl st pc lv (.int (ii b) :: .int (ii a) :: r) := by
  subst hq
  intro H locs ls hP hS hl
  exact lv_iadd E.1 E.2.1 hdg (by rw [ii_add]; exact (kk H locs ls hP hS hl))
theorem x_ladd (E : EN R ce sl p s m args meth c cc nL ret Ts own D tys Wd al A) {a b : Int} (hdg : decode cc pc = .ok (.ladd, 1)) (hq : pc + 1 = q) (kk : XJ p l e R s m args below meth c D Wd A nL Q ce sl st q lv (.long (jj (a + b)) :: r)) : XJ p l e R s m args below meth c D Wd A nL Q ce sl st pc lv (.long (jj b) :: .long (jj a) :: r) := by
  subst hq
  intro H locs ls hP hS hl
  exact lv_ladd E.1 E.2.1 hdg (by rw [jj_add]; exact (kk H locs ls hP hS hl))
theorem x_isub (E : EN R ce sl p s m args meth c cc nL ret Ts own D tys Wd al A) {a b : Int} (hdg : decode cc pc = .ok (.isub, 1)) (hq : pc + 1 = q) (kk : XJ p l e R s m args below meth c D Wd A nL Q ce sl st q lv (.int (ii (a - b)) :: r)) : XJ p l e R s m args below meth c D Wd A nL Q ce sl st pc lv (.int (ii b) :: .int (ii a) :: r) := by
  subst hq
  intro H locs ls hP hS hl
  exact lv_isub E.1 E.2.1 hdg (by rw [ii_sub]; exact (kk H locs ls hP hS hl))
theorem x_lsub (E : EN R ce sl p s m args meth c cc nL ret Ts own D tys Wd al A) {a b : Int} (hdg : decode cc pc = .ok (.lsub, 1)) (hq : pc + 1 = q) (kk : XJ p l e R s m args below meth c D Wd A nL Q ce sl st q lv (.long (jj (a - b)) :: r)) : XJ p l e R s m args below meth c D Wd A nL Q ce sl st pc lv (.long (jj b) :: .long (jj a) :: r) := by
  subst hq
  intro H locs ls hP hS hl
  exact lv_lsub E.1 E.2.1 hdg (by rw [jj_sub]; exact (kk H locs ls hP hS hl))
theorem x_imul (E : EN R ce sl p s m args meth c cc nL ret Ts own D tys Wd al A) {a b : Int} (hdg : decode cc pc = .ok (.imul, 1)) (hq : pc + 1 = q) (kk : XJ p l e R s m args below meth c D Wd A nL Q ce sl st q lv (.int (ii (a * b)) :: r)) : XJ p l e R s m args below meth c D Wd A nL Q ce sl st pc lv (.int (ii b) :: .int (ii a) :: r) := by
  subst hq
  intro H locs ls hP hS hl
  exact lv_imul E.1 E.2.1 hdg (by rw [ii_mul]; exact (kk H locs ls hP hS hl))
theorem x_lmul (E : EN R ce sl p s m args meth c cc nL ret Ts own D tys Wd al A) {a b : Int} (hdg : decode cc pc = .ok (.lmul, 1)) (hq : pc + 1 = q) (kk : XJ p l e R s m args below meth c D Wd A nL Q ce sl st q lv (.long (jj (a * b)) :: r)) : XJ p l e R s m args below meth c D Wd A nL Q ce sl st pc lv (.long (jj b) :: .long (jj a) :: r) := by
  subst hq
  intro H locs ls hP hS hl
  exact lv_lmul E.1 E.2.1 hdg (by rw [jj_mul]; exact (kk H locs ls hP hS hl))
theorem x_irem (E : EN R ce sl p s m args meth c cc nL ret Ts own D tys Wd al A) {a b : Int} (hdg : decode cc pc = .ok (.irem, 1)) (h0 : 0 ≤ a) (h1 : a < 2147483648) (h2 : 0 < b) (h3 : b < 2147483648) (hq : pc + 1 = q) (kk : XJ p l e R s m args below meth c D Wd A nL Q ce sl st q lv (.int (ii (a % b)) :: r)) : XJ p l e R s m args below meth c D Wd A nL Q ce sl st pc lv (.int (ii b) :: .int (ii a) :: r) := by
  subst hq
  intro H locs ls hP hS hl
  exact lv_irem E.1 E.2.1 hdg (by rw [← ii_0]; exact fun z => absurd ((ii_eq (by omega) (by omega)).mp z) (by omega)) (by rw [ii_remZ h0 h1 h2 h3]; exact (kk H locs ls hP hS hl))
theorem x_idiv (E : EN R ce sl p s m args meth c cc nL ret Ts own D tys Wd al A) {a b : Int} (hdg : decode cc pc = .ok (.idiv, 1)) (h0 : 0 ≤ a) (h1 : a < 2147483648) (h2 : 0 < b) (h3 : b < 2147483648) (hq : pc + 1 = q) (kk : XJ p l e R s m args below meth c D Wd A nL Q ce sl st q lv (.int (ii (a / b)) :: r)) : XJ p l e R s m args below meth c D Wd A nL Q ce sl st pc lv (.int (ii b) :: .int (ii a) :: r) := by
  subst hq
  intro H locs ls hP hS hl
  exact lv_idiv E.1 E.2.1 hdg (by rw [← ii_0]; exact fun z => absurd ((ii_eq (by omega) (by omega)).mp z) (by omega)) (by rw [ii_divZ h0 h1 h2 h3]; exact (kk H locs ls hP hS hl))
theorem x_ineg (E : EN R ce sl p s m args meth c cc nL ret Ts own D tys Wd al A) {a : Int} (hdg : decode cc pc = .ok (.ineg, 1)) (hq : pc + 1 = q) (kk : XJ p l e R s m args below meth c D Wd A nL Q ce sl st q lv (.int (ii (-a)) :: r)) : XJ p l e R s m args below meth c D Wd A nL Q ce sl st pc lv (.int (ii a) :: r) := by
  subst hq
  intro H locs ls hP hS hl
  exact lv_ineg E.1 E.2.1 hdg (by first | (rw [ii_neg]; exact (kk H locs ls hP hS hl)) | (rw [show (0 : Int32) - ii a = ii (-a) from by rw [← ii_neg]; simp]; exact (kk H locs ls hP hS hl)))
theorem x_i2l (E : EN R ce sl p s m args meth c cc nL ret Ts own D tys Wd al A) {a : Int} (hdg : decode cc pc = .ok (.i2l, 1)) (ha : -2147483648 ≤ a ∧ a < 2147483648) (hq : pc + 1 = q) (kk : XJ p l e R s m args below meth c D Wd A nL Q ce sl st q lv (.long (jj a) :: r)) : XJ p l e R s m args below meth c D Wd A nL Q ce sl st pc lv (.int (ii a) :: r) := by
  subst hq
  intro H locs ls hP hS hl
  exact lv_i2l E.1 E.2.1 hdg (ii_i2l ha) (kk H locs ls hP hS hl)
theorem x_i2b (E : EN R ce sl p s m args meth c cc nL ret Ts own D tys Wd al A) {a : Int} (hdg : decode cc pc = .ok (.i2b, 1)) (h0 : 0 ≤ a) (h1 : a < 128) (hq : pc + 1 = q) (kk : XJ p l e R s m args below meth c D Wd A nL Q ce sl st q lv (.int (ii a) :: r)) : XJ p l e R s m args below meth c D Wd A nL Q ce sl st pc lv (.int (ii a) :: r) := by
  subst hq
  intro H locs ls hP hS hl
  exact lv_i2b E.1 E.2.1 hdg (ii_byteZ h0 h1) (kk H locs ls hP hS hl)
theorem x_dup (E : EN R ce sl p s m args meth c cc nL ret Ts own D tys Wd al A) {v : Value} (hdg : decode cc pc = .ok (.dup, 1)) (hv : v.category = 1) (hq : pc + 1 = q) (kk : XJ p l e R s m args below meth c D Wd A nL Q ce sl st q lv (v :: v :: r)) : XJ p l e R s m args below meth c D Wd A nL Q ce sl st pc lv (v :: r) := by
  subst hq
  intro H locs ls hP hS hl
  exact lv_dup E.1 E.2.1 hdg hv (kk H locs ls hP hS hl)
theorem x_dup2 (E : EN R ce sl p s m args meth c cc nL ret Ts own D tys Wd al A) {v u : Value} (hdg : decode cc pc = .ok (.dup2, 1)) (hv : v.category = 1) (hu : u.category = 1) (hq : pc + 1 = q) (kk : XJ p l e R s m args below meth c D Wd A nL Q ce sl st q lv (v :: u :: v :: u :: r)) : XJ p l e R s m args below meth c D Wd A nL Q ce sl st pc lv (v :: u :: r) := by
  subst hq
  intro H locs ls hP hS hl
  exact lv_dup2_11 E.1 E.2.1 hdg (by first | exact hv | exact hu) (by first | exact hu | exact hv) (kk H locs ls hP hS hl)
theorem x_pop (E : EN R ce sl p s m args meth c cc nL ret Ts own D tys Wd al A) {v : Value} (hdg : decode cc pc = .ok (.pop, 1)) (hv : v.category = 1) (hq : pc + 1 = q) (kk : XJ p l e R s m args below meth c D Wd A nL Q ce sl st q lv r) : XJ p l e R s m args below meth c D Wd A nL Q ce sl st pc lv (v :: r) := by
  subst hq
  intro H locs ls hP hS hl
  exact lv_pop E.1 E.2.1 hdg hv (kk H locs ls hP hS hl)
theorem x_icmp_eq (E : EN R ce sl p s m args meth c cc nL ret Ts own D tys Wd al A) {a b : Int} {off : Int} {tgt : Nat} (hdg : decode cc pc = .ok (.if_icmp .eq off, 3)) (ht : (pc : Int) + off = (tgt : Int)) (hq : pc + 3 = q) (ha : -2147483648 ≤ a ∧ a < 2147483648) (hb' : -2147483648 ≤ b ∧ b < 2147483648) (kt : a = b → XJ p l e R s m args below meth c D Wd A nL Q ce sl st tgt lv r) (kf : ¬ (a = b) → XJ p l e R s m args below meth c D Wd A nL Q ce sl st q lv r) : XJ p l e R s m args below meth c D Wd A nL Q ce sl st pc lv (.int (ii b) :: .int (ii a) :: r) := by
  subst hq
  intro H locs ls hP hS hl
  exact lv_icmp_eq E.1 E.2.1 hdg ht (fun z => kt ((ii_eq ha hb').mp z) H locs ls hP hS hl) (fun z => kf (fun z' => z ((ii_eq ha hb').mpr z')) H locs ls hP hS hl)
theorem x_if_eq (E : EN R ce sl p s m args meth c cc nL ret Ts own D tys Wd al A) {a : Int} {off : Int} {tgt : Nat} (hdg : decode cc pc = .ok (.ifCond .eq off, 3)) (ht : (pc : Int) + off = (tgt : Int)) (hq : pc + 3 = q) (ha : -2147483648 ≤ a ∧ a < 2147483648) (kt : a = 0 → XJ p l e R s m args below meth c D Wd A nL Q ce sl st tgt lv r) (kf : ¬ (a = 0) → XJ p l e R s m args below meth c D Wd A nL Q ce sl st q lv r) : XJ p l e R s m args below meth c D Wd A nL Q ce sl st pc lv (.int (ii a) :: r) := by
  subst hq
  have h0 : -2147483648 ≤ (0 : Int) ∧ (0 : Int) < 2147483648 := by omega
  intro H locs ls hP hS hl
  exact lv_if_eq E.1 E.2.1 hdg ht (by rw [← ii_0]; exact (fun z => kt ((ii_eq ha h0).mp z) H locs ls hP hS hl)) (by rw [← ii_0]; exact (fun z => kf (fun z' => z ((ii_eq ha h0).mpr z')) H locs ls hP hS hl))
theorem x_icmp_ne (E : EN R ce sl p s m args meth c cc nL ret Ts own D tys Wd al A) {a b : Int} {off : Int} {tgt : Nat} (hdg : decode cc pc = .ok (.if_icmp .ne off, 3)) (ht : (pc : Int) + off = (tgt : Int)) (hq : pc + 3 = q) (ha : -2147483648 ≤ a ∧ a < 2147483648) (hb' : -2147483648 ≤ b ∧ b < 2147483648) (kt : ¬ a = b → XJ p l e R s m args below meth c D Wd A nL Q ce sl st tgt lv r) (kf : ¬ (¬ a = b) → XJ p l e R s m args below meth c D Wd A nL Q ce sl st q lv r) : XJ p l e R s m args below meth c D Wd A nL Q ce sl st pc lv (.int (ii b) :: .int (ii a) :: r) := by
  subst hq
  intro H locs ls hP hS hl
  exact lv_icmp_ne E.1 E.2.1 hdg ht (fun z => kt (fun z' => z ((ii_eq ha hb').mpr z')) H locs ls hP hS hl) (fun z => kf (fun z' => z' ((ii_eq ha hb').mp z)) H locs ls hP hS hl)
theorem x_if_ne (E : EN R ce sl p s m args meth c cc nL ret Ts own D tys Wd al A) {a : Int} {off : Int} {tgt : Nat} (hdg : decode cc pc = .ok (.ifCond .ne off, 3)) (ht : (pc : Int) + off = (tgt : Int)) (hq : pc + 3 = q) (ha : -2147483648 ≤ a ∧ a < 2147483648) (kt : ¬ a = 0 → XJ p l e R s m args below meth c D Wd A nL Q ce sl st tgt lv r) (kf : ¬ (¬ a = 0) → XJ p l e R s m args below meth c D Wd A nL Q ce sl st q lv r) : XJ p l e R s m args below meth c D Wd A nL Q ce sl st pc lv (.int (ii a) :: r) := by
  subst hq
  have h0 : -2147483648 ≤ (0 : Int) ∧ (0 : Int) < 2147483648 := by omega
  intro H locs ls hP hS hl
  exact lv_if_ne E.1 E.2.1 hdg ht (by rw [← ii_0]; exact (fun z => kt (fun z' => z ((ii_eq ha h0).mpr z')) H locs ls hP hS hl)) (by rw [← ii_0]; exact (fun z => kf (fun z' => z' ((ii_eq ha h0).mp z)) H locs ls hP hS hl))
theorem x_icmp_lt (E : EN R ce sl p s m args meth c cc nL ret Ts own D tys Wd al A) {a b : Int} {off : Int} {tgt : Nat} (hdg : decode cc pc = .ok (.if_icmp .lt off, 3)) (ht : (pc : Int) + off = (tgt : Int)) (hq : pc + 3 = q) (ha : -2147483648 ≤ a ∧ a < 2147483648) (hb' : -2147483648 ≤ b ∧ b < 2147483648) (kt : a < b → XJ p l e R s m args below meth c D Wd A nL Q ce sl st tgt lv r) (kf : ¬ (a < b) → XJ p l e R s m args below meth c D Wd A nL Q ce sl st q lv r) : XJ p l e R s m args below meth c D Wd A nL Q ce sl st pc lv (.int (ii b) :: .int (ii a) :: r) := by
  subst hq
  intro H locs ls hP hS hl
  exact lv_icmp_lt E.1 E.2.1 hdg ht (fun z => kt ((ii_lt ha hb').mp z) H locs ls hP hS hl) (fun z => kf (fun z' => z ((ii_lt ha hb').mpr z')) H locs ls hP hS hl)
theorem x_if_lt (E : EN R ce sl p s m args meth c cc nL ret Ts own D tys Wd al A) {a : Int} {off : Int} {tgt : Nat} (hdg : decode cc pc = .ok (.ifCond .lt off, 3)) (ht : (pc : Int) + off = (tgt : Int)) (hq : pc + 3 = q) (ha : -2147483648 ≤ a ∧ a < 2147483648) (kt : a < 0 → XJ p l e R s m args below meth c D Wd A nL Q ce sl st tgt lv r) (kf : ¬ (a < 0) → XJ p l e R s m args below meth c D Wd A nL Q ce sl st q lv r) : XJ p l e R s m args below meth c D Wd A nL Q ce sl st pc lv (.int (ii a) :: r) := by
  subst hq
  have h0 : -2147483648 ≤ (0 : Int) ∧ (0 : Int) < 2147483648 := by omega
  intro H locs ls hP hS hl
  exact lv_if_lt E.1 E.2.1 hdg ht (by rw [← ii_0]; exact (fun z => kt ((ii_lt ha h0).mp z) H locs ls hP hS hl)) (by rw [← ii_0]; exact (fun z => kf (fun z' => z ((ii_lt ha h0).mpr z')) H locs ls hP hS hl))
theorem x_icmp_ge (E : EN R ce sl p s m args meth c cc nL ret Ts own D tys Wd al A) {a b : Int} {off : Int} {tgt : Nat} (hdg : decode cc pc = .ok (.if_icmp .ge off, 3)) (ht : (pc : Int) + off = (tgt : Int)) (hq : pc + 3 = q) (ha : -2147483648 ≤ a ∧ a < 2147483648) (hb' : -2147483648 ≤ b ∧ b < 2147483648) (kt : b ≤ a → XJ p l e R s m args below meth c D Wd A nL Q ce sl st tgt lv r) (kf : ¬ (b ≤ a) → XJ p l e R s m args below meth c D Wd A nL Q ce sl st q lv r) : XJ p l e R s m args below meth c D Wd A nL Q ce sl st pc lv (.int (ii b) :: .int (ii a) :: r) := by
  subst hq
  intro H locs ls hP hS hl
  exact lv_icmp_ge E.1 E.2.1 hdg ht (fun z => kt ((ii_le hb' ha).mp z) H locs ls hP hS hl) (fun z => kf (fun z' => z ((ii_le hb' ha).mpr z')) H locs ls hP hS hl)
theorem x_if_ge (E : EN R ce sl p s m args meth c cc nL ret Ts own D tys Wd al A) {a : Int} {off : Int} {tgt : Nat} (hdg : decode cc pc = .ok (.ifCond .ge off, 3)) (ht : (pc : Int) + off = (tgt : Int)) (hq : pc + 3 = q) (ha : -2147483648 ≤ a ∧ a < 2147483648) (kt : 0 ≤ a → XJ p l e R s m args below meth c D Wd A nL Q ce sl st tgt lv r) (kf : ¬ (0 ≤ a) → XJ p l e R s m args below meth c D Wd A nL Q ce sl st q lv r) : XJ p l e R s m args below meth c D Wd A nL Q ce sl st pc lv (.int (ii a) :: r) := by
  subst hq
  have h0 : -2147483648 ≤ (0 : Int) ∧ (0 : Int) < 2147483648 := by omega
  intro H locs ls hP hS hl
  exact lv_if_ge E.1 E.2.1 hdg ht (by rw [← ii_0]; exact (fun z => kt ((ii_le h0 ha).mp z) H locs ls hP hS hl)) (by rw [← ii_0]; exact (fun z => kf (fun z' => z ((ii_le h0 ha).mpr z')) H locs ls hP hS hl))
theorem x_icmp_gt (E : EN R ce sl p s m args meth c cc nL ret Ts own D tys Wd al A) {a b : Int} {off : Int} {tgt : Nat} (hdg : decode cc pc = .ok (.if_icmp .gt off, 3)) (ht : (pc : Int) + off = (tgt : Int)) (hq : pc + 3 = q) (ha : -2147483648 ≤ a ∧ a < 2147483648) (hb' : -2147483648 ≤ b ∧ b < 2147483648) (kt : b < a → XJ p l e R s m args below meth c D Wd A nL Q ce sl st tgt lv r) (kf : ¬ (b < a) → XJ p l e R s m args below meth c D Wd A nL Q ce sl st q lv r) : XJ p l e R s m args below meth c D Wd A nL Q ce sl st pc lv (.int (ii b) :: .int (ii a) :: r) := by
  subst hq
  intro H locs ls hP hS hl
  exact lv_icmp_gt E.1 E.2.1 hdg ht (fun z => kt ((ii_lt hb' ha).mp z) H locs ls hP hS hl) (fun z => kf (fun z' => z ((ii_lt hb' ha).mpr z')) H locs ls hP hS hl)
theorem x_if_gt (E : EN R ce sl p s m args meth c cc nL ret Ts own D tys Wd al A) {a : Int} {off : Int} {tgt : Nat} (hdg : decode cc pc = .ok (.ifCond .gt off, 3)) (ht : (pc : Int) + off = (tgt : Int)) (hq : pc + 3 = q) (ha : -2147483648 ≤ a ∧ a < 2147483648) (kt : 0 < a → XJ p l e R s m args below meth c D Wd A nL Q ce sl st tgt lv r) (kf : ¬ (0 < a) → XJ p l e R s m args below meth c D Wd A nL Q ce sl st q lv r) : XJ p l e R s m args below meth c D Wd A nL Q ce sl st pc lv (.int (ii a) :: r) := by
  subst hq
  have h0 : -2147483648 ≤ (0 : Int) ∧ (0 : Int) < 2147483648 := by omega
  intro H locs ls hP hS hl
  exact lv_if_gt E.1 E.2.1 hdg ht (by rw [← ii_0]; exact (fun z => kt ((ii_lt h0 ha).mp z) H locs ls hP hS hl)) (by rw [← ii_0]; exact (fun z => kf (fun z' => z ((ii_lt h0 ha).mpr z')) H locs ls hP hS hl))
theorem x_icmp_le (E : EN R ce sl p s m args meth c cc nL ret Ts own D tys Wd al A) {a b : Int} {off : Int} {tgt : Nat} (hdg : decode cc pc = .ok (.if_icmp .le off, 3)) (ht : (pc : Int) + off = (tgt : Int)) (hq : pc + 3 = q) (ha : -2147483648 ≤ a ∧ a < 2147483648) (hb' : -2147483648 ≤ b ∧ b < 2147483648) (kt : a ≤ b → XJ p l e R s m args below meth c D Wd A nL Q ce sl st tgt lv r) (kf : ¬ (a ≤ b) → XJ p l e R s m args below meth c D Wd A nL Q ce sl st q lv r) : XJ p l e R s m args below meth c D Wd A nL Q ce sl st pc lv (.int (ii b) :: .int (ii a) :: r) := by
  subst hq
  intro H locs ls hP hS hl
  exact lv_icmp_le E.1 E.2.1 hdg ht (fun z => kt ((ii_le ha hb').mp z) H locs ls hP hS hl) (fun z => kf (fun z' => z ((ii_le ha hb').mpr z')) H locs ls hP hS hl)
theorem x_if_le (E : EN R ce sl p s m args meth c cc nL ret Ts own D tys Wd al A) {a : Int} {off : Int} {tgt : Nat} (hdg : decode cc pc = .ok (.ifCond .le off, 3)) (ht : (pc : Int) + off = (tgt : Int)) (hq : pc + 3 = q) (ha : -2147483648 ≤ a ∧ a < 2147483648) (kt : a ≤ 0 → XJ p l e R s m args below meth c D Wd A nL Q ce sl st tgt lv r) (kf : ¬ (a ≤ 0) → XJ p l e R s m args below meth c D Wd A nL Q ce sl st q lv r) : XJ p l e R s m args below meth c D Wd A nL Q ce sl st pc lv (.int (ii a) :: r) := by
  subst hq
  have h0 : -2147483648 ≤ (0 : Int) ∧ (0 : Int) < 2147483648 := by omega
  intro H locs ls hP hS hl
  exact lv_if_le E.1 E.2.1 hdg ht (by rw [← ii_0]; exact (fun z => kt ((ii_le ha h0).mp z) H locs ls hP hS hl)) (by rw [← ii_0]; exact (fun z => kf (fun z' => z ((ii_le ha h0).mpr z')) H locs ls hP hS hl))
theorem x_goto (E : EN R ce sl p s m args meth c cc nL ret Ts own D tys Wd al A) {off : Int} {tgt : Nat} (hdg : decode cc pc = .ok (.goto off, 3)) (ht : (pc : Int) + off = (tgt : Int)) (kk : XJ p l e R s m args below meth c D Wd A nL Q ce sl st tgt lv r) : XJ p l e R s m args below meth c D Wd A nL Q ce sl st pc lv r := by
  intro H locs ls hP hS hl
  exact lv_goto E.1 E.2.1 hdg ht (kk H locs ls hP hS hl)
theorem x_ifnonnull (E : EN R ce sl p s m args meth c cc nL ret Ts own D tys Wd al A) {x : Nat} {off : Int} {tgt : Nat} (hdg : decode cc pc = .ok (.ifnonnull off, 3)) (ht : (pc : Int) + off = (tgt : Int)) (kk : XJ p l e R s m args below meth c D Wd A nL Q ce sl st tgt lv r) : XJ p l e R s m args below meth c D Wd A nL Q ce sl st pc lv (.ref x :: r) := by
  intro H locs ls hP hS hl
  exact lv_ifnonnull E.1 E.2.1 hdg ht (kk H locs ls hP hS hl)
theorem x_ifnonnullN (E : EN R ce sl p s m args meth c cc nL ret Ts own D tys Wd al A) {off : Int} (hdg : decode cc pc = .ok (.ifnonnull off, 3)) (hq : pc + 3 = q) (kk : XJ p l e R s m args below meth c D Wd A nL Q ce sl st q lv r) : XJ p l e R s m args below meth c D Wd A nL Q ce sl st pc lv (.null :: r) := by
  subst hq
  intro H locs ls hP hS hl
  exact lv_ifnonnullN E.1 E.2.1 hdg (kk H locs ls hP hS hl)
theorem x_get (E : EN R ce sl p s m args meth c cc nL ret Ts own D tys Wd al A) {C : String} {T : u_T} {N ci ix a : Nat} (hin : ∀ w ∈ u_ws C T N, w ∈ Ts) (q0 : Nat) {fs : List Value} (he : (Wd st)[q0]? = some (a, .inr (ci, fs))) (hc : vwCl[ci]? = some (C, T, N)) (k : Nat) (hk : k < N) (hlink : Cond.fieldLink own ix (T k).1 (T k).2.1 (T k).2.2.1 ∈ Ts) {v : Value} (hv : fs[k]? = some v) (hdg : decode cc pc = .ok (.getfield ix, 3)) (hq : pc + 3 = q) (kk : XJ p l e R s m args below meth c D Wd A nL Q ce sl st q lv (v :: r)) : XJ p l e R s m args below meth c D Wd A nL Q ce sl st pc lv (.ref a :: r) := by
  subst hq
  intro H locs ls hP hS hl
  exact va_get E.1 E.2.1 E.2.2.2.2.2.2.1 hin E.2.2.2.2.2.1 E.2.2.2.2.2.2.2.1 hP q0 he hc k hk (E.2.2.2.2.2.2.1 _ hlink) (fun _ h => h) hv hdg (kk H locs ls hP hS hl)
theorem x_put (E : EN R ce sl p s m args meth c cc nL ret Ts own D tys Wd al A) {C : String} {T : u_T} {N ci ix a : Nat} (hin : ∀ w ∈ u_ws C T N, w ∈ Ts) (ty0 : Nat → FieldType) (hty : ∀ k, k < N → parseFieldDescriptor (T k).2.2.1 = some (ty0 k)) (hnm : ∀ a, a < N → ∀ b, b < N → a ≠ b → (T a).2.1 ≠ (T b).2.1) (q0 : Nat) {fs : List Value} (he : (Wd st)[q0]? = some (a, .inr (ci, fs))) (hc : vwCl[ci]? = some (C, T, N)) (k : Nat) (hk : k < N) (hlink : Cond.fieldLink own ix (T k).1 (T k).2.1 (T k).2.2.1 ∈ Ts) (hfin : (T k).2.2.2 = false) {ty : FieldType} {v : Value} (hd : parseFieldDescriptor (T k).2.2.1 = some ty) (hn : narrow ty v = v) (hfit : fits ty v = true) (hl9 : k < fs.length) (hdg : decode cc pc = .ok (.putfield ix, 3)) (hset : (Wd st).set q0 (a, .inr (ci, fs.set k v)) = Wd st') (hq : pc + 3 = q) (kk : XJ p l e R s m args below meth c D Wd A nL Q ce sl st' q lv r) : XJ p l e R s m args below meth c D Wd A nL Q ce sl st pc lv (v :: .ref a :: r) := by
  subst hq
  intro H locs ls hP hS hl
  exact va_put E.1 E.2.1 E.2.2.2.2.2.2.1 hin ty0 hty hnm E.2.2.2.2.2.1 E.2.2.2.2.2.2.2.1 hP (E.2.2.2.2.2.2.2.2.1 st) hS q0 he hc k hk (E.2.2.2.2.2.2.1 _ hlink) (fun _ h => h) hfin hd hn hfit hl9 hdg (fun H1 locs1 hP1 hD1 hS1 => kk H1 locs1 ls (by rw [← hset]; exact hP1) hS1 hl)
theorem x_iald (E : EN R ce sl p s m args meth c cc nL ret Ts own D tys Wd al A) {cA : ClassId} {n a : Nat} (q0 : Nat) {f : Int → Int} (ha : (Wd st)[q0]? = some (a, .inl (cA, n, .inl (fun k => ii (f (k : Int)))))) (t0 : Nat) (ht : tys[t0]? = some (cA, .int)) {z : Int} (h0 : 0 ≤ z) (h1 : z < (n : Int)) (hn : n < 2147483648) (hdg : decode cc pc = .ok (.iaload, 1)) (hq : pc + 1 = q) (kk : XJ p l e R s m args below meth c D Wd A nL Q ce sl st q lv (.int (ii (f z)) :: r)) : XJ p l e R s m args below meth c D Wd A nL Q ce sl st pc lv (.int (ii z) :: .ref a :: r) := by
  subst hq
  intro H locs ls hP hS hl
  refine va_iald E.1 E.2.1 E.2.2.2.2.2.2.2.1 hP q0 t0 ha ht (ii_in h0 h1 hn) hdg ?_
  have e1 : (((ii z).toNatClampNeg : Nat) : Int) = z := by rw [ii_cl h0 (by omega)]; omega
  show W p l e R s m args below meth c H locs ce sl Q (F0 m (pc + 1) ls (.int (ii (f (((ii z).toNatClampNeg : Nat) : Int))) :: r))
  rw [e1]
  exact (kk H locs ls hP hS hl)
theorem x_bald (E : EN R ce sl p s m args meth c cc nL ret Ts own D tys Wd al A) {cA : ClassId} {n a : Nat} (q0 : Nat) {f : Int → Int} (ha : (Wd st)[q0]? = some (a, .inl (cA, n, .inl (fun k => ii (f (k : Int)))))) (t0 : Nat) (ht : tys[t0]? = some (cA, .byte)) {z : Int} (h0 : 0 ≤ z) (h1 : z < (n : Int)) (hn : n < 2147483648) (hdg : decode cc pc = .ok (.baload, 1)) (hq : pc + 1 = q) (kk : XJ p l e R s m args below meth c D Wd A nL Q ce sl st q lv (.int (ii (f z)) :: r)) : XJ p l e R s m args below meth c D Wd A nL Q ce sl st pc lv (.int (ii z) :: .ref a :: r) := by
  subst hq
  intro H locs ls hP hS hl
  refine va_bald E.1 E.2.1 E.2.2.2.2.2.2.2.1 hP q0 t0 ha ht (ii_in h0 h1 hn) hdg ?_
  have e1 : (((ii z).toNatClampNeg : Nat) : Int) = z := by rw [ii_cl h0 (by omega)]; omega
  show W p l e R s m args below meth c H locs ce sl Q (F0 m (pc + 1) ls (.int (ii (f (((ii z).toNatClampNeg : Nat) : Int))) :: r))
  rw [e1]
  exact (kk H locs ls hP hS hl)
theorem x_lald (E : EN R ce sl p s m args meth c cc nL ret Ts own D tys Wd al A) {cA : ClassId} {n a : Nat} (q0 : Nat) {f : Int → Int} (ha : (Wd st)[q0]? = some (a, .inl (cA, n, .inr (.inl (fun k => jj (f (k : Int))))))) (t0 : Nat) (ht : tys[t0]? = some (cA, .long)) {z : Int} (h0 : 0 ≤ z) (h1 : z < (n : Int)) (hn : n < 2147483648) (hdg : decode cc pc = .ok (.laload, 1)) (hq : pc + 1 = q) (kk : XJ p l e R s m args below meth c D Wd A nL Q ce sl st q lv (.long (jj (f z)) :: r)) : XJ p l e R s m args below meth c D Wd A nL Q ce sl st pc lv (.int (ii z) :: .ref a :: r) := by
  subst hq
  intro H locs ls hP hS hl
  refine va_lald E.1 E.2.1 E.2.2.2.2.2.2.2.1 hP q0 t0 ha ht (ii_in h0 h1 hn) hdg ?_
  have e1 : (((ii z).toNatClampNeg : Nat) : Int) = z := by rw [ii_cl h0 (by omega)]; omega
  show W p l e R s m args below meth c H locs ce sl Q (F0 m (pc + 1) ls (.long (jj (f (((ii z).toNatClampNeg : Nat) : Int))) :: r))
  rw [e1]
  exact (kk H locs ls hP hS hl)
theorem x_aald (E : EN R ce sl p s m args meth c cc nL ret Ts own D tys Wd al A) {cA : ClassId} {C : String} {n a : Nat} (q0 : Nat) {f : Nat → Option Nat} (ha : (Wd st)[q0]? = some (a, .inl (cA, n, .inr (.inr (.inr (.inr f)))))) (t0 : Nat) (ht : tys[t0]? = some (cA, .object C)) (j : Nat) {b : Nat} (h1 : j < n) (hn : n < 2147483648) (hf : f j = some b) (hdg : decode cc pc = .ok (.aaload, 1)) (hq : pc + 1 = q) (kk : XJ p l e R s m args below meth c D Wd A nL Q ce sl st q lv (.ref b :: r)) : XJ p l e R s m args below meth c D Wd A nL Q ce sl st pc lv (.int (ii (j : Int)) :: .ref a :: r) := by
  subst hq
  intro H locs ls hP hS hl
  refine va_aldq E.1 E.2.1 E.2.2.2.2.2.2.2.1 hP q0 t0 ha ht (ii_in (by omega) (by omega) hn) hdg ?_
  rw [ii_cl (by omega) (by omega), show ((j : Int)).toNat = j from by omega, hf]
  exact (kk H locs ls hP hS hl)
theorem x_iast (E : EN R ce sl p s m args meth c cc nL ret Ts own D tys Wd al A) {cA : ClassId} {n a : Nat} (q0 : Nat) {f : Int → Int} (ha : (Wd st)[q0]? = some (a, .inl (cA, n, .inl (fun k => ii (f (k : Int)))))) (t0 : Nat) (ht : tys[t0]? = some (cA, .int)) {z v : Int} (h0 : 0 ≤ z) (h1 : z < (n : Int)) (hn : n < 2147483648) (hdg : decode cc pc = .ok (.iastore, 1)) (hset : (Wd st).set q0 (a, .inl (cA, n, .inl (fun k => ii (zup f z v (k : Int))))) = Wd st') (hq : pc + 1 = q) (kk : XJ p l e R s m args below meth c D Wd A nL Q ce sl st' q lv r) : XJ p l e R s m args below meth c D Wd A nL Q ce sl st pc lv (.int (ii v) :: .int (ii z) :: .ref a :: r) := by
  subst hq
  intro H locs ls hP hS hl
  refine va_iast E.1 E.2.1 E.2.2.2.2.2.2.2.1 hP (E.2.2.2.2.2.2.2.2.1 st) hS q0 t0 ha ht (ii_in h0 h1 hn) hdg (fun H1 locs1 hP1 hD1 hS1 => ?_)
  rw [upd_ii f v h0 (by omega), hset] at hP1
  exact kk H1 locs1 ls hP1 hS1 hl
theorem x_bast (E : EN R ce sl p s m args meth c cc nL ret Ts own D tys Wd al A) {cA : ClassId} {n a : Nat} (q0 : Nat) {f : Int → Int} (ha : (Wd st)[q0]? = some (a, .inl (cA, n, .inl (fun k => ii (f (k : Int)))))) (t0 : Nat) (ht : tys[t0]? = some (cA, .byte)) {z v : Int} (h0 : 0 ≤ z) (h1 : z < (n : Int)) (hn : n < 2147483648) (h2 : 0 ≤ v) (h3 : v < 128) (hdg : decode cc pc = .ok (.bastore, 1)) (hset : (Wd st).set q0 (a, .inl (cA, n, .inl (fun k => ii (zup f z v (k : Int))))) = Wd st') (hq : pc + 1 = q) (kk : XJ p l e R s m args below meth c D Wd A nL Q ce sl st' q lv r) : XJ p l e R s m args below meth c D Wd A nL Q ce sl st pc lv (.int (ii v) :: .int (ii z) :: .ref a :: r) := by
  subst hq
  intro H locs ls hP hS hl
  refine va_bast E.1 E.2.1 E.2.2.2.2.2.2.2.1 hP (E.2.2.2.2.2.2.2.2.1 st) hS q0 t0 ha ht (ii_in h0 h1 hn) hdg (fun H1 locs1 hP1 hD1 hS1 => ?_)
  rw [vp_nar_byte, ii_byteZ h2 h3, upd_ii f v h0 (by omega), hset] at hP1
  exact kk H1 locs1 ls hP1 hS1 hl
theorem x_last (E : EN R ce sl p s m args meth c cc nL ret Ts own D tys Wd al A) {cA : ClassId} {n a : Nat} (q0 : Nat) {f : Int → Int} (ha : (Wd st)[q0]? = some (a, .inl (cA, n, .inr (.inl (fun k => jj (f (k : Int))))))) (t0 : Nat) (ht : tys[t0]? = some (cA, .long)) {z v : Int} (h0 : 0 ≤ z) (h1 : z < (n : Int)) (hn : n < 2147483648) (hdg : decode cc pc = .ok (.lastore, 1)) (hset : (Wd st).set q0 (a, .inl (cA, n, .inr (.inl (fun k => jj (zup f z v (k : Int)))))) = Wd st') (hq : pc + 1 = q) (kk : XJ p l e R s m args below meth c D Wd A nL Q ce sl st' q lv r) : XJ p l e R s m args below meth c D Wd A nL Q ce sl st pc lv (.long (jj v) :: .int (ii z) :: .ref a :: r) := by
  subst hq
  intro H locs ls hP hS hl
  refine va_last E.1 E.2.1 E.2.2.2.2.2.2.2.1 hP (E.2.2.2.2.2.2.2.2.1 st) hS q0 t0 ha ht (ii_in h0 h1 hn) hdg (fun H1 locs1 hP1 hD1 hS1 => ?_)
  rw [updL_jj f v h0 (by omega), hset] at hP1
  exact kk H1 locs1 ls hP1 hS1 hl
theorem x_alen (E : EN R ce sl p s m args meth c cc nL ret Ts own D tys Wd al A) {cA : ClassId} {n a : Nat} {f : ((Nat → Int32) ⊕ (Nat → Int64) ⊕ (Nat → UInt32) ⊕ (Nat → UInt64) ⊕ (Nat → Option Nat))} (q0 : Nat) (ha : (Wd st)[q0]? = some (a, .inl (cA, n, f))) {ty : FieldType} (t0 : Nat) (ht : tys[t0]? = some (cA, ty)) (hdg : decode cc pc = .ok (.arraylength, 1)) (hq : pc + 1 = q) (kk : XJ p l e R s m args below meth c D Wd A nL Q ce sl st q lv (.int (ii (n : Int)) :: r)) : XJ p l e R s m args below meth c D Wd A nL Q ce sl st pc lv (.ref a :: r) := by
  subst hq
  intro H locs ls hP hS hl
  exact va_alen E.1 E.2.1 E.2.2.2.2.2.2.2.1 hP q0 t0 ha ht (ii_nI n) hdg (kk H locs ls hP hS hl)
theorem x_max (E : EN R ce sl p s m args meth c cc nL ret Ts own D tys Wd al A) {ix : Nat} {a b : Int} (h1 : Cond.methodLink own ix Lib.Math.max.name ∈ Ts) (h2 : Cond.static Lib.Math.max.name ∈ Ts) (h3 : Cond.initialized "java/lang/Math" ∈ Ts) (h4 : Cond.code Lib.Math.max.name Lib.Math.max.code 2 (some .int) ∈ Ts) (hf : 1 ≤ R.frames) (hlo : (r.map fun v => v.category).sum + 13 ≤ R.locals) (ha : -2147483648 ≤ a ∧ a < 2147483648) (hb' : -2147483648 ≤ b ∧ b < 2147483648) (hdg : decode cc pc = .ok (.invokestatic ix, 3)) (hq : pc + 3 = q) (kk : XJ p l e R s m args below meth c D Wd A nL Q ce sl st q lv (.int (ii (if a < b then b else a)) :: r)) : XJ p l e R s m args below meth c D Wd A nL Q ce sl st pc lv (.int (ii b) :: .int (ii a) :: r) := by
  subst hq
  intro H locs ls hP hS hl
  refine va_mmax E.1 E.2.1 ((E.2.2.1).trans hl.1.symm) E.2.2.2.2.2.1 (E.2.2.2.2.2.2.1 _ h1) (E.2.2.2.2.2.2.1 _ h2) (E.2.2.2.2.2.2.1 _ h3) (E.2.2.2.2.2.2.1 _ h4) hf hlo E.2.2.2.2.2.2.2.2.2.2.2.1 E.2.2.2.2.2.2.2.2.2.2.2.2.1 hdg ?_
  rw [ii_max a b ha hb']
  exact (kk H locs ls hP hS hl)
theorem x_abs (E : EN R ce sl p s m args meth c cc nL ret Ts own D tys Wd al A) {ix : Nat} {a : Int} (h1 : Cond.methodLink own ix Lib.Math.abs.name ∈ Ts) (h2 : Cond.static Lib.Math.abs.name ∈ Ts) (h3 : Cond.initialized "java/lang/Math" ∈ Ts) (h4 : Cond.code Lib.Math.abs.name Lib.Math.abs.code 1 (some .int) ∈ Ts) (hf : 1 ≤ R.frames) (hlo : (r.map fun v => v.category).sum + 13 ≤ R.locals) (ha : -2147483648 ≤ a ∧ a < 2147483648) (hdg : decode cc pc = .ok (.invokestatic ix, 3)) (hq : pc + 3 = q) (kk : XJ p l e R s m args below meth c D Wd A nL Q ce sl st q lv (.int (ii (if 0 ≤ a then a else -a)) :: r)) : XJ p l e R s m args below meth c D Wd A nL Q ce sl st pc lv (.int (ii a) :: r) := by
  subst hq
  intro H locs ls hP hS hl
  have h0 : -2147483648 ≤ (0 : Int) ∧ (0 : Int) < 2147483648 := by omega
  refine va_mabs E.1 E.2.1 ((E.2.2.1).trans hl.1.symm) E.2.2.2.2.2.1 (E.2.2.2.2.2.2.1 _ h1) (E.2.2.2.2.2.2.1 _ h2) (E.2.2.2.2.2.2.1 _ h3) (E.2.2.2.2.2.2.1 _ h4) hf hlo E.2.2.2.2.2.2.2.2.2.2.2.1 E.2.2.2.2.2.2.2.2.2.2.2.2.1 hdg ?_
  have e1 : (if 0 ≤ ii a then ii a else 0 - ii a) = ii (if 0 ≤ a then a else -a) := by
    rw [← ii_0]
    by_cases h : 0 ≤ a
    · rw [if_pos ((ii_le h0 ha).mpr h), if_pos h]
    · rw [if_neg (fun q => h ((ii_le h0 ha).mp q)), if_neg h, ii_sub]
      exact congrArg ii (by omega)
  rw [e1]
  exact (kk H locs ls hP hS hl)
theorem x_st (E : EN R ce sl p s m args meth c cc nL ret Ts own D tys Wd al A) (h : st = st') (kk : XJ p l e R s m args below meth c D Wd A nL Q ce sl st' pc lv r) : XJ p l e R s m args below meth c D Wd A nL Q ce sl st pc lv r := by rw [h]; exact kk
theorem x_lv (E : EN R ce sl p s m args meth c cc nL ret Ts own D tys Wd al A) (ks : List Nat) (h : lv_pick lv ks = lv') (kk : XJ p l e R s m args below meth c D Wd A nL Q ce sl st pc lv' r) : XJ p l e R s m args below meth c D Wd A nL Q ce sl st pc lv r := fun H locs ls hP hS hl => kk H locs ls hP hS (lv_sub hl ks h)
theorem x_ti {a b : Int} (h : a = b) (kk : XJ p l e R s m args below meth c D Wd A nL Q ce sl st pc lv (.int (ii b) :: r)) : XJ p l e R s m args below meth c D Wd A nL Q ce sl st pc lv (.int (ii a) :: r) := by rw [h]; exact kk
theorem x_tl {a b : Int} (h : a = b) (kk : XJ p l e R s m args below meth c D Wd A nL Q ce sl st pc lv (.long (jj b) :: r)) : XJ p l e R s m args below meth c D Wd A nL Q ce sl st pc lv (.long (jj a) :: r) := by rw [h]; exact kk
end XR
section XE
variable {σ : Type} {p : Program} {l : Launch} {e : Env} {R : Room} {s : State} {m : MethodId} {args : Array Value} {below : List Frame} {meth : Method} {c : Code} {cc : ByteArray} {nL : Nat} {ret : Option FieldType} {Ts : List Cond} {own : String} {D : va_G} {tys : List (ClassId × FieldType)} {Wd : σ → va_W} {al : List Nat} {A : Nat → Prop} {Q : State → Prop} {ce sl : Nat} {st st' : σ} {pc q : Nat} {lv lv' : List (Nat × Value)} {r stk : List Value}
theorem CXi.mk {σ : Type} {l : Launch} {y : MethodName} {ws ws' : List Cond} {rm : Room} {av : List Value} {D : va_G} {tys : List (ClassId × FieldType)} {Wd : σ → va_W} {al : List Nat} {st : σ} {post : Int → σ → Prop} {cc : ByteArray} {nL : Nat} {ret : Option FieldType} (hy : plainName y.cls = true) (hw : ws = Cond.code y cc nL ret :: ws') (hok : okW Wd al) (hlen : (lg_sl av).length ≤ nL) (lv : List (Nat × Value)) (hlv : lv_args 0 av = lv)
    (body : ∀ (p : Program) (e : Env) (s : State) (m : MethodId) (args : Array Value) (below : List Frame) (meth : Method) (c : Code) (A : Nat → Prop), EN (headSpec ws rm).room 0 0 p s m args meth c cc nL ret ws y.cls D tys Wd al A → XJ p l e (headSpec ws rm).room s m args below meth c D Wd A nL (MQ below (va_Qi (fun (r : Int32) (u : Int × σ) => r = ii u.1 ∧ post u.1 u.2) (fun u t => va_P D vwCl (Wd u.2) t.heap) A) args s 0 0 A) 0 0 st 0 lv []) : CXi l y ws rm av D tys Wd al st post := by
  intro sz
  refine Met.ofW (cc := cc) (maxL := nL) (ret := ret) hy hw ?_
  intro p e s m args below meth c s₁ B hml hv
  obtain ⟨rfl, hsz, hP, hK, hnw⟩ := hv
  subst hsz
  have hl := lv_entry av (n := nL) hlen
  rw [hlv] at hl
  rw [lg_entry_eq]
  exact body p e s m _ below meth c (mX al s.heap.size) ⟨B.exec, B.bytes, hml, B.returns, B.notSynchronized, findClass_of_methodNamed B.named, atoms_spec (ws := ws) B.pre, hK, fun st => hok.A _ st, fun q hq => Or.inl hq, fun q hq => Or.inr hq, Nat.zero_le _, Nat.zero_le _, hnw⟩ s.heap [] _ hP va_S.rf hl
theorem x_iret {post : Int → σ → Prop} (E : EN R 0 0 p s m args meth c cc nL ret Ts own D tys Wd al A) {z : Int} (hr : ret = some .int) (hp : post z st) (hdg : decode cc pc = .ok (.ireturn, 1)) : XJ p l e R s m args below meth c D Wd A nL (MQ below (va_Qi (fun (r : Int32) (u : Int × σ) => r = ii u.1 ∧ post u.1 u.2) (fun u t => va_P D vwCl (Wd u.2) t.heap) A) args s 0 0 A) 0 0 st pc lv [.int (ii z)] := by
  intro H locs ls hP hS hl
  exact W.iret E.1 E.2.1 ((E.2.2.2.1).trans hr) (fun t ht hW => ⟨⟨ii z, (z, st), rfl, ⟨rfl, hp⟩, (show va_P D vwCl (Wd st) t.heap by rw [ht]; exact hP)⟩, hS.F ht⟩) hS.2.2 hdg E.2.2.2.2.1
theorem x_zret {post : Int → σ → Prop} (E : EN R 0 0 p s m args meth c cc nL ret Ts own D tys Wd al A) {z : Int} {ty : FieldType} (hr : ret = some ty) (hn : narrow ty (.int (ii z)) = .int (ii z)) (hp : post z st) (hdg : decode cc pc = .ok (.ireturn, 1)) : XJ p l e R s m args below meth c D Wd A nL (MQ below (va_Qi (fun (r : Int32) (u : Int × σ) => r = ii u.1 ∧ post u.1 u.2) (fun u t => va_P D vwCl (Wd u.2) t.heap) A) args s 0 0 A) 0 0 st pc lv [.int (ii z)] := by
  intro H locs ls hP hS hl
  exact W.zret E.1 E.2.1 ((E.2.2.2.1).trans hr) hn (fun t ht hW => ⟨⟨ii z, (z, st), rfl, ⟨rfl, hp⟩, (show va_P D vwCl (Wd st) t.heap by rw [ht]; exact hP)⟩, hS.F ht⟩) hS.2.2 hdg E.2.2.2.2.1
theorem CXl.mk {σ : Type} {l : Launch} {y : MethodName} {ws ws' : List Cond} {rm : Room} {av : List Value} {D : va_G} {tys : List (ClassId × FieldType)} {Wd : σ → va_W} {al : List Nat} {st : σ} {post : Int → σ → Prop} {cc : ByteArray} {nL : Nat} {ret : Option FieldType} (hy : plainName y.cls = true) (hw : ws = Cond.code y cc nL ret :: ws') (hok : okW Wd al) (hlen : (lg_sl av).length ≤ nL) (lv : List (Nat × Value)) (hlv : lv_args 0 av = lv)
    (body : ∀ (p : Program) (e : Env) (s : State) (m : MethodId) (args : Array Value) (below : List Frame) (meth : Method) (c : Code) (A : Nat → Prop), EN (headSpec ws rm).room 0 0 p s m args meth c cc nL ret ws y.cls D tys Wd al A → XJ p l e (headSpec ws rm).room s m args below meth c D Wd A nL (MQ below (va_Ql (fun (r : Int64) (u : Int × σ) => r = jj u.1 ∧ post u.1 u.2) (fun u t => va_P D vwCl (Wd u.2) t.heap) A) args s 0 0 A) 0 0 st 0 lv []) : CXl l y ws rm av D tys Wd al st post := by
  intro sz
  refine Met.ofW (cc := cc) (maxL := nL) (ret := ret) hy hw ?_
  intro p e s m args below meth c s₁ B hml hv
  obtain ⟨rfl, hsz, hP, hK, hnw⟩ := hv
  subst hsz
  have hl := lv_entry av (n := nL) hlen
  rw [hlv] at hl
  rw [lg_entry_eq]
  exact body p e s m _ below meth c (mX al s.heap.size) ⟨B.exec, B.bytes, hml, B.returns, B.notSynchronized, findClass_of_methodNamed B.named, atoms_spec (ws := ws) B.pre, hK, fun st => hok.A _ st, fun q hq => Or.inl hq, fun q hq => Or.inr hq, Nat.zero_le _, Nat.zero_le _, hnw⟩ s.heap [] _ hP va_S.rf hl
theorem x_lret {post : Int → σ → Prop} (E : EN R 0 0 p s m args meth c cc nL ret Ts own D tys Wd al A) {z : Int} (hr : ret = some .long) (hp : post z st) (hdg : decode cc pc = .ok (.lreturn, 1)) : XJ p l e R s m args below meth c D Wd A nL (MQ below (va_Ql (fun (r : Int64) (u : Int × σ) => r = jj u.1 ∧ post u.1 u.2) (fun u t => va_P D vwCl (Wd u.2) t.heap) A) args s 0 0 A) 0 0 st pc lv [.long (jj z)] := by
  intro H locs ls hP hS hl
  exact W.lret E.1 E.2.1 ((E.2.2.2.1).trans hr) (fun t ht hW => ⟨⟨jj z, (z, st), rfl, ⟨rfl, hp⟩, (show va_P D vwCl (Wd st) t.heap by rw [ht]; exact hP)⟩, hS.F ht⟩) hS.2.2 hdg E.2.2.2.2.1
theorem CXv.mk {σ : Type} {l : Launch} {y : MethodName} {ws ws' : List Cond} {rm : Room} {av : List Value} {D : va_G} {tys : List (ClassId × FieldType)} {Wd : σ → va_W} {al : List Nat} {st : σ} {post : σ → Prop} {cc : ByteArray} {nL : Nat} {ret : Option FieldType} (hy : plainName y.cls = true) (hw : ws = Cond.code y cc nL ret :: ws') (hok : okW Wd al) (hlen : (lg_sl av).length ≤ nL) (lv : List (Nat × Value)) (hlv : lv_args 0 av = lv)
    (body : ∀ (p : Program) (e : Env) (s : State) (m : MethodId) (args : Array Value) (below : List Frame) (meth : Method) (c : Code) (A : Nat → Prop), EN (headSpec ws rm).room 0 0 p s m args meth c cc nL ret ws y.cls D tys Wd al A → XJ p l e (headSpec ws rm).room s m args below meth c D Wd A nL (MQ below (va_Qv (fun u : σ => post u) (fun u t => va_P D vwCl (Wd u) t.heap) A) args s 0 0 A) 0 0 st 0 lv []) : CXv l y ws rm av D tys Wd al st post := by
  intro sz
  refine Met.ofW (cc := cc) (maxL := nL) (ret := ret) hy hw ?_
  intro p e s m args below meth c s₁ B hml hv
  obtain ⟨rfl, hsz, hP, hK, hnw⟩ := hv
  subst hsz
  have hl := lv_entry av (n := nL) hlen
  rw [hlv] at hl
  rw [lg_entry_eq]
  exact body p e s m _ below meth c (mX al s.heap.size) ⟨B.exec, B.bytes, hml, B.returns, B.notSynchronized, findClass_of_methodNamed B.named, atoms_spec (ws := ws) B.pre, hK, fun st => hok.A _ st, fun q hq => Or.inl hq, fun q hq => Or.inr hq, Nat.zero_le _, Nat.zero_le _, hnw⟩ s.heap [] _ hP va_S.rf hl
theorem x_vret {post : σ → Prop} (E : EN R 0 0 p s m args meth c cc nL ret Ts own D tys Wd al A) (hr : ret = none) (hp : post st) (hdg : decode cc pc = .ok (.return_, 1)) : XJ p l e R s m args below meth c D Wd A nL (MQ below (va_Qv (fun u : σ => post u) (fun u t => va_P D vwCl (Wd u) t.heap) A) args s 0 0 A) 0 0 st pc lv [] := by
  intro H locs ls hP hS hl
  exact W.vret E.1 E.2.1 ((E.2.2.2.1).trans hr) (fun t ht hW => ⟨⟨st, rfl, hp, (show va_P D vwCl (Wd st) t.heap by rw [ht]; exact hP)⟩, hS.F ht⟩) hS.2.2 hdg E.2.2.2.2.1
theorem CXr.mk {σ : Type} {l : Launch} {y : MethodName} {ws ws' : List Cond} {rm : Room} {av : List Value} {D : va_G} {tys : List (ClassId × FieldType)} {Wd : σ → va_W} {al : List Nat} {st : σ} {post : Option Nat → σ → Prop} {cc : ByteArray} {nL : Nat} {ret : Option FieldType} (hy : plainName y.cls = true) (hw : ws = Cond.code y cc nL ret :: ws') (hok : okW Wd al) (hlen : (lg_sl av).length ≤ nL) (lv : List (Nat × Value)) (hlv : lv_args 0 av = lv)
    (body : ∀ (p : Program) (e : Env) (s : State) (m : MethodId) (args : Array Value) (below : List Frame) (meth : Method) (c : Code) (A : Nat → Prop), EN (headSpec ws rm).room 0 0 p s m args meth c cc nL ret ws y.cls D tys Wd al A → XJ p l e (headSpec ws rm).room s m args below meth c D Wd A nL (MQ below (va_Qq (fun (r : Option Nat) (u : σ) => post r u) (fun u t => va_P D vwCl (Wd u) t.heap) A) args s 0 0 A) 0 0 st 0 lv []) : CXr l y ws rm av D tys Wd al st post := by
  intro sz
  refine Met.ofW (cc := cc) (maxL := nL) (ret := ret) hy hw ?_
  intro p e s m args below meth c s₁ B hml hv
  obtain ⟨rfl, hsz, hP, hK, hnw⟩ := hv
  subst hsz
  have hl := lv_entry av (n := nL) hlen
  rw [hlv] at hl
  rw [lg_entry_eq]
  exact body p e s m _ below meth c (mX al s.heap.size) ⟨B.exec, B.bytes, hml, B.returns, B.notSynchronized, findClass_of_methodNamed B.named, atoms_spec (ws := ws) B.pre, hK, fun st => hok.A _ st, fun q hq => Or.inl hq, fun q hq => Or.inr hq, Nat.zero_le _, Nat.zero_le _, hnw⟩ s.heap [] _ hP va_S.rf hl
theorem x_aret {post : Option Nat → σ → Prop} (E : EN R 0 0 p s m args meth c cc nL ret Ts own D tys Wd al A) {b : Nat} {C : String} (hr : ret = some (.object C)) (hp : post (some b) st) (hdg : decode cc pc = .ok (.areturn, 1)) : XJ p l e R s m args below meth c D Wd A nL (MQ below (va_Qq (fun (r : Option Nat) (u : σ) => post r u) (fun u t => va_P D vwCl (Wd u) t.heap) A) args s 0 0 A) 0 0 st pc lv [.ref b] := by
  intro H locs ls hP hS hl
  exact W.aret E.1 E.2.1 ((E.2.2.2.1).trans hr) (Or.inl ⟨_, rfl⟩) (Or.inr ⟨_, rfl⟩) (fun t ht hW => ⟨⟨some b, st, rfl, hp, (show va_P D vwCl (Wd st) t.heap by rw [ht]; exact hP)⟩, hS.F ht⟩) hS.2.2 hdg E.2.2.2.2.1
theorem x_nret {post : Option Nat → σ → Prop} (E : EN R 0 0 p s m args meth c cc nL ret Ts own D tys Wd al A) {C : String} (hr : ret = some (.object C)) (hp : post none st) (hdg : decode cc pc = .ok (.areturn, 1)) : XJ p l e R s m args below meth c D Wd A nL (MQ below (va_Qq (fun (r : Option Nat) (u : σ) => post r u) (fun u t => va_P D vwCl (Wd u) t.heap) A) args s 0 0 A) 0 0 st pc lv [.null] := by
  intro H locs ls hP hS hl
  exact W.aret E.1 E.2.1 ((E.2.2.2.1).trans hr) (Or.inl ⟨_, rfl⟩) (Or.inl rfl) (fun t ht hW => ⟨⟨none, st, rfl, hp, (show va_P D vwCl (Wd st) t.heap by rw [ht]; exact hP)⟩, hS.F ht⟩) hS.2.2 hdg E.2.2.2.2.1
end XE
theorem mk_i {σ : Type} {l : Launch} {y : MethodName} {ws ws' : List Cond} {rm : Room} {av : List Value} {D : va_G} {tys : List (ClassId × FieldType)} {Wd : σ → va_W} {al : List Nat} {st : σ} {post : Int → σ → Prop} {cc : ByteArray} {nL : Nat}  (hy : plainName y.cls = true) (hw : ws = Cond.code y cc nL (some .int) :: ws') (hok : okW Wd al) (hlen : (lg_sl av).length ≤ nL) (lv : List (Nat × Value)) (hlv : lv_args 0 av = lv)
    (body : ∀ (p : Program) (e : Env) (s : State) (m : MethodId) (args : Array Value) (below : List Frame) (meth : Method) (c : Code) (A : Nat → Prop) (Q : State → Prop), EN rm 0 0 p s m args meth c cc nL (some .int) ws y.cls D tys Wd al A → (∀ (z : Int) (st : σ) (pc : Nat) (lv : List (Nat × Value)), decode cc pc = .ok (.ireturn, 1) → post z st → XJ p l e rm s m args below meth c D Wd A nL Q 0 0 st pc lv [.int (ii z)]) → XJ p l e rm s m args below meth c D Wd A nL Q 0 0 st 0 lv []) : CXi l y ws rm av D tys Wd al st post := by
  refine CXi.mk hy hw hok hlen lv hlv (fun p e s m args below meth c A E => ?_)
  exact body p e s m args below meth c A _ E (fun z st pc lv hdg hp => x_iret E rfl hp hdg)
theorem mk_z {σ : Type} {l : Launch} {y : MethodName} {ws ws' : List Cond} {rm : Room} {av : List Value} {D : va_G} {tys : List (ClassId × FieldType)} {Wd : σ → va_W} {al : List Nat} {st : σ} {post : Int → σ → Prop} {cc : ByteArray} {nL : Nat}  (hy : plainName y.cls = true) (hw : ws = Cond.code y cc nL (some .boolean) :: ws') (hok : okW Wd al) (hlen : (lg_sl av).length ≤ nL) (lv : List (Nat × Value)) (hlv : lv_args 0 av = lv)
    (body : ∀ (p : Program) (e : Env) (s : State) (m : MethodId) (args : Array Value) (below : List Frame) (meth : Method) (c : Code) (A : Nat → Prop) (Q : State → Prop), EN rm 0 0 p s m args meth c cc nL (some .boolean) ws y.cls D tys Wd al A → (∀ (z : Int) (st : σ) (pc : Nat) (lv : List (Nat × Value)), decode cc pc = .ok (.ireturn, 1) → (z = 0 ∨ z = 1) → post z st → XJ p l e rm s m args below meth c D Wd A nL Q 0 0 st pc lv [.int (ii z)]) → XJ p l e rm s m args below meth c D Wd A nL Q 0 0 st 0 lv []) : CXi l y ws rm av D tys Wd al st post := by
  refine CXi.mk hy hw hok hlen lv hlv (fun p e s m args below meth c A E => ?_)
  exact body p e s m args below meth c A _ E (fun z st pc lv hdg hz hp => x_zret E rfl (by rcases hz with rfl | rfl <;> decide) hp hdg)
theorem mk_l {σ : Type} {l : Launch} {y : MethodName} {ws ws' : List Cond} {rm : Room} {av : List Value} {D : va_G} {tys : List (ClassId × FieldType)} {Wd : σ → va_W} {al : List Nat} {st : σ} {post : Int → σ → Prop} {cc : ByteArray} {nL : Nat}  (hy : plainName y.cls = true) (hw : ws = Cond.code y cc nL (some .long) :: ws') (hok : okW Wd al) (hlen : (lg_sl av).length ≤ nL) (lv : List (Nat × Value)) (hlv : lv_args 0 av = lv)
    (body : ∀ (p : Program) (e : Env) (s : State) (m : MethodId) (args : Array Value) (below : List Frame) (meth : Method) (c : Code) (A : Nat → Prop) (Q : State → Prop), EN rm 0 0 p s m args meth c cc nL (some .long) ws y.cls D tys Wd al A → (∀ (z : Int) (st : σ) (pc : Nat) (lv : List (Nat × Value)), decode cc pc = .ok (.lreturn, 1) → post z st → XJ p l e rm s m args below meth c D Wd A nL Q 0 0 st pc lv [.long (jj z)]) → XJ p l e rm s m args below meth c D Wd A nL Q 0 0 st 0 lv []) : CXl l y ws rm av D tys Wd al st post := by
  refine CXl.mk hy hw hok hlen lv hlv (fun p e s m args below meth c A E => ?_)
  exact body p e s m args below meth c A _ E (fun z st pc lv hdg hp => x_lret E rfl hp hdg)
theorem mk_v {σ : Type} {l : Launch} {y : MethodName} {ws ws' : List Cond} {rm : Room} {av : List Value} {D : va_G} {tys : List (ClassId × FieldType)} {Wd : σ → va_W} {al : List Nat} {st : σ} {post : σ → Prop} {cc : ByteArray} {nL : Nat}  (hy : plainName y.cls = true) (hw : ws = Cond.code y cc nL none :: ws') (hok : okW Wd al) (hlen : (lg_sl av).length ≤ nL) (lv : List (Nat × Value)) (hlv : lv_args 0 av = lv)
    (body : ∀ (p : Program) (e : Env) (s : State) (m : MethodId) (args : Array Value) (below : List Frame) (meth : Method) (c : Code) (A : Nat → Prop) (Q : State → Prop), EN rm 0 0 p s m args meth c cc nL none ws y.cls D tys Wd al A → (∀ (st : σ) (pc : Nat) (lv : List (Nat × Value)), decode cc pc = .ok (.return_, 1) → post st → XJ p l e rm s m args below meth c D Wd A nL Q 0 0 st pc lv []) → XJ p l e rm s m args below meth c D Wd A nL Q 0 0 st 0 lv []) : CXv l y ws rm av D tys Wd al st post := by
  refine CXv.mk hy hw hok hlen lv hlv (fun p e s m args below meth c A E => ?_)
  exact body p e s m args below meth c A _ E (fun st pc lv hdg hp => x_vret E rfl hp hdg)
theorem mk_r {σ : Type} {l : Launch} {y : MethodName} {ws ws' : List Cond} {rm : Room} {av : List Value} {D : va_G} {tys : List (ClassId × FieldType)} {Wd : σ → va_W} {al : List Nat} {st : σ} {post : Option Nat → σ → Prop} {cc : ByteArray} {nL : Nat} {C : String} (hy : plainName y.cls = true) (hw : ws = Cond.code y cc nL (some (.object C)) :: ws') (hok : okW Wd al) (hlen : (lg_sl av).length ≤ nL) (lv : List (Nat × Value)) (hlv : lv_args 0 av = lv)
    (body : ∀ (p : Program) (e : Env) (s : State) (m : MethodId) (args : Array Value) (below : List Frame) (meth : Method) (c : Code) (A : Nat → Prop) (Q : State → Prop), EN rm 0 0 p s m args meth c cc nL (some (.object C)) ws y.cls D tys Wd al A → (∀ (b : Nat) (st : σ) (pc : Nat) (lv : List (Nat × Value)), decode cc pc = .ok (.areturn, 1) → post (some b) st → XJ p l e rm s m args below meth c D Wd A nL Q 0 0 st pc lv [.ref b]) → XJ p l e rm s m args below meth c D Wd A nL Q 0 0 st 0 lv []) : CXr l y ws rm av D tys Wd al st post := by
  refine CXr.mk hy hw hok hlen lv hlv (fun p e s m args below meth c A E => ?_)
  exact body p e s m args below meth c A _ E (fun b st pc lv hdg hp => x_aret E rfl hp hdg)
theorem mk_q {σ : Type} {l : Launch} {y : MethodName} {ws ws' : List Cond} {rm : Room} {av : List Value} {D : va_G} {tys : List (ClassId × FieldType)} {Wd : σ → va_W} {al : List Nat} {st : σ} {post : Option Nat → σ → Prop} {cc : ByteArray} {nL : Nat} {C : String} (hy : plainName y.cls = true) (hw : ws = Cond.code y cc nL (some (.object C)) :: ws') (hok : okW Wd al) (hlen : (lg_sl av).length ≤ nL) (lv : List (Nat × Value)) (hlv : lv_args 0 av = lv)
    (body : ∀ (p : Program) (e : Env) (s : State) (m : MethodId) (args : Array Value) (below : List Frame) (meth : Method) (c : Code) (A : Nat → Prop) (Q : State → Prop), EN rm 0 0 p s m args meth c cc nL (some (.object C)) ws y.cls D tys Wd al A → (∀ (b : Option Nat) (st : σ) (pc : Nat) (lv : List (Nat × Value)), decode cc pc = .ok (.areturn, 1) → post b st → XJ p l e rm s m args below meth c D Wd A nL Q 0 0 st pc lv [va_rf b]) → XJ p l e rm s m args below meth c D Wd A nL Q 0 0 st 0 lv []) : CXr l y ws rm av D tys Wd al st post := by
  refine CXr.mk hy hw hok hlen lv hlv (fun p e s m args below meth c A E => ?_)
  exact body p e s m args below meth c A _ E (fun b st pc lv hdg hp => by cases b with | none => exact x_nret E rfl hp hdg | some b => exact x_aret E rfl hp hdg)
theorem EN.nw {σ : Type} {R : Room} {ce sl : Nat} {p : Program} {s : State} {m : MethodId} {args : Array Value} {meth : Method} {c : Code} {cc : ByteArray} {nL : Nat} {ret : Option FieldType} {Ts : List Cond} {own : String} {D : va_G} {tys : List (ClassId × FieldType)} {Wd : σ → va_W} {al : List Nat} {A : Nat → Prop} (E : EN R ce sl p s m args meth c cc nL ret Ts own D tys Wd al A) : NW s := E.2.2.2.2.2.2.2.2.2.2.2.2.2
section XC
variable {σ : Type} {p : Program} {l : Launch} {e : Env} {R : Room} {s : State} {m : MethodId} {args : Array Value} {below : List Frame} {meth : Method} {c : Code} {cc : ByteArray} {nL : Nat} {ret : Option FieldType} {Ts : List Cond} {own : String} {D : va_G} {tys : List (ClassId × FieldType)} {Wd : σ → va_W} {al : List Nat} {A : Nat → Prop} {Q : State → Prop} {ce sl : Nat} {st st' : σ} {pc q : Nat} {lv lv' : List (Nat × Value)} {r stk : List Value}
theorem x_callVi (E : EN R ce sl p s m args meth c cc nL ret Ts own D tys Wd al A) {y : MethodName} {ws ws' : List Cond} {rm : Room} {As : List Value} {ix n maxL : Nat} {bytes : ByteArray} {rt : Option FieldType} {post : Int → σ → Prop} {b : Nat} {C : String} {T : u_T} {N ci : Nat} {fs : List Value} (hM : CXi l y ws rm (.ref b :: As) D tys Wd al st post) (hT : GoodIn Ts (wsV own ix C y ws)) (hw : ws = Cond.code y bytes maxL rt :: ws') (hrc : rm.cells = 0) (hrs : rm.slots = 0) (hd : y.cls = C ∧ y.cls ≠ "java/lang/invoke/MethodHandle" ∧ y.cls ≠ "java/lang/invoke/VarHandle" ∧ (parseMethodDescriptor y.desc).map (fun d => d.parameters.length) = some n) (hR : rm.frames + 1 ≤ R.frames ∧ 8 + (maxL + 11) + rm.locals ≤ R.locals) (q0 : Nat) (hrecv : (Wd st)[q0]? = some (b, .inr (ci, fs))) (hc : vwCl[ci]? = some (C, T, N)) (hn : As.length = n) (hst : stk = As.reverse ++ .ref b :: r) (hroom : (r.map fun v => v.category).sum ≤ 8) (hdg : decode cc pc = .ok (.invokevirtual ix, 3)) (hq : pc + 3 = q) (kk : ∀ (z : Int) (st1 : σ), post z st1 → XJ p l e R s m args below meth c D Wd A nL Q ce sl st1 q lv (.int (ii z) :: r)) : XJ p l e R s m args below meth c D Wd A nL Q ce sl st pc lv stk := by
  subst hq
  intro H locs ls hP hS hl
  refine va_calli (va_runV (As := As) (rest := r) (Ts := Ts) (own := own) ⟨E.1, E.2.1, E.2.2.1, E.2.2.2.2.2.1, E.2.2.2.2.2.2.1⟩ (hM H.size) (cwV n E.2.2.2.2.2.2.1 hT hw hrc hrs hd hR) ⟨kX_blind _ _ _ _ _, va_recv E.2.2.2.2.2.2.2.1 hP hc hrecv, fun U hU hW => ⟨rfl, by rw [hU], by rw [hU]; exact hP, va_K.moved hW.alike E.2.2.2.2.2.2.2.1, NW.warm hW E.2.2.2.2.2.2.2.2.2.2.2.2.2⟩⟩ rfl hn hl.1 hst (lv_room hroom) hdg ⟨by rw [Nat.add_zero]; exact E.2.2.2.2.2.2.2.2.2.2.2.1, by rw [Nat.add_zero]; exact E.2.2.2.2.2.2.2.2.2.2.2.2.1⟩) hS (fun q hq h => h.elim (E.2.2.2.2.2.2.2.2.2.1 q) (fun z => absurd z (Nat.not_le.mpr hq))) (fun q h => h.elim (E.2.2.2.2.2.2.2.2.2.1 q) (fun z => E.2.2.2.2.2.2.2.2.2.2.1 q (Nat.le_trans hS.1 z))) (fun r9 u t H1 locs1 ht hvm hw' hB hz1 hk1 hS1 => ?_)
  obtain ⟨z, st1⟩ := u
  obtain ⟨rfl, hp⟩ := hw'
  exact kk z st1 hp H1 locs1 ls (by rw [← ht]; exact hB) hS1 hl
theorem x_callVNi (E : EN R ce sl p s m args meth c cc nL ret Ts own D tys Wd al A) {y : MethodName} {ws ws' : List Cond} {rm : Room} {As : List Value} {ix n maxL : Nat} {bytes : ByteArray} {rt : Option FieldType} {post : Int → σ → Prop} {b : Nat} {C : String} {T : u_T} {N ci : Nat} {fs : List Value} {host : String} (hM : CXi l y ws rm (.ref b :: As) D tys Wd al st post) (hT : GoodIn Ts (ws)) (hw : ws = Cond.code y bytes maxL rt :: ws') (hrc : rm.cells = 0) (hrs : rm.slots = 0) (hl0 : va_Nw (.methodLinkNest own ix y host) s) (hini : Cond.initialized y.cls ∈ Ts) (hi1 : Cond.instanceMethod y ∈ Ts) (hi2 : Cond.selects C y y ∈ Ts) (hd : y.cls ≠ "java/lang/invoke/MethodHandle" ∧ y.cls ≠ "java/lang/invoke/VarHandle" ∧ (parseMethodDescriptor y.desc).map (fun d => d.parameters.length) = some n) (hR : rm.frames + 1 ≤ R.frames ∧ 8 + (maxL + 11) + rm.locals ≤ R.locals) (q0 : Nat) (hrecv : (Wd st)[q0]? = some (b, .inr (ci, fs))) (hc : vwCl[ci]? = some (C, T, N)) (hn : As.length = n) (hst : stk = As.reverse ++ .ref b :: r) (hroom : (r.map fun v => v.category).sum ≤ 8) (hdg : decode cc pc = .ok (.invokevirtual ix, 3)) (hq : pc + 3 = q) (kk : ∀ (z : Int) (st1 : σ), post z st1 → XJ p l e R s m args below meth c D Wd A nL Q ce sl st1 q lv (.int (ii z) :: r)) : XJ p l e R s m args below meth c D Wd A nL Q ce sl st pc lv stk := by
  subst hq
  intro H locs ls hP hS hl
  refine va_calli (va_runVN (As := As) (rest := r) (Ts := Ts) (own := own) ⟨E.1, E.2.1, E.2.2.1, E.2.2.2.2.2.1, E.2.2.2.2.2.2.1⟩ (hM H.size) ⟨va_cnB n E.2.2.2.2.2.2.1 hT hw hrc hrs hl0 (E.2.2.2.2.2.2.1 _ hini) hd hR, E.2.2.2.2.2.2.1 _ hi1, E.2.2.2.2.2.2.1 _ hi2⟩ ⟨kX_blind _ _ _ _ _, va_recv E.2.2.2.2.2.2.2.1 hP hc hrecv, fun U hU hW => ⟨rfl, by rw [hU], by rw [hU]; exact hP, va_K.moved hW.alike E.2.2.2.2.2.2.2.1, NW.warm hW E.2.2.2.2.2.2.2.2.2.2.2.2.2⟩⟩ rfl hn hl.1 hst (lv_room hroom) hdg ⟨by rw [Nat.add_zero]; exact E.2.2.2.2.2.2.2.2.2.2.2.1, by rw [Nat.add_zero]; exact E.2.2.2.2.2.2.2.2.2.2.2.2.1⟩) hS (fun q hq h => h.elim (E.2.2.2.2.2.2.2.2.2.1 q) (fun z => absurd z (Nat.not_le.mpr hq))) (fun q h => h.elim (E.2.2.2.2.2.2.2.2.2.1 q) (fun z => E.2.2.2.2.2.2.2.2.2.2.1 q (Nat.le_trans hS.1 z))) (fun r9 u t H1 locs1 ht hvm hw' hB hz1 hk1 hS1 => ?_)
  obtain ⟨z, st1⟩ := u
  obtain ⟨rfl, hp⟩ := hw'
  exact kk z st1 hp H1 locs1 ls (by rw [← ht]; exact hB) hS1 hl
theorem x_callSi (E : EN R ce sl p s m args meth c cc nL ret Ts own D tys Wd al A) {y : MethodName} {ws ws' : List Cond} {rm : Room} {As : List Value} {ix n maxL : Nat} {bytes : ByteArray} {rt : Option FieldType} {post : Int → σ → Prop} (hM : CXi l y ws rm As D tys Wd al st post) (hT : GoodIn Ts (wsS own ix y ws)) (hw : ws = Cond.code y bytes maxL rt :: ws') (hrc : rm.cells = 0) (hrs : rm.slots = 0) (hd : y.cls = own ∧ y.cls ≠ "java/lang/invoke/MethodHandle" ∧ y.cls ≠ "java/lang/invoke/VarHandle" ∧ (parseMethodDescriptor y.desc).map (fun d => d.parameters.length) = some n) (hR : rm.frames + 1 ≤ R.frames ∧ 8 + (maxL + 11) + rm.locals ≤ R.locals) (hn : As.length = n) (hst : stk = As.reverse ++ r) (hroom : (r.map fun v => v.category).sum ≤ 8) (hdg : decode cc pc = .ok (.invokestatic ix, 3)) (hq : pc + 3 = q) (kk : ∀ (z : Int) (st1 : σ), post z st1 → XJ p l e R s m args below meth c D Wd A nL Q ce sl st1 q lv (.int (ii z) :: r)) : XJ p l e R s m args below meth c D Wd A nL Q ce sl st pc lv stk := by
  subst hq
  intro H locs ls hP hS hl
  refine va_calli (va_runS (As := As) (rest := r) (Ts := Ts) (own := own) ⟨E.1, E.2.1, E.2.2.1, E.2.2.2.2.2.1, E.2.2.2.2.2.2.1⟩ (hM H.size) (cwS n E.2.2.2.2.2.2.1 hT hw hrc hrs hd hR) ⟨kX_blind _ _ _ _ _, fun U hU hW => ⟨rfl, by rw [hU], by rw [hU]; exact hP, va_K.moved hW.alike E.2.2.2.2.2.2.2.1, NW.warm hW E.2.2.2.2.2.2.2.2.2.2.2.2.2⟩⟩ rfl hn hl.1 hst (lv_room hroom) hdg ⟨by rw [Nat.add_zero]; exact E.2.2.2.2.2.2.2.2.2.2.2.1, by rw [Nat.add_zero]; exact E.2.2.2.2.2.2.2.2.2.2.2.2.1⟩) hS (fun q hq h => h.elim (E.2.2.2.2.2.2.2.2.2.1 q) (fun z => absurd z (Nat.not_le.mpr hq))) (fun q h => h.elim (E.2.2.2.2.2.2.2.2.2.1 q) (fun z => E.2.2.2.2.2.2.2.2.2.2.1 q (Nat.le_trans hS.1 z))) (fun r9 u t H1 locs1 ht hvm hw' hB hz1 hk1 hS1 => ?_)
  obtain ⟨z, st1⟩ := u
  obtain ⟨rfl, hp⟩ := hw'
  exact kk z st1 hp H1 locs1 ls (by rw [← ht]; exact hB) hS1 hl
theorem x_callSNi (E : EN R ce sl p s m args meth c cc nL ret Ts own D tys Wd al A) {y : MethodName} {ws ws' : List Cond} {rm : Room} {As : List Value} {ix n maxL : Nat} {bytes : ByteArray} {rt : Option FieldType} {post : Int → σ → Prop} {host : String} (hM : CXi l y ws rm As D tys Wd al st post) (hT : GoodIn Ts (ws)) (hw : ws = Cond.code y bytes maxL rt :: ws') (hrc : rm.cells = 0) (hrs : rm.slots = 0) (hl0 : va_Nw (.methodLinkNest own ix y host) s) (hini : Cond.initialized y.cls ∈ Ts) (hi1 : Cond.static y ∈ Ts) (hd : y.cls ≠ "java/lang/invoke/MethodHandle" ∧ y.cls ≠ "java/lang/invoke/VarHandle" ∧ (parseMethodDescriptor y.desc).map (fun d => d.parameters.length) = some n) (hR : rm.frames + 1 ≤ R.frames ∧ 8 + (maxL + 11) + rm.locals ≤ R.locals) (hn : As.length = n) (hst : stk = As.reverse ++ r) (hroom : (r.map fun v => v.category).sum ≤ 8) (hdg : decode cc pc = .ok (.invokestatic ix, 3)) (hq : pc + 3 = q) (kk : ∀ (z : Int) (st1 : σ), post z st1 → XJ p l e R s m args below meth c D Wd A nL Q ce sl st1 q lv (.int (ii z) :: r)) : XJ p l e R s m args below meth c D Wd A nL Q ce sl st pc lv stk := by
  subst hq
  intro H locs ls hP hS hl
  refine va_calli (va_runSN (As := As) (rest := r) (Ts := Ts) (own := own) ⟨E.1, E.2.1, E.2.2.1, E.2.2.2.2.2.1, E.2.2.2.2.2.2.1⟩ (hM H.size) ⟨va_cnB n E.2.2.2.2.2.2.1 hT hw hrc hrs hl0 (E.2.2.2.2.2.2.1 _ hini) hd hR, E.2.2.2.2.2.2.1 _ hi1, trivial⟩ ⟨kX_blind _ _ _ _ _, fun U hU hW => ⟨rfl, by rw [hU], by rw [hU]; exact hP, va_K.moved hW.alike E.2.2.2.2.2.2.2.1, NW.warm hW E.2.2.2.2.2.2.2.2.2.2.2.2.2⟩⟩ rfl hn hl.1 hst (lv_room hroom) hdg ⟨by rw [Nat.add_zero]; exact E.2.2.2.2.2.2.2.2.2.2.2.1, by rw [Nat.add_zero]; exact E.2.2.2.2.2.2.2.2.2.2.2.2.1⟩) hS (fun q hq h => h.elim (E.2.2.2.2.2.2.2.2.2.1 q) (fun z => absurd z (Nat.not_le.mpr hq))) (fun q h => h.elim (E.2.2.2.2.2.2.2.2.2.1 q) (fun z => E.2.2.2.2.2.2.2.2.2.2.1 q (Nat.le_trans hS.1 z))) (fun r9 u t H1 locs1 ht hvm hw' hB hz1 hk1 hS1 => ?_)
  obtain ⟨z, st1⟩ := u
  obtain ⟨rfl, hp⟩ := hw'
  exact kk z st1 hp H1 locs1 ls (by rw [← ht]; exact hB) hS1 hl
theorem x_callVl (E : EN R ce sl p s m args meth c cc nL ret Ts own D tys Wd al A) {y : MethodName} {ws ws' : List Cond} {rm : Room} {As : List Value} {ix n maxL : Nat} {bytes : ByteArray} {rt : Option FieldType} {post : Int → σ → Prop} {b : Nat} {C : String} {T : u_T} {N ci : Nat} {fs : List Value} (hM : CXl l y ws rm (.ref b :: As) D tys Wd al st post) (hT : GoodIn Ts (wsV own ix C y ws)) (hw : ws = Cond.code y bytes maxL rt :: ws') (hrc : rm.cells = 0) (hrs : rm.slots = 0) (hd : y.cls = C ∧ y.cls ≠ "java/lang/invoke/MethodHandle" ∧ y.cls ≠ "java/lang/invoke/VarHandle" ∧ (parseMethodDescriptor y.desc).map (fun d => d.parameters.length) = some n) (hR : rm.frames + 1 ≤ R.frames ∧ 8 + (maxL + 11) + rm.locals ≤ R.locals) (q0 : Nat) (hrecv : (Wd st)[q0]? = some (b, .inr (ci, fs))) (hc : vwCl[ci]? = some (C, T, N)) (hn : As.length = n) (hst : stk = As.reverse ++ .ref b :: r) (hroom : (r.map fun v => v.category).sum ≤ 8) (hdg : decode cc pc = .ok (.invokevirtual ix, 3)) (hq : pc + 3 = q) (kk : ∀ (z : Int) (st1 : σ), post z st1 → XJ p l e R s m args below meth c D Wd A nL Q ce sl st1 q lv (.long (jj z) :: r)) : XJ p l e R s m args below meth c D Wd A nL Q ce sl st pc lv stk := by
  subst hq
  intro H locs ls hP hS hl
  refine va_calll (va_runV (As := As) (rest := r) (Ts := Ts) (own := own) ⟨E.1, E.2.1, E.2.2.1, E.2.2.2.2.2.1, E.2.2.2.2.2.2.1⟩ (hM H.size) (cwV n E.2.2.2.2.2.2.1 hT hw hrc hrs hd hR) ⟨kX_blind _ _ _ _ _, va_recv E.2.2.2.2.2.2.2.1 hP hc hrecv, fun U hU hW => ⟨rfl, by rw [hU], by rw [hU]; exact hP, va_K.moved hW.alike E.2.2.2.2.2.2.2.1, NW.warm hW E.2.2.2.2.2.2.2.2.2.2.2.2.2⟩⟩ rfl hn hl.1 hst (lv_room hroom) hdg ⟨by rw [Nat.add_zero]; exact E.2.2.2.2.2.2.2.2.2.2.2.1, by rw [Nat.add_zero]; exact E.2.2.2.2.2.2.2.2.2.2.2.2.1⟩) hS (fun q hq h => h.elim (E.2.2.2.2.2.2.2.2.2.1 q) (fun z => absurd z (Nat.not_le.mpr hq))) (fun q h => h.elim (E.2.2.2.2.2.2.2.2.2.1 q) (fun z => E.2.2.2.2.2.2.2.2.2.2.1 q (Nat.le_trans hS.1 z))) (fun r9 u t H1 locs1 ht hvm hw' hB hz1 hk1 hS1 => ?_)
  obtain ⟨z, st1⟩ := u
  obtain ⟨rfl, hp⟩ := hw'
  exact kk z st1 hp H1 locs1 ls (by rw [← ht]; exact hB) hS1 hl
theorem x_callVNl (E : EN R ce sl p s m args meth c cc nL ret Ts own D tys Wd al A) {y : MethodName} {ws ws' : List Cond} {rm : Room} {As : List Value} {ix n maxL : Nat} {bytes : ByteArray} {rt : Option FieldType} {post : Int → σ → Prop} {b : Nat} {C : String} {T : u_T} {N ci : Nat} {fs : List Value} {host : String} (hM : CXl l y ws rm (.ref b :: As) D tys Wd al st post) (hT : GoodIn Ts (ws)) (hw : ws = Cond.code y bytes maxL rt :: ws') (hrc : rm.cells = 0) (hrs : rm.slots = 0) (hl0 : va_Nw (.methodLinkNest own ix y host) s) (hini : Cond.initialized y.cls ∈ Ts) (hi1 : Cond.instanceMethod y ∈ Ts) (hi2 : Cond.selects C y y ∈ Ts) (hd : y.cls ≠ "java/lang/invoke/MethodHandle" ∧ y.cls ≠ "java/lang/invoke/VarHandle" ∧ (parseMethodDescriptor y.desc).map (fun d => d.parameters.length) = some n) (hR : rm.frames + 1 ≤ R.frames ∧ 8 + (maxL + 11) + rm.locals ≤ R.locals) (q0 : Nat) (hrecv : (Wd st)[q0]? = some (b, .inr (ci, fs))) (hc : vwCl[ci]? = some (C, T, N)) (hn : As.length = n) (hst : stk = As.reverse ++ .ref b :: r) (hroom : (r.map fun v => v.category).sum ≤ 8) (hdg : decode cc pc = .ok (.invokevirtual ix, 3)) (hq : pc + 3 = q) (kk : ∀ (z : Int) (st1 : σ), post z st1 → XJ p l e R s m args below meth c D Wd A nL Q ce sl st1 q lv (.long (jj z) :: r)) : XJ p l e R s m args below meth c D Wd A nL Q ce sl st pc lv stk := by
  subst hq
  intro H locs ls hP hS hl
  refine va_calll (va_runVN (As := As) (rest := r) (Ts := Ts) (own := own) ⟨E.1, E.2.1, E.2.2.1, E.2.2.2.2.2.1, E.2.2.2.2.2.2.1⟩ (hM H.size) ⟨va_cnB n E.2.2.2.2.2.2.1 hT hw hrc hrs hl0 (E.2.2.2.2.2.2.1 _ hini) hd hR, E.2.2.2.2.2.2.1 _ hi1, E.2.2.2.2.2.2.1 _ hi2⟩ ⟨kX_blind _ _ _ _ _, va_recv E.2.2.2.2.2.2.2.1 hP hc hrecv, fun U hU hW => ⟨rfl, by rw [hU], by rw [hU]; exact hP, va_K.moved hW.alike E.2.2.2.2.2.2.2.1, NW.warm hW E.2.2.2.2.2.2.2.2.2.2.2.2.2⟩⟩ rfl hn hl.1 hst (lv_room hroom) hdg ⟨by rw [Nat.add_zero]; exact E.2.2.2.2.2.2.2.2.2.2.2.1, by rw [Nat.add_zero]; exact E.2.2.2.2.2.2.2.2.2.2.2.2.1⟩) hS (fun q hq h => h.elim (E.2.2.2.2.2.2.2.2.2.1 q) (fun z => absurd z (Nat.not_le.mpr hq))) (fun q h => h.elim (E.2.2.2.2.2.2.2.2.2.1 q) (fun z => E.2.2.2.2.2.2.2.2.2.2.1 q (Nat.le_trans hS.1 z))) (fun r9 u t H1 locs1 ht hvm hw' hB hz1 hk1 hS1 => ?_)
  obtain ⟨z, st1⟩ := u
  obtain ⟨rfl, hp⟩ := hw'
  exact kk z st1 hp H1 locs1 ls (by rw [← ht]; exact hB) hS1 hl
theorem x_callSl (E : EN R ce sl p s m args meth c cc nL ret Ts own D tys Wd al A) {y : MethodName} {ws ws' : List Cond} {rm : Room} {As : List Value} {ix n maxL : Nat} {bytes : ByteArray} {rt : Option FieldType} {post : Int → σ → Prop} (hM : CXl l y ws rm As D tys Wd al st post) (hT : GoodIn Ts (wsS own ix y ws)) (hw : ws = Cond.code y bytes maxL rt :: ws') (hrc : rm.cells = 0) (hrs : rm.slots = 0) (hd : y.cls = own ∧ y.cls ≠ "java/lang/invoke/MethodHandle" ∧ y.cls ≠ "java/lang/invoke/VarHandle" ∧ (parseMethodDescriptor y.desc).map (fun d => d.parameters.length) = some n) (hR : rm.frames + 1 ≤ R.frames ∧ 8 + (maxL + 11) + rm.locals ≤ R.locals) (hn : As.length = n) (hst : stk = As.reverse ++ r) (hroom : (r.map fun v => v.category).sum ≤ 8) (hdg : decode cc pc = .ok (.invokestatic ix, 3)) (hq : pc + 3 = q) (kk : ∀ (z : Int) (st1 : σ), post z st1 → XJ p l e R s m args below meth c D Wd A nL Q ce sl st1 q lv (.long (jj z) :: r)) : XJ p l e R s m args below meth c D Wd A nL Q ce sl st pc lv stk := by
  subst hq
  intro H locs ls hP hS hl
  refine va_calll (va_runS (As := As) (rest := r) (Ts := Ts) (own := own) ⟨E.1, E.2.1, E.2.2.1, E.2.2.2.2.2.1, E.2.2.2.2.2.2.1⟩ (hM H.size) (cwS n E.2.2.2.2.2.2.1 hT hw hrc hrs hd hR) ⟨kX_blind _ _ _ _ _, fun U hU hW => ⟨rfl, by rw [hU], by rw [hU]; exact hP, va_K.moved hW.alike E.2.2.2.2.2.2.2.1, NW.warm hW E.2.2.2.2.2.2.2.2.2.2.2.2.2⟩⟩ rfl hn hl.1 hst (lv_room hroom) hdg ⟨by rw [Nat.add_zero]; exact E.2.2.2.2.2.2.2.2.2.2.2.1, by rw [Nat.add_zero]; exact E.2.2.2.2.2.2.2.2.2.2.2.2.1⟩) hS (fun q hq h => h.elim (E.2.2.2.2.2.2.2.2.2.1 q) (fun z => absurd z (Nat.not_le.mpr hq))) (fun q h => h.elim (E.2.2.2.2.2.2.2.2.2.1 q) (fun z => E.2.2.2.2.2.2.2.2.2.2.1 q (Nat.le_trans hS.1 z))) (fun r9 u t H1 locs1 ht hvm hw' hB hz1 hk1 hS1 => ?_)
  obtain ⟨z, st1⟩ := u
  obtain ⟨rfl, hp⟩ := hw'
  exact kk z st1 hp H1 locs1 ls (by rw [← ht]; exact hB) hS1 hl
theorem x_callSNl (E : EN R ce sl p s m args meth c cc nL ret Ts own D tys Wd al A) {y : MethodName} {ws ws' : List Cond} {rm : Room} {As : List Value} {ix n maxL : Nat} {bytes : ByteArray} {rt : Option FieldType} {post : Int → σ → Prop} {host : String} (hM : CXl l y ws rm As D tys Wd al st post) (hT : GoodIn Ts (ws)) (hw : ws = Cond.code y bytes maxL rt :: ws') (hrc : rm.cells = 0) (hrs : rm.slots = 0) (hl0 : va_Nw (.methodLinkNest own ix y host) s) (hini : Cond.initialized y.cls ∈ Ts) (hi1 : Cond.static y ∈ Ts) (hd : y.cls ≠ "java/lang/invoke/MethodHandle" ∧ y.cls ≠ "java/lang/invoke/VarHandle" ∧ (parseMethodDescriptor y.desc).map (fun d => d.parameters.length) = some n) (hR : rm.frames + 1 ≤ R.frames ∧ 8 + (maxL + 11) + rm.locals ≤ R.locals) (hn : As.length = n) (hst : stk = As.reverse ++ r) (hroom : (r.map fun v => v.category).sum ≤ 8) (hdg : decode cc pc = .ok (.invokestatic ix, 3)) (hq : pc + 3 = q) (kk : ∀ (z : Int) (st1 : σ), post z st1 → XJ p l e R s m args below meth c D Wd A nL Q ce sl st1 q lv (.long (jj z) :: r)) : XJ p l e R s m args below meth c D Wd A nL Q ce sl st pc lv stk := by
  subst hq
  intro H locs ls hP hS hl
  refine va_calll (va_runSN (As := As) (rest := r) (Ts := Ts) (own := own) ⟨E.1, E.2.1, E.2.2.1, E.2.2.2.2.2.1, E.2.2.2.2.2.2.1⟩ (hM H.size) ⟨va_cnB n E.2.2.2.2.2.2.1 hT hw hrc hrs hl0 (E.2.2.2.2.2.2.1 _ hini) hd hR, E.2.2.2.2.2.2.1 _ hi1, trivial⟩ ⟨kX_blind _ _ _ _ _, fun U hU hW => ⟨rfl, by rw [hU], by rw [hU]; exact hP, va_K.moved hW.alike E.2.2.2.2.2.2.2.1, NW.warm hW E.2.2.2.2.2.2.2.2.2.2.2.2.2⟩⟩ rfl hn hl.1 hst (lv_room hroom) hdg ⟨by rw [Nat.add_zero]; exact E.2.2.2.2.2.2.2.2.2.2.2.1, by rw [Nat.add_zero]; exact E.2.2.2.2.2.2.2.2.2.2.2.2.1⟩) hS (fun q hq h => h.elim (E.2.2.2.2.2.2.2.2.2.1 q) (fun z => absurd z (Nat.not_le.mpr hq))) (fun q h => h.elim (E.2.2.2.2.2.2.2.2.2.1 q) (fun z => E.2.2.2.2.2.2.2.2.2.2.1 q (Nat.le_trans hS.1 z))) (fun r9 u t H1 locs1 ht hvm hw' hB hz1 hk1 hS1 => ?_)
  obtain ⟨z, st1⟩ := u
  obtain ⟨rfl, hp⟩ := hw'
  exact kk z st1 hp H1 locs1 ls (by rw [← ht]; exact hB) hS1 hl
theorem x_callVv (E : EN R ce sl p s m args meth c cc nL ret Ts own D tys Wd al A) {y : MethodName} {ws ws' : List Cond} {rm : Room} {As : List Value} {ix n maxL : Nat} {bytes : ByteArray} {rt : Option FieldType} {post : σ → Prop} {b : Nat} {C : String} {T : u_T} {N ci : Nat} {fs : List Value} (hM : CXv l y ws rm (.ref b :: As) D tys Wd al st post) (hT : GoodIn Ts (wsV own ix C y ws)) (hw : ws = Cond.code y bytes maxL rt :: ws') (hrc : rm.cells = 0) (hrs : rm.slots = 0) (hd : y.cls = C ∧ y.cls ≠ "java/lang/invoke/MethodHandle" ∧ y.cls ≠ "java/lang/invoke/VarHandle" ∧ (parseMethodDescriptor y.desc).map (fun d => d.parameters.length) = some n) (hR : rm.frames + 1 ≤ R.frames ∧ 8 + (maxL + 11) + rm.locals ≤ R.locals) (q0 : Nat) (hrecv : (Wd st)[q0]? = some (b, .inr (ci, fs))) (hc : vwCl[ci]? = some (C, T, N)) (hn : As.length = n) (hst : stk = As.reverse ++ .ref b :: r) (hroom : (r.map fun v => v.category).sum ≤ 8) (hdg : decode cc pc = .ok (.invokevirtual ix, 3)) (hq : pc + 3 = q) (kk : ∀ (st1 : σ), post st1 → XJ p l e R s m args below meth c D Wd A nL Q ce sl st1 q lv r) : XJ p l e R s m args below meth c D Wd A nL Q ce sl st pc lv stk := by
  subst hq
  intro H locs ls hP hS hl
  refine va_callv (va_runV (As := As) (rest := r) (Ts := Ts) (own := own) ⟨E.1, E.2.1, E.2.2.1, E.2.2.2.2.2.1, E.2.2.2.2.2.2.1⟩ (hM H.size) (cwV n E.2.2.2.2.2.2.1 hT hw hrc hrs hd hR) ⟨kX_blind _ _ _ _ _, va_recv E.2.2.2.2.2.2.2.1 hP hc hrecv, fun U hU hW => ⟨rfl, by rw [hU], by rw [hU]; exact hP, va_K.moved hW.alike E.2.2.2.2.2.2.2.1, NW.warm hW E.2.2.2.2.2.2.2.2.2.2.2.2.2⟩⟩ rfl hn hl.1 hst (lv_room hroom) hdg ⟨by rw [Nat.add_zero]; exact E.2.2.2.2.2.2.2.2.2.2.2.1, by rw [Nat.add_zero]; exact E.2.2.2.2.2.2.2.2.2.2.2.2.1⟩) hS (fun q hq h => h.elim (E.2.2.2.2.2.2.2.2.2.1 q) (fun z => absurd z (Nat.not_le.mpr hq))) (fun q h => h.elim (E.2.2.2.2.2.2.2.2.2.1 q) (fun z => E.2.2.2.2.2.2.2.2.2.2.1 q (Nat.le_trans hS.1 z))) (fun u t H1 locs1 ht hvm hw' hB hz1 hk1 hS1 => ?_)
  exact kk u hw' H1 locs1 ls (by rw [← ht]; exact hB) hS1 hl
theorem x_callVNv (E : EN R ce sl p s m args meth c cc nL ret Ts own D tys Wd al A) {y : MethodName} {ws ws' : List Cond} {rm : Room} {As : List Value} {ix n maxL : Nat} {bytes : ByteArray} {rt : Option FieldType} {post : σ → Prop} {b : Nat} {C : String} {T : u_T} {N ci : Nat} {fs : List Value} {host : String} (hM : CXv l y ws rm (.ref b :: As) D tys Wd al st post) (hT : GoodIn Ts (ws)) (hw : ws = Cond.code y bytes maxL rt :: ws') (hrc : rm.cells = 0) (hrs : rm.slots = 0) (hl0 : va_Nw (.methodLinkNest own ix y host) s) (hini : Cond.initialized y.cls ∈ Ts) (hi1 : Cond.instanceMethod y ∈ Ts) (hi2 : Cond.selects C y y ∈ Ts) (hd : y.cls ≠ "java/lang/invoke/MethodHandle" ∧ y.cls ≠ "java/lang/invoke/VarHandle" ∧ (parseMethodDescriptor y.desc).map (fun d => d.parameters.length) = some n) (hR : rm.frames + 1 ≤ R.frames ∧ 8 + (maxL + 11) + rm.locals ≤ R.locals) (q0 : Nat) (hrecv : (Wd st)[q0]? = some (b, .inr (ci, fs))) (hc : vwCl[ci]? = some (C, T, N)) (hn : As.length = n) (hst : stk = As.reverse ++ .ref b :: r) (hroom : (r.map fun v => v.category).sum ≤ 8) (hdg : decode cc pc = .ok (.invokevirtual ix, 3)) (hq : pc + 3 = q) (kk : ∀ (st1 : σ), post st1 → XJ p l e R s m args below meth c D Wd A nL Q ce sl st1 q lv r) : XJ p l e R s m args below meth c D Wd A nL Q ce sl st pc lv stk := by
  subst hq
  intro H locs ls hP hS hl
  refine va_callv (va_runVN (As := As) (rest := r) (Ts := Ts) (own := own) ⟨E.1, E.2.1, E.2.2.1, E.2.2.2.2.2.1, E.2.2.2.2.2.2.1⟩ (hM H.size) ⟨va_cnB n E.2.2.2.2.2.2.1 hT hw hrc hrs hl0 (E.2.2.2.2.2.2.1 _ hini) hd hR, E.2.2.2.2.2.2.1 _ hi1, E.2.2.2.2.2.2.1 _ hi2⟩ ⟨kX_blind _ _ _ _ _, va_recv E.2.2.2.2.2.2.2.1 hP hc hrecv, fun U hU hW => ⟨rfl, by rw [hU], by rw [hU]; exact hP, va_K.moved hW.alike E.2.2.2.2.2.2.2.1, NW.warm hW E.2.2.2.2.2.2.2.2.2.2.2.2.2⟩⟩ rfl hn hl.1 hst (lv_room hroom) hdg ⟨by rw [Nat.add_zero]; exact E.2.2.2.2.2.2.2.2.2.2.2.1, by rw [Nat.add_zero]; exact E.2.2.2.2.2.2.2.2.2.2.2.2.1⟩) hS (fun q hq h => h.elim (E.2.2.2.2.2.2.2.2.2.1 q) (fun z => absurd z (Nat.not_le.mpr hq))) (fun q h => h.elim (E.2.2.2.2.2.2.2.2.2.1 q) (fun z => E.2.2.2.2.2.2.2.2.2.2.1 q (Nat.le_trans hS.1 z))) (fun u t H1 locs1 ht hvm hw' hB hz1 hk1 hS1 => ?_)
  exact kk u hw' H1 locs1 ls (by rw [← ht]; exact hB) hS1 hl
theorem x_callSv (E : EN R ce sl p s m args meth c cc nL ret Ts own D tys Wd al A) {y : MethodName} {ws ws' : List Cond} {rm : Room} {As : List Value} {ix n maxL : Nat} {bytes : ByteArray} {rt : Option FieldType} {post : σ → Prop} (hM : CXv l y ws rm As D tys Wd al st post) (hT : GoodIn Ts (wsS own ix y ws)) (hw : ws = Cond.code y bytes maxL rt :: ws') (hrc : rm.cells = 0) (hrs : rm.slots = 0) (hd : y.cls = own ∧ y.cls ≠ "java/lang/invoke/MethodHandle" ∧ y.cls ≠ "java/lang/invoke/VarHandle" ∧ (parseMethodDescriptor y.desc).map (fun d => d.parameters.length) = some n) (hR : rm.frames + 1 ≤ R.frames ∧ 8 + (maxL + 11) + rm.locals ≤ R.locals) (hn : As.length = n) (hst : stk = As.reverse ++ r) (hroom : (r.map fun v => v.category).sum ≤ 8) (hdg : decode cc pc = .ok (.invokestatic ix, 3)) (hq : pc + 3 = q) (kk : ∀ (st1 : σ), post st1 → XJ p l e R s m args below meth c D Wd A nL Q ce sl st1 q lv r) : XJ p l e R s m args below meth c D Wd A nL Q ce sl st pc lv stk := by
  subst hq
  intro H locs ls hP hS hl
  refine va_callv (va_runS (As := As) (rest := r) (Ts := Ts) (own := own) ⟨E.1, E.2.1, E.2.2.1, E.2.2.2.2.2.1, E.2.2.2.2.2.2.1⟩ (hM H.size) (cwS n E.2.2.2.2.2.2.1 hT hw hrc hrs hd hR) ⟨kX_blind _ _ _ _ _, fun U hU hW => ⟨rfl, by rw [hU], by rw [hU]; exact hP, va_K.moved hW.alike E.2.2.2.2.2.2.2.1, NW.warm hW E.2.2.2.2.2.2.2.2.2.2.2.2.2⟩⟩ rfl hn hl.1 hst (lv_room hroom) hdg ⟨by rw [Nat.add_zero]; exact E.2.2.2.2.2.2.2.2.2.2.2.1, by rw [Nat.add_zero]; exact E.2.2.2.2.2.2.2.2.2.2.2.2.1⟩) hS (fun q hq h => h.elim (E.2.2.2.2.2.2.2.2.2.1 q) (fun z => absurd z (Nat.not_le.mpr hq))) (fun q h => h.elim (E.2.2.2.2.2.2.2.2.2.1 q) (fun z => E.2.2.2.2.2.2.2.2.2.2.1 q (Nat.le_trans hS.1 z))) (fun u t H1 locs1 ht hvm hw' hB hz1 hk1 hS1 => ?_)
  exact kk u hw' H1 locs1 ls (by rw [← ht]; exact hB) hS1 hl
theorem x_callSNv (E : EN R ce sl p s m args meth c cc nL ret Ts own D tys Wd al A) {y : MethodName} {ws ws' : List Cond} {rm : Room} {As : List Value} {ix n maxL : Nat} {bytes : ByteArray} {rt : Option FieldType} {post : σ → Prop} {host : String} (hM : CXv l y ws rm As D tys Wd al st post) (hT : GoodIn Ts (ws)) (hw : ws = Cond.code y bytes maxL rt :: ws') (hrc : rm.cells = 0) (hrs : rm.slots = 0) (hl0 : va_Nw (.methodLinkNest own ix y host) s) (hini : Cond.initialized y.cls ∈ Ts) (hi1 : Cond.static y ∈ Ts) (hd : y.cls ≠ "java/lang/invoke/MethodHandle" ∧ y.cls ≠ "java/lang/invoke/VarHandle" ∧ (parseMethodDescriptor y.desc).map (fun d => d.parameters.length) = some n) (hR : rm.frames + 1 ≤ R.frames ∧ 8 + (maxL + 11) + rm.locals ≤ R.locals) (hn : As.length = n) (hst : stk = As.reverse ++ r) (hroom : (r.map fun v => v.category).sum ≤ 8) (hdg : decode cc pc = .ok (.invokestatic ix, 3)) (hq : pc + 3 = q) (kk : ∀ (st1 : σ), post st1 → XJ p l e R s m args below meth c D Wd A nL Q ce sl st1 q lv r) : XJ p l e R s m args below meth c D Wd A nL Q ce sl st pc lv stk := by
  subst hq
  intro H locs ls hP hS hl
  refine va_callv (va_runSN (As := As) (rest := r) (Ts := Ts) (own := own) ⟨E.1, E.2.1, E.2.2.1, E.2.2.2.2.2.1, E.2.2.2.2.2.2.1⟩ (hM H.size) ⟨va_cnB n E.2.2.2.2.2.2.1 hT hw hrc hrs hl0 (E.2.2.2.2.2.2.1 _ hini) hd hR, E.2.2.2.2.2.2.1 _ hi1, trivial⟩ ⟨kX_blind _ _ _ _ _, fun U hU hW => ⟨rfl, by rw [hU], by rw [hU]; exact hP, va_K.moved hW.alike E.2.2.2.2.2.2.2.1, NW.warm hW E.2.2.2.2.2.2.2.2.2.2.2.2.2⟩⟩ rfl hn hl.1 hst (lv_room hroom) hdg ⟨by rw [Nat.add_zero]; exact E.2.2.2.2.2.2.2.2.2.2.2.1, by rw [Nat.add_zero]; exact E.2.2.2.2.2.2.2.2.2.2.2.2.1⟩) hS (fun q hq h => h.elim (E.2.2.2.2.2.2.2.2.2.1 q) (fun z => absurd z (Nat.not_le.mpr hq))) (fun q h => h.elim (E.2.2.2.2.2.2.2.2.2.1 q) (fun z => E.2.2.2.2.2.2.2.2.2.2.1 q (Nat.le_trans hS.1 z))) (fun u t H1 locs1 ht hvm hw' hB hz1 hk1 hS1 => ?_)
  exact kk u hw' H1 locs1 ls (by rw [← ht]; exact hB) hS1 hl
theorem x_callVr (E : EN R ce sl p s m args meth c cc nL ret Ts own D tys Wd al A) {y : MethodName} {ws ws' : List Cond} {rm : Room} {As : List Value} {ix n maxL : Nat} {bytes : ByteArray} {rt : Option FieldType} {post : Option Nat → σ → Prop} {b : Nat} {C : String} {T : u_T} {N ci : Nat} {fs : List Value} (hM : CXr l y ws rm (.ref b :: As) D tys Wd al st post) (hT : GoodIn Ts (wsV own ix C y ws)) (hw : ws = Cond.code y bytes maxL rt :: ws') (hrc : rm.cells = 0) (hrs : rm.slots = 0) (hd : y.cls = C ∧ y.cls ≠ "java/lang/invoke/MethodHandle" ∧ y.cls ≠ "java/lang/invoke/VarHandle" ∧ (parseMethodDescriptor y.desc).map (fun d => d.parameters.length) = some n) (hR : rm.frames + 1 ≤ R.frames ∧ 8 + (maxL + 11) + rm.locals ≤ R.locals) (q0 : Nat) (hrecv : (Wd st)[q0]? = some (b, .inr (ci, fs))) (hc : vwCl[ci]? = some (C, T, N)) (hn : As.length = n) (hst : stk = As.reverse ++ .ref b :: r) (hroom : (r.map fun v => v.category).sum ≤ 8) (hdg : decode cc pc = .ok (.invokevirtual ix, 3)) (hq : pc + 3 = q) (kk : ∀ (b9 : Option Nat) (st1 : σ), post b9 st1 → XJ p l e R s m args below meth c D Wd A nL Q ce sl st1 q lv (va_rf b9 :: r)) : XJ p l e R s m args below meth c D Wd A nL Q ce sl st pc lv stk := by
  subst hq
  intro H locs ls hP hS hl
  refine va_callq (va_runV (As := As) (rest := r) (Ts := Ts) (own := own) ⟨E.1, E.2.1, E.2.2.1, E.2.2.2.2.2.1, E.2.2.2.2.2.2.1⟩ (hM H.size) (cwV n E.2.2.2.2.2.2.1 hT hw hrc hrs hd hR) ⟨kX_blind _ _ _ _ _, va_recv E.2.2.2.2.2.2.2.1 hP hc hrecv, fun U hU hW => ⟨rfl, by rw [hU], by rw [hU]; exact hP, va_K.moved hW.alike E.2.2.2.2.2.2.2.1, NW.warm hW E.2.2.2.2.2.2.2.2.2.2.2.2.2⟩⟩ rfl hn hl.1 hst (lv_room hroom) hdg ⟨by rw [Nat.add_zero]; exact E.2.2.2.2.2.2.2.2.2.2.2.1, by rw [Nat.add_zero]; exact E.2.2.2.2.2.2.2.2.2.2.2.2.1⟩) hS (fun q hq h => h.elim (E.2.2.2.2.2.2.2.2.2.1 q) (fun z => absurd z (Nat.not_le.mpr hq))) (fun q h => h.elim (E.2.2.2.2.2.2.2.2.2.1 q) (fun z => E.2.2.2.2.2.2.2.2.2.2.1 q (Nat.le_trans hS.1 z))) (fun r9 u t H1 locs1 ht hvm hw' hB hz1 hk1 hS1 => ?_)
  exact kk r9 u hw' H1 locs1 ls (by rw [← ht]; exact hB) hS1 hl
theorem x_callVNr (E : EN R ce sl p s m args meth c cc nL ret Ts own D tys Wd al A) {y : MethodName} {ws ws' : List Cond} {rm : Room} {As : List Value} {ix n maxL : Nat} {bytes : ByteArray} {rt : Option FieldType} {post : Option Nat → σ → Prop} {b : Nat} {C : String} {T : u_T} {N ci : Nat} {fs : List Value} {host : String} (hM : CXr l y ws rm (.ref b :: As) D tys Wd al st post) (hT : GoodIn Ts (ws)) (hw : ws = Cond.code y bytes maxL rt :: ws') (hrc : rm.cells = 0) (hrs : rm.slots = 0) (hl0 : va_Nw (.methodLinkNest own ix y host) s) (hini : Cond.initialized y.cls ∈ Ts) (hi1 : Cond.instanceMethod y ∈ Ts) (hi2 : Cond.selects C y y ∈ Ts) (hd : y.cls ≠ "java/lang/invoke/MethodHandle" ∧ y.cls ≠ "java/lang/invoke/VarHandle" ∧ (parseMethodDescriptor y.desc).map (fun d => d.parameters.length) = some n) (hR : rm.frames + 1 ≤ R.frames ∧ 8 + (maxL + 11) + rm.locals ≤ R.locals) (q0 : Nat) (hrecv : (Wd st)[q0]? = some (b, .inr (ci, fs))) (hc : vwCl[ci]? = some (C, T, N)) (hn : As.length = n) (hst : stk = As.reverse ++ .ref b :: r) (hroom : (r.map fun v => v.category).sum ≤ 8) (hdg : decode cc pc = .ok (.invokevirtual ix, 3)) (hq : pc + 3 = q) (kk : ∀ (b9 : Option Nat) (st1 : σ), post b9 st1 → XJ p l e R s m args below meth c D Wd A nL Q ce sl st1 q lv (va_rf b9 :: r)) : XJ p l e R s m args below meth c D Wd A nL Q ce sl st pc lv stk := by
  subst hq
  intro H locs ls hP hS hl
  refine va_callq (va_runVN (As := As) (rest := r) (Ts := Ts) (own := own) ⟨E.1, E.2.1, E.2.2.1, E.2.2.2.2.2.1, E.2.2.2.2.2.2.1⟩ (hM H.size) ⟨va_cnB n E.2.2.2.2.2.2.1 hT hw hrc hrs hl0 (E.2.2.2.2.2.2.1 _ hini) hd hR, E.2.2.2.2.2.2.1 _ hi1, E.2.2.2.2.2.2.1 _ hi2⟩ ⟨kX_blind _ _ _ _ _, va_recv E.2.2.2.2.2.2.2.1 hP hc hrecv, fun U hU hW => ⟨rfl, by rw [hU], by rw [hU]; exact hP, va_K.moved hW.alike E.2.2.2.2.2.2.2.1, NW.warm hW E.2.2.2.2.2.2.2.2.2.2.2.2.2⟩⟩ rfl hn hl.1 hst (lv_room hroom) hdg ⟨by rw [Nat.add_zero]; exact E.2.2.2.2.2.2.2.2.2.2.2.1, by rw [Nat.add_zero]; exact E.2.2.2.2.2.2.2.2.2.2.2.2.1⟩) hS (fun q hq h => h.elim (E.2.2.2.2.2.2.2.2.2.1 q) (fun z => absurd z (Nat.not_le.mpr hq))) (fun q h => h.elim (E.2.2.2.2.2.2.2.2.2.1 q) (fun z => E.2.2.2.2.2.2.2.2.2.2.1 q (Nat.le_trans hS.1 z))) (fun r9 u t H1 locs1 ht hvm hw' hB hz1 hk1 hS1 => ?_)
  exact kk r9 u hw' H1 locs1 ls (by rw [← ht]; exact hB) hS1 hl
theorem x_callSr (E : EN R ce sl p s m args meth c cc nL ret Ts own D tys Wd al A) {y : MethodName} {ws ws' : List Cond} {rm : Room} {As : List Value} {ix n maxL : Nat} {bytes : ByteArray} {rt : Option FieldType} {post : Option Nat → σ → Prop} (hM : CXr l y ws rm As D tys Wd al st post) (hT : GoodIn Ts (wsS own ix y ws)) (hw : ws = Cond.code y bytes maxL rt :: ws') (hrc : rm.cells = 0) (hrs : rm.slots = 0) (hd : y.cls = own ∧ y.cls ≠ "java/lang/invoke/MethodHandle" ∧ y.cls ≠ "java/lang/invoke/VarHandle" ∧ (parseMethodDescriptor y.desc).map (fun d => d.parameters.length) = some n) (hR : rm.frames + 1 ≤ R.frames ∧ 8 + (maxL + 11) + rm.locals ≤ R.locals) (hn : As.length = n) (hst : stk = As.reverse ++ r) (hroom : (r.map fun v => v.category).sum ≤ 8) (hdg : decode cc pc = .ok (.invokestatic ix, 3)) (hq : pc + 3 = q) (kk : ∀ (b9 : Option Nat) (st1 : σ), post b9 st1 → XJ p l e R s m args below meth c D Wd A nL Q ce sl st1 q lv (va_rf b9 :: r)) : XJ p l e R s m args below meth c D Wd A nL Q ce sl st pc lv stk := by
  subst hq
  intro H locs ls hP hS hl
  refine va_callq (va_runS (As := As) (rest := r) (Ts := Ts) (own := own) ⟨E.1, E.2.1, E.2.2.1, E.2.2.2.2.2.1, E.2.2.2.2.2.2.1⟩ (hM H.size) (cwS n E.2.2.2.2.2.2.1 hT hw hrc hrs hd hR) ⟨kX_blind _ _ _ _ _, fun U hU hW => ⟨rfl, by rw [hU], by rw [hU]; exact hP, va_K.moved hW.alike E.2.2.2.2.2.2.2.1, NW.warm hW E.2.2.2.2.2.2.2.2.2.2.2.2.2⟩⟩ rfl hn hl.1 hst (lv_room hroom) hdg ⟨by rw [Nat.add_zero]; exact E.2.2.2.2.2.2.2.2.2.2.2.1, by rw [Nat.add_zero]; exact E.2.2.2.2.2.2.2.2.2.2.2.2.1⟩) hS (fun q hq h => h.elim (E.2.2.2.2.2.2.2.2.2.1 q) (fun z => absurd z (Nat.not_le.mpr hq))) (fun q h => h.elim (E.2.2.2.2.2.2.2.2.2.1 q) (fun z => E.2.2.2.2.2.2.2.2.2.2.1 q (Nat.le_trans hS.1 z))) (fun r9 u t H1 locs1 ht hvm hw' hB hz1 hk1 hS1 => ?_)
  exact kk r9 u hw' H1 locs1 ls (by rw [← ht]; exact hB) hS1 hl
theorem x_callSNr (E : EN R ce sl p s m args meth c cc nL ret Ts own D tys Wd al A) {y : MethodName} {ws ws' : List Cond} {rm : Room} {As : List Value} {ix n maxL : Nat} {bytes : ByteArray} {rt : Option FieldType} {post : Option Nat → σ → Prop} {host : String} (hM : CXr l y ws rm As D tys Wd al st post) (hT : GoodIn Ts (ws)) (hw : ws = Cond.code y bytes maxL rt :: ws') (hrc : rm.cells = 0) (hrs : rm.slots = 0) (hl0 : va_Nw (.methodLinkNest own ix y host) s) (hini : Cond.initialized y.cls ∈ Ts) (hi1 : Cond.static y ∈ Ts) (hd : y.cls ≠ "java/lang/invoke/MethodHandle" ∧ y.cls ≠ "java/lang/invoke/VarHandle" ∧ (parseMethodDescriptor y.desc).map (fun d => d.parameters.length) = some n) (hR : rm.frames + 1 ≤ R.frames ∧ 8 + (maxL + 11) + rm.locals ≤ R.locals) (hn : As.length = n) (hst : stk = As.reverse ++ r) (hroom : (r.map fun v => v.category).sum ≤ 8) (hdg : decode cc pc = .ok (.invokestatic ix, 3)) (hq : pc + 3 = q) (kk : ∀ (b9 : Option Nat) (st1 : σ), post b9 st1 → XJ p l e R s m args below meth c D Wd A nL Q ce sl st1 q lv (va_rf b9 :: r)) : XJ p l e R s m args below meth c D Wd A nL Q ce sl st pc lv stk := by
  subst hq
  intro H locs ls hP hS hl
  refine va_callq (va_runSN (As := As) (rest := r) (Ts := Ts) (own := own) ⟨E.1, E.2.1, E.2.2.1, E.2.2.2.2.2.1, E.2.2.2.2.2.2.1⟩ (hM H.size) ⟨va_cnB n E.2.2.2.2.2.2.1 hT hw hrc hrs hl0 (E.2.2.2.2.2.2.1 _ hini) hd hR, E.2.2.2.2.2.2.1 _ hi1, trivial⟩ ⟨kX_blind _ _ _ _ _, fun U hU hW => ⟨rfl, by rw [hU], by rw [hU]; exact hP, va_K.moved hW.alike E.2.2.2.2.2.2.2.1, NW.warm hW E.2.2.2.2.2.2.2.2.2.2.2.2.2⟩⟩ rfl hn hl.1 hst (lv_room hroom) hdg ⟨by rw [Nat.add_zero]; exact E.2.2.2.2.2.2.2.2.2.2.2.1, by rw [Nat.add_zero]; exact E.2.2.2.2.2.2.2.2.2.2.2.2.1⟩) hS (fun q hq h => h.elim (E.2.2.2.2.2.2.2.2.2.1 q) (fun z => absurd z (Nat.not_le.mpr hq))) (fun q h => h.elim (E.2.2.2.2.2.2.2.2.2.1 q) (fun z => E.2.2.2.2.2.2.2.2.2.2.1 q (Nat.le_trans hS.1 z))) (fun r9 u t H1 locs1 ht hvm hw' hB hz1 hk1 hS1 => ?_)
  exact kk r9 u hw' H1 locs1 ls (by rw [← ht]; exact hB) hS1 hl
end XC
