/-! shifts and masks of longs -/
theorem jj_N (n : Nat) : jj (n : Int) = lN n := by
  induction n with
  | zero => rfl
  | succ n ih => rw [show (((n + 1 : Nat)) : Int) = (n : Int) + 1 from by omega, ← jj_add, ih, ← lN_1]; rfl
theorem jj_shl {a z : Int} {k : Nat} (h0 : 0 ≤ a) (hk : k < 64) (hz : a * ((2 ^ k : Nat) : Int) = z) : jj a <<< ((ii (k : Int)).toInt64 &&& 63) = jj z := by
  obtain ⟨n, rfl⟩ := Int.eq_ofNat_of_zero_le h0
  rw [← hz, ← ii_nI, jj_N, wb_shl n hk, ← jj_N]
  rfl
theorem jj_or8 {a v : Int} (h0 : 0 ≤ a) (h1 : 0 ≤ v) (h2 : v < 8) (h3 : a * 8 + v < 9223372036854775808) : jj (a * 8) ||| jj v = jj (a * 8 + v) := by
  obtain ⟨n, rfl⟩ := Int.eq_ofNat_of_zero_le h0
  obtain ⟨u, rfl⟩ := Int.eq_ofNat_of_zero_le h1
  rw [show ((n : Int)) * 8 = ((n * 8 : Nat) : Int) from by omega, show ((n * 8 : Nat) : Int) + (u : Int) = ((n * 8 + u : Nat) : Int) from by omega, jj_N, jj_N, jj_N]
  exact g_or (k := 3) (p := 8) rfl (by omega) (by omega)
theorem jj_mask {a M : Int} {k : Nat} (h0 : 0 ≤ a) (h1 : a < 9223372036854775808) (hk : k < 63) (hM : M = ((2 ^ k : Nat) : Int)) : jj a &&& jj (M - 1) = jj (a % M) := by
  obtain ⟨n, rfl⟩ := Int.eq_ofNat_of_zero_le h0
  have hp : 0 < 2 ^ k := Nat.two_pow_pos k
  rw [hM, show ((2 ^ k : Nat) : Int) - 1 = ((2 ^ k - 1 : Nat) : Int) from by omega, jj_N, jj_N, wb_mask (by omega) (by omega), ← jj_N]
  rfl
def hsh (a : Int) : Int := (((jj a).toUInt64 >>> ((ii 52).toInt64.toUInt64 &&& Int64.toUInt64 63)).toInt64).toInt
theorem hsh_j (a : Int) : ((jj a).toUInt64 >>> ((ii 52).toInt64.toUInt64 &&& Int64.toUInt64 63)).toInt64 = jj (hsh a) := (Int64.ofInt_toInt _).symm
theorem hsh_b (a : Int) : 0 ≤ hsh a ∧ hsh a < 4096 := by
  obtain ⟨n, hn, e⟩ := wb_of (jj a)
  unfold hsh
  rw [e, show ii 52 = nI 52 from (ii_nI 52).symm, wb_shr hn (by omega), ← jj_N, jj_toInt (by omega)]
  omega
section XT
variable {σ : Type} {p : Program} {l : Launch} {e : Env} {R : Room} {s : State} {m : MethodId} {args : Array Value} {below : List Frame} {meth : Method} {c : Code} {cc : ByteArray} {nL : Nat} {ret : Option FieldType} {Ts : List Cond} {own : String} {D : va_G} {tys : List (ClassId × FieldType)} {Wd : σ → va_W} {al : List Nat} {A : Nat → Prop} {Q : State → Prop} {ce sl : Nat} {st st' : σ} {pc q : Nat} {lv lv' : List (Nat × Value)} {r stk : List Value}
theorem x_lshl (E : EN R ce sl p s m args meth c cc nL ret Ts own D tys Wd al A) {a z : Int} (k : Nat) (h0 : 0 ≤ a) (hk : k < 64) (hz : a * ((2 ^ k : Nat) : Int) = z) (hdg : decode cc pc = .ok (.lshl, 1)) (hq : pc + 1 = q) (kk : XJ p l e R s m args below meth c D Wd A nL Q ce sl st q lv (.long (jj z) :: r)) : XJ p l e R s m args below meth c D Wd A nL Q ce sl st pc lv (.int (ii (k : Int)) :: .long (jj a) :: r) := by
  subst hq
  intro H locs ls hP hS hl
  exact lv_lshl E.1 E.2.1 hdg (jj_shl h0 hk hz) (kk H locs ls hP hS hl)
theorem x_lor (E : EN R ce sl p s m args meth c cc nL ret Ts own D tys Wd al A) {a v : Int} (h0 : 0 ≤ a) (h1 : 0 ≤ v) (h2 : v < 8) (h3 : a * 8 + v < 9223372036854775808) (hdg : decode cc pc = .ok (.lor, 1)) (hq : pc + 1 = q) (kk : XJ p l e R s m args below meth c D Wd A nL Q ce sl st q lv (.long (jj (a * 8 + v)) :: r)) : XJ p l e R s m args below meth c D Wd A nL Q ce sl st pc lv (.long (jj v) :: .long (jj (a * 8)) :: r) := by
  subst hq
  intro H locs ls hP hS hl
  refine lv_lor E.1 E.2.1 hdg ?_
  rw [jj_or8 h0 h1 h2 h3]
  exact (kk H locs ls hP hS hl)
theorem x_land (E : EN R ce sl p s m args meth c cc nL ret Ts own D tys Wd al A) {a M : Int} (k : Nat) (h0 : 0 ≤ a) (h1 : a < 9223372036854775808) (hk : k < 63) (hM : M = ((2 ^ k : Nat) : Int)) (hdg : decode cc pc = .ok (.land, 1)) (hq : pc + 1 = q) (kk : XJ p l e R s m args below meth c D Wd A nL Q ce sl st q lv (.long (jj (a % M)) :: r)) : XJ p l e R s m args below meth c D Wd A nL Q ce sl st pc lv (.long (jj (M - 1)) :: .long (jj a) :: r) := by
  subst hq
  intro H locs ls hP hS hl
  refine lv_land E.1 E.2.1 hdg ?_
  rw [jj_mask h0 h1 hk hM]
  exact (kk H locs ls hP hS hl)
theorem x_lushr (E : EN R ce sl p s m args meth c cc nL ret Ts own D tys Wd al A) {a : Int} (hdg : decode cc pc = .ok (.lushr, 1)) (hq : pc + 1 = q) (kk : XJ p l e R s m args below meth c D Wd A nL Q ce sl st q lv (.long (jj (hsh a)) :: r)) : XJ p l e R s m args below meth c D Wd A nL Q ce sl st pc lv (.int (ii 52) :: .long (jj a) :: r) := by
  subst hq
  intro H locs ls hP hS hl
  exact lv_lushr E.1 E.2.1 hdg (hsh_j a) (kk H locs ls hP hS hl)
theorem x_astore_nN (E : EN R ce sl p s m args meth c cc nL ret Ts own D tys Wd al A) {k : Fin 4} (hdg : decode cc pc = .ok (.astore_n k, 1)) (hn : (k : Nat) < nL) (hl' : ((k : Nat), Value.null) :: lv.filter (fun q => !(q.1 == (k : Nat)) && !(q.1 + 1 == (k : Nat) && q.2.category == 2)) = lv') (hq : pc + 1 = q) (kk : XJ p l e R s m args below meth c D Wd A nL Q ce sl st q lv' r) : XJ p l e R s m args below meth c D Wd A nL Q ce sl st pc lv (.null :: r) := by
  subst hq
  intro H locs ls hP hS hl
  exact lv_astore_nN E.1 E.2.1 hdg rfl hl hn hl' (fun ls hl => (kk H locs ls hP hS hl))
theorem x_aload_nN (E : EN R ce sl p s m args meth c cc nL ret Ts own D tys Wd al A) {k : Fin 4} (hdg : decode cc pc = .ok (.aload_n k, 1)) (j : Nat) (hj : lv[j]? = some ((k : Nat), .null)) (hq : pc + 1 = q) (kk : XJ p l e R s m args below meth c D Wd A nL Q ce sl st q lv (.null :: r)) : XJ p l e R s m args below meth c D Wd A nL Q ce sl st pc lv r := by
  subst hq
  intro H locs ls hP hS hl
  exact lv_aload_nN E.1 E.2.1 hdg rfl (lv_at hl j hj) (kk H locs ls hP hS hl)
theorem x_astoreN (E : EN R ce sl p s m args meth c cc nL ret Ts own D tys Wd al A) {i : Nat} (hdg : decode cc pc = .ok (.astore i, 2)) (hn : i < nL) (hl' : (i, Value.null) :: lv.filter (fun q => !(q.1 == i) && !(q.1 + 1 == i && q.2.category == 2)) = lv') (hq : pc + 2 = q) (kk : XJ p l e R s m args below meth c D Wd A nL Q ce sl st q lv' r) : XJ p l e R s m args below meth c D Wd A nL Q ce sl st pc lv (.null :: r) := by
  subst hq
  intro H locs ls hP hS hl
  exact lv_astoreN E.1 E.2.1 hdg hl hn hl' (fun ls hl => (kk H locs ls hP hS hl))
theorem x_aloadN (E : EN R ce sl p s m args meth c cc nL ret Ts own D tys Wd al A) {i : Nat} (hdg : decode cc pc = .ok (.aload i, 2)) (j : Nat) (hj : lv[j]? = some (i, .null)) (hq : pc + 2 = q) (kk : XJ p l e R s m args below meth c D Wd A nL Q ce sl st q lv (.null :: r)) : XJ p l e R s m args below meth c D Wd A nL Q ce sl st pc lv r := by
  subst hq
  intro H locs ls hP hS hl
  exact lv_aloadN E.1 E.2.1 hdg (lv_at hl j hj) (kk H locs ls hP hS hl)
end XT
