/-! further rows of the own framework -/
theorem jj_cmp {a b : Int} (ha : -9223372036854775808 ≤ a ∧ a < 9223372036854775808) (hb : -9223372036854775808 ≤ b ∧ b < 9223372036854775808) : lg_cmp (jj a) (jj b) = ii (if b < a then 1 else if a = b then 0 else -1) := by
  unfold lg_cmp
  by_cases h1 : b < a
  · rw [if_pos ((jj_lt hb ha).mpr h1), if_pos h1]; rfl
  · rw [if_neg (fun z => h1 ((jj_lt hb ha).mp z)), if_neg h1]
    by_cases h2 : a = b
    · rw [if_pos ((jj_eq ha hb).mpr h2), if_pos h2]; rfl
    · rw [if_neg (fun z => h2 ((jj_eq ha hb).mp z)), if_neg h2]; rfl
theorem jj_l2i {a : Int} (h : -2147483648 ≤ a ∧ a < 2147483648) : (jj a).toInt32 = ii a := by
  rw [← Int32.toInt_inj, Int64.toInt_toInt32, jj_toInt (by omega), ii_toInt h]
  exact Int.bmod_eq_of_le (by omega) (by omega)
section XS
variable {σ : Type} {p : Program} {l : Launch} {e : Env} {R : Room} {s : State} {m : MethodId} {args : Array Value} {below : List Frame} {meth : Method} {c : Code} {cc : ByteArray} {nL : Nat} {ret : Option FieldType} {Ts : List Cond} {own : String} {D : va_G} {tys : List (ClassId × FieldType)} {Wd : σ → va_W} {al : List Nat} {A : Nat → Prop} {Q : State → Prop} {ce sl : Nat} {st st' : σ} {pc q : Nat} {lv lv' : List (Nat × Value)} {r stk : List Value}
theorem x_lcmp (E : EN R ce sl p s m args meth c cc nL ret Ts own D tys Wd al A) {a b : Int} (hdg : decode cc pc = .ok (.lcmp, 1)) (ha : -9223372036854775808 ≤ a ∧ a < 9223372036854775808) (hb' : -9223372036854775808 ≤ b ∧ b < 9223372036854775808) (hq : pc + 1 = q) (kk : XJ p l e R s m args below meth c D Wd A nL Q ce sl st q lv (.int (ii (if b < a then 1 else if a = b then 0 else -1)) :: r)) : XJ p l e R s m args below meth c D Wd A nL Q ce sl st pc lv (.long (jj b) :: .long (jj a) :: r) := by
  subst hq
  intro H locs ls hP hS hl
  refine W.lcmp E.1 E.2.1 hdg ?_
  rw [jj_cmp ha hb']
  exact (kk H locs ls hP hS hl)
theorem x_l2i (E : EN R ce sl p s m args meth c cc nL ret Ts own D tys Wd al A) {a : Int} (hdg : decode cc pc = .ok (.l2i, 1)) (ha : -2147483648 ≤ a ∧ a < 2147483648) (hq : pc + 1 = q) (kk : XJ p l e R s m args below meth c D Wd A nL Q ce sl st q lv (.int (ii a) :: r)) : XJ p l e R s m args below meth c D Wd A nL Q ce sl st pc lv (.long (jj a) :: r) := by
  subst hq
  intro H locs ls hP hS hl
  exact lv_l2i E.1 E.2.1 hdg (jj_l2i ha) (kk H locs ls hP hS hl)
theorem x_sk (h : r = stk) (kk : XJ p l e R s m args below meth c D Wd A nL Q ce sl st pc lv stk) : XJ p l e R s m args below meth c D Wd A nL Q ce sl st pc lv r := by rw [h]; exact kk
end XS
