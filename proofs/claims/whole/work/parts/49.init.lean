/-! the first states: both stand for the same -/
def A0_ : AB_ := ((fun k => match k with | 0 => 1 | 4 => 2 | 5 => 2 | 6 => 2 | 7 => 2 | _ => 0, fun q => match q with | 1 => AL0 | 2 => AL0 | 3 => AL0 | 4 => AL0 | _ => fun _ => (0 : Int)), [])
theorem AI_0 : AI A0_ := by
  refine ⟨⟨by decide, by decide⟩, fun r hr => ⟨Int.le_refl 0, by show (0 : Int) ≤ 3; omega⟩, fun q hq => ?_, fun q hq j j0 j1 => ?_, ⟨Nat.zero_le _, fun x hx => (by cases hx)⟩, ⟨by decide, by decide⟩, ⟨by decide, by decide⟩⟩
  · rcases (show q = 0 ∨ q = 1 ∨ q = 2 ∨ q = 3 by omega) with e | e | e | e <;> subst e <;> decide
  · have j2 : j < 2 := by
      rcases (show q = 0 ∨ q = 1 ∨ q = 2 ∨ q = 3 by omega) with e | e | e | e <;> subst e <;> exact j1
    rcases (show j = 0 ∨ j = 1 by omega) with y | y <;> subst y <;> rcases (show q = 0 ∨ q = 1 ∨ q = 2 ∨ q = 3 by omega) with e | e | e | e <;> subst e <;> decide +kernel
theorem CI_0 : CI XS0 A0_ := by
  refine CI_FG (S := XS0) (st2 := XS0) rfl rfl ⟨rfl, rfl⟩ (fun q hq => ?_) (fun r hr => rfl) (fun v hv => ?_) (fun r c hr a0 a1 => ?_) AI_0 ⟨fun _ _ => rfl, fun _ _ => rfl, fun r hr => ?_, fun r c hr a0 a1 => ?_⟩
  · rcases (show q = 0 ∨ q = 1 ∨ q = 2 ∨ q = 3 by omega) with e | e | e | e <;> subst e <;> exact ⟨rfl, fun j _ _ => rfl⟩
  · rcases (show v = 0 ∨ v = 1 ∨ v = 2 by omega) with e | e | e <;> subst e <;> exact ⟨⟨by decide, by decide⟩, fun j _ _ => ⟨Int.le_refl 0, by show (0 : Int) ≤ 60; omega⟩⟩
  · rcases (show r = 0 ∨ r = 1 ∨ r = 2 by omega) with e | e | e <;> subst e <;> rfl
  · rcases (show r = 0 ∨ r = 1 ∨ r = 2 by omega) with e | e | e <;> subst e <;> rfl
  · rcases (show r = 0 ∨ r = 1 ∨ r = 2 by omega) with e | e | e <;> subst e <;> rfl
theorem MI_0 : MI MS0 A0_ := by
  refine MI_mk (S := MS0) rfl rfl ⟨rfl, rfl⟩ (fun q hq => ?_) (fun r hr => rfl) ⟨by decide, by decide⟩ rfl AI_0
  rcases (show q = 0 ∨ q = 1 ∨ q = 2 ∨ q = 3 by omega) with e | e | e | e <;> subst e <;> refine ⟨rfl, fun j j0 j1 => ?_⟩ <;> (have j2 : j < 2 := j1) <;> rcases (show j = 0 ∨ j = 1 by omega) with y | y <;> subst y <;> rfl
