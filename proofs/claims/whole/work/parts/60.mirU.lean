/-! ===== the model's pad ===== -/
theorem pAt_at {P : Nat → Int} {pl sp : Int} (hl : 0 ≤ pl ∧ pl ≤ 80) (hs : 0 ≤ sp ∧ sp ≤ 80) (hP : ∀ j, 0 ≤ P j ∧ P j ≤ 126) : (pl ≤ sp ∧ pAt P pl sp = 0) ∨ (sp < pl ∧ pAt P pl sp = P sp.toNat ∧ 0 ≤ P sp.toNat ∧ P sp.toNat ≤ 126) := by
  have h := hP sp.toNat
  unfold pAt
  rw [if_pos hs.1]
  by_cases c : sp < pl
  · rw [if_pos c, if_pos (by omega)]
    omega
  · rw [if_neg c]
    omega
theorem mIn_sk (C : Nat → Int) (len pos ch : Int) : mIn (pAt C len pos) ch ch = pSkR C len pos ch := by
  unfold mIn pSkR
  (repeat' split) <;> omega
theorem pSkR_01 (C : Nat → Int) (len pos ch : Int) : pSkR C len pos ch = 0 ∨ pSkR C len pos ch = 1 := by
  unfold pSkR
  split <;> omega
def mkU (b0 b1 b2 b3 b5 b6 b7 : Nat) : Nat → Nat := fun k => match k with | 0 => b0 | 1 => b1 | 2 => b2 | 3 => b3 | 5 => b5 | 6 => b6 | _ => b7
def mNew : Nat → Int := mFresh (updZ (updZ (updZ (updZ (updZ (fun _ => 0) 0 40) 1 1000) 2 1) 3 10) 4 1)
