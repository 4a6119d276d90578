/-! ===== the model's pad ===== -/
theorem pAt_at {P : Nat → Int} {pl sp : Int} (hl : 0 ≤ pl ∧ pl ≤ 80) (hs : 0 ≤ sp ∧ sp ≤ 80) (hP : ∀ j, 0 ≤ P j ∧ P j ≤ 126) : (pl ≤ sp ∧ pAt P pl sp = 0) ∨ (sp < pl ∧ pAt P pl sp = P sp.toNat ∧ 0 ≤ P sp.toNat ∧ P sp.toNat ≤ 126) := by
  have h := hP sp.toNat
  unfold pAt
  rw [if_pos hs.1]
  by_cases c : sp < pl
  · rw [if_pos c, if_pos (by omega)]
    omega
  · rw [if_neg c]
    omega
theorem mIn_sk (C : Nat → Int) (len pos ch : Int) : mIn (pAt C len pos) ch ch = pSkR C len pos ch := by
  unfold mIn pSkR
  (repeat' split) <;> omega
theorem pSkR_01 (C : Nat → Int) (len pos ch : Int) : pSkR C len pos ch = 0 ∨ pSkR C len pos ch = 1 := by
  unfold pSkR
  split <;> omega
