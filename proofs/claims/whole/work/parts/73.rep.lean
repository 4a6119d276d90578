/-! ===== an encoder of the class and the model's row of numbers say the same ===== -/
/-- a tick of the class's log as the model keeps it -/
def rec1 (x : Int) : Int := 8 * (x % 4) + 4 * (x / 4 % 2) + x / 8
def RepE (E : Enc) (A : Nat → Int) : Prop :=
  (A 0 = E.2.1 0 ∧ A 1 = E.2.1 1 ∧ A 2 = E.2.1 2 ∧ A 3 = E.2.1 3 ∧ A 4 = E.2.1 4) ∧ (A 5 = E.1 2 ∧ A 6 = E.1 3 ∧ A 7 = E.1 4 ∧ A 8 = E.1 5 ∧ A 9 = E.1 9) ∧ (A 10 = E.1 10 ∧ A 11 = E.1 11 ∧ A 12 = E.1 12 ∧ A 13 = E.1 13 ∧ A 14 = min (E.1 2) 200) ∧ (A 15 = E.1 6 ∧ A 16 = E.1 8 ∧ A 17 = E.1 7 ∧ A 18 = (if E.1 9 = 0 then -6 else E.1 14)) ∧
  mPer A = (if E.1 15 ≤ 0 then -6 else E.1 15) ∧ ∀ j : Nat, (j : Int) < A 14 → A (21 + j) = rec1 (E.2.2 ((E.1 2 - 1 - (j : Int)) % 200).toNat)
theorem ord_eq {q : Int} (h : 0 ≤ q ∧ q ≤ 3) : mOrd q = ordP q := by
  unfold mOrd ordP
  (repeat' split) <;> omega
theorem deed_eq {E : Enc} {A : Nat → Int} (hR : RepE E A) (hI : InvE E) {q : Int} (hq : 0 ≤ q ∧ q ≤ 3) : mDeed A q = cDeed E.1 E.2.1 q := by
  obtain ⟨⟨r0, r1, r2, r3, r4⟩, ⟨r5, r6, r7, r8, r9⟩, _, ⟨r15, r16, r17, r18⟩, _⟩ := hR
  have h5 : 0 ≤ E.1 5 ∧ E.1 5 ≤ 3 := hI.2.2.2.1
  have h8 : 0 ≤ E.1 8 ∧ E.1 8 ≤ E.1 2 := hI.2.2.2.2.2.2.1
  have h2 : 0 ≤ E.1 2 ∧ E.1 2 ≤ 99999 := hI.1
  have hl : mLasts A q = cRun E.1 q := by
    unfold mLasts cRun
    rw [r15, r16, r5]
    (repeat' split) <;> omega
  have ho : (mOrd q + 4 - mOrd (A 8)) % 4 = (ordP q - ordP (E.1 5)) % 4 := by
    rw [r8, ord_eq hq, ord_eq h5]
    omega
  unfold mDeed cDeed
  rw [hl, ho, r8, r2]
theorem would_eq {E : Enc} {A : Nat → Int} (hR : RepE E A) (hI : InvE E) (q : Int) : mWouldR A q = cWouldR E q := by
  have hm := mIn_spec q 0 3
  unfold mWouldR cWouldR
  split
  · split
    · rfl
    · rw [if_pos (by omega)]
  · rw [if_neg (by omega), if_neg (by omega)]
    exact deed_eq hR hI (by omega)
theorem noise_eq {E : Enc} {A : Nat → Int} (hR : RepE E A) (hI : InvE E) : mNoiseR A = cNoiseR E := by
  obtain ⟨_, _, ⟨r10, r11, r12, _, _⟩, _⟩ := hR
  have hs : 0 ≤ E.1 10 ∧ 0 ≤ E.1 11 ∧ 0 ≤ E.1 12 ∧ E.1 10 + E.1 11 + E.1 12 ≤ E.1 2 := hI.2.2.2.2.2.2.2.2.1
  unfold mNoiseR cNoiseR mNoiseX cNoiseX
  rw [r10, r11, r12]
  by_cases h : E.1 10 + E.1 11 + E.1 12 = 0
  · rw [if_pos h, if_pos (by omega)]
  · rw [if_neg h, if_neg (by omega)]
theorem per_in {E : Enc} {A : Nat → Int} (hR : RepE E A) (hI : InvE E) : mPer A = -6 ∨ (1 ≤ mPer A ∧ mPer A ≤ 99999) := by
  have h15 : 0 ≤ E.1 15 ∧ E.1 15 ≤ E.1 2 := hI.2.2.2.2.2.2.2.2.2.2.2.1
  have h2 : 0 ≤ E.1 2 ∧ E.1 2 ≤ 99999 := hI.1
  rw [hR.2.2.2.2.1]
  split <;> omega
theorem rate_eq {E : Enc} {A : Nat → Int} (hR : RepE E A) (hI : InvE E) : mRateR A = cRateR E := by
  have h15 : 0 ≤ E.1 15 ∧ E.1 15 ≤ E.1 2 := hI.2.2.2.2.2.2.2.2.2.2.2.1
  have h2 : 0 ≤ E.1 2 ∧ E.1 2 ≤ 99999 := hI.1
  have s0 : 4 ≤ E.2.1 0 ∧ E.2.1 0 ≤ 400 := hI.2.2.2.2.2.2.2.2.2.2.2.2.1
  have hp := hR.2.2.2.2.1
  unfold mRateR cRateR mRateX cRateX
  by_cases h : E.1 15 ≤ 0
  · rw [if_pos h] at hp
    have e0 : E.1 15 = 0 := by omega
    rw [if_pos hp, if_pos (by rw [e0, Int.zero_mul]; exact Int.le_refl 0)]
  · rw [if_neg h] at hp
    have hm := mulP_in (a := E.1 15) (b := E.2.1 0) (by omega) s0
    rw [hp, hR.1.1, hR.2.1.2.2.2.2, if_neg (show ¬ E.1 15 = -6 by omega), if_neg (show ¬ E.1 15 * E.2.1 0 ≤ 0 by omega)]
