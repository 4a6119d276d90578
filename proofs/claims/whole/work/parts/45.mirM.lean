/-! ===== the model: its numbers and its rows ===== -/
theorem zkX6 : zCls 5 RX6 TX6 13 tyX6 := ⟨rfl, tyX6_ok, nmX6⟩
def mK (L pl sp nb dn er : Int) : Nat → Int := fun k => match k with | 4 => L | 8 => pl | 9 => sp | 10 => nb | 11 => dn | 12 => er | _ => 0
abbrev wM (J : Nat → ClassId) (h : Nat) (a : Nat → Nat) (L pl sp nb dn er : Int) (A K T H S V P : Nat → Int) : va_W :=
  [cO 5 h [some (a 0), some (a 1), some (a 2), some (a 3), none, some (a 5), some (a 6), some (a 7), none, none, none, none, none] (mK L pl sp nb dn er), cI (J 0) (a 0) 222 A, cI (J 0) (a 1) 222 K, cI (J 0) (a 2) 222 T, cI (J 0) (a 3) 1332 H, cI (J 0) (a 5) 444 S, cI (J 0) (a 6) 2 V, cI (J 0) (a 7) 80 P]
def mIn (v lo hi : Int) : Int := if v < lo then 0 else if hi < v then 0 else 1
theorem mIn_spec (v lo hi : Int) : (mIn v lo hi = 1 ∧ lo ≤ v ∧ v ≤ hi) ∨ (mIn v lo hi = 0 ∧ (v < lo ∨ hi < v)) := by
  unfold mIn
  split
  · omega
  · split <;> omega
def mOrd (q : Int) : Int := if q < 2 then q else 5 - q
theorem mOrd_in {q : Int} (h : 0 ≤ q ∧ q ≤ 3) : 0 ≤ mOrd q ∧ mOrd q ≤ 3 := by unfold mOrd; split <;> omega
def mLasts (A : Nat → Int) (q : Int) : Int := if q = A 15 then (if 0 < A 5 then A 16 + 1 else 1) else 1
def mDeed (A : Nat → Int) (q : Int) : Int := if q = A 8 then 0 else if mLasts A q < A 2 then 0 else if (mOrd q + 4 - mOrd (A 8)) % 4 = 1 then 1 else if (mOrd q + 4 - mOrd (A 8)) % 4 = 3 then 2 else 3
theorem mDeed_in (A : Nat → Int) (q : Int) : 0 ≤ mDeed A q ∧ mDeed A q ≤ 3 := by unfold mDeed; (repeat' split) <;> omega
def InvM (A : Nat → Int) : Prop :=
  (4 ≤ A 0 ∧ A 0 ≤ 400) ∧ (10 ≤ A 1 ∧ A 1 ≤ 9999) ∧ (1 ≤ A 2 ∧ A 2 ≤ 9) ∧ (1 ≤ A 3 ∧ A 3 ≤ 99) ∧ (0 ≤ A 4 ∧ A 4 ≤ 2) ∧ (0 ≤ A 5 ∧ A 5 ≤ 99999) ∧ (0 ≤ A 6 ∧ A 6 < A 1) ∧ (0 ≤ A 7 ∧ A 7 < A 0) ∧ (0 ≤ A 8 ∧ A 8 ≤ 3) ∧ (0 ≤ A 9 ∧ A 9 ≤ 2) ∧
  (0 ≤ A 10 ∧ 0 ≤ A 11 ∧ 0 ≤ A 12 ∧ A 10 + A 11 + A 12 ≤ A 5) ∧ (0 ≤ A 13 ∧ A 13 ≤ A 5) ∧ (0 ≤ A 14 ∧ A 14 ≤ 200) ∧ (0 ≤ A 15 ∧ A 15 ≤ 3) ∧ (0 ≤ A 16 ∧ A 16 ≤ A 5) ∧ (0 ≤ A 17 ∧ A 17 ≤ 1) ∧ (-6 ≤ A 18 ∧ A 18 ≤ A 5) ∧ (-6 ≤ A 19 ∧ A 19 ≤ A 5) ∧ (0 ≤ A 20 ∧ A 20 ≤ 2) ∧ ∀ j, 21 ≤ j → 0 ≤ A j ∧ A j ≤ 31
def mSteps (A : Nat → Int) (d : Int) : Nat → Int :=
  if d = 1 then updZ (updZ (updZ (updZ (updZ (updZ (updZ A 6 ((A 6 + 1 + A 1) % A 1)) 7 ((A 7 + 1 + A 0) % A 0)) 19 (A 18)) 20 (A 9)) 18 (A 5)) 9 d) 10 (A 10 + 1)
  else updZ (updZ (updZ (updZ (updZ (updZ (updZ A 6 ((A 6 + (-1) + A 1) % A 1)) 7 ((A 7 + (-1) + A 0) % A 0)) 19 (A 18)) 20 (A 9)) 18 (A 5)) 9 d) 11 (A 11 + 1)
def mRise (A : Nat → Int) : Nat → Int :=
  if A 4 = 1 then (if A 7 = 0 then updZ (updZ A 13 (A 13 + 0)) 7 0 else updZ (updZ A 13 (A 13 + 1)) 7 0) else if A 4 = 2 then updZ (updZ A 7 0) 6 0 else A
def mT1 (A : Nat → Int) (d : Int) : Nat → Int := if d = 1 then mSteps A d else if d = 2 then mSteps A d else A
def mT2 (A : Nat → Int) (d : Int) : Nat → Int := updZ (mT1 A d) 12 (mT1 A d 12 + (if d = 3 then 1 else 0))
def mT3 (A : Nat → Int) (q d : Int) : Nat → Int := updZ (mT2 A d) 8 (if 0 < d then q else mT2 A d 8)
def mT4 (A : Nat → Int) (q i d : Int) : Nat → Int := if i = 1 then (if mT3 A q d 17 = 0 then mRise (mT3 A q d) else mT3 A q d) else mT3 A q d
def mT5 (A : Nat → Int) (q i d : Int) : Nat → Int := updZ (mT4 A q i d) 16 (if q = mT4 A q i d 15 then (if 0 < mT4 A q i d 5 then mT4 A q i d 16 + 1 else 1) else 1)
def mT6 (A : Nat → Int) (q i d : Int) : Nat → Int := updZ (updZ (updZ (mT5 A q i d) 15 q) 17 i) 5 (mT5 A q i d 5 + 1)
def mT7 (A : Nat → Int) (q i d : Int) : Nat → Int := updZ (mT6 A q i d) 14 (mT5 A q i d 14 + (if mT5 A q i d 14 < 200 then 1 else 0))
/-- the log's first numbers moved on, down to the place k -/
def mSh (B : Nat → Int) (hi k : Nat) : Nat → Int := fun j => if 21 + k < j ∧ j ≤ 21 + hi then B (j - 1) else B j
theorem mSh_0 (B : Nat → Int) (hi : Nat) : mSh B hi hi = B := by
  funext j
  unfold mSh
  rw [if_neg (by omega)]
theorem mSh_s (B : Nat → Int) {hi k : Nat} (h : k + 1 ≤ hi) : updZ (mSh B hi (k + 1)) (21 + (k + 1)) (mSh B hi (k + 1) (21 + (k + 1) - 1)) = mSh B hi k := by
  funext j
  unfold updZ mSh
  split
  · rename_i hj
    subst hj
    rw [if_neg (by omega), if_pos (by omega)]
  · rename_i hj
    split
    · rename_i h2
      rw [if_pos (by omega)]
    · rename_i h2
      rw [if_neg (by omega)]
def mTick (A : Nat → Int) (q i : Int) : Nat → Int :=
  updZ (mSh (mT7 A q i (mDeed A q)) (mT7 A q i (mDeed A q) 14 - 1).toNat 0) 21 (8 * q + 4 * i + mDeed A q)
def mStp (d : Int) : Int := if d = 1 then 1 else if d = 2 then 1 else 0
theorem mStp_01 (d : Int) : mStp d = 0 ∨ mStp d = 1 := by unfold mStp; (repeat' split) <;> omega
def mF (A B : Nat → Int) : Prop := B 4 = A 4 ∧ B 5 = A 5 ∧ B 14 = A 14 ∧ B 15 = A 15 ∧ B 16 = A 16 ∧ B 17 = A 17 ∧ (0 ≤ B 7 ∧ B 7 ≤ 400)
theorem mF_steps {A : Nat → Int} (hI : InvM A) (d : Int) : mF A (mSteps A d) := by
  obtain ⟨⟨h0, h0'⟩, _⟩ := hI
  have e1 : 0 ≤ (A 7 + 1 + A 0) % A 0 := Int.emod_nonneg _ (by omega)
  have e2 : (A 7 + 1 + A 0) % A 0 < A 0 := Int.emod_lt_of_pos _ (by omega)
  have e3 : 0 ≤ (A 7 + (-1) + A 0) % A 0 := Int.emod_nonneg _ (by omega)
  have e4 : (A 7 + (-1) + A 0) % A 0 < A 0 := Int.emod_lt_of_pos _ (by omega)
  unfold mSteps
  split
  · exact ⟨rfl, rfl, rfl, rfl, rfl, rfl, e1, by show (A 7 + 1 + A 0) % A 0 ≤ 400; omega⟩
  · exact ⟨rfl, rfl, rfl, rfl, rfl, rfl, e3, by show (A 7 + (-1) + A 0) % A 0 ≤ 400; omega⟩
theorem mF_rise {A B : Nat → Int} (h : mF A B) : mF A (mRise B) := by
  obtain ⟨h4, h5, h14, h15, h16, h17, h7⟩ := h
  unfold mRise
  split
  · split
    · exact ⟨h4, h5, h14, h15, h16, h17, by show (0 : Int) ≤ 0 ∧ (0 : Int) ≤ 400; omega⟩
    · exact ⟨h4, h5, h14, h15, h16, h17, by show (0 : Int) ≤ 0 ∧ (0 : Int) ≤ 400; omega⟩
  · split
    · exact ⟨h4, h5, h14, h15, h16, h17, by show (0 : Int) ≤ 0 ∧ (0 : Int) ≤ 400; omega⟩
    · exact ⟨h4, h5, h14, h15, h16, h17, h7⟩
