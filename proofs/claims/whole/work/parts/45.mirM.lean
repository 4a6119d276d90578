/-! ===== the model: its numbers and its rows ===== -/
theorem zkX6 : zCls 5 RX6 TX6 13 tyX6 := ⟨rfl, tyX6_ok, nmX6⟩
def mK (L pl sp nb dn er : Int) : Nat → Int := fun k => match k with | 4 => L | 8 => pl | 9 => sp | 10 => nb | 11 => dn | 12 => er | _ => 0
abbrev wM (J : Nat → ClassId) (h : Nat) (a : Nat → Nat) (L pl sp nb dn er : Int) (A K T H S V P : Nat → Int) : va_W :=
  [cO 5 h [some (a 0), some (a 1), some (a 2), some (a 3), none, some (a 5), some (a 6), some (a 7), none, none, none, none, none] (mK L pl sp nb dn er), cI (J 0) (a 0) 222 A, cI (J 0) (a 1) 222 K, cI (J 0) (a 2) 222 T, cI (J 0) (a 3) 1332 H, cI (J 0) (a 5) 444 S, cI (J 0) (a 6) 2 V, cI (J 0) (a 7) 80 P]
def mIn (v lo hi : Int) : Int := if v < lo then 0 else if hi < v then 0 else 1
theorem mIn_spec (v lo hi : Int) : (mIn v lo hi = 1 ∧ lo ≤ v ∧ v ≤ hi) ∨ (mIn v lo hi = 0 ∧ (v < lo ∨ hi < v)) := by
  unfold mIn
  split
  · omega
  · split <;> omega
def mOrd (q : Int) : Int := if q < 2 then q else 5 - q
theorem mOrd_in {q : Int} (h : 0 ≤ q ∧ q ≤ 3) : 0 ≤ mOrd q ∧ mOrd q ≤ 3 := by unfold mOrd; split <;> omega
def mLasts (A : Nat → Int) (q : Int) : Int := if q = A 15 then (if 0 < A 5 then A 16 + 1 else 1) else 1
def mDeed (A : Nat → Int) (q : Int) : Int := if q = A 8 then 0 else if mLasts A q < A 2 then 0 else if (mOrd q + 4 - mOrd (A 8)) % 4 = 1 then 1 else if (mOrd q + 4 - mOrd (A 8)) % 4 = 3 then 2 else 3
theorem mDeed_in (A : Nat → Int) (q : Int) : 0 ≤ mDeed A q ∧ mDeed A q ≤ 3 := by unfold mDeed; (repeat' split) <;> omega
def InvM (A : Nat → Int) : Prop :=
  (4 ≤ A 0 ∧ A 0 ≤ 400) ∧ (10 ≤ A 1 ∧ A 1 ≤ 9999) ∧ (1 ≤ A 2 ∧ A 2 ≤ 9) ∧ (1 ≤ A 3 ∧ A 3 ≤ 99) ∧ (0 ≤ A 4 ∧ A 4 ≤ 2) ∧ (0 ≤ A 5 ∧ A 5 ≤ 99999) ∧ (0 ≤ A 6 ∧ A 6 < A 1) ∧ (0 ≤ A 7 ∧ A 7 < A 0) ∧ (0 ≤ A 8 ∧ A 8 ≤ 3) ∧ (0 ≤ A 9 ∧ A 9 ≤ 2) ∧
  (0 ≤ A 10 ∧ 0 ≤ A 11 ∧ 0 ≤ A 12 ∧ A 10 + A 11 + A 12 ≤ A 5) ∧ (0 ≤ A 13 ∧ A 13 ≤ A 5) ∧ (0 ≤ A 14 ∧ A 14 ≤ 200) ∧ (0 ≤ A 15 ∧ A 15 ≤ 3) ∧ (0 ≤ A 16 ∧ A 16 ≤ A 5) ∧ (0 ≤ A 17 ∧ A 17 ≤ 1) ∧ (-6 ≤ A 18 ∧ A 18 ≤ A 5) ∧ (-6 ≤ A 19 ∧ A 19 ≤ A 5) ∧ (0 ≤ A 20 ∧ A 20 ≤ 2) ∧ ∀ j, 21 ≤ j → 0 ≤ A j ∧ A j ≤ 31
