/-! ===== what an encoder of the class is: its numbers (by the places of its fields), its settings, its log; and what its methods do with them ===== -/
abbrev Enc : Type := (Nat → Int) × (Nat → Int) × (Nat → Int)
abbrev kE (b c : Nat) : List (Option Nat) := [some b, some c, none, none, none, none, none, none, none, none, none, none, none, none, none, none]
abbrev wE (J : Nat → ClassId) (a b c : Nat) (E : Enc) : va_W := [cO 0 a (kE b c) E.1, cI (J 0) b 5 E.2.1, cI (J 0) c 200 E.2.2]
theorem hvi {a b : Int} (h : a = b) : some (Value.int (iI a)) = some (Value.int (iI b)) := by rw [h]
theorem zkX1 : zCls 0 RX1 TX1 16 tyX1 := ⟨rfl, tyX1_ok, nmX1⟩
theorem zkX2 : zCls 1 RX2 TX2 3 tyX2 := ⟨rfl, tyX2_ok, nmX2⟩
theorem zkX3 : zCls 2 RX3 TX3 6 tyX3 := ⟨rfl, tyX3_ok, nmX3⟩
theorem zkX4 : zCls 3 RX4 TX4 2 tyX4 := ⟨rfl, tyX4_ok, nmX4⟩
theorem zkX5 : zCls 4 RX5 TX5 5 tyX5 := ⟨rfl, tyX5_ok, nmX5⟩
def ordP (p : Int) : Int := if p = 2 then 3 else if p = 3 then 2 else p
theorem ordP_in {p : Int} (h : 0 ≤ p ∧ p ≤ 3) : 0 ≤ ordP p ∧ ordP p ≤ 3 := by unfold ordP; repeat' split <;> omega
theorem ordP_xor {p : Int} (h : 0 ≤ p ∧ p ≤ 3) : iI p ^^^ iI (p / 2 ^ 1) = iI (ordP p) := by
  obtain rfl | rfl | rfl | rfl : p = 0 ∨ p = 1 ∨ p = 2 ∨ p = 3 := by omega
  all_goals decide
def cRun (f : Nat → Int) (p : Int) : Int := if p = f 6 then f 8 + 1 else 1
def cDeed (f s : Nat → Int) (p : Int) : Int :=
  if p = f 5 then 0 else if cRun f p < s 2 then 0 else if (ordP p - ordP (f 5)) % 4 = 1 then 1 else if (ordP p - ordP (f 5)) % 4 = 3 then 2 else 3
def leftO (x b : Int) : Int := (x + b) % b
def cStep (f s : Nat → Int) (w : Int) : Nat → Int :=
  updZ (updZ (updZ (updZ (updZ (if w = 1 then updZ f 10 (f 10 + 1) else updZ f 11 (f 11 + 1)) 3 (leftO (f 3 + (if w = 1 then 1 else -1)) (s 1))) 4 (leftO (f 4 + (if w = 1 then 1 else -1)) (s 0))) 15 (if w = f 9 then f 2 - f 14 else 0)) 9 w) 14 (f 2)
def cMeet (f s : Nat → Int) : Nat → Int :=
  if s 4 = 1 then (if f 4 = 0 then f else updZ (updZ f 13 (f 13 + 1)) 4 0) else if s 4 = 2 then updZ (updZ f 4 0) 3 0 else f
def cTick0 (f s : Nat → Int) (p i : Int) : Nat → Int :=
  if cDeed f s p = 0 then updZ (updZ (updZ f 8 (cRun f p)) 6 p) 7 i else if cDeed f s p = 3 then updZ (updZ (updZ (updZ (updZ f 8 (cRun f p)) 6 p) 7 i) 5 p) 12 (f 12 + 1) else updZ (updZ (updZ (updZ f 8 (cRun f p)) 6 p) 7 i) 5 p
def cTick1 (f s : Nat → Int) (p i : Int) : Nat → Int :=
  if cDeed f s p = 1 then cStep (cTick0 f s p i) s (cDeed f s p) else if cDeed f s p = 2 then cStep (cTick0 f s p i) s (cDeed f s p) else cTick0 f s p i
def cTick2 (f s : Nat → Int) (p i : Int) : Nat → Int :=
  if i = 1 then (if f 7 = 0 then cMeet (cTick1 f s p i) s else cTick1 f s p i) else cTick1 f s p i
def cTick (E : Enc) (p i : Int) : Enc :=
  (updZ (cTick2 E.1 E.2.1 p i) 2 (E.1 2 + 1), E.2.1, updZ E.2.2 (Int.toNat (E.1 2 % 200)) (p + 4 * i + 8 * cDeed E.1 E.2.1 p))
def cClear (E : Enc) : Enc := (updZ (updZ E.1 3 0) 4 0, E.2.1, E.2.2)
/-- what is true of every encoder -/
def InvE (E : Enc) : Prop :=
  (0 ≤ E.1 2 ∧ E.1 2 ≤ 99999) ∧ (0 ≤ E.1 3 ∧ E.1 3 < E.2.1 1) ∧ (0 ≤ E.1 4 ∧ E.1 4 < E.2.1 0) ∧ (0 ≤ E.1 5 ∧ E.1 5 ≤ 3) ∧ (0 ≤ E.1 6 ∧ E.1 6 ≤ 3) ∧ (0 ≤ E.1 7 ∧ E.1 7 ≤ 1) ∧ (0 ≤ E.1 8 ∧ E.1 8 ≤ E.1 2) ∧ (0 ≤ E.1 9 ∧ E.1 9 ≤ 2) ∧
  (0 ≤ E.1 10 ∧ 0 ≤ E.1 11 ∧ 0 ≤ E.1 12 ∧ E.1 10 + E.1 11 + E.1 12 ≤ E.1 2) ∧ (0 ≤ E.1 13 ∧ E.1 13 ≤ E.1 2) ∧ (0 ≤ E.1 14 ∧ E.1 14 ≤ E.1 2 ∧ (E.1 9 = 0 ∨ E.1 14 < E.1 2)) ∧ (0 ≤ E.1 15 ∧ E.1 15 ≤ E.1 2) ∧
  (4 ≤ E.2.1 0 ∧ E.2.1 0 ≤ 400) ∧ (10 ≤ E.2.1 1 ∧ E.2.1 1 ≤ 9999) ∧ (1 ≤ E.2.1 2 ∧ E.2.1 2 ≤ 9) ∧ (1 ≤ E.2.1 3 ∧ E.2.1 3 ≤ 99) ∧ (0 ≤ E.2.1 4 ∧ E.2.1 4 ≤ 2) ∧ ∀ j, 0 ≤ E.2.2 j ∧ E.2.2 j ≤ 31
theorem cStep_2 (f s : Nat → Int) (w : Int) : cStep f s w 2 = f 2 := by
  unfold cStep
  split <;> rfl
theorem cMeet_2 (f s : Nat → Int) : cMeet f s 2 = f 2 := by
  unfold cMeet
  repeat' split
  all_goals rfl
theorem leftO_in {x b : Int} (h : 0 < b) : 0 ≤ leftO x b ∧ leftO x b < b := ⟨Int.emod_nonneg _ (by omega), Int.emod_lt_of_pos _ h⟩
theorem cStep_4 (f s : Nat → Int) (w : Int) (h : 0 < s 0) : 0 ≤ cStep f s w 4 ∧ cStep f s w 4 < s 0 := by
  have : cStep f s w 4 = leftO (f 4 + (if w = 1 then 1 else -1)) (s 0) := by
    unfold cStep
    split <;> rfl
  rw [this]
  exact leftO_in h
theorem cStep_13 (f s : Nat → Int) (w : Int) : cStep f s w 13 = f 13 := by
  unfold cStep
  split <;> rfl
theorem cRun_in {f : Nat → Int} {p : Int} (h : 0 ≤ f 8 ∧ f 8 ≤ 99999) : inR (cRun f p) := by
  unfold cRun inR
  split <;> omega
theorem cDeed_in (f s : Nat → Int) (p : Int) : 0 ≤ cDeed f s p ∧ cDeed f s p ≤ 3 := by
  unfold cDeed
  repeat' split
  all_goals omega
theorem cTick0_2 (f s : Nat → Int) (p i : Int) : cTick0 f s p i 2 = f 2 := by
  unfold cTick0
  repeat' split
  all_goals rfl
theorem cTick1_2 (f s : Nat → Int) (p i : Int) : cTick1 f s p i 2 = f 2 := by
  unfold cTick1
  repeat' split
  all_goals first | exact (cStep_2 _ _ _).trans (cTick0_2 _ _ _ _) | exact cTick0_2 _ _ _ _
theorem cTick0_4 (f s : Nat → Int) (p i : Int) : cTick0 f s p i 4 = f 4 := by
  unfold cTick0
  repeat' split
  all_goals rfl
theorem cTick1_4 (f s : Nat → Int) (p i : Int) (h : 0 ≤ f 4 ∧ f 4 < s 0) : 0 ≤ cTick1 f s p i 4 ∧ cTick1 f s p i 4 < s 0 := by
  unfold cTick1
  repeat' split
  all_goals first | exact cStep_4 _ _ _ (by omega) | (rw [cTick0_4]; exact h)
