/-! ===== what an encoder of the class is: its numbers (by the places of its fields), its settings, its log; and what its methods do with them ===== -/
abbrev Enc : Type := (Nat → Int) × (Nat → Int) × (Nat → Int)
abbrev kE (b c : Nat) : List (Option Nat) := [some b, some c, none, none, none, none, none, none, none, none, none, none, none, none, none, none]
abbrev wE (J : Nat → ClassId) (a b c : Nat) (E : Enc) : va_W := [cO 0 a (kE b c) E.1, cI (J 0) b 5 E.2.1, cI (J 0) c 200 E.2.2]
theorem hvi {a b : Int} (h : a = b) : some (Value.int (iI a)) = some (Value.int (iI b)) := by rw [h]
theorem zkX1 : zCls 0 RX1 TX1 16 tyX1 := ⟨rfl, tyX1_ok, nmX1⟩
theorem zkX2 : zCls 1 RX2 TX2 3 tyX2 := ⟨rfl, tyX2_ok, nmX2⟩
theorem zkX3 : zCls 2 RX3 TX3 6 tyX3 := ⟨rfl, tyX3_ok, nmX3⟩
theorem zkX4 : zCls 3 RX4 TX4 2 tyX4 := ⟨rfl, tyX4_ok, nmX4⟩
theorem zkX5 : zCls 4 RX5 TX5 5 tyX5 := ⟨rfl, tyX5_ok, nmX5⟩
def ordP (p : Int) : Int := if p = 2 then 3 else if p = 3 then 2 else p
theorem ordP_in {p : Int} (h : 0 ≤ p ∧ p ≤ 3) : 0 ≤ ordP p ∧ ordP p ≤ 3 := by unfold ordP; repeat' split <;> omega
theorem ordP_xor {p : Int} (h : 0 ≤ p ∧ p ≤ 3) : iI p ^^^ iI (p / 2 ^ 1) = iI (ordP p) := by
  obtain rfl | rfl | rfl | rfl : p = 0 ∨ p = 1 ∨ p = 2 ∨ p = 3 := by omega
  all_goals decide
def cRun (f : Nat → Int) (p : Int) : Int := if p = f 6 then f 8 + 1 else 1
def cDeed (f s : Nat → Int) (p : Int) : Int :=
  if p = f 5 then 0 else if cRun f p < s 2 then 0 else if (ordP p - ordP (f 5)) % 4 = 1 then 1 else if (ordP p - ordP (f 5)) % 4 = 3 then 2 else 3
def leftO (x b : Int) : Int := (x + b) % b
def cStep (f s : Nat → Int) (w : Int) : Nat → Int :=
  updZ (updZ (updZ (updZ (updZ (if w = 1 then updZ f 10 (f 10 + 1) else updZ f 11 (f 11 + 1)) 3 (leftO (f 3 + (if w = 1 then 1 else -1)) (s 1))) 4 (leftO (f 4 + (if w = 1 then 1 else -1)) (s 0))) 15 (if w = f 9 then f 2 - f 14 else 0)) 9 w) 14 (f 2)
def cMeet (f s : Nat → Int) : Nat → Int :=
  if s 4 = 1 then (if f 4 = 0 then f else updZ (updZ f 13 (f 13 + 1)) 4 0) else if s 4 = 2 then updZ (updZ f 4 0) 3 0 else f
def cTick0 (f s : Nat → Int) (p i : Int) : Nat → Int :=
  if cDeed f s p = 0 then updZ (updZ (updZ f 8 (cRun f p)) 6 p) 7 i else if cDeed f s p = 3 then updZ (updZ (updZ (updZ (updZ f 8 (cRun f p)) 6 p) 7 i) 5 p) 12 (f 12 + 1) else updZ (updZ (updZ (updZ f 8 (cRun f p)) 6 p) 7 i) 5 p
def cTick1 (f s : Nat → Int) (p i : Int) : Nat → Int :=
  if cDeed f s p = 1 then cStep (cTick0 f s p i) s (cDeed f s p) else if cDeed f s p = 2 then cStep (cTick0 f s p i) s (cDeed f s p) else cTick0 f s p i
def cTick2 (f s : Nat → Int) (p i : Int) : Nat → Int :=
  if i = 1 then (if f 7 = 0 then cMeet (cTick1 f s p i) s else cTick1 f s p i) else cTick1 f s p i
def cTick (E : Enc) (p i : Int) : Enc :=
  (updZ (cTick2 E.1 E.2.1 p i) 2 (E.1 2 + 1), E.2.1, updZ E.2.2 (Int.toNat (E.1 2 % 200)) (p + 4 * i + 8 * cDeed E.1 E.2.1 p))
def cClear (E : Enc) : Enc := (updZ (updZ E.1 3 0) 4 0, E.2.1, E.2.2)
/-- what is true of every encoder -/
def InvE (E : Enc) : Prop :=
  (0 ≤ E.1 2 ∧ E.1 2 ≤ 99999) ∧ (0 ≤ E.1 3 ∧ E.1 3 < E.2.1 1) ∧ (0 ≤ E.1 4 ∧ E.1 4 < E.2.1 0) ∧ (0 ≤ E.1 5 ∧ E.1 5 ≤ 3) ∧ (0 ≤ E.1 6 ∧ E.1 6 ≤ 3) ∧ (0 ≤ E.1 7 ∧ E.1 7 ≤ 1) ∧ (0 ≤ E.1 8 ∧ E.1 8 ≤ E.1 2) ∧ (0 ≤ E.1 9 ∧ E.1 9 ≤ 2) ∧
  (0 ≤ E.1 10 ∧ 0 ≤ E.1 11 ∧ 0 ≤ E.1 12 ∧ E.1 10 + E.1 11 + E.1 12 ≤ E.1 2) ∧ (0 ≤ E.1 13 ∧ E.1 13 ≤ E.1 2) ∧ (0 ≤ E.1 14 ∧ E.1 14 ≤ E.1 2 ∧ (E.1 9 = 0 ∨ E.1 14 < E.1 2)) ∧ (0 ≤ E.1 15 ∧ E.1 15 ≤ E.1 2) ∧
  (4 ≤ E.2.1 0 ∧ E.2.1 0 ≤ 400) ∧ (10 ≤ E.2.1 1 ∧ E.2.1 1 ≤ 9999) ∧ (1 ≤ E.2.1 2 ∧ E.2.1 2 ≤ 9) ∧ (1 ≤ E.2.1 3 ∧ E.2.1 3 ≤ 99) ∧ (0 ≤ E.2.1 4 ∧ E.2.1 4 ≤ 2) ∧ ∀ j, 0 ≤ E.2.2 j ∧ E.2.2 j ≤ 31
theorem cStep_2 (f s : Nat → Int) (w : Int) : cStep f s w 2 = f 2 := by
  unfold cStep
  split <;> rfl
theorem cMeet_2 (f s : Nat → Int) : cMeet f s 2 = f 2 := by
  unfold cMeet
  repeat' split
  all_goals rfl
theorem leftO_in {x b : Int} (h : 0 < b) : 0 ≤ leftO x b ∧ leftO x b < b := ⟨Int.emod_nonneg _ (by omega), Int.emod_lt_of_pos _ h⟩
theorem cStep_4 (f s : Nat → Int) (w : Int) (h : 0 < s 0) : 0 ≤ cStep f s w 4 ∧ cStep f s w 4 < s 0 := by
  have : cStep f s w 4 = leftO (f 4 + (if w = 1 then 1 else -1)) (s 0) := by
    unfold cStep
    split <;> rfl
  rw [this]
  exact leftO_in h
theorem cStep_13 (f s : Nat → Int) (w : Int) : cStep f s w 13 = f 13 := by
  unfold cStep
  split <;> rfl
theorem cRun_in {f : Nat → Int} {p : Int} (h : 0 ≤ f 8 ∧ f 8 ≤ 99999) : inR (cRun f p) := by
  unfold cRun inR
  split <;> omega
theorem cDeed_in (f s : Nat → Int) (p : Int) : 0 ≤ cDeed f s p ∧ cDeed f s p ≤ 3 := by
  unfold cDeed
  repeat' split
  all_goals omega
theorem cTick0_2 (f s : Nat → Int) (p i : Int) : cTick0 f s p i 2 = f 2 := by
  unfold cTick0
  repeat' split
  all_goals rfl
theorem cTick1_2 (f s : Nat → Int) (p i : Int) : cTick1 f s p i 2 = f 2 := by
  unfold cTick1
  repeat' split
  all_goals first | exact (cStep_2 _ _ _).trans (cTick0_2 _ _ _ _) | exact cTick0_2 _ _ _ _
theorem cTick0_4 (f s : Nat → Int) (p i : Int) : cTick0 f s p i 4 = f 4 := by
  unfold cTick0
  repeat' split
  all_goals rfl
theorem cTick1_4 (f s : Nat → Int) (p i : Int) (h : 0 ≤ f 4 ∧ f 4 < s 0) : 0 ≤ cTick1 f s p i 4 ∧ cTick1 f s p i 4 < s 0 := by
  unfold cTick1
  repeat' split
  all_goals first | exact cStep_4 _ _ _ (by omega) | (rw [cTick0_4]; exact h)
def cHas (f : Nat → Int) (a : Int) : Int := if 0 ≤ a then (if a < min (f 2) 200 then 1 else 0) else 0
def cEnt (f g : Nat → Int) (a : Int) : Int := g (Int.toNat ((f 2 - 1 - a) % 200))
def cDat (f g : Nat → Int) (a : Int) : Int := cEnt f g a / 2 ^ 3
theorem cHas_1 {f : Nat → Int} {a : Int} (h : 0 ≤ a ∧ a < min (f 2) 200) : cHas f a = 1 := by
  unfold cHas
  rw [if_pos h.1, if_pos h.2]
theorem cHas_01 (f : Nat → Int) (a : Int) : cHas f a = 0 ∨ cHas f a = 1 := by
  unfold cHas
  repeat' split
  all_goals omega
def cGate (E : Enc) : Nat → Int
  | 0 => 0
  | n + 1 => if cDat E.1 E.2.2 n = 1 then cGate E n + 1 else if cDat E.1 E.2.2 n = 2 then cGate E n + (-1) else cGate E n
def cTicks (E : Enc) (p i : Int) : Nat → Enc
  | 0 => E
  | n + 1 => cTick (cTicks E p i n) p i
def cSteps (E : Enc) (p i : Int) : Nat → Int
  | 0 => 0
  | n + 1 => if cDeed (cTicks E p i n).1 (cTicks E p i n).2.1 p = 1 then cSteps E p i n + 1 else if cDeed (cTicks E p i n).1 (cTicks E p i n).2.1 p = 2 then cSteps E p i n + 1 else cSteps E p i n
def cPassOk (E : Enc) (p i n : Int) : Int := if 0 ≤ p ∧ p ≤ 3 ∧ 0 ≤ i ∧ i ≤ 1 ∧ 1 ≤ n ∧ n ≤ 99 then (if n ≤ 99999 - E.1 2 then 0 else -5) else -2
def cPassR (E : Enc) (p i n : Int) : Int := if cPassOk E p i n = 0 then cSteps E p i n.toNat else cPassOk E p i n
def cPassE (E : Enc) (p i n : Int) : Enc := if cPassOk E p i n = 0 then cTicks E p i n.toNat else E
def cPair (E : Enc) (w : Int) : Int := ordP ((ordP (E.1 5) + w) % 4)
def cTurn (F : Nat) (w : Int) (E : Enc) : Enc := cTicks E (cPair E w) 0 F
def cTurns (F : Nat) (w : Int) (E : Enc) : Nat → Enc
  | 0 => E
  | n + 1 => cTurn F w (cTurns F w E n)
def absZ (x : Int) : Int := if 0 ≤ x then x else -x
def cRevOk (E : Enc) (x : Int) : Int := if x = 0 ∨ x < -99 ∨ 99 < x then -2 else if absZ x * E.2.1 2 ≤ 99999 - E.1 2 then 0 else -5
def cRevE (E : Enc) (x : Int) : Enc := if cRevOk E x = 0 then cTurns (E.2.1 2).toNat (if 0 < x then 1 else -1) E (absZ x).toNat else E
def cRevR (E : Enc) (x : Int) : Int := if cRevOk E x = 0 then (cRevE E x).1 3 else cRevOk E x
def cAdjOk (x y : Int) : Int := if 0 ≤ x ∧ x < 5 then (if leastS x.toNat ≤ y ∧ y ≤ mostS x.toNat then (if x = 0 then (if y % 4 = 0 then 0 else -2) else 0) else -2) else -2
def cAdjR (E : Enc) (x y : Int) : Int := if cAdjOk x y = 0 then E.2.1 x.toNat else -2
def cAdjE (E : Enc) (x y : Int) : Enc := if cAdjOk x y = 0 then (if x = 0 then updZ E.1 4 (leftO (E.1 4) y) else if x = 1 then updZ E.1 3 (leftO (E.1 3) y) else E.1, updZ E.2.1 x.toNat y, E.2.2) else E
theorem leastS_in (j : Nat) : 0 ≤ leastS j ∧ leastS j ≤ 10 := by
  unfold leastS
  repeat' split
  all_goals omega
theorem mostS_in (j : Nat) : 2 ≤ mostS j ∧ mostS j ≤ 9999 := by
  unfold mostS
  repeat' split
  all_goals omega
def cRep (E : Enc) (T : Enc) : Nat → Enc
  | 0 => T
  | n + 1 => cTick (cRep E T n) (cEnt E.1 E.2.2 (min (E.1 2) 200 - 1 - n) % 4) (cEnt E.1 E.2.2 (min (E.1 2) 200 - 1 - n) / 2 ^ 2 % 2)
def cFollow (E T : Enc) (F : Int) : Enc := cRep E ((fun _ => 0), updZ E.2.1 2 F, T.2.2) (min (E.1 2) 200).toNat
theorem mul_in {a b : Int} (ha : 0 ≤ a ∧ a ≤ 999) (hb : 0 ≤ b ∧ b ≤ 999) : 0 ≤ a * b ∧ a * b ≤ 998001 := by
  refine ⟨Int.mul_nonneg ha.1 hb.1, ?_⟩
  calc a * b ≤ 999 * b := Int.mul_le_mul_of_nonneg_right ha.2 hb.1
    _ ≤ 999 * 999 := Int.mul_le_mul_of_nonneg_left hb.2 (by decide)
    _ = 998001 := by decide
theorem turn_room {k : Nat} {n F B : Int} (hF : 0 ≤ F) (hk : (k : Int) + 1 ≤ n) (h : n * F ≤ B) : (k : Int) * F + F ≤ B := by
  have q := Int.mul_le_mul_of_nonneg_right hk hF
  rw [Int.add_mul, Int.one_mul] at q
  omega
theorem cDat_in {f g : Nat → Int} (hg : ∀ j, 0 ≤ g j ∧ g j ≤ 31) (a : Int) : 0 ≤ cDat f g a ∧ cDat f g a ≤ 3 := by
  have q := hg (Int.toNat ((f 2 - 1 - a) % 200))
  unfold cDat cEnt
  omega
def freshE : Enc := ((fun _ => 0), firstS, (fun _ => 0))
