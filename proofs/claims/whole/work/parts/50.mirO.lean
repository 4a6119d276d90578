/-! ===== the model's calls: set, feed, copies ===== -/
theorem nar_bl {x : Int} (h : x = 0 ∨ x = 1) : narrow .boolean (.int (iI x)) = .int (iI x) := by
  rcases h with rfl | rfl <;> rfl
theorem mIn_01 (v lo hi : Int) : mIn v lo hi = 0 ∨ mIn v lo hi = 1 := by
  have := mIn_spec v lo hi
  omega
def mIsSet (x y : Int) : Int :=
  if x = 0 then (if mIn y 4 400 = 0 then 0 else if y % 4 = 0 then 1 else 0) else if x = 1 then mIn y 10 9999 else if x = 2 then mIn y 1 9 else if x = 3 then mIn y 1 99 else if x = 4 then (if mIn y 0 2 = 0 then 0 else 1) else 0
theorem mIsSet_spec (x y : Int) : mIsSet x y = 0 ∨ (mIsSet x y = 1 ∧ ((x = 0 ∧ 4 ≤ y ∧ y ≤ 400 ∧ y % 4 = 0) ∨ (x = 1 ∧ 10 ≤ y ∧ y ≤ 9999) ∨ (x = 2 ∧ 1 ≤ y ∧ y ≤ 9) ∨ (x = 3 ∧ 1 ≤ y ∧ y ≤ 99) ∨ (x = 4 ∧ 0 ≤ y ∧ y ≤ 2))) := by
  have h0 := mIn_spec y 4 400
  have h1 := mIn_spec y 10 9999
  have h2 := mIn_spec y 1 9
  have h3 := mIn_spec y 1 99
  have h4 := mIn_spec y 0 2
  unfold mIsSet
  (repeat' split) <;> omega
def mSetA (A : Nat → Int) (x y : Int) : Nat → Int :=
  if mIsSet x y = 0 then A else updZ (updZ (updZ A x.toNat y) 7 (updZ A x.toNat y 7 % updZ A x.toNat y 0)) 6 (updZ A x.toNat y 6 % updZ A x.toNat y 1)
def mSetR (A : Nat → Int) (x y : Int) : Int := if mIsSet x y = 0 then -2 else A x.toNat
theorem mSetB_in {A : Nat → Int} {x y : Int} (hI : InvM A) (h : ¬ mIsSet x y = 0) : (4 ≤ updZ A x.toNat y 0 ∧ updZ A x.toNat y 0 ≤ 400) ∧ (10 ≤ updZ A x.toNat y 1 ∧ updZ A x.toNat y 1 ≤ 9999) ∧ (1 ≤ updZ A x.toNat y 2 ∧ updZ A x.toNat y 2 ≤ 9) ∧ (1 ≤ updZ A x.toNat y 3 ∧ updZ A x.toNat y 3 ≤ 99) ∧ (0 ≤ updZ A x.toNat y 4 ∧ updZ A x.toNat y 4 ≤ 2) ∧ (∀ j, 5 ≤ j → updZ A x.toNat y j = A j) ∧ (0 ≤ x ∧ x ≤ 4) := by
  have hs := mIsSet_spec x y
  obtain ⟨a0, a1, a2, a3, a4, _⟩ := hI
  refine ⟨?_, ?_, ?_, ?_, ?_, fun j hj => updZ_ne _ _ (by omega), by omega⟩
  all_goals (unfold updZ; split <;> omega)
theorem mSet_inv {A : Nat → Int} {x y : Int} (hI : InvM A) : InvM (mSetA A x y) := by
  unfold mSetA
  split
  · exact hI
  · rename_i h
    obtain ⟨b0, b1, b2, b3, b4, e, hx⟩ := mSetB_in (y := y) hI h
    obtain ⟨a0, a1, a2, a3, a4, a5, a6, a7, a8, a9, a10, a11, a12, a13, a14, a15, a16, a17, a18, ag⟩ := hI
    have e7 := e 7 (by omega)
    have e6 := e 6 (by omega)
    generalize updZ A x.toNat y = B at *
    have g1 : 0 ≤ B 7 % B 0 := Int.emod_nonneg _ (by omega)
    have g2 : B 7 % B 0 < B 0 := Int.emod_lt_of_pos _ (by omega)
    have g3 : 0 ≤ B 6 % B 1 := Int.emod_nonneg _ (by omega)
    have g4 : B 6 % B 1 < B 1 := Int.emod_lt_of_pos _ (by omega)
    refine ⟨b0, b1, b2, b3, b4, ?_, ⟨g3, g4⟩, ⟨g1, g2⟩, ?_, ?_, ?_, ?_, ?_, ?_, ?_, ?_, ?_, ?_, ?_, ?_⟩
    · show 0 ≤ B 5 ∧ B 5 ≤ 99999; rw [e 5 (by omega)]; exact a5
    · show 0 ≤ B 8 ∧ B 8 ≤ 3; rw [e 8 (by omega)]; exact a8
    · show 0 ≤ B 9 ∧ B 9 ≤ 2; rw [e 9 (by omega)]; exact a9
    · show 0 ≤ B 10 ∧ 0 ≤ B 11 ∧ 0 ≤ B 12 ∧ B 10 + B 11 + B 12 ≤ B 5; rw [e 10 (by omega), e 11 (by omega), e 12 (by omega), e 5 (by omega)]; exact a10
    · show 0 ≤ B 13 ∧ B 13 ≤ B 5; rw [e 13 (by omega), e 5 (by omega)]; exact a11
    · show 0 ≤ B 14 ∧ B 14 ≤ 200; rw [e 14 (by omega)]; exact a12
    · show 0 ≤ B 15 ∧ B 15 ≤ 3; rw [e 15 (by omega)]; exact a13
    · show 0 ≤ B 16 ∧ B 16 ≤ B 5; rw [e 16 (by omega), e 5 (by omega)]; exact a14
    · show 0 ≤ B 17 ∧ B 17 ≤ 1; rw [e 17 (by omega)]; exact a15
    · show -6 ≤ B 18 ∧ B 18 ≤ B 5; rw [e 18 (by omega), e 5 (by omega)]; exact a16
    · show -6 ≤ B 19 ∧ B 19 ≤ B 5; rw [e 19 (by omega), e 5 (by omega)]; exact a17
    · show 0 ≤ B 20 ∧ B 20 ≤ 2; rw [e 20 (by omega)]; exact a18
    · intro j hj
      rw [updZ_ne _ _ (by omega), updZ_ne _ _ (by omega), e j (by omega)]
      exact ag j hj
/-! ticks one after the other -/
def mTicks (A : Nat → Int) (q i : Int) : Nat → Nat → Int
  | 0 => A
  | n + 1 => mTick (mTicks A q i n) q i
def mCnt (A : Nat → Int) (q i : Int) : Nat → Int
  | 0 => 0
  | n + 1 => mCnt A q i n + mStp (mDeed (mTicks A q i n) q)
theorem mT7_2 {A : Nat → Int} {q i d : Int} (hd : 0 ≤ d ∧ d ≤ 3) : mT7 A q i d 2 = A 2 := by
  have h3 : mT3 A q d 2 = A 2 := by
    obtain rfl | rfl | rfl | rfl : d = 0 ∨ d = 1 ∨ d = 2 ∨ d = 3 := by omega
    all_goals rfl
  have h4 : mT4 A q i d 2 = A 2 := by
    unfold mT4
    split
    · split
      · unfold mRise
        (repeat' split) <;> exact h3
      · exact h3
    · exact h3
  exact h4
theorem mTicks_inv {A : Nat → Int} {q i : Int} (hI : InvM A) (hq : 0 ≤ q ∧ q ≤ 3) (hi : 0 ≤ i ∧ i ≤ 1) : ∀ n : Nat, A 5 + n ≤ 99999 → InvM (mTicks A q i n) ∧ mTicks A q i n 5 = A 5 + n ∧ mTicks A q i n 2 = A 2
  | 0, _ => ⟨hI, by show A 5 = A 5 + ((0 : Nat) : Int); omega, rfl⟩
  | n + 1, h => by
    obtain ⟨a, b, d⟩ := mTicks_inv hI hq hi n (by omega)
    have k := mTick_inv a hq hi (by omega)
    refine ⟨k.1, ?_, ?_⟩
    · show mTick (mTicks A q i n) q i 5 = _
      rw [k.2, b]; omega
    · show mTick (mTicks A q i n) q i 2 = _
      rw [mTick_low (by omega), mT7_2 (mDeed_in _ _), d]
theorem mCnt_in {A : Nat → Int} {q i : Int} : ∀ n : Nat, 0 ≤ mCnt A q i n ∧ mCnt A q i n ≤ n
  | 0 => ⟨Int.le_refl 0, Int.le_refl 0⟩
  | n + 1 => by
    have h := mCnt_in (A := A) (q := q) (i := i) n
    have hs := mStp_01 (mDeed (mTicks A q i n) q)
    show 0 ≤ mCnt A q i n + mStp (mDeed (mTicks A q i n) q) ∧ mCnt A q i n + mStp (mDeed (mTicks A q i n) q) ≤ ((n + 1 : Nat) : Int)
    omega
def mFeedOk (A : Nat → Int) (q i n : Int) : Int := if mIn q 0 3 = 0 then -2 else if mIn i 0 1 = 0 then -2 else if mIn n 1 99 = 0 then -2 else if 99999 < A 5 + n then -5 else 0
def mFeedR (A : Nat → Int) (q i n : Int) : Int := if mFeedOk A q i n = 0 then mCnt A q i n.toNat else mFeedOk A q i n
def mFeedA (A : Nat → Int) (q i n : Int) : Nat → Int := if mFeedOk A q i n = 0 then mTicks A q i n.toNat else A
/-! copies -/
def mCp (f g : Nat → Int) (k : Nat) : Nat → Int := fun j => if j < k then f j else g j
theorem mCp_0 (f g : Nat → Int) : mCp f g 0 = g := by
  funext j
  exact if_neg (by omega)
theorem mCp_s (f g : Nat → Int) (k : Nat) : updZ (mCp f g k) k (f k) = mCp f g (k + 1) := by
  funext j
  unfold updZ mCp
  split
  · rename_i h; subst h; rw [if_pos (by omega)]
  · split
    · rw [if_pos (by omega)]
    · rw [if_neg (by omega)]
def mZ (A : Nat → Int) (k : Nat) : Nat → Int := fun j => if 5 ≤ j ∧ j < k then 0 else A j
theorem mZ_5 (A : Nat → Int) : mZ A 5 = A := by
  funext j
  exact if_neg (by omega)
theorem mZ_s (A : Nat → Int) {k : Nat} (h : 5 ≤ k) : updZ (mZ A k) k 0 = mZ A (k + 1) := by
  funext j
  unfold updZ mZ
  split
  · rename_i h; subst h; rw [if_pos (by omega)]
  · split
    · rw [if_pos (by omega)]
    · rw [if_neg (by omega)]
def mFresh (A : Nat → Int) : Nat → Int := updZ (updZ (mZ A 222) 18 (-6)) 19 (-6)
def mHs (H : Nat → Int) (k : Nat) : Nat → Int := fun j => if j < k then H (j + 222) else H j
theorem mHs_0 (H : Nat → Int) : mHs H 0 = H := by
  funext j
  exact if_neg (by omega)
theorem mHs_s (H : Nat → Int) (k : Nat) : updZ (mHs H k) k (mHs H k (k + 222)) = mHs H (k + 1) := by
  funext j
  unfold updZ mHs
  rw [if_neg (show ¬ k + 222 < k by omega)]
  split
  · rename_i h; subst h; rw [if_pos (by omega)]
  · split
    · rw [if_pos (by omega)]
    · rw [if_neg (by omega)]
/-- k numbers of a row put at the b-th row -/
def mHc (H K : Nat → Int) (b k : Nat) : Nat → Int := fun j => if 222 * b ≤ j ∧ j < 222 * b + k then K (j - 222 * b) else H j
theorem mHc_0 (H K : Nat → Int) (b : Nat) : mHc H K b 0 = H := by
  funext j
  exact if_neg (by omega)
theorem mHc_s (H K : Nat → Int) (b k : Nat) : updZ (mHc H K b k) (222 * b + k) (K k) = mHc H K b (k + 1) := by
  funext j
  unfold updZ mHc
  split
  · rename_i h; subst h; rw [if_pos (by omega), show 222 * b + k - 222 * b = k by omega]
  · split
    · rw [if_pos (by omega)]
    · rw [if_neg (by omega)]
def mChH (H K : Nat → Int) (L : Int) : Nat → Int := if L = 6 then mHc (mHs H 1110) K 5 222 else mHc H K L.toNat 222
def mChL (L : Int) : Int := if L = 6 then 6 else L + 1
