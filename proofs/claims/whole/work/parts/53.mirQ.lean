/-! ===== the model's answers ===== -/
def mPer (A : Nat → Int) : Int := if A 19 = -6 then -6 else if A 20 = A 9 then A 18 - A 19 else -6
theorem mPer_in {A : Nat → Int} (hI : InvM A) : -100005 ≤ mPer A ∧ mPer A ≤ 100005 := by
  obtain ⟨a0, a1, a2, a3, a4, a5, a6, a7, a8, a9, a10, a11, a12, a13, a14, a15, a16, a17, a18, ag⟩ := hI
  unfold mPer
  (repeat' split) <;> omega
def mGt (A : Nat → Int) : Nat → Int
  | 0 => 0
  | n + 1 => mGt A n + (if A (21 + n) % 4 = 1 then 1 else if A (21 + n) % 4 = 2 then -1 else 0)
def mGtR (A : Nat → Int) : Int := mGt A (min (A 3) (A 14)).toNat
def mSpeedR (A : Nat → Int) (w : Int) : Int := if w = 0 then mGtR A + 1000 else if w = 1 then mPer A else -2
def mLogR (A : Nat → Int) (x w : Int) : Int := if mIn x 0 (A 14 - 1) = 0 then -1 else if w = 0 then A (21 + x.toNat) / 8 else if w = 1 then A (21 + x.toNat) / 4 % 2 else if w = 2 then A (21 + x.toNat) % 4 else -2
def mCountR (A : Nat → Int) (L pl w : Int) : Int := if mIn w 0 9 = 0 then (if mIn w 10 14 = 0 then (if w = 15 then pl else if w = 16 then L else -2) else A (w - 10).toNat) else A (5 + w).toNat
def mWouldR (A : Nat → Int) (q : Int) : Int := if mIn q 0 3 = 0 then -2 else mDeed A q
def mDs (A : Nat → Int) (w : Int) : Nat → Int
  | 0 => 0
  | n + 1 => mDs A w n + (if A (21 + n) % 4 = w then 1 else 0)
def mDeedsR (A : Nat → Int) (w : Int) : Int := if mIn w 0 3 = 0 then -2 else mDs A w (A 14).toNat
def mChgH (r : Int) (H K : Nat → Int) (L : Int) : Nat → Int := if r < 0 then H else mChH H K L
def mChgL (r L : Int) : Int := if r < 0 then L else mChL L
theorem mSetR_in {A : Nat → Int} {x y : Int} (hI : InvM A) : -5 ≤ mSetR A x y ∧ mSetR A x y ≤ 9999 := by
  unfold mSetR
  split
  · omega
  · rename_i h
    have hs := mIsSet_spec x y
    obtain ⟨a0, a1, a2, a3, a4, _⟩ := hI
    obtain rfl | rfl | rfl | rfl | rfl : x = 0 ∨ x = 1 ∨ x = 2 ∨ x = 3 ∨ x = 4 := by omega
    · show -5 ≤ A 0 ∧ A 0 ≤ 9999; omega
    · show -5 ≤ A 1 ∧ A 1 ≤ 9999; omega
    · show -5 ≤ A 2 ∧ A 2 ≤ 9999; omega
    · show -5 ≤ A 3 ∧ A 3 ≤ 9999; omega
    · show -5 ≤ A 4 ∧ A 4 ≤ 9999; omega
theorem mFeedR_in {A : Nat → Int} {q i n : Int} : -5 ≤ mFeedR A q i n ∧ mFeedR A q i n ≤ 9999 := by
  have h := mCnt_in (A := A) (q := q) (i := i) n.toNat
  have hn := mIn_spec n 1 99
  unfold mFeedR mFeedOk
  (repeat' split) <;> omega
def mRow (S : Nat → Int) (b : Nat) : Nat → Int := fun j => S (222 * b + j)
def mSaveR (A : Nat → Int) (x : Int) : Int := if mIn x 0 1 = 0 then -2 else A 6
def mSaveS (A S : Nat → Int) (x : Int) : Nat → Int := if mIn x 0 1 = 0 then S else mHc S A x.toNat 222
def mSaveV (V : Nat → Int) (x : Int) : Nat → Int := if mIn x 0 1 = 0 then V else updZ V x.toNat 1
def mRestOk (V : Nat → Int) (x : Int) : Int := if mIn x 0 1 = 0 then -2 else if V x.toNat = 0 then -5 else 0
def mRestR (S V : Nat → Int) (x : Int) : Int := if mRestOk V x = 0 then mRow S x.toNat 6 else mRestOk V x
def mRestA (A S V : Nat → Int) (x : Int) : Nat → Int := if mRestOk V x = 0 then mRow S x.toNat else A
def mRestK (A K V : Nat → Int) (x : Int) : Nat → Int := if mRestOk V x = 0 then A else K
def mRestH (H A V : Nat → Int) (L x : Int) : Nat → Int := if mRestOk V x = 0 then mChH H A L else H
def mRestL (V : Nat → Int) (L x : Int) : Int := if mRestOk V x = 0 then mChL L else L
def mUndoR (L : Int) : Int := if L = 0 then -5 else L - 1
def mUndoL (L : Int) : Int := if L = 0 then L else L - 1
def mUndoA (A H : Nat → Int) (L : Int) : Nat → Int := if L = 0 then A else mRow H (L - 1).toNat
