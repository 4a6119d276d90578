/-! ===== the model's put ===== -/
def mSc : Nat → Nat → Int → Int → Int × Nat × Int
  | 0, r, n, g => (n, r, g)
  | k + 1, r, n, g => if r % 256 = 0 then (n, r, g) else mSc k (r / 2 ^ 8) (n + 1) (if g = 0 then 0 else if mIn ((r % 256 : Nat) : Int) 33 126 = 0 then 0 else 1)
theorem mSc_s (k r : Nat) (n g : Int) : mSc (k + 1) r n g = if r % 256 = 0 then (n, r, g) else mSc k (r / 2 ^ 8) (n + 1) (if g = 0 then 0 else if mIn ((r % 256 : Nat) : Int) 33 126 = 0 then 0 else 1) := rfl
def mPutOk (X : Nat) (pl : Int) : Int := if (mSc 8 X 0 1).1 = 0 then -2 else if ¬ (mSc 8 X 0 1).2.1 = 0 then -2 else if (mSc 8 X 0 1).2.2 = 0 then -2 else if 80 < pl + (mSc 8 X 0 1).1 then -4 else 0
def mPutR (X : Nat) (pl : Int) : Int := if mPutOk X pl = 0 then pl + (mSc 8 X 0 1).1 else mPutOk X pl
def mPutL (X : Nat) (pl : Int) : Int := if mPutOk X pl = 0 then pl + (mSc 8 X 0 1).1 else pl
def mPutP (X : Nat) (P : Nat → Int) (pl : Int) : Nat → Int := if mPutOk X pl = 0 then aChr X (mSc 8 X 0 1).1.toNat P pl (mSc 8 X 0 1).1.toNat else P
