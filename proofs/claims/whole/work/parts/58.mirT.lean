/-! ===== the model: the log's ticks come anew ===== -/
theorem mFresh_inv {A : Nat → Int} {F : Int} (hI : InvM A) (hF : 1 ≤ F ∧ F ≤ 9) : InvM (updZ (mFresh A) 2 F) ∧ updZ (mFresh A) 2 F 5 = 0 := by
  obtain ⟨a0, a1, a2, a3, a4, a5, a6, a7, a8, a9, a10, a11, a12, a13, a14, a15, a16, a17, a18, ag⟩ := hI
  refine ⟨⟨a0, a1, hF, a3, a4, ?_, ?_, ?_, ?_, ?_, ?_, ?_, ?_, ?_, ?_, ?_, ?_, ?_, ?_, ?_⟩, rfl⟩
  · show 0 ≤ (0 : Int) ∧ (0 : Int) ≤ 99999; omega
  · show 0 ≤ (0 : Int) ∧ (0 : Int) < A 1; omega
  · show 0 ≤ (0 : Int) ∧ (0 : Int) < A 0; omega
  · show 0 ≤ (0 : Int) ∧ (0 : Int) ≤ 3; omega
  · show 0 ≤ (0 : Int) ∧ (0 : Int) ≤ 2; omega
  · show 0 ≤ (0 : Int) ∧ 0 ≤ (0 : Int) ∧ 0 ≤ (0 : Int) ∧ (0 : Int) + 0 + 0 ≤ 0; omega
  · show 0 ≤ (0 : Int) ∧ (0 : Int) ≤ 0; omega
  · show 0 ≤ (0 : Int) ∧ (0 : Int) ≤ 200; omega
  · show 0 ≤ (0 : Int) ∧ (0 : Int) ≤ 3; omega
  · show 0 ≤ (0 : Int) ∧ (0 : Int) ≤ 0; omega
  · show 0 ≤ (0 : Int) ∧ (0 : Int) ≤ 1; omega
  · show -6 ≤ (-6 : Int) ∧ (-6 : Int) ≤ 0; omega
  · show -6 ≤ (-6 : Int) ∧ (-6 : Int) ≤ 0; omega
  · show 0 ≤ (0 : Int) ∧ (0 : Int) ≤ 2; omega
  · intro j hj
    unfold mFresh
    rw [updZ_ne _ _ (by omega), updZ_ne _ _ (by omega), updZ_ne _ _ (by omega)]
    unfold mZ
    split
    · omega
    · exact ag j hj
def mRep (A B : Nat → Int) : Nat → Nat → Int
  | 0 => B
  | n + 1 => mTick (mRep A B n) (A (21 + (A 14 - 1 - (n : Int)).toNat) / 8) (A (21 + (A 14 - 1 - (n : Int)).toNat) / 4 % 2)
theorem mRep_inv {A B : Nat → Int} (hA : InvM A) (hB : InvM B) (h5 : B 5 = 0) : ∀ n : Nat, (n : Int) ≤ A 14 → InvM (mRep A B n) ∧ mRep A B n 5 = n
  | 0, _ => ⟨hB, h5⟩
  | n + 1, h => by
    obtain ⟨a, b⟩ := mRep_inv hA hB h5 n (by omega)
    have hl := (invM_iff.mp hA).2 (21 + (A 14 - 1 - (n : Int)).toNat) (by omega)
    have h14 : 0 ≤ A 14 ∧ A 14 ≤ 200 := (invM_iff.mp hA).1.2.2.2.2.2.2.2.2.2.2.2.2.1
    have t := mTick_inv a (q := A (21 + (A 14 - 1 - (n : Int)).toNat) / 8) (i := A (21 + (A 14 - 1 - (n : Int)).toNat) / 4 % 2) (by omega) (by omega) (by omega)
    refine ⟨t.1, ?_⟩
    show mTick (mRep A B n) _ _ 5 = _
    rw [t.2, b]
    omega
def mReA (A : Nat → Int) (F : Int) : Nat → Int := mRep A (updZ (mFresh A) 2 F) (A 14).toNat
def mReR (A : Nat → Int) (F w : Int) : Int := if w = 3 then mReA A F 6 else mReA A F (10 + w).toNat
theorem mReA_inv {A : Nat → Int} {F : Int} (hI : InvM A) (hF : 1 ≤ F ∧ F ≤ 9) : InvM (mReA A F) := by
  have h14 : 0 ≤ A 14 ∧ A 14 ≤ 200 := (invM_iff.mp hI).1.2.2.2.2.2.2.2.2.2.2.2.2.1
  have f := mFresh_inv hI hF
  exact (mRep_inv hI f.1 f.2 _ (by omega)).1
theorem mReR_in {A : Nat → Int} {F : Int} (hI : InvM A) (hF : 1 ≤ F ∧ F ≤ 9) : 0 ≤ mReR A F 2 ∧ mReR A F 2 ≤ 99999 := by
  have h := (invM_iff.mp (mReA_inv hI hF)).1
  have h10 := h.2.2.2.2.2.2.2.2.2.2.1
  have h5 := h.2.2.2.2.2.1
  show 0 ≤ mReA A F 12 ∧ mReA A F 12 ≤ 99999
  omega
def mReplayR (A : Nat → Int) (x w : Int) : Int := if mIn x 1 9 = 0 then -2 else if mIn w 0 3 = 0 then -2 else mReR A x w
def mReplayT (A T : Nat → Int) (x w : Int) : Nat → Int := if mIn x 1 9 = 0 then T else if mIn w 0 3 = 0 then T else A
def mBest (A : Nat → Int) : Nat → Int × Int
  | 0 => (1, mReR A 1 2)
  | n + 1 => (if mReR A ((n : Int) + 2) 2 < (mBest A n).2 then (n : Int) + 2 else (mBest A n).1, if mReR A ((n : Int) + 2) 2 < (mBest A n).2 then mReR A ((n : Int) + 2) 2 else (mBest A n).2)
theorem mBest_s (A : Nat → Int) (n : Nat) : mBest A (n + 1) = (if mReR A ((n : Int) + 2) 2 < (mBest A n).2 then (n : Int) + 2 else (mBest A n).1, if mReR A ((n : Int) + 2) 2 < (mBest A n).2 then mReR A ((n : Int) + 2) 2 else (mBest A n).2) := rfl
theorem mBest_in {A : Nat → Int} (hI : InvM A) : ∀ n : Nat, n ≤ 8 → (1 ≤ (mBest A n).1 ∧ (mBest A n).1 ≤ 9) ∧ (0 ≤ (mBest A n).2 ∧ (mBest A n).2 ≤ 99999)
  | 0, _ => ⟨by show 1 ≤ (1 : Int) ∧ (1 : Int) ≤ 9; omega, mReR_in hI (by omega)⟩
  | n + 1, h => by
    have i := mBest_in hI n (by omega)
    have r := mReR_in hI (F := (n : Int) + 2) (by omega)
    rw [mBest_s]
    dsimp only
    constructor
    · split <;> omega
    · split <;> omega
def mBestR (A : Nat → Int) (w : Int) : Int := if mIn w 0 1 = 0 then -2 else if w = 0 then (mBest A 8).1 else (mBest A 8).2
def mBestT (A T : Nat → Int) (w : Int) : Nat → Int := if mIn w 0 1 = 0 then T else A
