/-! ===== the model: turn, rate, noise, what if ===== -/
def mTurns (A : Nat → Int) (w : Int) : Nat → Nat → Int
  | 0 => A
  | k + 1 => mTicks (mTurns A w k) (mOrd ((mOrd (mTurns A w k 8) + w) % 4)) 0 (A 2).toNat
theorem mTurns_inv {A : Nat → Int} {w : Int} (hI : InvM A) : ∀ k : Nat, (k : Int) * A 2 ≤ 99999 - A 5 → InvM (mTurns A w k) ∧ mTurns A w k 5 = A 5 + k * A 2 ∧ mTurns A w k 2 = A 2
  | 0, _ => ⟨hI, by show A 5 = A 5 + ((0 : Nat) : Int) * A 2; rw [show ((0 : Nat) : Int) = 0 from rfl, Int.zero_mul]; omega, rfl⟩
  | k + 1, h => by
    have a2 : 1 ≤ A 2 ∧ A 2 ≤ 9 := hI.2.2.1
    have e : ((k + 1 : Nat) : Int) * A 2 = (k : Int) * A 2 + A 2 := by
      rw [show ((k + 1 : Nat) : Int) = (k : Int) + 1 from rfl, Int.add_mul, Int.one_mul]
    rw [e] at h
    obtain ⟨a, b, d⟩ := mTurns_inv hI k (by omega)
    have m8 : 0 ≤ mTurns A w k 8 ∧ mTurns A w k 8 ≤ 3 := (invM_iff.mp a).1.2.2.2.2.2.2.2.2.1
    have t := mTicks_inv a (q := mOrd ((mOrd (mTurns A w k 8) + w) % 4)) (i := 0) (mOrd_in (by omega)) (by omega) (A 2).toNat (by omega)
    refine ⟨t.1, ?_, ?_⟩
    · show mTicks (mTurns A w k) (mOrd ((mOrd (mTurns A w k 8) + w) % 4)) 0 (A 2).toNat 5 = _
      rw [t.2.1, e, b]; omega
    · show mTicks (mTurns A w k) (mOrd ((mOrd (mTurns A w k 8) + w) % 4)) 0 (A 2).toNat 2 = _
      rw [t.2.2, d]
def mMany (x : Int) : Int := if x < 0 then -x else x
def mWay (x : Int) : Int := if x < 0 then 3 else 1
def mTurnOk (A : Nat → Int) (x : Int) : Int := if mIn x (-99) 99 = 0 then -2 else if x = 0 then -2 else if 99999 < A 5 + mMany x * A 2 then -5 else 0
def mTurnA (A : Nat → Int) (x : Int) : Nat → Int := if mTurnOk A x = 0 then mTurns A (mWay x) (mMany x).toNat else A
def mTurnR (A : Nat → Int) (x : Int) : Int := if mTurnOk A x = 0 then mTurns A (mWay x) (mMany x).toNat 6 else mTurnOk A x
theorem mul99 {n a : Int} (hn : 0 ≤ n ∧ n ≤ 99) (ha : 1 ≤ a ∧ a ≤ 9) : 0 ≤ n * a ∧ n * a ≤ 891 := by
  have h1 : n * a ≤ 99 * a := Int.mul_le_mul_of_nonneg_right hn.2 (by omega)
  have h0 : 0 ≤ n * a := Int.mul_nonneg hn.1 (by omega)
  omega
theorem mTurnR_in {A : Nat → Int} {x : Int} (hI : InvM A) : -5 ≤ mTurnR A x ∧ mTurnR A x ≤ 9999 := by
  unfold mTurnR
  split
  · rename_i h
    have hx : mMany x * A 2 ≤ 99999 - A 5 ∧ 0 ≤ mMany x := by
      unfold mTurnOk at h
      have hm : 0 ≤ mMany x := by unfold mMany; split <;> omega
      (repeat' split at h) <;> first | exact ⟨by omega, hm⟩ | omega
    have t := mTurns_inv (w := mWay x) hI (mMany x).toNat (by rw [Int.toNat_of_nonneg hx.2]; exact hx.1)
    have l := (invM_iff.mp t.1).1
    have l6 := l.2.2.2.2.2.2.1
    have l1 := l.2.1
    omega
  · unfold mTurnOk
    (repeat' split) <;> omega
/-! quotients -/
theorem d64_divN {n : Int} (h1 : 1 ≤ n) (h2 : n ≤ 67108864) (s : Bool) : Jvm.FP.Core.val64 (Jvm.FP.ddiv (if s then 13830554455654793216 else Jvm.FP.dconst1) (Jvm.FP.i2d (iI n))) ≠ .nan := by
  obtain ⟨E, d, e, hE, hd, _⟩ := d64_div h1 h2 s
  rw [e]
  exact d64_nn ⟨by omega, by omega⟩ hd
def mRateX (A : Nat → Int) : UInt64 := Jvm.FP.ddiv (if A 9 = 1 then Jvm.FP.dconst1 else 13830554455654793216) (Jvm.FP.i2d (iI (mPer A * A 0)))
def mRateR (A : Nat → Int) : Int64 := if mPer A = -6 then lI 0 else (mRateX A).toInt64
def mNoiseX (A : Nat → Int) : UInt32 := Jvm.FP.fdiv (Jvm.FP.i2f (iI (A 12))) (Jvm.FP.i2f (iI (A 10 + A 11 + A 12)))
def mNoiseR (A : Nat → Int) : Int := if A 10 + A 11 + A 12 = 0 then -6 else (((mNoiseX A).toNat : Nat) : Int)
theorem mulP_in {a b : Int} (ha : 1 ≤ a ∧ a ≤ 99999) (hb : 4 ≤ b ∧ b ≤ 400) : 1 ≤ a * b ∧ a * b ≤ 39999600 := by
  have h := mulr_in (a := a) (b := b) ⟨by omega, by omega⟩ hb
  have h1 : 1 * b ≤ a * b := Int.mul_le_mul_of_nonneg_right ha.1 (by omega)
  omega
