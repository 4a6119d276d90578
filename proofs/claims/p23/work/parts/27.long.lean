/-! ===== longs: of the kit's pasted family wb_ (kit/laws/BITS.to-paste), then mine ===== -/
theorem wb_tb (n : Nat) : (lN n).toBitVec = BitVec.ofNat 64 n := rfl
theorem wb_inj {a b : Int64} (h : a.toBitVec = b.toBitVec) : a = b := Int64.toBitVec_inj.mp h
theorem wb_tn {n : Nat} (h : n < 2 ^ 64) : (lN n).toBitVec.toNat = n := by rw [wb_tb, BitVec.toNat_ofNat, Nat.mod_eq_of_lt h]
theorem wb_of (x : Int64) : ∃ n, n < 2 ^ 64 ∧ x = lN n := ⟨x.toBitVec.toNat, x.toBitVec.isLt, wb_inj (by rw [wb_tb]; simp)⟩
theorem wb_of32 (x : Int32) : ∃ n, n < 2 ^ 32 ∧ x = nI n := ⟨x.toBitVec.toNat, x.toBitVec.isLt, Int32.toBitVec_inj.mp (by show _ = BitVec.ofNat 32 _; simp)⟩
theorem wb_c : ∀ k, k < 64 → ((nI k).toInt64 &&& 63) = lN k := by decide +kernel
theorem wb_cu : ∀ k, k < 64 → ((nI k).toInt64.toUInt64 &&& Int64.toUInt64 63) = UInt64.ofNat k := by decide +kernel
theorem wb_sm : ∀ k, k < 64 → (BitVec.ofNat 64 k).smod 64 = BitVec.ofNat 64 k := by decide +kernel
theorem wb_pw {a b : Nat} (h : a ≤ b) : 2 ^ b = 2 ^ a * 2 ^ (b - a) := by rw [← Nat.pow_add]; congr 1; omega
theorem wb_lt2 {a b : Nat} (h : a < b) : 2 ^ a < 2 ^ b := Nat.pow_lt_pow_right (by decide) h
theorem wb_mod (n : Nat) : lN n = lN (n % 2 ^ 64) := wb_inj (by rw [wb_tb, wb_tb]; apply BitVec.eq_of_toNat_eq; rw [BitVec.toNat_ofNat, BitVec.toNat_ofNat, Nat.mod_mod])
theorem wb_shr {n k : Nat} (hn : n < 2 ^ 64) (hk : k < 64) : ((lN n).toUInt64 >>> ((nI k).toInt64.toUInt64 &&& Int64.toUInt64 63)).toInt64 = lN (n / 2 ^ k) := by
  rw [wb_cu k hk]
  apply wb_inj
  apply BitVec.eq_of_toNat_eq
  show ((lN n).toUInt64 >>> UInt64.ofNat k).toNat = (BitVec.ofNat 64 _).toNat
  have h1 : (UInt64.ofNat k).toNat = k := by
    show (BitVec.ofNat 64 k).toNat = k
    rw [BitVec.toNat_ofNat, Nat.mod_eq_of_lt (by omega)]
  have h2 : (lN n).toUInt64.toNat = n := wb_tn hn
  rw [UInt64.toNat_shiftRight, h1, h2, Nat.mod_eq_of_lt hk, Nat.shiftRight_eq_div_pow, BitVec.toNat_ofNat, Nat.mod_eq_of_lt (Nat.lt_of_le_of_lt (Nat.div_le_self _ _) hn)]
theorem wb_shl (n : Nat) {k : Nat} (hk : k < 64) : lN n <<< ((nI k).toInt64 &&& 63) = lN (n * 2 ^ k) := by
  rw [wb_c k hk]
  apply wb_inj
  rw [Int64.toBitVec_shiftLeft, wb_tb, wb_tb, wb_tb, wb_sm k hk]
  apply BitVec.eq_of_toNat_eq
  rw [BitVec.shiftLeft_eq', BitVec.toNat_shiftLeft, BitVec.toNat_ofNat, BitVec.toNat_ofNat, BitVec.toNat_ofNat, Nat.mod_eq_of_lt (show k < 2 ^ 64 by omega), Nat.shiftLeft_eq, Nat.mul_mod, Nat.mod_mod, ← Nat.mul_mod]
theorem wb_and {a b : Nat} (ha : a < 2 ^ 64) (hb : b < 2 ^ 64) : lN a &&& lN b = lN (a &&& b) := by
  apply wb_inj
  rw [Int64.toBitVec_and, wb_tb, wb_tb, wb_tb]
  apply BitVec.eq_of_toNat_eq
  rw [BitVec.toNat_and, BitVec.toNat_ofNat, BitVec.toNat_ofNat, BitVec.toNat_ofNat, Nat.mod_eq_of_lt ha, Nat.mod_eq_of_lt hb, Nat.mod_eq_of_lt (Nat.and_lt_two_pow _ hb)]
theorem wb_or {a b : Nat} (ha : a < 2 ^ 64) (hb : b < 2 ^ 64) : lN a ||| lN b = lN (a ||| b) := by
  apply wb_inj
  rw [Int64.toBitVec_or, wb_tb, wb_tb, wb_tb]
  apply BitVec.eq_of_toNat_eq
  rw [BitVec.toNat_or, BitVec.toNat_ofNat, BitVec.toNat_ofNat, BitVec.toNat_ofNat, Nat.mod_eq_of_lt ha, Nat.mod_eq_of_lt hb, Nat.mod_eq_of_lt (Nat.or_lt_two_pow ha hb)]
theorem wb_mask {n k : Nat} (hn : n < 2 ^ 64) (hk : k < 64) : lN n &&& lN (2 ^ k - 1) = lN (n % 2 ^ k) := by
  rw [wb_and hn (by have := wb_lt2 hk; omega), Nat.and_two_pow_sub_one_eq_mod]
theorem wb_a1 {n : Nat} (hn : n < 2 ^ 64) : lN n &&& 1 = lN (n % 2) := wb_mask (k := 1) hn (by decide)
theorem lI_nat (n : Nat) : lN n = lI (n : Int) := Int64.ofInt_eq_ofNat.symm
theorem l_and255 {r : Nat} (h : r < 2 ^ 64) : lI (r : Int) &&& lI 255 = lI ((r % 256 : Nat) : Int) := by
  have q := wb_mask (n := r) (k := 8) h (by decide)
  rw [lI_nat, lI_nat, lI_nat] at q
  exact q
theorem l_shr {r k : Nat} (h : r < 2 ^ 64) (hk : k < 64) : ((lI (r : Int)).toUInt64 >>> ((iI (k : Int)).toInt64.toUInt64 &&& Int64.toUInt64 63)).toInt64 = lI ((r / 2 ^ k : Nat) : Int) := by
  have q := wb_shr (n := r) (k := k) h hk
  rw [lI_nat, iI_nat, lI_nat] at q
  exact q
theorem l_l2i (z : Int) : (lI z).toInt32 = iI z := Int64.toInt32_ofInt
theorem l_i2c {z : Int} (h : 0 ≤ z ∧ z < 65536) : ((iI z).toUInt32 % 65536).toInt32 = iI z := by
  obtain ⟨n, rfl⟩ := Int.eq_ofNat_of_zero_le h.1
  rw [pk_char, ← iI_nat, pk_tn (by omega), Nat.mod_eq_of_lt (by omega)]
def sgnZ (a b : Int) : Int := if b < a then 1 else if a = b then 0 else -1
theorem sgnZ_spec (a b : Int) : (sgnZ a b = -1 ∧ a < b) ∨ (sgnZ a b = 0 ∧ a = b) ∨ (sgnZ a b = 1 ∧ b < a) := by
  unfold sgnZ
  repeat' split
  all_goals omega
theorem lI_lt {a b : Int} (ha : inL a) (hb : inL b) : lI a < lI b ↔ a < b := by rw [Int64.lt_iff_toInt_lt, lI_toInt ha, lI_toInt hb]
theorem lI_eq {a b : Int} (ha : inL a) (hb : inL b) : lI a = lI b ↔ a = b := ⟨fun h => by rw [← lI_toInt ha, ← lI_toInt hb, h], fun h => by rw [h]⟩
theorem l_cmp {a b : Int} (ha : inL a) (hb : inL b) : lg_cmp (lI a) (lI b) = iI (sgnZ a b) := by
  unfold lg_cmp sgnZ
  by_cases h : b < a
  · rw [if_pos h, if_pos (show lI a > lI b from (lI_lt hb ha).mpr h)]; rfl
  · rw [if_neg h, if_neg (show ¬ lI a > lI b from fun z => h ((lI_lt hb ha).mp z))]
    by_cases h2 : a = b
    · rw [if_pos h2, if_pos ((lI_eq ha hb).mpr h2)]; rfl
    · rw [if_neg h2, if_neg (fun z => h2 ((lI_eq ha hb).mp z))]; rfl
/-- a long without a sign against 0 -/
def sgn0 (r : Nat) : Int := if r = 0 then 0 else if r < 9223372036854775808 then 1 else -1
theorem sgn0_spec (r : Nat) : (sgn0 r = 0 ∧ r = 0) ∨ (¬ r = 0 ∧ (sgn0 r = 1 ∨ sgn0 r = -1)) := by
  unfold sgn0
  repeat' split
  all_goals omega
theorem l_cmp0 {r : Nat} (h : r < 2 ^ 64) : lg_cmp (lI (r : Int)) (lI 0) = iI (sgn0 r) := by
  have e : (lI (r : Int)).toInt = if r < 9223372036854775808 then (r : Int) else (r : Int) - 18446744073709551616 := by
    have q : (lI (r : Int)).toInt = (r : Int).bmod (2 ^ 64) := Int64.toInt_ofInt
    rw [q]
    split
    · rw [Int.bmod_def]; omega
    · rw [Int.bmod_def]; omega
  have e0 : (lI 0).toInt = 0 := by decide
  unfold lg_cmp sgn0
  simp only [gt_iff_lt, Int64.lt_iff_toInt_lt, ← Int64.toInt_inj, e, e0]
  repeat' split
  all_goals first | rfl | omega
theorem inR_sgn (a b : Int) : inR (sgnZ a b) := by
  have := sgnZ_spec a b
  unfold inR
  omega
theorem inR_sgn0 (r : Nat) : inR (sgn0 r) := by
  have := sgn0_spec r
  unfold inR
  omega
/-! what is appended: how many characters (below 0: none that may stand), and the text then -/
def aScan : Nat → Nat → Int → Int
  | 0, _, m => m
  | n + 1, r, m => if r = 0 then m else if r % 256 < 33 then -2 else if 126 < r % 256 then -2 else aScan n (r / 256) (m + 1)
def aChr (X m : Nat) (C : Nat → Int) (len : Int) : Nat → Nat → Int
  | 0 => C
  | k + 1 => updZ (aChr X m C len k) (Int.toNat (len + k)) ((X / 2 ^ (8 * (m - 1 - k)) % 256 : Nat) : Int)
def aOk (X : Nat) (len : Int) : Int := if aScan 8 X 0 = -2 then -2 else if aScan 8 X 0 = 0 then -2 else if aScan 8 X 0 ≤ 80 - len then 0 else -4
def aR (X : Nat) (len : Int) : Int := if aOk X len = 0 then len + aScan 8 X 0 else aOk X len
def aLen (X : Nat) (len : Int) : Int := if aOk X len = 0 then len + aScan 8 X 0 else len
def aC (X : Nat) (C : Nat → Int) (len : Int) : Nat → Int := if aOk X len = 0 then aChr X (aScan 8 X 0).toNat C len (aScan 8 X 0).toNat else C
theorem aScan_in : ∀ (n r : Nat) (m : Int), 0 ≤ m → aScan n r m = -2 ∨ (m ≤ aScan n r m ∧ aScan n r m ≤ m + n)
  | 0, r, m, h => Or.inr ⟨Int.le_refl m, by show m ≤ m + ((0 : Nat) : Int); omega⟩
  | n + 1, r, m, h => by
    have q := aScan_in n (r / 256) (m + 1) (by omega)
    unfold aScan
    split
    · exact Or.inr ⟨Int.le_refl m, by omega⟩
    · split
      · exact Or.inl rfl
      · split
        · exact Or.inl rfl
        · omega
theorem aScan_s (n r : Nat) (m : Int) : aScan (n + 1) r m = if r = 0 then m else if r % 256 < 33 then -2 else if 126 < r % 256 then -2 else aScan n (r / 256) (m + 1) := rfl
theorem div64 {X : Nat} (h : X < 2 ^ 64) (k : Nat) : X / 2 ^ k < 2 ^ 64 := Nat.lt_of_le_of_lt (Nat.div_le_self _ _) h
