/-! ===== the model's numbers stay in their ranges ===== -/
def InvL (n : Int) (B : Nat → Int) : Prop :=
  (4 ≤ B 0 ∧ B 0 ≤ 400) ∧ (10 ≤ B 1 ∧ B 1 ≤ 9999) ∧ (1 ≤ B 2 ∧ B 2 ≤ 9) ∧ (1 ≤ B 3 ∧ B 3 ≤ 99) ∧ (0 ≤ B 4 ∧ B 4 ≤ 2) ∧ (0 ≤ B 5 ∧ B 5 ≤ 99999) ∧ (0 ≤ B 6 ∧ B 6 < B 1) ∧ (0 ≤ B 7 ∧ B 7 < B 0) ∧ (0 ≤ B 8 ∧ B 8 ≤ 3) ∧ (0 ≤ B 9 ∧ B 9 ≤ 2) ∧
  (0 ≤ B 10 ∧ 0 ≤ B 11 ∧ 0 ≤ B 12 ∧ B 10 + B 11 + B 12 ≤ n) ∧ (0 ≤ B 13 ∧ B 13 ≤ n) ∧ (0 ≤ B 14 ∧ B 14 ≤ 200) ∧ (0 ≤ B 15 ∧ B 15 ≤ 3) ∧ (0 ≤ B 16 ∧ B 16 ≤ n) ∧ (0 ≤ B 17 ∧ B 17 ≤ 1) ∧ (-6 ≤ B 18 ∧ B 18 ≤ n) ∧ (-6 ≤ B 19 ∧ B 19 ≤ n) ∧ (0 ≤ B 20 ∧ B 20 ≤ 2)
def Lg (B : Nat → Int) : Prop := ∀ j, 21 ≤ j → 0 ≤ B j ∧ B j ≤ 31
theorem invM_iff {A : Nat → Int} : InvM A ↔ InvL (A 5) A ∧ Lg A := by
  unfold InvM InvL Lg
  constructor
  · rintro ⟨a0, a1, a2, a3, a4, a5, a6, a7, a8, a9, a10, a11, a12, a13, a14, a15, a16, a17, a18, a19⟩
    exact ⟨⟨a0, a1, a2, a3, a4, a5, a6, a7, a8, a9, a10, a11, a12, a13, a14, a15, a16, a17, a18⟩, a19⟩
  · rintro ⟨⟨a0, a1, a2, a3, a4, a5, a6, a7, a8, a9, a10, a11, a12, a13, a14, a15, a16, a17, a18⟩, a19⟩
    exact ⟨a0, a1, a2, a3, a4, a5, a6, a7, a8, a9, a10, a11, a12, a13, a14, a15, a16, a17, a18, a19⟩
theorem invL_t3 {A : Nat → Int} {q d : Int} (h : InvL (A 5) A) (hq : 0 ≤ q ∧ q ≤ 3) (hd : 0 ≤ d ∧ d ≤ 3) : InvL (A 5 + 1) (mT3 A q d) := by
  obtain ⟨a0, a1, a2, a3, a4, a5, a6, a7, a8, a9, a10, a11, a12, a13, a14, a15, a16, a17, a18⟩ := h
  have e1 : 0 ≤ (A 7 + 1 + A 0) % A 0 := Int.emod_nonneg _ (by omega)
  have e2 : (A 7 + 1 + A 0) % A 0 < A 0 := Int.emod_lt_of_pos _ (by omega)
  have e3 : 0 ≤ (A 7 + (-1) + A 0) % A 0 := Int.emod_nonneg _ (by omega)
  have e4 : (A 7 + (-1) + A 0) % A 0 < A 0 := Int.emod_lt_of_pos _ (by omega)
  have g1 : 0 ≤ (A 6 + 1 + A 1) % A 1 := Int.emod_nonneg _ (by omega)
  have g2 : (A 6 + 1 + A 1) % A 1 < A 1 := Int.emod_lt_of_pos _ (by omega)
  have g3 : 0 ≤ (A 6 + (-1) + A 1) % A 1 := Int.emod_nonneg _ (by omega)
  have g4 : (A 6 + (-1) + A 1) % A 1 < A 1 := Int.emod_lt_of_pos _ (by omega)
  generalize hu : (A 7 + 1 + A 0) % A 0 = u at *
  generalize hv : (A 7 + (-1) + A 0) % A 0 = v at *
  generalize hw : (A 6 + 1 + A 1) % A 1 = w at *
  generalize hz : (A 6 + (-1) + A 1) % A 1 = z at *
  obtain rfl | rfl | rfl | rfl : d = 0 ∨ d = 1 ∨ d = 2 ∨ d = 3 := by omega
  · show (4 ≤ A 0 ∧ A 0 ≤ 400) ∧ (10 ≤ A 1 ∧ A 1 ≤ 9999) ∧ (1 ≤ A 2 ∧ A 2 ≤ 9) ∧ (1 ≤ A 3 ∧ A 3 ≤ 99) ∧ (0 ≤ A 4 ∧ A 4 ≤ 2) ∧ (0 ≤ A 5 ∧ A 5 ≤ 99999) ∧ (0 ≤ A 6 ∧ A 6 < A 1) ∧ (0 ≤ A 7 ∧ A 7 < A 0) ∧ (0 ≤ A 8 ∧ A 8 ≤ 3) ∧ (0 ≤ A 9 ∧ A 9 ≤ 2) ∧ (0 ≤ A 10 ∧ 0 ≤ A 11 ∧ 0 ≤ A 12 + 0 ∧ A 10 + A 11 + (A 12 + 0) ≤ A 5 + 1) ∧ (0 ≤ A 13 ∧ A 13 ≤ A 5 + 1) ∧ (0 ≤ A 14 ∧ A 14 ≤ 200) ∧ (0 ≤ A 15 ∧ A 15 ≤ 3) ∧ (0 ≤ A 16 ∧ A 16 ≤ A 5 + 1) ∧ (0 ≤ A 17 ∧ A 17 ≤ 1) ∧ (-6 ≤ A 18 ∧ A 18 ≤ A 5 + 1) ∧ (-6 ≤ A 19 ∧ A 19 ≤ A 5 + 1) ∧ (0 ≤ A 20 ∧ A 20 ≤ 2)
    omega
  · show (4 ≤ A 0 ∧ A 0 ≤ 400) ∧ (10 ≤ A 1 ∧ A 1 ≤ 9999) ∧ (1 ≤ A 2 ∧ A 2 ≤ 9) ∧ (1 ≤ A 3 ∧ A 3 ≤ 99) ∧ (0 ≤ A 4 ∧ A 4 ≤ 2) ∧ (0 ≤ A 5 ∧ A 5 ≤ 99999) ∧ (0 ≤ (A 6 + 1 + A 1) % A 1 ∧ (A 6 + 1 + A 1) % A 1 < A 1) ∧ (0 ≤ (A 7 + 1 + A 0) % A 0 ∧ (A 7 + 1 + A 0) % A 0 < A 0) ∧ (0 ≤ q ∧ q ≤ 3) ∧ (0 ≤ (1 : Int) ∧ (1 : Int) ≤ 2) ∧ (0 ≤ A 10 + 1 ∧ 0 ≤ A 11 ∧ 0 ≤ A 12 + 0 ∧ A 10 + 1 + A 11 + (A 12 + 0) ≤ A 5 + 1) ∧ (0 ≤ A 13 ∧ A 13 ≤ A 5 + 1) ∧ (0 ≤ A 14 ∧ A 14 ≤ 200) ∧ (0 ≤ A 15 ∧ A 15 ≤ 3) ∧ (0 ≤ A 16 ∧ A 16 ≤ A 5 + 1) ∧ (0 ≤ A 17 ∧ A 17 ≤ 1) ∧ (-6 ≤ A 5 ∧ A 5 ≤ A 5 + 1) ∧ (-6 ≤ A 18 ∧ A 18 ≤ A 5 + 1) ∧ (0 ≤ A 9 ∧ A 9 ≤ 2)
    rw [hu, hw]
    omega
  · show (4 ≤ A 0 ∧ A 0 ≤ 400) ∧ (10 ≤ A 1 ∧ A 1 ≤ 9999) ∧ (1 ≤ A 2 ∧ A 2 ≤ 9) ∧ (1 ≤ A 3 ∧ A 3 ≤ 99) ∧ (0 ≤ A 4 ∧ A 4 ≤ 2) ∧ (0 ≤ A 5 ∧ A 5 ≤ 99999) ∧ (0 ≤ (A 6 + (-1) + A 1) % A 1 ∧ (A 6 + (-1) + A 1) % A 1 < A 1) ∧ (0 ≤ (A 7 + (-1) + A 0) % A 0 ∧ (A 7 + (-1) + A 0) % A 0 < A 0) ∧ (0 ≤ q ∧ q ≤ 3) ∧ (0 ≤ (2 : Int) ∧ (2 : Int) ≤ 2) ∧ (0 ≤ A 10 ∧ 0 ≤ A 11 + 1 ∧ 0 ≤ A 12 + 0 ∧ A 10 + (A 11 + 1) + (A 12 + 0) ≤ A 5 + 1) ∧ (0 ≤ A 13 ∧ A 13 ≤ A 5 + 1) ∧ (0 ≤ A 14 ∧ A 14 ≤ 200) ∧ (0 ≤ A 15 ∧ A 15 ≤ 3) ∧ (0 ≤ A 16 ∧ A 16 ≤ A 5 + 1) ∧ (0 ≤ A 17 ∧ A 17 ≤ 1) ∧ (-6 ≤ A 5 ∧ A 5 ≤ A 5 + 1) ∧ (-6 ≤ A 18 ∧ A 18 ≤ A 5 + 1) ∧ (0 ≤ A 9 ∧ A 9 ≤ 2)
    rw [hv, hz]
    omega
  · show (4 ≤ A 0 ∧ A 0 ≤ 400) ∧ (10 ≤ A 1 ∧ A 1 ≤ 9999) ∧ (1 ≤ A 2 ∧ A 2 ≤ 9) ∧ (1 ≤ A 3 ∧ A 3 ≤ 99) ∧ (0 ≤ A 4 ∧ A 4 ≤ 2) ∧ (0 ≤ A 5 ∧ A 5 ≤ 99999) ∧ (0 ≤ A 6 ∧ A 6 < A 1) ∧ (0 ≤ A 7 ∧ A 7 < A 0) ∧ (0 ≤ q ∧ q ≤ 3) ∧ (0 ≤ A 9 ∧ A 9 ≤ 2) ∧ (0 ≤ A 10 ∧ 0 ≤ A 11 ∧ 0 ≤ A 12 + 1 ∧ A 10 + A 11 + (A 12 + 1) ≤ A 5 + 1) ∧ (0 ≤ A 13 ∧ A 13 ≤ A 5 + 1) ∧ (0 ≤ A 14 ∧ A 14 ≤ 200) ∧ (0 ≤ A 15 ∧ A 15 ≤ 3) ∧ (0 ≤ A 16 ∧ A 16 ≤ A 5 + 1) ∧ (0 ≤ A 17 ∧ A 17 ≤ 1) ∧ (-6 ≤ A 18 ∧ A 18 ≤ A 5 + 1) ∧ (-6 ≤ A 19 ∧ A 19 ≤ A 5 + 1) ∧ (0 ≤ A 20 ∧ A 20 ≤ 2)
    omega
theorem invL_up {n : Int} {B : Nat → Int} (h : InvL n B) {k : Nat} (hk : 21 ≤ k) (x : Int) : InvL n (updZ B k x) := by
  unfold InvL
  rw [updZ_ne B x (show 0 ≠ k by omega), updZ_ne B x (show 1 ≠ k by omega), updZ_ne B x (show 2 ≠ k by omega), updZ_ne B x (show 3 ≠ k by omega), updZ_ne B x (show 4 ≠ k by omega), updZ_ne B x (show 5 ≠ k by omega), updZ_ne B x (show 6 ≠ k by omega), updZ_ne B x (show 7 ≠ k by omega), updZ_ne B x (show 8 ≠ k by omega), updZ_ne B x (show 9 ≠ k by omega), updZ_ne B x (show 10 ≠ k by omega), updZ_ne B x (show 11 ≠ k by omega), updZ_ne B x (show 12 ≠ k by omega), updZ_ne B x (show 13 ≠ k by omega), updZ_ne B x (show 14 ≠ k by omega), updZ_ne B x (show 15 ≠ k by omega), updZ_ne B x (show 16 ≠ k by omega), updZ_ne B x (show 17 ≠ k by omega), updZ_ne B x (show 18 ≠ k by omega), updZ_ne B x (show 19 ≠ k by omega), updZ_ne B x (show 20 ≠ k by omega)]
  exact h
theorem invL_congr {n : Int} {B C : Nat → Int} (h : InvL n B) (e : ∀ j, j < 21 → C j = B j) : InvL n C := by
  unfold InvL
  rw [e 0 (by omega), e 1 (by omega), e 2 (by omega), e 3 (by omega), e 4 (by omega), e 5 (by omega), e 6 (by omega), e 7 (by omega), e 8 (by omega), e 9 (by omega), e 10 (by omega), e 11 (by omega), e 12 (by omega), e 13 (by omega), e 14 (by omega), e 15 (by omega), e 16 (by omega), e 17 (by omega), e 18 (by omega), e 19 (by omega), e 20 (by omega)]
  exact h
theorem mT3_same {A : Nat → Int} {q d : Int} (hd : 0 ≤ d ∧ d ≤ 3) : mT3 A q d 5 = A 5 ∧ mT3 A q d 13 = A 13 ∧ mT3 A q d 14 = A 14 ∧ mT3 A q d 15 = A 15 ∧ mT3 A q d 16 = A 16 ∧ mT3 A q d 17 = A 17 := by
  obtain rfl | rfl | rfl | rfl : d = 0 ∨ d = 1 ∨ d = 2 ∨ d = 3 := by omega
  all_goals exact ⟨rfl, rfl, rfl, rfl, rfl, rfl⟩
theorem invL_rise {n : Int} {B : Nat → Int} (h : InvL n B) (h13 : B 13 + 1 ≤ n) : InvL n (mRise B) ∧ (mRise B 5 = B 5 ∧ mRise B 14 = B 14 ∧ mRise B 15 = B 15 ∧ mRise B 16 = B 16 ∧ mRise B 17 = B 17) := by
  obtain ⟨a0, a1, a2, a3, a4, a5, a6, a7, a8, a9, a10, a11, a12, a13, a14, a15, a16, a17, a18⟩ := h
  unfold mRise
  split
  · split
    · refine ⟨⟨a0, a1, a2, a3, a4, a5, a6, ?_, a8, a9, a10, ?_, a12, a13, a14, a15, a16, a17, a18⟩, rfl, rfl, rfl, rfl, rfl⟩
      · show 0 ≤ (0 : Int) ∧ (0 : Int) < B 0; omega
      · show 0 ≤ B 13 + 0 ∧ B 13 + 0 ≤ n; omega
    · refine ⟨⟨a0, a1, a2, a3, a4, a5, a6, ?_, a8, a9, a10, ?_, a12, a13, a14, a15, a16, a17, a18⟩, rfl, rfl, rfl, rfl, rfl⟩
      · show 0 ≤ (0 : Int) ∧ (0 : Int) < B 0; omega
      · show 0 ≤ B 13 + 1 ∧ B 13 + 1 ≤ n; omega
  · split
    · refine ⟨⟨a0, a1, a2, a3, a4, a5, ?_, ?_, a8, a9, a10, a11, a12, a13, a14, a15, a16, a17, a18⟩, rfl, rfl, rfl, rfl, rfl⟩
      · show 0 ≤ (0 : Int) ∧ (0 : Int) < B 1; omega
      · show 0 ≤ (0 : Int) ∧ (0 : Int) < B 0; omega
    · exact ⟨⟨a0, a1, a2, a3, a4, a5, a6, a7, a8, a9, a10, a11, a12, a13, a14, a15, a16, a17, a18⟩, rfl, rfl, rfl, rfl, rfl⟩
theorem mT4_in {A : Nat → Int} {q i d : Int} (h : InvL (A 5) A) (hq : 0 ≤ q ∧ q ≤ 3) (hd : 0 ≤ d ∧ d ≤ 3) : InvL (A 5 + 1) (mT4 A q i d) ∧ (mT4 A q i d 5 = A 5 ∧ mT4 A q i d 14 = A 14 ∧ mT4 A q i d 15 = A 15 ∧ mT4 A q i d 16 = A 16 ∧ mT4 A q i d 17 = A 17) := by
  have h3 := invL_t3 h hq hd
  obtain ⟨s5, s13, s14, s15, s16, s17⟩ := mT3_same (A := A) (q := q) hd
  have h13 : A 13 ≤ A 5 := h.2.2.2.2.2.2.2.2.2.2.2.1.2
  have hr := invL_rise h3 (by rw [s13]; omega)
  unfold mT4
  split
  · split
    · exact ⟨hr.1, hr.2.1.trans s5, hr.2.2.1.trans s14, hr.2.2.2.1.trans s15, hr.2.2.2.2.1.trans s16, hr.2.2.2.2.2.trans s17⟩
    · exact ⟨h3, s5, s14, s15, s16, s17⟩
  · exact ⟨h3, s5, s14, s15, s16, s17⟩
theorem mT7_in {A : Nat → Int} {q i d : Int} (h : InvL (A 5) A) (hq : 0 ≤ q ∧ q ≤ 3) (hi : 0 ≤ i ∧ i ≤ 1) (hd : 0 ≤ d ∧ d ≤ 3) (h5 : A 5 < 99999) : InvL (A 5 + 1) (mT7 A q i d) ∧ mT7 A q i d 5 = A 5 + 1 ∧ mT7 A q i d 14 = (if A 14 < 200 then A 14 + 1 else A 14) := by
  obtain ⟨⟨a0, a1, a2, a3, a4, a5, a6, a7, a8, a9, a10, a11, a12, a13, a14, a15, a16, a17, a18⟩, e5, e14, e15, e16, e17⟩ := mT4_in (i := i) h hq hd
  have h16 : 0 ≤ A 16 ∧ A 16 ≤ A 5 := h.2.2.2.2.2.2.2.2.2.2.2.2.2.2.1
  have h14 : 0 ≤ A 14 ∧ A 14 ≤ 200 := h.2.2.2.2.2.2.2.2.2.2.2.2.1
  have h55 : 0 ≤ A 5 ∧ A 5 ≤ 99999 := h.2.2.2.2.2.1
  have g14 : mT4 A q i d 14 + (if mT4 A q i d 14 < 200 then 1 else 0) = if A 14 < 200 then A 14 + 1 else A 14 := by
    rw [e14]
    split <;> omega
  refine ⟨⟨a0, a1, a2, a3, a4, ?_, a6, a7, a8, a9, a10, a11, ?_, hq, ?_, hi, a16, a17, a18⟩, ?_, g14⟩
  · show 0 ≤ mT4 A q i d 5 + 1 ∧ mT4 A q i d 5 + 1 ≤ 99999
    omega
  · show 0 ≤ mT4 A q i d 14 + (if mT4 A q i d 14 < 200 then 1 else 0) ∧ mT4 A q i d 14 + (if mT4 A q i d 14 < 200 then 1 else 0) ≤ 200
    rw [g14]
    split <;> omega
  · show 0 ≤ (if q = mT4 A q i d 15 then (if 0 < mT4 A q i d 5 then mT4 A q i d 16 + 1 else 1) else 1) ∧ (if q = mT4 A q i d 15 then (if 0 < mT4 A q i d 5 then mT4 A q i d 16 + 1 else 1) else 1) ≤ A 5 + 1
    (repeat' split) <;> omega
  · show mT4 A q i d 5 + 1 = A 5 + 1
    omega
theorem mT7_log {A : Nat → Int} {q i d : Int} (hd : 0 ≤ d ∧ d ≤ 3) {j : Nat} (hj : 21 ≤ j) : mT7 A q i d j = A j := by
  have up : ∀ (B : Nat → Int) (k : Nat) (x : Int), k < 21 → updZ B k x j = B j := fun B k x hk => updZ_ne B x (by omega)
  have hs : ∀ w, mSteps A w j = A j := by
    intro w
    unfold mSteps
    split
    · rw [up _ _ _ (by omega), up _ _ _ (by omega), up _ _ _ (by omega), up _ _ _ (by omega), up _ _ _ (by omega), up _ _ _ (by omega), up _ _ _ (by omega)]
    · rw [up _ _ _ (by omega), up _ _ _ (by omega), up _ _ _ (by omega), up _ _ _ (by omega), up _ _ _ (by omega), up _ _ _ (by omega), up _ _ _ (by omega)]
  have h1 : mT1 A d j = A j := by
    unfold mT1
    (repeat' split) <;> first | exact hs _ | rfl
  have h3 : mT3 A q d j = A j := by
    unfold mT3 mT2
    rw [up _ _ _ (by omega), up _ _ _ (by omega)]
    exact h1
  have hr : ∀ B : Nat → Int, mRise B j = B j := by
    intro B
    unfold mRise
    (repeat' split) <;> first | rfl | rw [up _ _ _ (by omega), up _ _ _ (by omega)]
  have h4 : mT4 A q i d j = A j := by
    unfold mT4
    (repeat' split) <;> first | exact (hr _).trans h3 | exact h3
  unfold mT7 mT6 mT5
  rw [up _ _ _ (by omega), up _ _ _ (by omega), up _ _ _ (by omega), up _ _ _ (by omega), up _ _ _ (by omega)]
  exact h4
theorem mSh_low (B : Nat → Int) (hi : Nat) {j : Nat} (h : j ≤ 21) : mSh B hi 0 j = B j := by
  unfold mSh
  rw [if_neg (by omega)]
theorem mTick_low {A : Nat → Int} {q i : Int} {j : Nat} (h : j < 21) : mTick A q i j = mT7 A q i (mDeed A q) j := by
  unfold mTick
  rw [updZ_ne _ _ (by omega), mSh_low _ _ (by omega)]
theorem mTick_inv {A : Nat → Int} {q i : Int} (hI : InvM A) (hq : 0 ≤ q ∧ q ≤ 3) (hi : 0 ≤ i ∧ i ≤ 1) (h5 : A 5 < 99999) : InvM (mTick A q i) ∧ mTick A q i 5 = A 5 + 1 := by
  obtain ⟨hL, hg⟩ := invM_iff.mp hI
  have hd := mDeed_in A q
  obtain ⟨h7, e5, e14⟩ := mT7_in (i := i) (d := mDeed A q) hL hq hi hd h5
  have t5 : mTick A q i 5 = A 5 + 1 := (mTick_low (by omega)).trans e5
  refine ⟨invM_iff.mpr ⟨?_, ?_⟩, t5⟩
  · rw [t5]
    exact invL_congr h7 fun j hj => mTick_low hj
  · intro j hj
    unfold mTick
    by_cases h : j = 21
    · subst h
      rw [updZ_eq]
      omega
    · rw [updZ_ne _ _ h]
      unfold mSh
      split
      · rw [mT7_log hd (by omega)]
        exact hg _ (by omega)
      · rw [mT7_log hd hj]
        exact hg _ hj
