/-! ===== the pads: put ===== -/
theorem mSc_bad : ∀ (k r : Nat) (n : Int), (mSc k r n 0).2.2 = 0
  | 0, _, _ => rfl
  | k + 1, r, n => by
    rw [mSc_s]
    split
    · rfl
    · rw [if_pos rfl]
      exact mSc_bad k _ _
theorem pow_step (k : Nat) : 2 ^ (8 * (k + 1)) = 2 ^ (8 * k) * 256 := by
  rw [show 8 * (k + 1) = 8 * k + 8 by omega, Nat.pow_add]
theorem scan_sc : ∀ (k r : Nat) (m : Int), r < 2 ^ (8 * k) → 0 ≤ m →
    (aScan k r m = -2 ∧ (¬ (mSc k r m 1).2.1 = 0 ∨ (mSc k r m 1).2.2 = 0)) ∨ (aScan k r m = (mSc k r m 1).1 ∧ (mSc k r m 1).2.1 = 0 ∧ (mSc k r m 1).2.2 = 1 ∧ m ≤ aScan k r m)
  | 0, r, m, h, hm => by
    have h0 : r = 0 := by
      have : r < 1 := h
      omega
    subst h0
    exact Or.inr ⟨rfl, rfl, rfl, Int.le_refl m⟩
  | k + 1, r, m, h, hm => by
    rw [aScan_s, mSc_s]
    by_cases c : r = 0
    · subst c
      exact Or.inr ⟨rfl, rfl, rfl, Int.le_refl m⟩
    · rw [if_neg c]
      by_cases d : r % 256 = 0
      · rw [if_pos d, if_pos (by omega)]
        exact Or.inl ⟨rfl, Or.inl c⟩
      · rw [if_neg d, if_neg (show ¬ (1 : Int) = 0 by omega)]
        have hi := mIn_spec ((r % 256 : Nat) : Int) 33 126
        by_cases a : mIn ((r % 256 : Nat) : Int) 33 126 = 0
        · rw [if_pos a]
          refine Or.inl ⟨?_, Or.inr (mSc_bad _ _ _)⟩
          by_cases b : r % 256 < 33
          · rw [if_pos b]
          · rw [if_neg b, if_pos (by omega)]
        · rw [if_neg a, if_neg (by omega), if_neg (by omega)]
          have hp := pow_step k
          have hr : r / 256 < 2 ^ (8 * k) := by
            rw [Nat.div_lt_iff_lt_mul (by omega), ← hp]
            exact h
          have q := scan_sc k (r / 256) (m + 1) hr (by omega)
          rw [show r / 2 ^ 8 = r / 256 from rfl]
          rcases q with q | q
          · exact Or.inl q
          · exact Or.inr ⟨q.1, q.2.1, q.2.2.1, by have := q.2.2.2; omega⟩
theorem putOk_eq {X : Nat} {len : Int} (hX : X < 2 ^ 64) : (mPutOk X len = aOk X len) ∧ (aOk X len = 0 → (mSc 8 X 0 1).1 = aScan 8 X 0) := by
  have q := scan_sc 8 X 0 (by exact hX) (by omega)
  unfold mPutOk aOk
  rcases q with ⟨q1, q2⟩ | ⟨q1, q2, q3, q4⟩
  · rw [if_pos q1]
    refine ⟨?_, fun z => by omega⟩
    rcases q2 with q2 | q2
    · (repeat' split) <;> first | rfl | omega
    · (repeat' split) <;> first | rfl | omega
  · refine ⟨?_, fun _ => q1.symm⟩
    rw [← q1]
    (repeat' split) <;> omega
theorem put_eq {X : Nat} {len : Int} {C : Nat → Int} (hX : X < 2 ^ 64) : mPutR X len = aR X len ∧ mPutL X len = aLen X len ∧ mPutP X C len = aC X C len := by
  obtain ⟨h1, h2⟩ := putOk_eq (len := len) hX
  unfold mPutR aR mPutL aLen mPutP aC
  rw [h1]
  by_cases c : aOk X len = 0
  · have e := h2 c
    rw [if_pos c, if_pos c, if_pos c, if_pos c, if_pos c, if_pos c, e]
    exact ⟨rfl, rfl, rfl⟩
  · rw [if_neg c, if_neg c, if_neg c, if_neg c, if_neg c, if_neg c]
    exact ⟨rfl, rfl, rfl⟩
theorem scan_chr : ∀ (k r : Nat) (m : Int), 0 ≤ m → ¬ aScan k r m = -2 → ∀ i : Nat, m + i < aScan k r m → 33 ≤ r / 2 ^ (8 * i) % 256 ∧ r / 2 ^ (8 * i) % 256 ≤ 126
  | 0, r, m, hm, h, i, hi => by
    have : m + (i : Int) < m := hi
    omega
  | k + 1, r, m, hm, h, i, hi => by
    rw [aScan_s] at h hi
    by_cases c : r = 0
    · rw [if_pos c] at hi
      omega
    · rw [if_neg c] at h hi
      by_cases c1 : r % 256 < 33
      · rw [if_pos c1] at h
        omega
      · rw [if_neg c1] at h hi
        by_cases c2 : 126 < r % 256
        · rw [if_pos c2] at h
          omega
        · rw [if_neg c2] at h hi
          by_cases c3 : i = 0
          · subst c3
            rw [Nat.mul_zero, Nat.pow_zero, Nat.div_one]
            omega
          · have q := scan_chr k (r / 256) (m + 1) (by omega) h (i - 1) (by omega)
            have e : r / 256 / 2 ^ (8 * (i - 1)) = r / 2 ^ (8 * i) := by
              rw [Nat.div_div_eq_div_mul, show 8 * i = 8 * ((i - 1) + 1) by omega, pow_step, Nat.mul_comm]
            rw [e] at q
            exact q
theorem chr_in {X m : Nat} {C : Nat → Int} {len : Int} (hC : ∀ j, 0 ≤ C j ∧ C j ≤ 126) (hX : ∀ i, i < m → 33 ≤ X / 2 ^ (8 * i) % 256 ∧ X / 2 ^ (8 * i) % 256 ≤ 126) : ∀ k : Nat, k ≤ m → ∀ j, 0 ≤ aChr X m C len k j ∧ aChr X m C len k j ≤ 126
  | 0, _, j => hC j
  | k + 1, h, j => by
    have i := chr_in (len := len) hC hX k (by omega) j
    have q := hX (m - 1 - k) (by omega)
    show 0 ≤ updZ (aChr X m C len k) (Int.toNat (len + k)) ((X / 2 ^ (8 * (m - 1 - k)) % 256 : Nat) : Int) j ∧ updZ (aChr X m C len k) (Int.toNat (len + k)) ((X / 2 ^ (8 * (m - 1 - k)) % 256 : Nat) : Int) j ≤ 126
    unfold updZ
    split
    · omega
    · exact i
theorem aOk_0 {X : Nat} {len : Int} (h : aOk X len = 0) : 1 ≤ aScan 8 X 0 ∧ aScan 8 X 0 ≤ 80 - len := by
  have q := aScan_in 8 X 0 (by omega)
  unfold aOk at h
  (repeat' split at h) <;> omega
theorem put_in {X : Nat} {len : Int} {C : Nat → Int} (hl : 0 ≤ len ∧ len ≤ 80) (hC : ∀ j, 0 ≤ C j ∧ C j ≤ 126) : (0 ≤ aLen X len ∧ aLen X len ≤ 80) ∧ ∀ j, 0 ≤ aC X C len j ∧ aC X C len j ≤ 126 := by
  unfold aLen aC
  by_cases c : aOk X len = 0
  · have h := aOk_0 c
    rw [if_pos c, if_pos c]
    refine ⟨by omega, chr_in hC (fun i hi => ?_) _ (Nat.le_refl _)⟩
    exact scan_chr 8 X 0 (by omega) (by omega) i (by omega)
  · rw [if_neg c, if_neg c]
    exact ⟨hl, hC⟩
theorem aR_in {X : Nat} {len : Int} (hl : 0 ≤ len ∧ len ≤ 80) : -4 ≤ aR X len ∧ aR X len ≤ 80 := by
  unfold aR
  by_cases c : aOk X len = 0
  · have h := aOk_0 c
    rw [if_pos c]
    omega
  · rw [if_neg c]
    unfold aOk
    (repeat' split) <;> omega
/-! ===== reading: where the two readers are ===== -/
theorem run_pos (C : Nat → Int) (len : Int) (s : PS) : (pRun C len s).1 = mRunP C len s.1 := by
  unfold pRun mRunP
  (repeat' split) <;> rfl
theorem run_num {C : Nat → Int} {len : Int} {s : PS} {nb : Int} (h : ¬ pRunR C len s.1 = 0) : (pRun C len s).2.1 = pAt C len s.1 - 48 ∧ (pRun C len s).2.2.1 = pIxV C len s.1 ∧ (pRun C len s).2.2.2 = mRunN C len s.1 nb := by
  unfold pRunR at h
  unfold pRun mRunN
  split at h
  · omega
  · split at h
    · omega
    · rename_i h1 h2
      rw [if_neg h1, if_neg h2, if_neg h1, if_neg h2]
      split
      · rename_i h3
        rw [if_pos h3] at h
        rw [if_neg h]
        exact ⟨rfl, rfl, rfl⟩
      · exact ⟨rfl, rfl, rfl⟩
theorem run_adv {C : Nat → Int} {len p : Int} (h : ¬ pRunR C len p = 0) : (0 ≤ p ∧ p < len ∧ p < 80) ∧ p + 1 ≤ mRunP C len p := by
  have h1 := pAt_spec C len p
  have hix : p + 1 ≤ pIxP C len p := by
    unfold pIxP
    split <;> omega
  have hge := pNumP_ge C len (pIxP C len p + 1)
  unfold pRunR at h
  unfold mRunP
  split at h
  · omega
  · split at h
    · omega
    · rename_i h2 h3
      rw [if_neg h2, if_neg h3]
      refine ⟨by omega, ?_⟩
      split <;> omega
theorem num_le {C : Nat → Int} {len p : Int} (h : 0 ≤ p ∧ p ≤ len) : pNumP C len p ≤ len := by
  have h1 := pAt_spec C len p
  have h2 := pAt_spec C len (p + 1)
  have h3 := pAt_spec C len (p + 1 + 1)
  unfold pNumP
  (repeat' split) <;> omega
theorem run_le {C : Nat → Int} {len p : Int} (h : 0 ≤ p ∧ p ≤ len) : mRunP C len p ≤ len := by
  have h1 := pAt_spec C len p
  have h2 := pAt_spec C len (p + 1)
  have h3 := pAt_spec C len (pIxP C len p)
  have hix : (pIxP C len p = p + 1 + 1 ∧ pAt C len (p + 1) = 105) ∨ pIxP C len p = p + 1 := by
    unfold pIxP
    split
    · exact Or.inl ⟨rfl, by assumption⟩
    · exact Or.inr rfl
  unfold mRunP
  split
  · omega
  · split
    · omega
    · split
      · exact num_le (by omega)
      · omega
theorem runs_eq {C : Nat → Int} {len dn : Int} : ∀ (n m : Nat) (s : PS) (B : Nat → Int) (e b : Int), 0 ≤ s.1 → s.1 ≤ 80 → 81 - s.1 ≤ 2 * (n : Int) → 81 - s.1 ≤ 2 * (m : Int) → (mRuns C len dn m (B, e, s.1, b)).1.2.2.1 = (pRuns C len n s).1.1 ∧ (mRuns C len dn m (B, e, s.1, b)).2 = (pRuns C len n s).2
  | 0, _, s, _, _, _, _, h1, h2, _ => by
    have : 81 - s.1 ≤ 2 * ((0 : Nat) : Int) := h2
    omega
  | n + 1, 0, s, _, _, _, _, h1, _, h3 => by
    have : 81 - s.1 ≤ 2 * ((0 : Nat) : Int) := h3
    omega
  | n + 1, m + 1, s, B, e, b, h0, h1, h2, h3 => by
    have hp := run_pos C len s
    rw [pRuns_s]
    by_cases c : pRunR C len s.1 = 0
    · rw [mRuns_no c rfl rfl, if_pos c]
      exact ⟨hp.symm, rfl⟩
    · have ha := run_adv c
      have h4 := pAt_spec C len (mRunP C len s.1)
      rw [if_neg c, hp]
      by_cases d : pAt C len (mRunP C len s.1) = 44
      · rw [mRuns_on c rfl rfl rfl rfl rfl d, if_pos d]
        exact runs_eq n m (mRunP C len s.1 + 1, (pRun C len s).2) _ _ _ (by show 0 ≤ mRunP C len s.1 + 1; omega) (by show mRunP C len s.1 + 1 ≤ 80; omega) (by show 81 - (mRunP C len s.1 + 1) ≤ _; omega) (by show 81 - (mRunP C len s.1 + 1) ≤ _; omega)
      · rw [mRuns_end c rfl rfl rfl rfl rfl d, if_neg d]
        exact ⟨hp.symm, rfl⟩
theorem runs_adv {C : Nat → Int} {len : Int} : ∀ (n : Nat) (s : PS), 0 ≤ s.1 → s.1 ≤ len → s.1 ≤ 80 → ((pRuns C len n s).1.1 ≤ len ∧ s.1 ≤ (pRuns C len n s).1.1) ∧ (¬ (pRuns C len n s).2 = 0 → s.1 + 1 ≤ (pRuns C len n s).1.1)
  | 0, s, h0, h1, h2 => ⟨⟨h1, Int.le_refl _⟩, fun z => absurd rfl z⟩
  | n + 1, s, h0, h1, h2 => by
    have hp := run_pos C len s
    have hl := run_le (C := C) ⟨h0, h1⟩
    have hge : s.1 ≤ mRunP C len s.1 := (mRunP_in (P := C) (pl := len) ⟨h0, h2⟩).2
    rw [pRuns_s]
    by_cases c : pRunR C len s.1 = 0
    · rw [if_pos c]
      exact ⟨⟨by show (pRun C len s).1 ≤ len; omega, by show s.1 ≤ (pRun C len s).1; omega⟩, fun z => absurd rfl z⟩
    · have ha := run_adv c
      have h4 := pAt_spec C len (mRunP C len s.1)
      rw [if_neg c, hp]
      by_cases d : pAt C len (mRunP C len s.1) = 44
      · rw [if_pos d]
        have q := runs_adv (C := C) n (mRunP C len s.1 + 1, (pRun C len s).2) (by show 0 ≤ mRunP C len s.1 + 1; omega) (by show mRunP C len s.1 + 1 ≤ len; omega) (by show mRunP C len s.1 + 1 ≤ 80; omega)
        obtain ⟨⟨q1, q2⟩, q3⟩ := q
        have q2' : mRunP C len s.1 + 1 ≤ (pRuns C len n (mRunP C len s.1 + 1, (pRun C len s).2)).1.1 := q2
        exact ⟨⟨q1, by omega⟩, fun _ => by omega⟩
      · rw [if_neg d]
        exact ⟨⟨by show (pRun C len s).1 ≤ len; omega, by show s.1 ≤ (pRun C len s).1; omega⟩, fun _ => by show s.1 + 1 ≤ (pRun C len s).1; omega⟩
theorem dig_eq (C : Nat → Int) (len p : Int) : (mIn (pAt C len p) 49 57 = 0 ∧ pDigR C len p = 0) ∨ (¬ mIn (pAt C len p) 49 57 = 0 ∧ pDigR C len p = 1 ∧ 49 ≤ pAt C len p ∧ pAt C len p ≤ 57) := by
  have h := mIn_spec (pAt C len p) 49 57
  unfold pDigR
  (repeat' split) <;> omega
theorem ord_pos {C : Nat → Int} {len dn : Int} {A : Nat → Int} {er nb : Int} {s : PS} (h0 : 0 ≤ s.1) (h1 : s.1 ≤ 80) : (mOrdr C len dn A er s.1 nb).1.2.2.1 = (pOrd C len s).1.1 ∧ (mOrdr C len dn A er s.1 nb).2 = (pOrd C len s).2 := by
  have ht : ∀ w, (mOrdT C len dn A er s.1 nb w).1.2.2.1 = (pNum C len (s.1 + 1, s.2)).1 ∧ (mOrdT C len dn A er s.1 nb w).2 = pNumR C len (s.1 + 1) := by
    intro w
    have h := pNumR_01 C len (s.1 + 1)
    unfold mOrdT
    by_cases c : pNumR C len (s.1 + 1) = 0
    · rw [if_pos c]
      exact ⟨rfl, c.symm⟩
    · rw [if_neg c]
      split
      · exact ⟨rfl, by show (1 : Int) = _; omega⟩
      · exact ⟨rfl, by show (1 : Int) = _; omega⟩
  unfold mOrdr pOrd
  by_cases c1 : pAt C len s.1 = 122
  · rw [if_pos c1, if_pos c1]
    unfold mOrdZ
    split
    · exact ⟨rfl, rfl⟩
    · exact ⟨rfl, rfl⟩
  · rw [if_neg c1, if_neg c1]
    by_cases c2 : pAt C len s.1 = 110
    · rw [if_pos c2, if_pos c2]
      unfold mOrdN pDig
      rcases dig_eq C len (s.1 + 1) with ⟨d1, d2⟩ | ⟨d1, d2, _⟩
      · rw [if_pos d1, if_pos d2]
        exact ⟨rfl, d2.symm⟩
      · rw [if_neg d1, if_neg (show ¬ pDigR C len (s.1 + 1) = 0 by omega)]
        split
        · exact ⟨rfl, d2.symm⟩
        · exact ⟨rfl, d2.symm⟩
    · rw [if_neg c2, if_neg c2]
      by_cases c3 : pAt C len s.1 = 102
      · rw [if_pos c3, if_pos c3]
        exact ht 1
      · rw [if_neg c3, if_neg c3]
        by_cases c4 : pAt C len s.1 = 98
        · rw [if_pos c4, if_pos c4]
          exact ht (-1)
        · rw [if_neg c4, if_neg c4]
          exact runs_eq 80 81 s A er nb h0 h1 (by omega) (by omega)
theorem ord_adv {C : Nat → Int} {len : Int} {s : PS} (h0 : 0 ≤ s.1) (h1 : s.1 ≤ len) (h2 : s.1 ≤ 80) : ((pOrd C len s).1.1 ≤ len ∧ s.1 ≤ (pOrd C len s).1.1) ∧ (¬ (pOrd C len s).2 = 0 → s.1 + 1 ≤ (pOrd C len s).1.1) := by
  have h3 := pAt_spec C len s.1
  have h4 := pAt_spec C len (s.1 + 1)
  have hn : ¬ pAt C len s.1 = 0 → ((pNum C len (s.1 + 1, s.2)).1 ≤ len ∧ s.1 ≤ (pNum C len (s.1 + 1, s.2)).1) ∧ s.1 + 1 ≤ (pNum C len (s.1 + 1, s.2)).1 := by
    intro z
    have a := num_le (C := C) (len := len) (p := s.1 + 1) (by omega)
    have b := pNumP_ge C len (s.1 + 1)
    show (pNumP C len (s.1 + 1) ≤ len ∧ s.1 ≤ pNumP C len (s.1 + 1)) ∧ s.1 + 1 ≤ pNumP C len (s.1 + 1)
    omega
  unfold pOrd
  split
  · exact ⟨⟨by show s.1 + 1 ≤ len; omega, by show s.1 ≤ s.1 + 1; omega⟩, fun _ => by show s.1 + 1 ≤ s.1 + 1; omega⟩
  · split
    · unfold pDig
      rcases dig_eq C len (s.1 + 1) with ⟨d1, d2⟩ | ⟨d1, d2, d3⟩
      · rw [if_pos d2]
        exact ⟨⟨by show s.1 + 1 ≤ len; omega, by show s.1 ≤ s.1 + 1; omega⟩, fun _ => by show s.1 + 1 ≤ s.1 + 1; omega⟩
      · rw [if_neg (show ¬ pDigR C len (s.1 + 1) = 0 by omega)]
        exact ⟨⟨by show s.1 + 1 + 1 ≤ len; omega, by show s.1 ≤ s.1 + 1 + 1; omega⟩, fun _ => by show s.1 + 1 ≤ s.1 + 1 + 1; omega⟩
    · split
      · exact ⟨(hn (by omega)).1, fun _ => (hn (by omega)).2⟩
      · split
        · exact ⟨(hn (by omega)).1, fun _ => (hn (by omega)).2⟩
        · exact runs_adv 80 s h0 h1 h2
theorem fault_eq {C : Nat → Int} {len : Int} (hl : len ≤ 80) : ∀ (n m : Nat) (s : PS) (B : Nat → Int) (e b : Int), 0 ≤ s.1 → s.1 ≤ len → 81 - s.1 ≤ 2 * (n : Int) → 81 - s.1 ≤ 2 * (m : Int) → (mFlt C len m (B, e, s.1, b)).2 = (pFault C len n s).2
  | 0, _, s, _, _, _, _, h1, h2, _ => by
    have : 81 - s.1 ≤ 2 * ((0 : Nat) : Int) := h2
    omega
  | n + 1, 0, s, _, _, _, _, h1, _, h3 => by
    have : 81 - s.1 ≤ 2 * ((0 : Nat) : Int) := h3
    omega
  | n + 1, m + 1, s, B, e, b, h0, h1, h2, h3 => by
    obtain ⟨o1, o2⟩ := ord_pos (C := C) (len := len) (dn := 0) (A := B) (er := e) (nb := b) (s := s) h0 (by omega)
    obtain ⟨⟨a1, a2⟩, a3⟩ := ord_adv (C := C) (s := s) h0 h1 (by omega)
    rw [mFlt_s, pFault_s, o1, o2]
    by_cases c : (pOrd C len s).2 = 0
    · rw [if_pos c, if_pos c]
    · have a4 := a3 c
      have h4 := pAt_spec C len (pOrd C len s).1.1
      rw [if_neg c, if_neg c]
      by_cases d : pAt C len (pOrd C len s).1.1 = 59
      · rw [if_pos d, if_pos d]
        exact fault_eq hl n m ((pOrd C len s).1.1 + 1, (pOrd C len s).1.2) _ _ _ (by show 0 ≤ (pOrd C len s).1.1 + 1; omega) (by show (pOrd C len s).1.1 + 1 ≤ len; omega) (by show 81 - ((pOrd C len s).1.1 + 1) ≤ _; omega) (by show 81 - ((pOrd C len s).1.1 + 1) ≤ _; omega)
      · rw [if_neg d, if_neg d]
        show mFin len (pOrd C len s).1.1 = pFin len (pOrd C len s).1.1
        unfold mFin pFin
        (repeat' split) <;> omega
