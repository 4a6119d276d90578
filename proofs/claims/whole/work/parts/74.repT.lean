/-! ===== a tick keeps encoder and row alike ===== -/
/-- the numbers of an encoder in the midst of a tick, against the model's -/
def RepN (G s B : Nat → Int) : Prop :=
  (B 0 = s 0 ∧ B 1 = s 1 ∧ B 2 = s 2 ∧ B 3 = s 3 ∧ B 4 = s 4) ∧ (B 6 = G 3 ∧ B 7 = G 4 ∧ B 8 = G 5 ∧ B 9 = G 9) ∧ (B 10 = G 10 ∧ B 11 = G 11 ∧ B 12 = G 12 ∧ B 13 = G 13) ∧ B 18 = (if G 9 = 0 then -6 else G 14) ∧ mPer B = (if G 15 ≤ 0 then -6 else G 15)
theorem mPer_of {A B : Nat → Int} (h19 : B 19 = A 19) (h20 : B 20 = A 20) (h9 : B 9 = A 9) (h18 : B 18 = A 18) : mPer B = mPer A := by
  unfold mPer
  rw [h19, h20, h9, h18]
theorem leftO_eq {x y b : Int} (h : x = y) : (x + b) % b = leftO y b := by
  subst h
  rfl
/-- behind the deed -/
theorem repN_deed {f s A : Nat → Int} {q i d : Int} (hN : RepN f s A) (h5 : A 5 = f 2) (hd : cDeed f s q = d) (h01 : 0 ≤ d ∧ d ≤ 3) (h9 : 0 ≤ f 9 ∧ f 9 ≤ 2) (h14 : 0 ≤ f 14 ∧ f 14 ≤ f 2 ∧ (f 9 = 0 ∨ f 14 < f 2)) :
    RepN (cTick1 f s q i) s (mT3 A q d) := by
  obtain ⟨⟨r0, r1, r2, r3, r4⟩, ⟨r6, r7, r8, r9⟩, ⟨r10, r11, r12, r13⟩, r18, rp⟩ := hN
  obtain ⟨t3, t9, t10, t11, t13, t14, t15, t8, t6, t7, t5, t12, t2, t4⟩ := cTick0_f f s q i
  unfold cTick1
  rw [hd]
  rw [hd] at t5 t12
  obtain rfl | rfl | rfl | rfl : d = 0 ∨ d = 1 ∨ d = 2 ∨ d = 3 := by omega
  · rw [if_neg (by omega), if_neg (by omega)]
    refine ⟨⟨r0, r1, r2, r3, r4⟩, ⟨?_, ?_, ?_, ?_⟩, ⟨?_, ?_, ?_, ?_⟩, ?_, ?_⟩
    · exact r6.trans t3.symm
    · exact r7.trans t4.symm
    · rw [t5, if_pos rfl]; exact r8
    · exact r9.trans t9.symm
    · exact r10.trans t10.symm
    · exact r11.trans t11.symm
    · rw [t12, if_neg (by omega)]
      show A 12 + 0 = f 12
      omega
    · exact r13.trans t13.symm
    · rw [t9, t14]; exact r18
    · rw [t15]
      exact (mPer_of rfl rfl rfl rfl).trans rp
  · obtain ⟨u2, u3, u4, u5, u6, u7, u8, u9, u10, u11, u12, u13, u14, u15⟩ := cStep_f (cTick0 f s q i) s 1
    rw [if_pos rfl]
    refine ⟨⟨r0, r1, r2, r3, r4⟩, ⟨?_, ?_, ?_, ?_⟩, ⟨?_, ?_, ?_, ?_⟩, ?_, ?_⟩
    · rw [u3, t3, if_pos rfl, ← r6, ← r1]; rfl
    · rw [u4, t4, if_pos rfl, ← r7, ← r0]; rfl
    · rw [u5, t5, if_neg (by omega)]; rfl
    · rw [u9]; rfl
    · rw [u10, if_pos rfl, t10, ← r10]; rfl
    · rw [u11, if_pos rfl, t11, ← r11]; rfl
    · rw [u12, t12, if_neg (by omega), ← r12]
      show A 12 + 0 = A 12
      omega
    · rw [u13, t13, ← r13]; rfl
    · rw [u9, u14, t2, if_neg (by omega)]; exact h5
    · have e : mPer (mT3 A q 1) = (if A 18 = -6 then -6 else if A 9 = 1 then A 5 - A 18 else -6) := rfl
      rw [e, u15, t9, t2, t14, r18, r9, h5]
      (repeat' split) <;> omega
  · obtain ⟨u2, u3, u4, u5, u6, u7, u8, u9, u10, u11, u12, u13, u14, u15⟩ := cStep_f (cTick0 f s q i) s 2
    rw [if_neg (by omega), if_pos rfl]
    refine ⟨⟨r0, r1, r2, r3, r4⟩, ⟨?_, ?_, ?_, ?_⟩, ⟨?_, ?_, ?_, ?_⟩, ?_, ?_⟩
    · rw [u3, t3, if_neg (by omega), ← r6, ← r1]; rfl
    · rw [u4, t4, if_neg (by omega), ← r7, ← r0]; rfl
    · rw [u5, t5, if_neg (by omega)]; rfl
    · rw [u9]; rfl
    · rw [u10, if_neg (by omega), t10, ← r10]; rfl
    · rw [u11, if_neg (by omega), t11, ← r11]; rfl
    · rw [u12, t12, if_neg (by omega), ← r12]
      show A 12 + 0 = A 12
      omega
    · rw [u13, t13, ← r13]; rfl
    · rw [u9, u14, t2, if_neg (by omega)]; exact h5
    · have e : mPer (mT3 A q 2) = (if A 18 = -6 then -6 else if A 9 = 2 then A 5 - A 18 else -6) := rfl
      rw [e, u15, t9, t2, t14, r18, r9, h5]
      (repeat' split) <;> omega
  · rw [if_neg (by omega), if_neg (by omega)]
    refine ⟨⟨r0, r1, r2, r3, r4⟩, ⟨?_, ?_, ?_, ?_⟩, ⟨?_, ?_, ?_, ?_⟩, ?_, ?_⟩
    · exact r6.trans t3.symm
    · exact r7.trans t4.symm
    · rw [t5, if_neg (by omega)]; rfl
    · exact r9.trans t9.symm
    · exact r10.trans t10.symm
    · exact r11.trans t11.symm
    · rw [t12, if_pos rfl, ← r12]; rfl
    · exact r13.trans t13.symm
    · rw [t9, t14]; exact r18
    · rw [t15]
      exact (mPer_of rfl rfl rfl rfl).trans rp
/-- behind the index -/
theorem repN_rise {G s B : Nat → Int} (hN : RepN G s B) : RepN (cMeet G s) s (mRise B) := by
  obtain ⟨⟨r0, r1, r2, r3, r4⟩, ⟨r6, r7, r8, r9⟩, ⟨r10, r11, r12, r13⟩, r18, rp⟩ := hN
  unfold cMeet mRise
  rw [r4]
  by_cases h1 : s 4 = 1
  · rw [if_pos h1, if_pos h1]
    by_cases h2 : G 4 = 0
    · rw [if_pos h2, if_pos (by omega)]
      refine ⟨⟨r0, r1, r2, r3, r4⟩, ⟨r6, h2.symm, r8, r9⟩, ⟨r10, r11, r12, ?_⟩, r18, (mPer_of rfl rfl rfl rfl).trans rp⟩
      show B 13 + 0 = G 13
      omega
    · rw [if_neg h2, if_neg (by omega)]
      refine ⟨⟨r0, r1, r2, r3, r4⟩, ⟨r6, rfl, r8, r9⟩, ⟨r10, r11, r12, ?_⟩, r18, (mPer_of rfl rfl rfl rfl).trans rp⟩
      show B 13 + 1 = G 13 + 1
      omega
  · rw [if_neg h1, if_neg h1]
    by_cases h2 : s 4 = 2
    · rw [if_pos h2, if_pos h2]
      exact ⟨⟨r0, r1, r2, r3, r4⟩, ⟨rfl, rfl, r8, r9⟩, ⟨r10, r11, r12, r13⟩, r18, (mPer_of rfl rfl rfl rfl).trans rp⟩
    · rw [if_neg h2, if_neg h2]
      exact ⟨⟨r0, r1, r2, r3, r4⟩, ⟨r6, r7, r8, r9⟩, ⟨r10, r11, r12, r13⟩, r18, rp⟩
theorem repE_N {E : Enc} {A : Nat → Int} (hR : RepE E A) : RepN E.1 E.2.1 A := by
  obtain ⟨r0, ⟨r5, r6, r7, r8, r9⟩, ⟨r10, r11, r12, r13, r14⟩, ⟨r15, r16, r17, r18⟩, rp, rl⟩ := hR
  exact ⟨r0, ⟨r6, r7, r8, r9⟩, ⟨r10, r11, r12, r13⟩, r18, rp⟩
theorem repE_of {E : Enc} {A : Nat → Int} (hN : RepN E.1 E.2.1 A) (r5 : A 5 = E.1 2) (r14 : A 14 = min (E.1 2) 200) (r15 : A 15 = E.1 6) (r16 : A 16 = E.1 8) (r17 : A 17 = E.1 7) (rl : ∀ j : Nat, (j : Int) < A 14 → A (21 + j) = rec1 (E.2.2 ((E.1 2 - 1 - (j : Int)) % 200).toNat)) : RepE E A := by
  obtain ⟨r0, ⟨r6, r7, r8, r9⟩, ⟨r10, r11, r12, r13⟩, r18, rp⟩ := hN
  exact ⟨r0, ⟨r5, r6, r7, r8, r9⟩, ⟨r10, r11, r12, r13, r14⟩, ⟨r15, r16, r17, r18⟩, rp, rl⟩
theorem repN_up {G s B : Nat → Int} {x : Int} (hN : RepN G s B) : RepN (updZ G 2 x) s B := hN
theorem mT7_N {G s A : Nat → Int} {q i d : Int} (hN : RepN G s (mT4 A q i d)) : RepN G s (mT7 A q i d) := by
  obtain ⟨⟨r0, r1, r2, r3, r4⟩, ⟨r6, r7, r8, r9⟩, ⟨r10, r11, r12, r13⟩, r18, rp⟩ := hN
  exact ⟨⟨r0, r1, r2, r3, r4⟩, ⟨r6, r7, r8, r9⟩, ⟨r10, r11, r12, r13⟩, r18, (mPer_of rfl rfl rfl rfl).trans rp⟩
theorem repN_congr {G s A B : Nat → Int} (hN : RepN G s A) (h : ∀ j, j < 21 → B j = A j) : RepN G s B := by
  obtain ⟨⟨r0, r1, r2, r3, r4⟩, ⟨r6, r7, r8, r9⟩, ⟨r10, r11, r12, r13⟩, r18, rp⟩ := hN
  exact ⟨⟨(h 0 (by omega)).trans r0, (h 1 (by omega)).trans r1, (h 2 (by omega)).trans r2, (h 3 (by omega)).trans r3, (h 4 (by omega)).trans r4⟩, ⟨(h 6 (by omega)).trans r6, (h 7 (by omega)).trans r7, (h 8 (by omega)).trans r8, (h 9 (by omega)).trans r9⟩, ⟨(h 10 (by omega)).trans r10, (h 11 (by omega)).trans r11, (h 12 (by omega)).trans r12, (h 13 (by omega)).trans r13⟩, (h 18 (by omega)).trans r18, (mPer_of (h 19 (by omega)) (h 20 (by omega)) (h 9 (by omega)) (h 18 (by omega))).trans rp⟩
theorem rec1_put {q i d : Int} (hq : 0 ≤ q ∧ q ≤ 3) (hi : 0 ≤ i ∧ i ≤ 1) (hd : 0 ≤ d ∧ d ≤ 3) : rec1 (q + 4 * i + 8 * d) = 8 * q + 4 * i + d := by
  unfold rec1
  omega
theorem tick_rep {E : Enc} {A : Nat → Int} {q i : Int} (hR : RepE E A) (hI : InvE E) (hM : InvM A) (hq : 0 ≤ q ∧ q ≤ 3) (hi : 0 ≤ i ∧ i ≤ 1) (ht : E.1 2 < 99999) : RepE (cTick E q i) (mTick A q i) := by
  have hN := repE_N hR
  have hde := deed_eq hR hI hq
  have hd := cDeed_in E.1 E.2.1 q
  have h9 : 0 ≤ E.1 9 ∧ E.1 9 ≤ 2 := hI.2.2.2.2.2.2.2.1
  have h14 := hI.2.2.2.2.2.2.2.2.2.2.1
  have h2 : 0 ≤ E.1 2 ∧ E.1 2 ≤ 99999 := hI.1
  have h8 : 0 ≤ E.1 8 ∧ E.1 8 ≤ E.1 2 := hI.2.2.2.2.2.2.1
  obtain ⟨_, ⟨r5, _⟩, ⟨_, _, _, _, r14⟩, ⟨r15, r16, r17, _⟩, _, rl⟩ := id hR
  obtain ⟨-, e7, e7'⟩ := mT7_in (i := i) (d := mDeed A q) (invM_iff.mp hM).1 hq hi (mDeed_in A q) (by omega)
  obtain ⟨-, m5, m14, m15, m16, m17⟩ := mT4_in (i := i) (d := mDeed A q) (invM_iff.mp hM).1 hq (mDeed_in A q)
  have m317 : mT3 A q (mDeed A q) 17 = A 17 := (mT3_same (mDeed_in A q)).2.2.2.2.2
  have n1 : RepN (cTick1 E.1 E.2.1 q i) E.2.1 (mT3 A q (mDeed A q)) := repN_deed hN r5 hde.symm (mDeed_in A q) h9 h14
  have n2 : RepN (cTick2 E.1 E.2.1 q i) E.2.1 (mT4 A q i (mDeed A q)) := by
    unfold cTick2 mT4
    by_cases c1 : i = 1
    · rw [if_pos c1, if_pos c1, m317, r17]
      by_cases c2 : E.1 7 = 0
      · rw [if_pos c2, if_pos c2]; exact repN_rise n1
      · rw [if_neg c2, if_neg c2]; exact n1
    · rw [if_neg c1, if_neg c1]; exact n1
  obtain ⟨_, _, _, _, _, _, _, t8, t6, t7, _, _, _, _⟩ := cTick0_f E.1 E.2.1 q i
  have u1 : cTick1 E.1 E.2.1 q i 6 = q ∧ cTick1 E.1 E.2.1 q i 7 = i ∧ cTick1 E.1 E.2.1 q i 8 = cRun E.1 q := by
    unfold cTick1
    have hst := fun w => cStep_f (cTick0 E.1 E.2.1 q i) E.2.1 w
    split
    · obtain ⟨_, _, _, _, u6, u7, u8, _⟩ := hst (cDeed E.1 E.2.1 q)
      exact ⟨u6.trans t6, u7.trans t7, u8.trans t8⟩
    · split
      · obtain ⟨_, _, _, _, u6, u7, u8, _⟩ := hst (cDeed E.1 E.2.1 q)
        exact ⟨u6.trans t6, u7.trans t7, u8.trans t8⟩
      · exact ⟨t6, t7, t8⟩
  have u2 : cTick2 E.1 E.2.1 q i 6 = q ∧ cTick2 E.1 E.2.1 q i 7 = i ∧ cTick2 E.1 E.2.1 q i 8 = cRun E.1 q := by
    unfold cTick2
    obtain ⟨_, _, m6, m7, m8, _⟩ := cMeet_f (cTick1 E.1 E.2.1 q i) E.2.1
    split
    · split
      · exact ⟨m6.trans u1.1, m7.trans u1.2.1, m8.trans u1.2.2⟩
      · exact u1
    · exact u1
  have l14 : mTick A q i 14 = (if A 14 < 200 then A 14 + 1 else A 14) := (mTick_low (by omega)).trans e7'
  refine repE_of ?_ ?_ ?_ ?_ ?_ ?_ ?_
  · exact repN_congr (mT7_N (repN_up n2)) fun j hj => mTick_low hj
  · rw [mTick_low (by omega), e7, r5]; rfl
  · rw [l14]
    show _ = min (E.1 2 + 1) 200
    split <;> omega
  · rw [mTick_low (by omega)]
    exact u2.1.symm
  · rw [mTick_low (by omega)]
    show (if q = mT4 A q i (mDeed A q) 15 then (if 0 < mT4 A q i (mDeed A q) 5 then mT4 A q i (mDeed A q) 16 + 1 else 1) else 1) = cTick2 E.1 E.2.1 q i 8
    rw [m15, m5, m16, u2.2.2, r15, r16, r5]
    unfold cRun
    (repeat' split) <;> omega
  · rw [mTick_low (by omega)]
    exact u2.2.1.symm
  · intro j hj
    rw [l14] at hj
    show _ = rec1 (updZ E.2.2 (Int.toNat (E.1 2 % 200)) (q + 4 * i + 8 * cDeed E.1 E.2.1 q) ((E.1 2 + 1 - 1 - (j : Int)) % 200).toNat)
    unfold mTick
    by_cases c : j = 0
    · subst c
      rw [updZ_eq, show ((E.1 2 + 1 - 1 - ((0 : Nat) : Int)) % 200).toNat = Int.toNat (E.1 2 % 200) by omega, updZ_eq, rec1_put hq hi hd, hde]
    · have hj2 : (j : Int) < 200 := by
        split at hj <;> omega
      rw [updZ_ne _ _ (show 21 + j ≠ 21 by omega), updZ_ne _ _ (show ((E.1 2 + 1 - 1 - (j : Int)) % 200).toNat ≠ Int.toNat (E.1 2 % 200) by omega)]
      unfold mSh
      rw [if_pos ⟨by omega, by rw [e7']; omega⟩, mT7_log (mDeed_in A q) (by omega), show 21 + j - 1 = 21 + (j - 1) by omega, rl (j - 1) (by split at hj <;> omega), show ((E.1 2 - 1 - ((j - 1 : Nat) : Int)) % 200).toNat = ((E.1 2 + 1 - 1 - (j : Int)) % 200).toNat by omega]
theorem ticks_rep {E : Enc} {A : Nat → Int} {q i : Int} (hR : RepE E A) (hI : InvE E) (hM : InvM A) (hq : 0 ≤ q ∧ q ≤ 3) (hi : 0 ≤ i ∧ i ≤ 1) : ∀ n : Nat, E.1 2 + n ≤ 99999 → RepE (cTicks E q i n) (mTicks A q i n)
  | 0, _ => hR
  | n + 1, h => by
    have r := ticks_rep hR hI hM hq hi n (by omega)
    obtain ⟨a, b, _⟩ := ticks_inv hI hq hi n (by omega)
    have m := (mTicks_inv hM hq hi n (by have : A 5 = E.1 2 := hR.2.1.1; omega)).1
    exact tick_rep r a m hq hi (by omega)
theorem steps_eq {E : Enc} {A : Nat → Int} {q i : Int} (hR : RepE E A) (hI : InvE E) (hM : InvM A) (hq : 0 ≤ q ∧ q ≤ 3) (hi : 0 ≤ i ∧ i ≤ 1) : ∀ n : Nat, E.1 2 + n ≤ 99999 → mCnt A q i n = cSteps E q i n
  | 0, _ => rfl
  | n + 1, h => by
    have r := ticks_rep hR hI hM hq hi n (by omega)
    obtain ⟨a, b, _⟩ := ticks_inv hI hq hi n (by omega)
    have e := steps_eq hR hI hM hq hi n (by omega)
    have d := deed_eq r a hq
    show mCnt A q i n + mStp (mDeed (mTicks A q i n) q) = if cDeed (cTicks E q i n).1 (cTicks E q i n).2.1 q = 1 then cSteps E q i n + 1 else if cDeed (cTicks E q i n).1 (cTicks E q i n).2.1 q = 2 then cSteps E q i n + 1 else cSteps E q i n
    rw [e, d]
    unfold mStp
    (repeat' split) <;> omega
