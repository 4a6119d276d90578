/-! ===== set, feed, turn, zero, replay keep encoder and row alike, and answer alike ===== -/
theorem adj_ok (x y : Int) : (cAdjOk x y = 0 ∧ ¬ mIsSet x y = 0) ∨ (cAdjOk x y = -2 ∧ mIsSet x y = 0) := by
  by_cases hx : 0 ≤ x ∧ x < 5
  · obtain rfl | rfl | rfl | rfl | rfl : x = 0 ∨ x = 1 ∨ x = 2 ∨ x = 3 ∨ x = 4 := by omega
    · have e1 : cAdjOk 0 y = if 4 ≤ y ∧ y ≤ 400 then (if y % 4 = 0 then 0 else -2) else -2 := rfl
      have e2 : mIsSet 0 y = if mIn y 4 400 = 0 then 0 else if y % 4 = 0 then 1 else 0 := rfl
      have h := mIn_spec y 4 400
      rw [e1, e2]
      (repeat' split) <;> omega
    · have e1 : cAdjOk 1 y = if 10 ≤ y ∧ y ≤ 9999 then 0 else -2 := rfl
      have e2 : mIsSet 1 y = mIn y 10 9999 := rfl
      have h := mIn_spec y 10 9999
      rw [e1, e2]
      (repeat' split) <;> omega
    · have e1 : cAdjOk 2 y = if 1 ≤ y ∧ y ≤ 9 then 0 else -2 := rfl
      have e2 : mIsSet 2 y = mIn y 1 9 := rfl
      have h := mIn_spec y 1 9
      rw [e1, e2]
      (repeat' split) <;> omega
    · have e1 : cAdjOk 3 y = if 1 ≤ y ∧ y ≤ 99 then 0 else -2 := rfl
      have e2 : mIsSet 3 y = mIn y 1 99 := rfl
      have h := mIn_spec y 1 99
      rw [e1, e2]
      (repeat' split) <;> omega
    · have e1 : cAdjOk 4 y = if 0 ≤ y ∧ y ≤ 2 then 0 else -2 := rfl
      have e2 : mIsSet 4 y = if mIn y 0 2 = 0 then 0 else 1 := rfl
      have h := mIn_spec y 0 2
      rw [e1, e2]
      (repeat' split) <;> omega
  · have h := mIsSet_spec x y
    refine Or.inr ⟨?_, by omega⟩
    unfold cAdjOk
    rw [if_neg hx]
theorem leftO_mod (x y : Int) : leftO x y = x % y := by
  unfold leftO
  first | rw [Int.add_emod_right] | rw [Int.add_emod_self]
theorem set_log {A : Nat → Int} {k : Nat} {x u v : Int} {j : Nat} (hk : k < 5) : updZ (updZ (updZ A k x) 7 u) 6 v (21 + j) = A (21 + j) := by
  rw [updZ_ne _ _ (by omega), updZ_ne _ _ (by omega), updZ_ne _ _ (by omega)]
theorem adj_rep {E : Enc} {A : Nat → Int} {x y : Int} (hR : RepE E A) (hI : InvE E) : RepE (cAdjE E x y) (mSetA A x y) ∧ mSetR A x y = cAdjR E x y := by
  rcases adj_ok x y with ⟨h1, h2⟩ | ⟨h1, h2⟩
  · have hs := mIsSet_spec x y
    have h3 : 0 ≤ E.1 3 ∧ E.1 3 < E.2.1 1 := hI.2.1
    have h4 : 0 ≤ E.1 4 ∧ E.1 4 < E.2.1 0 := hI.2.2.1
    obtain ⟨⟨r0, r1, r2, r3, r4⟩, ⟨r5, r6, r7, r8, r9⟩, ⟨r10, r11, r12, r13, r14⟩, ⟨r15, r16, r17, r18⟩, rp, rl⟩ := hR
    have e6 : A 6 % A 1 = E.1 3 := by rw [r6, r1]; exact Int.emod_eq_of_lt h3.1 h3.2
    have e7 : A 7 % A 0 = E.1 4 := by rw [r7, r0]; exact Int.emod_eq_of_lt h4.1 h4.2
    unfold cAdjE mSetA mSetR cAdjR
    rw [if_pos h1, if_neg h2, if_neg h2, if_pos h1]
    obtain rfl | rfl | rfl | rfl | rfl : x = 0 ∨ x = 1 ∨ x = 2 ∨ x = 3 ∨ x = 4 := by omega
    · refine ⟨repE_of ⟨⟨rfl, r1, r2, r3, r4⟩, ⟨e6, ?_, r8, r9⟩, ⟨r10, r11, r12, r13⟩, r18, (mPer_of rfl rfl rfl rfl).trans rp⟩ r5 r14 r15 r16 r17 (fun j hj => (set_log (by decide)).trans (rl j hj)), r0⟩
      show A 7 % y = leftO (E.1 4) y
      rw [leftO_mod, r7]
    · refine ⟨repE_of ⟨⟨r0, rfl, r2, r3, r4⟩, ⟨?_, e7, r8, r9⟩, ⟨r10, r11, r12, r13⟩, r18, (mPer_of rfl rfl rfl rfl).trans rp⟩ r5 r14 r15 r16 r17 (fun j hj => (set_log (by decide)).trans (rl j hj)), r1⟩
      show A 6 % y = leftO (E.1 3) y
      rw [leftO_mod, r6]
    · exact ⟨repE_of ⟨⟨r0, r1, rfl, r3, r4⟩, ⟨e6, e7, r8, r9⟩, ⟨r10, r11, r12, r13⟩, r18, (mPer_of rfl rfl rfl rfl).trans rp⟩ r5 r14 r15 r16 r17 (fun j hj => (set_log (by decide)).trans (rl j hj)), r2⟩
    · exact ⟨repE_of ⟨⟨r0, r1, r2, rfl, r4⟩, ⟨e6, e7, r8, r9⟩, ⟨r10, r11, r12, r13⟩, r18, (mPer_of rfl rfl rfl rfl).trans rp⟩ r5 r14 r15 r16 r17 (fun j hj => (set_log (by decide)).trans (rl j hj)), r3⟩
    · exact ⟨repE_of ⟨⟨r0, r1, r2, r3, rfl⟩, ⟨e6, e7, r8, r9⟩, ⟨r10, r11, r12, r13⟩, r18, (mPer_of rfl rfl rfl rfl).trans rp⟩ r5 r14 r15 r16 r17 (fun j hj => (set_log (by decide)).trans (rl j hj)), r4⟩
  · unfold cAdjE mSetA mSetR cAdjR
    rw [if_neg (by omega), if_pos h2, if_pos h2, if_neg (by omega)]
    exact ⟨hR, rfl⟩
theorem feed_ok {E : Enc} {A : Nat → Int} (h5 : A 5 = E.1 2) (q i n : Int) : mFeedOk A q i n = cPassOk E q i n := by
  have h1 := mIn_spec q 0 3
  have h2 := mIn_spec i 0 1
  have h3 := mIn_spec n 1 99
  unfold mFeedOk cPassOk
  rw [h5]
  (repeat' split) <;> omega
theorem pass_ok {E : Enc} {q i n : Int} (h : cPassOk E q i n = 0) : (0 ≤ q ∧ q ≤ 3) ∧ (0 ≤ i ∧ i ≤ 1) ∧ (1 ≤ n ∧ n ≤ 99) ∧ E.1 2 + n ≤ 99999 := by
  unfold cPassOk at h
  split at h
  · split at h
    · omega
    · omega
  · omega
theorem pass_rep {E : Enc} {A : Nat → Int} {q i n : Int} (hR : RepE E A) (hI : InvE E) (hM : InvM A) : RepE (cPassE E q i n) (mFeedA A q i n) ∧ mFeedR A q i n = cPassR E q i n := by
  have hok := feed_ok (E := E) (A := A) hR.2.1.1 q i n
  unfold cPassE mFeedA mFeedR cPassR
  rw [hok]
  by_cases h : cPassOk E q i n = 0
  · obtain ⟨a, b, d, e⟩ := pass_ok h
    rw [if_pos h, if_pos h, if_pos h, if_pos h]
    exact ⟨ticks_rep hR hI hM a b n.toNat (by omega), steps_eq hR hI hM a b n.toNat (by omega)⟩
  · rw [if_neg h, if_neg h, if_neg h, if_neg h]
    exact ⟨hR, rfl⟩
theorem many_eq (x : Int) : mMany x = absZ x := by
  unfold mMany absZ
  (repeat' split) <;> omega
theorem turn_ok {E : Enc} {A : Nat → Int} (h5 : A 5 = E.1 2) (h2 : A 2 = E.2.1 2) (x : Int) : mTurnOk A x = cRevOk E x := by
  have h := mIn_spec x (-99) 99
  unfold mTurnOk cRevOk
  rw [h5, h2, many_eq]
  (repeat' split) <;> omega
theorem turns_rep {E : Enc} {A : Nat → Int} {w v : Int} (hR : RepE E A) (hI : InvE E) (hM : InvM A) (hw : (w = 1 ∧ v = 1) ∨ (w = -1 ∧ v = 3)) : ∀ k : Nat, (k : Int) * E.2.1 2 ≤ 99999 - E.1 2 → RepE (cTurns (E.2.1 2).toNat w E k) (mTurns A v k)
  | 0, _ => hR
  | k + 1, h => by
    have a2 : 1 ≤ E.2.1 2 ∧ E.2.1 2 ≤ 9 := hI.2.2.2.2.2.2.2.2.2.2.2.2.2.2.1
    have r2 : A 2 = E.2.1 2 := hR.1.2.2.1
    have r5 : A 5 = E.1 2 := hR.2.1.1
    have e : ((k + 1 : Nat) : Int) * E.2.1 2 = (k : Int) * E.2.1 2 + E.2.1 2 := by
      rw [show ((k + 1 : Nat) : Int) = (k : Int) + 1 from rfl, Int.add_mul, Int.one_mul]
    rw [e] at h
    have en : ((E.2.1 2).toNat : Int) = E.2.1 2 := by omega
    have r := turns_rep hR hI hM hw k (by omega)
    obtain ⟨a, b, d⟩ := turns_inv (w := w) (F := (E.2.1 2).toNat) hI k (by rw [en]; omega)
    rw [en] at b
    have m := (mTurns_inv (w := v) hM k (by rw [r2, r5]; omega)).1
    have m8 : mTurns A v k 8 = (cTurns (E.2.1 2).toNat w E k).1 5 := r.2.1.2.2.2.1
    have c5 : 0 ≤ (cTurns (E.2.1 2).toNat w E k).1 5 ∧ (cTurns (E.2.1 2).toNat w E k).1 5 ≤ 3 := a.2.2.2.1
    have ep : mOrd ((mOrd (mTurns A v k 8) + v) % 4) = cPair (cTurns (E.2.1 2).toNat w E k) w := by
      unfold cPair
      rw [m8, ord_eq c5]
      have o := ordP_in c5
      rw [show (ordP ((cTurns (E.2.1 2).toNat w E k).1 5) + v) % 4 = (ordP ((cTurns (E.2.1 2).toNat w E k).1 5) + w) % 4 by omega]
      exact ord_eq (by omega)
    show RepE (cTicks (cTurns (E.2.1 2).toNat w E k) (cPair (cTurns (E.2.1 2).toNat w E k) w) 0 (E.2.1 2).toNat) (mTicks (mTurns A v k) (mOrd ((mOrd (mTurns A v k 8) + v) % 4)) 0 (A 2).toNat)
    rw [ep, r2]
    exact ticks_rep r a m (pair_in w) (by omega) _ (by omega)
theorem rev_rep {E : Enc} {A : Nat → Int} {x : Int} (hR : RepE E A) (hI : InvE E) (hM : InvM A) : RepE (cRevE E x) (mTurnA A x) ∧ mTurnR A x = cRevR E x := by
  have hok := turn_ok (E := E) (A := A) hR.2.1.1 hR.1.2.2.1 x
  unfold cRevR mTurnR
  unfold cRevE mTurnA
  rw [hok]
  by_cases h : cRevOk E x = 0
  · rw [if_pos h, if_pos h, if_pos h, if_pos h]
    have h0 : 0 ≤ absZ x := by unfold absZ; split <;> omega
    have hb : absZ x * E.2.1 2 ≤ 99999 - E.1 2 ∧ ¬ x = 0 := by
      unfold cRevOk at h
      split at h
      · omega
      · split at h
        · omega
        · omega
    have hw : ((if 0 < x then (1 : Int) else -1) = 1 ∧ mWay x = 1) ∨ ((if 0 < x then (1 : Int) else -1) = -1 ∧ mWay x = 3) := by
      unfold mWay
      (repeat' split) <;> omega
    have r := turns_rep hR hI hM hw (absZ x).toNat (by rw [Int.toNat_of_nonneg h0]; exact hb.1)
    rw [many_eq]
    exact ⟨r, r.2.1.2.1⟩
  · rw [if_neg h, if_neg h, if_neg h, if_neg h]
    exact ⟨hR, rfl⟩
theorem zero_rep {E : Enc} {A : Nat → Int} (hR : RepE E A) : RepE (cClear E) (updZ (updZ A 6 0) 7 0) := by
  obtain ⟨⟨r0, r1, r2, r3, r4⟩, ⟨r5, r6, r7, r8, r9⟩, ⟨r10, r11, r12, r13, r14⟩, ⟨r15, r16, r17, r18⟩, rp, rl⟩ := hR
  refine repE_of ⟨⟨r0, r1, r2, r3, r4⟩, ⟨rfl, rfl, r8, r9⟩, ⟨r10, r11, r12, r13⟩, r18, (mPer_of rfl rfl rfl rfl).trans rp⟩ r5 r14 r15 r16 r17 (fun j hj => ?_)
  rw [updZ_ne _ _ (by omega), updZ_ne _ _ (by omega)]
  exact rl j hj
theorem fresh_rep {E : Enc} {A : Nat → Int} {g : Nat → Int} {F : Int} (hR : RepE E A) : RepE ((fun _ => 0), updZ E.2.1 2 F, g) (updZ (mFresh A) 2 F) := by
  obtain ⟨⟨r0, r1, r2, r3, r4⟩, _⟩ := hR
  refine repE_of ⟨⟨r0, r1, rfl, r3, r4⟩, ⟨rfl, rfl, rfl, rfl⟩, ⟨rfl, rfl, rfl, rfl⟩, rfl, rfl⟩ rfl rfl rfl rfl rfl (fun j hj => ?_)
  exact absurd hj (by show ¬ (j : Int) < 0; omega)
theorem rec1_8 {x : Int} (h : 0 ≤ x ∧ x ≤ 31) : rec1 x / 8 = x % 4 := by
  unfold rec1
  omega
theorem rec1_4 {x : Int} (h : 0 ≤ x ∧ x ≤ 31) : rec1 x / 4 % 2 = x / 2 ^ 2 % 2 := by
  have e : (2 : Int) ^ 2 = 4 := by decide
  have key : ∀ a b g : Int, 0 ≤ g → g ≤ 3 → (b = 0 ∨ b = 1) → (8 * a + 4 * b + g) / 4 % 2 = b := by
    intro a b g h0 h1 h2
    rcases h2 with rfl | rfl
    · omega
    · omega
  rw [e]
  unfold rec1
  exact key _ _ _ (by omega) (by omega) (by omega)
theorem rec1_1 {x : Int} (h : 0 ≤ x ∧ x ≤ 31) : rec1 x % 4 = x / 2 ^ 3 := by
  unfold rec1
  omega
/-- the entry of the class's log, and the model's -/
theorem ent_eq {E : Enc} {A : Nat → Int} (hR : RepE E A) {j : Nat} (hj : (j : Int) < min (E.1 2) 200) : A (21 + j) = rec1 (cEnt E.1 E.2.2 j) := by
  have r14 : A 14 = min (E.1 2) 200 := hR.2.2.1.2.2.2.2
  exact hR.2.2.2.2.2 j (by omega)
theorem cEnt_in {E : Enc} (hI : InvE E) (a : Int) : 0 ≤ cEnt E.1 E.2.2 a ∧ cEnt E.1 E.2.2 a ≤ 31 := invE_g hI _
theorem again_rep {E T : Enc} {A B : Nat → Int} (hR : RepE E A) (hI : InvE E) (hM : InvM A) (hT : RepE T B) (hTI : InvE T) (hBM : InvM B) (h0 : T.1 2 = 0) : ∀ n : Nat, (n : Int) ≤ min (E.1 2) 200 → RepE (cRep E T n) (mRep A B n)
  | 0, _ => hT
  | n + 1, h => by
    have r14 : A 14 = min (E.1 2) 200 := hR.2.2.1.2.2.2.2
    have b5 : B 5 = 0 := hT.2.1.1.trans h0
    have r := again_rep hR hI hM hT hTI hBM h0 n (by omega)
    obtain ⟨a, b, d⟩ := rep_inv hI hTI h0 n (by omega)
    have m := (mRep_inv hM hBM b5 n (by omega)).1
    have k : (((min (E.1 2) 200 - 1 - (n : Int)).toNat : Nat) : Int) = min (E.1 2) 200 - 1 - n := by omega
    have ee := ent_eq hR (j := (min (E.1 2) 200 - 1 - (n : Int)).toNat) (by omega)
    rw [k] at ee
    have ei := cEnt_in hI (min (E.1 2) 200 - 1 - n)
    show RepE (cTick (cRep E T n) (cEnt E.1 E.2.2 (min (E.1 2) 200 - 1 - n) % 4) (cEnt E.1 E.2.2 (min (E.1 2) 200 - 1 - n) / 2 ^ 2 % 2)) (mTick (mRep A B n) (A (21 + (A 14 - 1 - (n : Int)).toNat) / 8) (A (21 + (A 14 - 1 - (n : Int)).toNat) / 4 % 2))
    rw [r14, ee, rec1_8 ei, rec1_4 ei]
    exact tick_rep r a m (by omega) (by omega) (by omega)
theorem follow_rep {E T : Enc} {A : Nat → Int} {F : Int} (hR : RepE E A) (hI : InvE E) (hM : InvM A) (hF : 1 ≤ F ∧ F ≤ 9) (hg : ∀ j, 0 ≤ T.2.2 j ∧ T.2.2 j ≤ 31) : RepE (cFollow E T F) (mReA A F) := by
  have r14 : A 14 = min (E.1 2) 200 := hR.2.2.1.2.2.2.2
  have h2 : 0 ≤ E.1 2 ∧ E.1 2 ≤ 99999 := hI.1
  unfold cFollow mReA
  rw [r14]
  exact again_rep hR hI hM (fresh_rep hR) (fresh_inv hI hF hg) (mFresh_inv hM hF).1 rfl _ (by omega)
theorem re_eq {E T : Enc} {A : Nat → Int} {F w : Int} (hR : RepE E A) (hI : InvE E) (hM : InvM A) (hF : 1 ≤ F ∧ F ≤ 9) (hg : ∀ j, 0 ≤ T.2.2 j ∧ T.2.2 j ≤ 31) (hw : 0 ≤ w ∧ w ≤ 3) : mReR A F w = if w = 0 then (cFollow E T F).1 10 else if w = 1 then (cFollow E T F).1 11 else if w = 2 then (cFollow E T F).1 12 else (cFollow E T F).1 3 := by
  obtain ⟨_, ⟨_, r6, _⟩, ⟨r10, r11, r12, _, _⟩, _⟩ := follow_rep hR hI hM hF hg
  obtain rfl | rfl | rfl | rfl : w = 0 ∨ w = 1 ∨ w = 2 ∨ w = 3 := by omega
  · exact r10
  · exact r11
  · exact r12
  · exact r6
theorem replay_eq {E T : Enc} {A : Nat → Int} {x w : Int} (hR : RepE E A) (hI : InvE E) (hM : InvM A) (hg : ∀ j, 0 ≤ T.2.2 j ∧ T.2.2 j ≤ 31) : mReplayR A x w = cReplayR E T x w := by
  have h1 := mIn_spec x 1 9
  have h2 := mIn_spec w 0 3
  have hk : (cReplayOk x w = 0 ∧ (1 ≤ x ∧ x ≤ 9) ∧ (0 ≤ w ∧ w ≤ 3)) ∨ (¬ cReplayOk x w = 0 ∧ (mIn x 1 9 = 0 ∨ mIn w 0 3 = 0)) := by
    unfold cReplayOk
    (repeat' split) <;> omega
  unfold mReplayR cReplayR
  rcases hk with ⟨k, a, b⟩ | ⟨k, a⟩
  · rw [if_neg (by omega), if_neg (by omega), if_pos k]
    exact re_eq hR hI hM a hg b
  · rw [if_neg k]
    (repeat' split) <;> omega
theorem replayT_g {E T : Enc} {x w : Int} (hI : InvE E) (hg : ∀ j, 0 ≤ T.2.2 j ∧ T.2.2 j ≤ 31) : ∀ j, 0 ≤ (cReplayT E T x w).2.2 j ∧ (cReplayT E T x w).2.2 j ≤ 31 := by
  unfold cReplayT
  split
  · rename_i k
    unfold cReplayOk at k
    have hx : 1 ≤ x ∧ x ≤ 9 := by
      (repeat' split at k) <;> omega
    exact invE_g (follow_inv hI hx hg)
  · exact hg
theorem best_eq {E T : Enc} {A : Nat → Int} (hR : RepE E A) (hI : InvE E) (hM : InvM A) (hg : ∀ j, 0 ≤ T.2.2 j ∧ T.2.2 j ≤ 31) : ∀ n : Nat, n ≤ 8 → (cBest E T (n + 1)).2 = mBest A n
  | 0, _ => by
    have e : mReR A 1 2 = (cFollow E T 1).1 12 := re_eq hR hI hM (by omega) hg (by omega)
    show (if (0 : Int) = 0 then (cFollow E T ((0 : Nat) + 1), ((0 : Nat) : Int) + 1, (cFollow E T ((0 : Nat) + 1)).1 12) else _).2 = (1, mReR A 1 2)
    rw [if_pos rfl, e]
    rfl
  | n + 1, h => by
    have b := best_eq hR hI hM hg n (by omega)
    have g := (best_in hI hg (n + 1) (by omega)).1
    have mb := mBest_in hM n (by omega)
    have e : mReR A ((n : Int) + 2) 2 = (cFollow E (cBest E T (n + 1)).1 ((n : Int) + 2)).1 12 := re_eq hR hI hM (by omega) g (by omega)
    have e2 : (((n + 1 : Nat) : Int) + 1) = (n : Int) + 2 := by omega
    rw [cBest_s, mBest_s, e2, b, e, if_neg (by omega)]
    by_cases c : (cFollow E (cBest E T (n + 1)).1 ((n : Int) + 2)).1 12 < (mBest A n).2
    · rw [if_pos c, if_pos c, if_pos c]
    · rw [if_neg c, if_neg c, if_neg c]
theorem bestR_eq {E T : Enc} {A : Nat → Int} {w : Int} (hR : RepE E A) (hI : InvE E) (hM : InvM A) (hg : ∀ j, 0 ≤ T.2.2 j ∧ T.2.2 j ≤ 31) : mBestR A w = cBestR E T w := by
  have h := mIn_spec w 0 1
  have b := best_eq hR hI hM hg 8 (by omega)
  unfold mBestR cBestR
  rw [show (9 : Nat) = 8 + 1 from rfl, b]
  (repeat' split) <;> omega
theorem bestT_g {E T : Enc} {w : Int} (hI : InvE E) (hg : ∀ j, 0 ≤ T.2.2 j ∧ T.2.2 j ≤ 31) : ∀ j, 0 ≤ (cBestT E T w).2.2 j ∧ (cBestT E T w).2.2 j ≤ 31 := by
  have b := (best_in hI hg 9 (by omega)).1
  unfold cBestT
  split
  · exact b
  · split
    · exact b
    · exact hg
