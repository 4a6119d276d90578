/-! ===== what is true of every encoder stays true ===== -/
theorem cTick0_f (f s : Nat → Int) (p i : Int) : cTick0 f s p i 3 = f 3 ∧ cTick0 f s p i 9 = f 9 ∧ cTick0 f s p i 10 = f 10 ∧ cTick0 f s p i 11 = f 11 ∧ cTick0 f s p i 13 = f 13 ∧ cTick0 f s p i 14 = f 14 ∧ cTick0 f s p i 15 = f 15 ∧ cTick0 f s p i 8 = cRun f p ∧ cTick0 f s p i 6 = p ∧ cTick0 f s p i 7 = i ∧ cTick0 f s p i 5 = (if cDeed f s p = 0 then f 5 else p) ∧ cTick0 f s p i 12 = (if cDeed f s p = 3 then f 12 + 1 else f 12) ∧ cTick0 f s p i 2 = f 2 ∧ cTick0 f s p i 4 = f 4 := by
  unfold cTick0
  split
  · refine ⟨rfl, rfl, rfl, rfl, rfl, rfl, rfl, rfl, rfl, rfl, rfl, ?_, rfl, rfl⟩
    rw [if_neg (by omega)]; rfl
  · split
    · exact ⟨rfl, rfl, rfl, rfl, rfl, rfl, rfl, rfl, rfl, rfl, rfl, rfl, rfl, rfl⟩
    · exact ⟨rfl, rfl, rfl, rfl, rfl, rfl, rfl, rfl, rfl, rfl, rfl, rfl, rfl, rfl⟩
theorem cStep_f (f s : Nat → Int) (w : Int) : cStep f s w 2 = f 2 ∧ cStep f s w 3 = leftO (f 3 + (if w = 1 then 1 else -1)) (s 1) ∧ cStep f s w 4 = leftO (f 4 + (if w = 1 then 1 else -1)) (s 0) ∧ cStep f s w 5 = f 5 ∧ cStep f s w 6 = f 6 ∧ cStep f s w 7 = f 7 ∧ cStep f s w 8 = f 8 ∧ cStep f s w 9 = w ∧ cStep f s w 10 = (if w = 1 then f 10 + 1 else f 10) ∧ cStep f s w 11 = (if w = 1 then f 11 else f 11 + 1) ∧ cStep f s w 12 = f 12 ∧ cStep f s w 13 = f 13 ∧ cStep f s w 14 = f 2 ∧ cStep f s w 15 = (if w = f 9 then f 2 - f 14 else 0) := by
  unfold cStep
  refine ⟨?_, ?_, ?_, ?_, ?_, ?_, ?_, ?_, ?_, ?_, ?_, ?_, ?_, ?_⟩
  all_goals first | rfl | (split <;> rfl)
theorem cMeet_f (f s : Nat → Int) : cMeet f s 2 = f 2 ∧ cMeet f s 5 = f 5 ∧ cMeet f s 6 = f 6 ∧ cMeet f s 7 = f 7 ∧ cMeet f s 8 = f 8 ∧ cMeet f s 9 = f 9 ∧ cMeet f s 10 = f 10 ∧ cMeet f s 11 = f 11 ∧ cMeet f s 12 = f 12 ∧ cMeet f s 14 = f 14 ∧ cMeet f s 15 = f 15 ∧ (cMeet f s 3 = f 3 ∨ cMeet f s 3 = 0) ∧ (cMeet f s 4 = f 4 ∨ cMeet f s 4 = 0) ∧ (cMeet f s 13 = f 13 ∨ cMeet f s 13 = f 13 + 1) := by
  unfold cMeet
  repeat' split
  · exact ⟨rfl, rfl, rfl, rfl, rfl, rfl, rfl, rfl, rfl, rfl, rfl, Or.inl rfl, Or.inl rfl, Or.inl rfl⟩
  · exact ⟨rfl, rfl, rfl, rfl, rfl, rfl, rfl, rfl, rfl, rfl, rfl, Or.inl rfl, Or.inr rfl, Or.inr rfl⟩
  · exact ⟨rfl, rfl, rfl, rfl, rfl, rfl, rfl, rfl, rfl, rfl, rfl, Or.inr rfl, Or.inr rfl, Or.inl rfl⟩
  · exact ⟨rfl, rfl, rfl, rfl, rfl, rfl, rfl, rfl, rfl, rfl, rfl, Or.inl rfl, Or.inl rfl, Or.inl rfl⟩
/-- the numbers behind the deed of a tick -/
theorem cTick1_inv {f s : Nat → Int} {p i : Int} (hp : 0 ≤ p ∧ p ≤ 3) (hi : 0 ≤ i ∧ i ≤ 1)
    (h2 : 0 ≤ f 2 ∧ f 2 ≤ 99999) (h3 : 0 ≤ f 3 ∧ f 3 < s 1) (h4 : 0 ≤ f 4 ∧ f 4 < s 0) (h5 : 0 ≤ f 5 ∧ f 5 ≤ 3) (h8 : 0 ≤ f 8 ∧ f 8 ≤ f 2) (h9 : 0 ≤ f 9 ∧ f 9 ≤ 2)
    (h10 : 0 ≤ f 10 ∧ 0 ≤ f 11 ∧ 0 ≤ f 12 ∧ f 10 + f 11 + f 12 ≤ f 2) (h13 : 0 ≤ f 13 ∧ f 13 ≤ f 2) (h14 : 0 ≤ f 14 ∧ f 14 ≤ f 2 ∧ (f 9 = 0 ∨ f 14 < f 2)) (h15 : 0 ≤ f 15 ∧ f 15 ≤ f 2) (hs0 : 4 ≤ s 0 ∧ s 0 ≤ 400) (hs1 : 10 ≤ s 1 ∧ s 1 ≤ 9999) :
    ∀ F, F = cTick1 f s p i → F 2 = f 2 ∧ (0 ≤ F 3 ∧ F 3 < s 1) ∧ (0 ≤ F 4 ∧ F 4 < s 0) ∧ (0 ≤ F 5 ∧ F 5 ≤ 3) ∧ F 6 = p ∧ F 7 = i ∧ (0 ≤ F 8 ∧ F 8 ≤ f 2 + 1) ∧ (0 ≤ F 9 ∧ F 9 ≤ 2) ∧
      (0 ≤ F 10 ∧ 0 ≤ F 11 ∧ 0 ≤ F 12 ∧ F 10 + F 11 + F 12 ≤ f 2 + 1) ∧ F 13 = f 13 ∧ (0 ≤ F 14 ∧ F 14 ≤ f 2) ∧ (0 ≤ F 15 ∧ F 15 ≤ f 2) := by
  intro F hF
  obtain ⟨t3, t9, t10, t11, t13, t14, t15, t8, t6, t7, t5, t12, t2, t4⟩ := cTick0_f f s p i
  have hd := cDeed_in f s p
  have hr : 0 ≤ cRun f p ∧ cRun f p ≤ f 2 + 1 := by
    unfold cRun
    split <;> omega
  unfold cTick1 at hF
  generalize cTick0 f s p i = g at *
  generalize cDeed f s p = d at *
  split at hF
  · obtain ⟨u2, u3, u4, u5, u6, u7, u8, u9, u10, u11, u12, u13, u14, u15⟩ := cStep_f g s d
    rw [← hF] at u2 u3 u4 u5 u6 u7 u8 u9 u10 u11 u12 u13 u14 u15
    have l3 := leftO_in (x := g 3 + (if d = 1 then 1 else -1)) (b := s 1) (by omega)
    have l4 := leftO_in (x := g 4 + (if d = 1 then 1 else -1)) (b := s 0) (by omega)
    rw [← u3] at l3
    rw [← u4] at l4
    have e5 : F 5 = p := by rw [u5, t5, if_neg (by omega)]
    have e12 : F 12 = f 12 := by rw [u12, t12, if_neg (by omega)]
    have e10 : F 10 = f 10 + 1 := by rw [u10, if_pos (by omega), t10]
    have e11 : F 11 = f 11 := by rw [u11, if_pos (by omega), t11]
    refine ⟨by omega, l3, l4, by omega, by omega, by omega, by omega, by omega, by omega, by omega, by omega, ?_⟩
    rw [u15]
    split <;> omega
  · split at hF
    · obtain ⟨u2, u3, u4, u5, u6, u7, u8, u9, u10, u11, u12, u13, u14, u15⟩ := cStep_f g s d
      rw [← hF] at u2 u3 u4 u5 u6 u7 u8 u9 u10 u11 u12 u13 u14 u15
      have l3 := leftO_in (x := g 3 + (if d = 1 then 1 else -1)) (b := s 1) (by omega)
      have l4 := leftO_in (x := g 4 + (if d = 1 then 1 else -1)) (b := s 0) (by omega)
      rw [← u3] at l3
      rw [← u4] at l4
      have e5 : F 5 = p := by rw [u5, t5, if_neg (by omega)]
      have e12 : F 12 = f 12 := by rw [u12, t12, if_neg (by omega)]
      have e10 : F 10 = f 10 := by rw [u10, if_neg (by omega), t10]
      have e11 : F 11 = f 11 + 1 := by rw [u11, if_neg (by omega), t11]
      refine ⟨by omega, l3, l4, by omega, by omega, by omega, by omega, by omega, by omega, by omega, by omega, ?_⟩
      rw [u15]
      split <;> omega
    · rw [hF]
      have e5 : 0 ≤ g 5 ∧ g 5 ≤ 3 := by
        rw [t5]
        split <;> omega
      have e12 : 0 ≤ g 12 ∧ g 12 ≤ f 12 + 1 := by
        rw [t12]
        split <;> omega
      refine ⟨t2, by omega, by omega, e5, t6, t7, by omega, by omega, by omega, t13, by omega, by omega⟩
theorem tick_inv {E : Enc} {p i : Int} (hI : InvE E) (hp : 0 ≤ p ∧ p ≤ 3) (hi : 0 ≤ i ∧ i ≤ 1) (ht : E.1 2 < 99999) : InvE (cTick E p i) ∧ (cTick E p i).1 2 = E.1 2 + 1 ∧ (cTick E p i).2.1 = E.2.1 := by
  obtain ⟨h2, h3, h4, h5, h6, h7, h8, h9, h10, h13, h14, h15, hs0, hs1, hs2, hs3, hs4, hg⟩ := hI
  obtain ⟨u2, u3, u4, u5, u6, u7, u8, u9, u10, u13, u14, u15⟩ := cTick1_inv (f := E.1) (s := E.2.1) hp hi h2 h3 h4 h5 h8 h9 h10 h13 h14 h15 hs0 hs1 _ rfl
  obtain ⟨m2, m5, m6, m7, m8, m9, m10, m11, m12, m14, m15, m3, m4, m13⟩ := cMeet_f (cTick1 E.1 E.2.1 p i) E.2.1
  have hd := cDeed_in E.1 E.2.1 p
  refine ⟨?_, rfl, rfl⟩
  have key : ∀ F : Nat → Int, F = cTick2 E.1 E.2.1 p i → (F 3 = cTick1 E.1 E.2.1 p i 3 ∨ F 3 = 0) ∧ (F 4 = cTick1 E.1 E.2.1 p i 4 ∨ F 4 = 0) ∧ F 5 = cTick1 E.1 E.2.1 p i 5 ∧ F 6 = cTick1 E.1 E.2.1 p i 6 ∧ F 7 = cTick1 E.1 E.2.1 p i 7 ∧ F 8 = cTick1 E.1 E.2.1 p i 8 ∧ F 9 = cTick1 E.1 E.2.1 p i 9 ∧ F 10 = cTick1 E.1 E.2.1 p i 10 ∧ F 11 = cTick1 E.1 E.2.1 p i 11 ∧ F 12 = cTick1 E.1 E.2.1 p i 12 ∧ (F 13 = cTick1 E.1 E.2.1 p i 13 ∨ F 13 = cTick1 E.1 E.2.1 p i 13 + 1) ∧ F 14 = cTick1 E.1 E.2.1 p i 14 ∧ F 15 = cTick1 E.1 E.2.1 p i 15 := by
    intro F hF
    unfold cTick2 at hF
    split at hF
    · split at hF
      · rw [hF]; exact ⟨m3, m4, m5, m6, m7, m8, m9, m10, m11, m12, m13, m14, m15⟩
      · rw [hF]; exact ⟨Or.inl rfl, Or.inl rfl, rfl, rfl, rfl, rfl, rfl, rfl, rfl, rfl, Or.inl rfl, rfl, rfl⟩
    · rw [hF]; exact ⟨Or.inl rfl, Or.inl rfl, rfl, rfl, rfl, rfl, rfl, rfl, rfl, rfl, Or.inl rfl, rfl, rfl⟩
  obtain ⟨k3, k4, k5, k6, k7, k8, k9, k10, k11, k12, k13, k14, k15⟩ := key _ rfl
  generalize hF : cTick2 E.1 E.2.1 p i = F at k3 k4 k5 k6 k7 k8 k9 k10 k11 k12 k13 k14 k15
  generalize cTick1 E.1 E.2.1 p i = G at *
  have e : ∀ k, k ≠ 2 → (cTick E p i).1 k = F k := fun k hk => by
    show updZ (cTick2 E.1 E.2.1 p i) 2 _ k = _
    rw [hF, updZ_ne _ _ hk]
  unfold InvE
  rw [e 3 (by decide), e 4 (by decide), e 5 (by decide), e 6 (by decide), e 7 (by decide), e 8 (by decide), e 9 (by decide), e 10 (by decide), e 11 (by decide), e 12 (by decide), e 13 (by decide), e 14 (by decide), e 15 (by decide)]
  rw [show (cTick E p i).1 2 = E.1 2 + 1 from rfl, show (cTick E p i).2.1 = E.2.1 from rfl]
  refine ⟨by omega, by omega, by omega, by omega, by omega, by omega, by omega, by omega, by omega, by omega, by omega, by omega, hs0, hs1, hs2, hs3, hs4, fun j => ?_⟩
  show 0 ≤ updZ E.2.2 _ _ j ∧ updZ E.2.2 _ _ j ≤ 31
  unfold updZ
  split
  · omega
  · exact hg j
theorem ticks_inv {E : Enc} {p i : Int} (hI : InvE E) (hp : 0 ≤ p ∧ p ≤ 3) (hi : 0 ≤ i ∧ i ≤ 1) : ∀ n : Nat, E.1 2 + n ≤ 99999 → InvE (cTicks E p i n) ∧ (cTicks E p i n).1 2 = E.1 2 + n ∧ (cTicks E p i n).2.1 = E.2.1
  | 0, _ => ⟨hI, by show E.1 2 = E.1 2 + ((0 : Nat) : Int); omega, rfl⟩
  | n + 1, h => by
    obtain ⟨a, b, c⟩ := ticks_inv hI hp hi n (by omega)
    obtain ⟨a', b', c'⟩ := tick_inv a hp hi (by omega)
    exact ⟨a', by show (cTick (cTicks E p i n) p i).1 2 = _; rw [b', b]; omega, c'.trans c⟩
theorem pair_in {E : Enc} (w : Int) : 0 ≤ cPair E w ∧ cPair E w ≤ 3 := ordP_in (by omega)
theorem turns_inv {E : Enc} {w : Int} {F : Nat} (hI : InvE E) : ∀ n : Nat, E.1 2 + n * F ≤ 99999 → InvE (cTurns F w E n) ∧ (cTurns F w E n).1 2 = E.1 2 + n * F ∧ (cTurns F w E n).2.1 = E.2.1
  | 0, _ => ⟨hI, by show E.1 2 = E.1 2 + ((0 : Nat) : Int) * F; omega, rfl⟩
  | n + 1, h => by
    have e : ((n + 1 : Nat) : Int) * (F : Int) = n * F + F := by
      rw [Int.natCast_add, Int.add_mul]
      omega
    rw [e] at h
    have hF : (0 : Int) ≤ F := by omega
    obtain ⟨a, b, c⟩ := turns_inv (w := w) (F := F) hI n (by omega)
    obtain ⟨a', b', c'⟩ := ticks_inv a (pair_in w) (i := 0) ⟨by omega, by omega⟩ F (by omega)
    exact ⟨a', by show (cTicks (cTurns F w E n) _ 0 F).1 2 = _; rw [b', b, e]; omega, c'.trans c⟩
theorem rep_inv {E T : Enc} (hI : InvE E) (hT : InvE T) (h0 : T.1 2 = 0) : ∀ n : Nat, n ≤ 200 → InvE (cRep E T n) ∧ (cRep E T n).1 2 = n ∧ (cRep E T n).2.1 = T.2.1
  | 0, _ => ⟨hT, h0, rfl⟩
  | n + 1, h => by
    obtain ⟨a, b, c⟩ := rep_inv hI hT h0 n (by omega)
    have hg := hI.2.2.2.2.2.2.2.2.2.2.2.2.2.2.2.2.2
    have hq := hg (Int.toNat ((E.1 2 - 1 - (min (E.1 2) 200 - 1 - n)) % 200))
    obtain ⟨a', b', c'⟩ := tick_inv a (p := cEnt E.1 E.2.2 (min (E.1 2) 200 - 1 - n) % 4) (i := cEnt E.1 E.2.2 (min (E.1 2) 200 - 1 - n) / 2 ^ 2 % 2) (by omega) (by omega) (by omega)
    exact ⟨a', by show (cTick (cRep E T n) _ _).1 2 = _; rw [b', b]; omega, c'.trans c⟩
theorem fresh_inv {E T : Enc} {F : Int} (hI : InvE E) (hF : 1 ≤ F ∧ F ≤ 9) (hg : ∀ j, 0 ≤ T.2.2 j ∧ T.2.2 j ≤ 31) : InvE ((fun _ => 0), updZ E.2.1 2 F, T.2.2) := by
  obtain ⟨h2, h3, h4, h5, h6, h7, h8, h9, h10, h13, h14, h15, hs0, hs1, hs2, hs3, hs4, -⟩ := hI
  have q : ∀ b : Int, 0 ≤ b → (0 : Int) ≤ 0 ∧ (0 : Int) ≤ b := fun b h => ⟨Int.le_refl 0, h⟩
  exact ⟨q 99999 (by decide), ⟨Int.le_refl 0, by show (0 : Int) < E.2.1 1; omega⟩, ⟨Int.le_refl 0, by show (0 : Int) < E.2.1 0; omega⟩, q 3 (by decide), q 3 (by decide), q 1 (by decide), q 0 (by decide), q 2 (by decide), ⟨Int.le_refl 0, Int.le_refl 0, Int.le_refl 0, Int.le_refl 0⟩, q 0 (by decide), ⟨Int.le_refl 0, Int.le_refl 0, Or.inl rfl⟩, q 0 (by decide), hs0, hs1, hF, hs3, hs4, hg⟩
