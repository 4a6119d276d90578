/-! ===== p23, pure: two encoders, one the mirror of the other ===== -/
def swZ (x : Int) : Int := if x = 1 then 2 else if x = 2 then 1 else x
def agZ (x n : Int) : Int := if x = 0 then 0 else n - x
theorem swZ_sw (x : Int) : swZ (swZ x) = x := by
  unfold swZ
  by_cases h1 : x = 1
  · subst h1; rfl
  · by_cases h2 : x = 2
    · subst h2; rfl
    · rw [if_neg h1, if_neg h2, if_neg h1, if_neg h2]
theorem swZ_in {x : Int} (h : 0 ≤ x ∧ x ≤ 3) : 0 ≤ swZ x ∧ swZ x ≤ 3 := by
  unfold swZ
  (repeat' split) <;> omega
theorem swZ_iff {x y : Int} : swZ x = y ↔ x = swZ y := ⟨fun h => by rw [← h, swZ_sw], fun h => by rw [h, swZ_sw]⟩
theorem swZ_ord {p : Int} (h : 0 ≤ p ∧ p ≤ 3) : ordP (swZ p) = (4 - ordP p) % 4 := by
  obtain rfl | rfl | rfl | rfl : p = 0 ∨ p = 1 ∨ p = 2 ∨ p = 3 := by omega
  all_goals decide
theorem cRun_sw {f g : Nat → Int} {p : Int} (e6 : f 6 = swZ (g 6)) (e8 : f 8 = g 8) : cRun f p = cRun g (swZ p) := by
  unfold cRun
  rw [e6, e8]
  by_cases h : p = swZ (g 6)
  · rw [if_pos h, if_pos (swZ_iff.mpr h)]
  · rw [if_neg h, if_neg (fun z => h (swZ_iff.mp z))]
theorem cDeed_sw {f g s : Nat → Int} {p : Int} (hp : 0 ≤ p ∧ p ≤ 3) (h5 : 0 ≤ g 5 ∧ g 5 ≤ 3) (e5 : f 5 = swZ (g 5)) (e6 : f 6 = swZ (g 6)) (e8 : f 8 = g 8) : cDeed f s p = swZ (cDeed g s (swZ p)) := by
  unfold cDeed
  rw [cRun_sw e6 e8, e5]
  by_cases h : p = swZ (g 5)
  · rw [if_pos h, if_pos (swZ_iff.mpr h)]; rfl
  · rw [if_neg h, if_neg (fun z => h (swZ_iff.mp z))]
    by_cases h2 : cRun g (swZ p) < s 2
    · rw [if_pos h2, if_pos h2]; rfl
    · rw [if_neg h2, if_neg h2, swZ_ord hp, swZ_ord h5]
      have i1 := ordP_in hp
      have i2 := ordP_in h5
      generalize ordP p = a at i1 ⊢
      generalize ordP (g 5) = b at i2 ⊢
      have e : ((4 - a) % 4 - b) % 4 = (4 - (a - (4 - b) % 4) % 4) % 4 := by omega
      rw [e]
      have q : 0 ≤ (a - (4 - b) % 4) % 4 ∧ (a - (4 - b) % 4) % 4 < 4 := by omega
      generalize (a - (4 - b) % 4) % 4 = y at q ⊢
      obtain rfl | rfl | rfl | rfl : y = 0 ∨ y = 1 ∨ y = 2 ∨ y = 3 := by omega
      all_goals decide
theorem leftO_up {x b : Int} (h : 0 ≤ x ∧ x < b) : leftO (x + 1) b = if x + 1 = b then 0 else x + 1 := by
  unfold leftO
  rw [Int.add_emod_right]
  split
  · rename_i e; rw [e, Int.emod_self]
  · exact Int.emod_eq_of_lt (by omega) (by omega)
theorem leftO_dn {x b : Int} (h : 0 ≤ x ∧ x < b) : leftO (x + -1) b = if x = 0 then b - 1 else x - 1 := by
  unfold leftO
  split
  · rename_i e
    rw [e, show (0 : Int) + -1 + b = b - 1 by omega]
    exact Int.emod_eq_of_lt (by omega) (by omega)
  · rw [Int.add_emod_right, show x + -1 = x - 1 by omega]
    exact Int.emod_eq_of_lt (by omega) (by omega)
/-- a number that goes round, behind a deed -/
def nxt (d x b : Int) : Int := if d = 1 then leftO (x + 1) b else if d = 2 then leftO (x + -1) b else x
theorem nxt_in {d x b : Int} (h : 0 ≤ x ∧ x < b) : 0 ≤ nxt d x b ∧ nxt d x b < b := by
  unfold nxt
  split
  · exact leftO_in (by omega)
  · split
    · exact leftO_in (by omega)
    · exact h
theorem agZ_in {x n : Int} (h : 0 ≤ x ∧ x < n) : 0 ≤ agZ x n ∧ agZ x n < n := by
  unfold agZ
  split <;> omega
theorem agZ_eq0 {x n : Int} (h : 0 ≤ x ∧ x < n) : agZ x n = 0 ↔ x = 0 := by
  unfold agZ
  split <;> omega
theorem nxt_ag {d c n : Int} (hd : 0 ≤ d ∧ d ≤ 3) (hc : 0 ≤ c ∧ c < n) (hn : 2 ≤ n) : nxt (swZ d) (agZ c n) n = agZ (nxt d c n) n := by
  have ha := agZ_in hc
  have u1 := leftO_up ha
  have u2 := leftO_dn ha
  have v1 := leftO_up hc
  have v2 := leftO_dn hc
  obtain rfl | rfl | rfl | rfl : d = 0 ∨ d = 1 ∨ d = 2 ∨ d = 3 := by omega
  · rfl
  · show leftO (agZ c n + -1) n = agZ (leftO (c + 1) n) n
    rw [u2, v1]
    unfold agZ
    (repeat' split) <;> omega
  · show leftO (agZ c n + 1) n = agZ (leftO (c + -1) n) n
    rw [u1, v2]
    unfold agZ
    (repeat' split) <;> omega
  · rfl
/-- the numbers behind the deed of a tick, each in its own words -/
theorem cT1_fs {f s : Nat → Int} {p i d : Int} (hd : cDeed f s p = d) (hd3 : 0 ≤ d ∧ d ≤ 3) : ∀ F, F = cTick1 f s p i →
    F 2 = f 2 ∧ F 3 = nxt d (f 3) (s 1) ∧ F 4 = nxt d (f 4) (s 0) ∧ F 5 = (if d = 0 then f 5 else p) ∧ F 6 = p ∧ F 7 = i ∧ F 8 = cRun f p ∧ F 9 = (if d = 1 then 1 else if d = 2 then 2 else f 9) ∧
    F 10 = (if d = 1 then f 10 + 1 else f 10) ∧ F 11 = (if d = 2 then f 11 + 1 else f 11) ∧ F 12 = (if d = 3 then f 12 + 1 else f 12) ∧ F 13 = f 13 ∧
    F 14 = (if d = 1 then f 2 else if d = 2 then f 2 else f 14) ∧ F 15 = (if d = 1 then (if 1 = f 9 then f 2 - f 14 else 0) else if d = 2 then (if 2 = f 9 then f 2 - f 14 else 0) else f 15) := by
  intro F hF
  obtain ⟨t3, t9, t10, t11, t13, t14, t15, t8, t6, t7, t5, t12, t2, t4⟩ := cTick0_f f s p i
  unfold cTick1 at hF
  rw [hd] at hF t5 t12
  generalize cTick0 f s p i = g at *
  obtain rfl | rfl | rfl | rfl : d = 0 ∨ d = 1 ∨ d = 2 ∨ d = 3 := by omega
  · rw [if_neg (by decide), if_neg (by decide)] at hF
    rw [hF]
    exact ⟨t2, t3, t4, t5, t6, t7, t8, t9, t10, t11, t12, t13, t14, t15⟩
  · rw [if_pos rfl] at hF
    obtain ⟨u2, u3, u4, u5, u6, u7, u8, u9, u10, u11, u12, u13, u14, u15⟩ := cStep_f g s 1
    rw [← hF] at u2 u3 u4 u5 u6 u7 u8 u9 u10 u11 u12 u13 u14 u15
    rw [t3] at u3
    rw [t4] at u4
    rw [t10] at u10
    rw [t11] at u11
    rw [t2] at u14
    rw [t2, t9, t14] at u15
    exact ⟨u2.trans t2, u3, u4, u5.trans t5, u6.trans t6, u7.trans t7, u8.trans t8, u9, u10, u11, u12.trans t12, u13.trans t13, u14, u15⟩
  · rw [if_neg (by decide), if_pos rfl] at hF
    obtain ⟨u2, u3, u4, u5, u6, u7, u8, u9, u10, u11, u12, u13, u14, u15⟩ := cStep_f g s 2
    rw [← hF] at u2 u3 u4 u5 u6 u7 u8 u9 u10 u11 u12 u13 u14 u15
    rw [t3] at u3
    rw [t4] at u4
    rw [t10] at u10
    rw [t11] at u11
    rw [t2] at u14
    rw [t2, t9, t14] at u15
    exact ⟨u2.trans t2, u3, u4, u5.trans t5, u6.trans t6, u7.trans t7, u8.trans t8, u9, u10, u11, u12.trans t12, u13.trans t13, u14, u15⟩
  · rw [if_neg (by decide), if_neg (by decide)] at hF
    rw [hF]
    exact ⟨t2, t3, t4, t5, t6, t7, t8, t9, t10, t11, t12, t13, t14, t15⟩
/-- the numbers behind a tick -/
theorem tick_fs {E : Enc} {p i d : Int} (hd : cDeed E.1 E.2.1 p = d) (hd3 : 0 ≤ d ∧ d ≤ 3) :
    (cTick E p i).1 2 = E.1 2 + 1 ∧ (cTick E p i).1 3 = (if i = 1 ∧ E.1 7 = 0 ∧ E.2.1 4 = 2 then 0 else nxt d (E.1 3) (E.2.1 1)) ∧ (cTick E p i).1 4 = (if i = 1 ∧ E.1 7 = 0 ∧ (E.2.1 4 = 1 ∨ E.2.1 4 = 2) then 0 else nxt d (E.1 4) (E.2.1 0)) ∧
    (cTick E p i).1 5 = (if d = 0 then E.1 5 else p) ∧ (cTick E p i).1 6 = p ∧ (cTick E p i).1 7 = i ∧ (cTick E p i).1 8 = cRun E.1 p ∧ (cTick E p i).1 9 = (if d = 1 then 1 else if d = 2 then 2 else E.1 9) ∧
    (cTick E p i).1 10 = (if d = 1 then E.1 10 + 1 else E.1 10) ∧ (cTick E p i).1 11 = (if d = 2 then E.1 11 + 1 else E.1 11) ∧ (cTick E p i).1 12 = (if d = 3 then E.1 12 + 1 else E.1 12) ∧
    (cTick E p i).1 13 = (if i = 1 ∧ E.1 7 = 0 ∧ E.2.1 4 = 1 ∧ nxt d (E.1 4) (E.2.1 0) ≠ 0 then E.1 13 + 1 else E.1 13) ∧
    (cTick E p i).1 14 = (if d = 1 then E.1 2 else if d = 2 then E.1 2 else E.1 14) ∧ (cTick E p i).1 15 = (if d = 1 then (if 1 = E.1 9 then E.1 2 - E.1 14 else 0) else if d = 2 then (if 2 = E.1 9 then E.1 2 - E.1 14 else 0) else E.1 15) := by
  obtain ⟨u2, u3, u4, u5, u6, u7, u8, u9, u10, u11, u12, u13, u14, u15⟩ := cT1_fs (i := i) hd hd3 _ rfl
  have e : ∀ k, k ≠ 2 → (cTick E p i).1 k = cTick2 E.1 E.2.1 p i k := fun k hk => by
    show updZ (cTick2 E.1 E.2.1 p i) 2 _ k = _
    rw [updZ_ne _ _ hk]
  rw [e 3 (by decide), e 4 (by decide), e 5 (by decide), e 6 (by decide), e 7 (by decide), e 8 (by decide), e 9 (by decide), e 10 (by decide), e 11 (by decide), e 12 (by decide), e 13 (by decide), e 14 (by decide), e 15 (by decide), show (cTick E p i).1 2 = E.1 2 + 1 from rfl]
  unfold cTick2
  generalize cTick1 E.1 E.2.1 p i = G at *
  rw [← u3, ← u4, ← u5, ← u9, ← u10, ← u11, ← u12, ← u14, ← u15]
  by_cases hi : i = 1
  · rw [if_pos hi]
    by_cases h7 : E.1 7 = 0
    · rw [if_pos h7]
      unfold cMeet
      by_cases h1 : E.2.1 4 = 1
      · have c3 : ¬ (i = 1 ∧ E.1 7 = 0 ∧ E.2.1 4 = 2) := fun z => by omega
        have c4 : i = 1 ∧ E.1 7 = 0 ∧ (E.2.1 4 = 1 ∨ E.2.1 4 = 2) := ⟨hi, h7, Or.inl h1⟩
        rw [if_pos h1, if_neg c3, if_pos c4]
        by_cases hz : G 4 = 0
        · rw [if_pos hz, if_neg (fun z => z.2.2.2 hz)]
          exact ⟨rfl, rfl, hz, rfl, u6, u7, u8, rfl, rfl, rfl, rfl, u13, rfl, rfl⟩
        · rw [if_neg hz, if_pos ⟨hi, h7, h1, hz⟩]
          refine ⟨rfl, rfl, rfl, rfl, u6, u7, u8, rfl, rfl, rfl, rfl, ?_, rfl, rfl⟩
          show G 13 + 1 = _
          rw [u13]
      · rw [if_neg h1]
        by_cases h2 : E.2.1 4 = 2
        · rw [if_pos h2, if_pos ⟨hi, h7, h2⟩, if_pos ⟨hi, h7, Or.inr h2⟩, if_neg (fun z => h1 z.2.2.1)]
          exact ⟨rfl, rfl, rfl, rfl, u6, u7, u8, rfl, rfl, rfl, rfl, u13, rfl, rfl⟩
        · rw [if_neg h2, if_neg (fun z => h2 z.2.2), if_neg (fun z => z.2.2.elim h1 h2), if_neg (fun z => h1 z.2.2.1)]
          exact ⟨rfl, rfl, rfl, rfl, u6, u7, u8, rfl, rfl, rfl, rfl, u13, rfl, rfl⟩
    · rw [if_neg h7, if_neg (fun z => h7 z.2.1), if_neg (fun z => h7 z.2.1), if_neg (fun z => h7 z.2.1)]
      exact ⟨rfl, rfl, rfl, rfl, u6, u7, u8, rfl, rfl, rfl, rfl, u13, rfl, rfl⟩
  · rw [if_neg hi, if_neg (fun z => hi z.1), if_neg (fun z => hi z.1), if_neg (fun z => hi z.1)]
    exact ⟨rfl, rfl, rfl, rfl, u6, u7, u8, rfl, rfl, rfl, rfl, u13, rfl, rfl⟩
/-- the numbers of two encoders, one the mirror of the other -/
def MirN (f g s : Nat → Int) : Prop :=
  f 2 = g 2 ∧ f 3 = agZ (g 3) (s 1) ∧ f 4 = agZ (g 4) (s 0) ∧ f 5 = swZ (g 5) ∧ f 6 = swZ (g 6) ∧ f 7 = g 7 ∧ f 8 = g 8 ∧ f 9 = swZ (g 9) ∧ f 10 = g 11 ∧ f 11 = g 10 ∧ f 12 = g 12 ∧ f 13 = g 13 ∧ f 14 = g 14 ∧ f 15 = g 15
def MirE (E P : Enc) : Prop := MirN E.1 P.1 P.2.1 ∧ E.2.1 = P.2.1
/-- a tick of the log, mirrored -/
def swE (x : Int) : Int := swZ (x % 4) + 4 * (x / 4 % 2) + 8 * swZ (x / 8)
def MirG (E P : Enc) : Prop := MirE E P ∧ ∀ j, E.2.2 j = swE (P.2.2 j)
theorem deed_mir {E P : Enc} {p : Int} (hM : MirE E P) (hP : InvE P) (hp : 0 ≤ p ∧ p ≤ 3) : cDeed E.1 E.2.1 p = swZ (cDeed P.1 P.2.1 (swZ p)) := by
  obtain ⟨⟨m2, m3, m4, m5, m6, m7, m8, -⟩, ms⟩ := hM
  rw [ms]
  exact cDeed_sw hp hP.2.2.2.1 m5 m6 m8
theorem tick_mir {E P : Enc} {p i : Int} (hM : MirE E P) (hP : InvE P) (hp : 0 ≤ p ∧ p ≤ 3) : MirE (cTick E p i) (cTick P (swZ p) i) := by
  have hd := deed_mir hM hP hp
  have hd' := cDeed_in P.1 P.2.1 (swZ p)
  obtain ⟨⟨m2, m3, m4, m5, m6, m7, m8, m9, m10, m11, m12, m13, m14, m15⟩, ms⟩ := hM
  obtain ⟨h2, h3, h4, h5, h6, h7, h8, h9, h10, h13, h14, h15, hs0, hs1, -⟩ := hP
  have hr := cRun_sw (p := p) m6 m8
  obtain ⟨a2, a3, a4, a5, a6, a7, a8, a9, a10, a11, a12, a13, a14, a15⟩ := tick_fs (i := i) hd (swZ_in hd')
  obtain ⟨b2, b3, b4, b5, b6, b7, b8, b9, b10, b11, b12, b13, b14, b15⟩ := tick_fs (E := P) (p := swZ p) (i := i) rfl hd'
  generalize cDeed P.1 P.2.1 (swZ p) = d at *
  have c3 := nxt_ag (c := P.1 3) (n := P.2.1 1) hd' h3 (by omega)
  have c4 := nxt_ag (c := P.1 4) (n := P.2.1 0) hd' h4 (by omega)
  have i4 := nxt_in (d := d) h4
  rw [ms, m7, m3, c3] at a3
  rw [ms, m7, m4, c4] at a4
  rw [ms, m7, m4, c4, m13] at a13
  refine ⟨⟨by rw [a2, b2, m2], ?_, ?_, ?_, by rw [a6, b6, swZ_sw], by rw [a7, b7], by rw [a8, b8, hr], ?_, ?_, ?_, ?_, ?_, ?_, ?_⟩, ms⟩
  · show _ = agZ _ (P.2.1 1)
    rw [a3, b3]
    split
    · rfl
    · rfl
  · show _ = agZ _ (P.2.1 0)
    rw [a4, b4]
    split
    · rfl
    · rfl
  · rw [a5, b5, m5]
    obtain rfl | rfl | rfl | rfl : d = 0 ∨ d = 1 ∨ d = 2 ∨ d = 3 := by omega
    · rfl
    · show p = swZ (swZ p); rw [swZ_sw]
    · show p = swZ (swZ p); rw [swZ_sw]
    · show p = swZ (swZ p); rw [swZ_sw]
  · rw [a9, b9, m9]
    obtain rfl | rfl | rfl | rfl : d = 0 ∨ d = 1 ∨ d = 2 ∨ d = 3 := by omega
    all_goals rfl
  · rw [a10, b11, m10]
    obtain rfl | rfl | rfl | rfl : d = 0 ∨ d = 1 ∨ d = 2 ∨ d = 3 := by omega
    all_goals rfl
  · rw [a11, b10, m11]
    obtain rfl | rfl | rfl | rfl : d = 0 ∨ d = 1 ∨ d = 2 ∨ d = 3 := by omega
    all_goals rfl
  · rw [a12, b12, m12]
    obtain rfl | rfl | rfl | rfl : d = 0 ∨ d = 1 ∨ d = 2 ∨ d = 3 := by omega
    all_goals rfl
  · rw [a13, b13]
    have q := agZ_eq0 i4
    by_cases hz : nxt d (P.1 4) (P.2.1 0) = 0
    · rw [if_neg (fun z => z.2.2.2 (q.mpr hz)), if_neg (fun z => z.2.2.2 hz)]
    · by_cases hc : i = 1 ∧ P.1 7 = 0 ∧ P.2.1 4 = 1
      · rw [if_pos ⟨hc.1, hc.2.1, hc.2.2, fun z => hz (q.mp z)⟩, if_pos ⟨hc.1, hc.2.1, hc.2.2, hz⟩]
      · rw [if_neg (fun z => hc ⟨z.1, z.2.1, z.2.2.1⟩), if_neg (fun z => hc ⟨z.1, z.2.1, z.2.2.1⟩)]
  · rw [a14, b14, m14, m2]
    obtain rfl | rfl | rfl | rfl : d = 0 ∨ d = 1 ∨ d = 2 ∨ d = 3 := by omega
    all_goals rfl
  · rw [a15, b15, m15, m14, m9, m2]
    have w1 : (1 = swZ (P.1 9)) ↔ (2 = P.1 9) := ⟨fun h => by have := swZ_iff.mp h.symm; rw [this]; rfl, fun h => by rw [← h]; rfl⟩
    have w2 : (2 = swZ (P.1 9)) ↔ (1 = P.1 9) := ⟨fun h => by have := swZ_iff.mp h.symm; rw [this]; rfl, fun h => by rw [← h]; rfl⟩
    obtain rfl | rfl | rfl | rfl : d = 0 ∨ d = 1 ∨ d = 2 ∨ d = 3 := by omega
    · rfl
    · show (if 2 = swZ (P.1 9) then P.1 2 - P.1 14 else 0) = (if 1 = P.1 9 then P.1 2 - P.1 14 else 0)
      by_cases h : 1 = P.1 9
      · rw [if_pos h, if_pos (w2.mpr h)]
      · rw [if_neg h, if_neg (fun z => h (w2.mp z))]
    · show (if 1 = swZ (P.1 9) then P.1 2 - P.1 14 else 0) = (if 2 = P.1 9 then P.1 2 - P.1 14 else 0)
      by_cases h : 2 = P.1 9
      · rw [if_pos h, if_pos (w1.mpr h)]
      · rw [if_neg h, if_neg (fun z => h (w1.mp z))]
    · rfl
theorem swE_of {q i d : Int} (hq : 0 ≤ q ∧ q ≤ 3) (hi : 0 ≤ i ∧ i ≤ 1) (hd : 0 ≤ d ∧ d ≤ 3) : swE (q + 4 * i + 8 * d) = swZ q + 4 * i + 8 * swZ d := by
  unfold swE
  rw [show (q + 4 * i + 8 * d) % 4 = q by omega, show (q + 4 * i + 8 * d) / 4 % 2 = i by omega, show (q + 4 * i + 8 * d) / 8 = d by omega]
theorem tick_mirG {E P : Enc} {p i : Int} (hM : MirG E P) (hP : InvE P) (hp : 0 ≤ p ∧ p ≤ 3) (hi : 0 ≤ i ∧ i ≤ 1) : MirG (cTick E p i) (cTick P (swZ p) i) := by
  refine ⟨tick_mir hM.1 hP hp, fun j => ?_⟩
  show updZ E.2.2 (Int.toNat (E.1 2 % 200)) (p + 4 * i + 8 * cDeed E.1 E.2.1 p) j = swE (updZ P.2.2 (Int.toNat (P.1 2 % 200)) (swZ p + 4 * i + 8 * cDeed P.1 P.2.1 (swZ p)) j)
  rw [hM.1.1.1, deed_mir hM.1 hP hp]
  unfold updZ
  split
  · rw [swE_of (swZ_in hp) hi (cDeed_in _ _ _), swZ_sw]
  · exact hM.2 j
theorem ticks_mir {E P : Enc} {p i : Int} (hM : MirG E P) (hP : InvE P) (hp : 0 ≤ p ∧ p ≤ 3) (hi : 0 ≤ i ∧ i ≤ 1) : ∀ n : Nat, P.1 2 + n ≤ 99999 → MirG (cTicks E p i n) (cTicks P (swZ p) i n)
  | 0, _ => hM
  | n + 1, h => tick_mirG (ticks_mir hM hP hp hi n (by omega)) (ticks_inv hP (swZ_in hp) hi n (by omega)).1 hp hi
theorem steps_mir {E P : Enc} {p i : Int} (hM : MirG E P) (hP : InvE P) (hp : 0 ≤ p ∧ p ≤ 3) (hi : 0 ≤ i ∧ i ≤ 1) : ∀ n : Nat, P.1 2 + n ≤ 99999 → cSteps E p i n = cSteps P (swZ p) i n
  | 0, _ => rfl
  | n + 1, h => by
    have ih := steps_mir hM hP hp hi n (by omega)
    have hd := deed_mir (ticks_mir hM hP hp hi n (by omega)).1 (ticks_inv hP (swZ_in hp) hi n (by omega)).1 hp
    have hd' := cDeed_in (cTicks P (swZ p) i n).1 (cTicks P (swZ p) i n).2.1 (swZ p)
    show (if _ then _ else if _ then _ else _ : Int) = (if _ then _ else if _ then _ else _ : Int)
    rw [hd, ih]
    generalize cDeed (cTicks P (swZ p) i n).1 (cTicks P (swZ p) i n).2.1 (swZ p) = d at hd' ⊢
    obtain rfl | rfl | rfl | rfl : d = 0 ∨ d = 1 ∨ d = 2 ∨ d = 3 := by omega
    all_goals rfl
theorem pair_mir {E P : Enc} {w : Int} (hM : MirE E P) (hP : InvE P) (hw : w = 1 ∨ w = -1) : cPair P (-w) = swZ (cPair E w) := by
  have h5 := hP.2.2.2.1
  have m5 := hM.1.2.2.2.1
  unfold cPair
  rw [m5, swZ_ord h5]
  have i5 := ordP_in h5
  generalize ordP (P.1 5) = b at i5 ⊢
  obtain rfl | rfl := hw
  · obtain rfl | rfl | rfl | rfl : b = 0 ∨ b = 1 ∨ b = 2 ∨ b = 3 := by omega
    all_goals decide
  · obtain rfl | rfl | rfl | rfl : b = 0 ∨ b = 1 ∨ b = 2 ∨ b = 3 := by omega
    all_goals decide
theorem turns_mir {E P : Enc} {w : Int} {F : Nat} (hM : MirG E P) (hP : InvE P) (hw : w = 1 ∨ w = -1) : ∀ n : Nat, P.1 2 + n * F ≤ 99999 → MirG (cTurns F w E n) (cTurns F (-w) P n)
  | 0, _ => hM
  | n + 1, h => by
    have e : ((n + 1 : Nat) : Int) * (F : Int) = n * F + F := by
      rw [Int.natCast_add, Int.add_mul]
      omega
    rw [e] at h
    have ih := turns_mir (F := F) hM hP hw n (by omega)
    obtain ⟨a, b, -⟩ := turns_inv (w := -w) (F := F) hP n (by omega)
    show MirG (cTicks (cTurns F w E n) (cPair (cTurns F w E n) w) 0 F) (cTicks (cTurns F (-w) P n) (cPair (cTurns F (-w) P n) (-w)) 0 F)
    rw [pair_mir ih.1 a hw]
    exact ticks_mir ih a (pair_in w) ⟨by omega, by omega⟩ F (by omega)
