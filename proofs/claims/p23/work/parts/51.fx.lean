/-! ===== p23, pure: what a turn and a feed do ===== -/
theorem ordP_ordP {x : Int} (h : 0 ≤ x ∧ x ≤ 3) : ordP (ordP x) = x := by
  obtain rfl | rfl | rfl | rfl : x = 0 ∨ x = 1 ∨ x = 2 ∨ x = 3 := by omega
  all_goals decide
theorem ordP_inj {x y : Int} (hx : 0 ≤ x ∧ x ≤ 3) (hy : 0 ≤ y ∧ y ≤ 3) (h : ordP x = ordP y) : x = y := by rw [← ordP_ordP hx, h, ordP_ordP hy]
/-- the deed of a pair that is a neighbour of the one seen -/
theorem deed_next {f s : Nat → Int} {w : Int} (h5 : 0 ≤ f 5 ∧ f 5 ≤ 3) (hw : w = 1 ∨ w = -1) (hr : s 2 ≤ cRun f (ordP ((ordP (f 5) + w) % 4))) : cDeed f s (ordP ((ordP (f 5) + w) % 4)) = if w = 1 then 1 else 2 := by
  have i5 := ordP_in h5
  have e := ordP_ordP (x := (ordP (f 5) + w) % 4) (by omega)
  have hne : ¬ ordP ((ordP (f 5) + w) % 4) = f 5 := by
    intro h
    rw [h] at e
    obtain rfl | rfl := hw <;> omega
  unfold cDeed
  rw [if_neg hne, if_neg (by omega), e]
  obtain rfl | rfl := hw
  · rw [if_pos (by omega), if_pos rfl]
  · rw [if_neg (by omega), if_pos (by omega), if_neg (by decide)]
theorem turn1 {E : Enc} {w : Int} (hI : InvE E) (hw : w = 1 ∨ w = -1) (hr : 1 ≤ cRun E.1 (cPair E w)) : ∀ m : Nat,
    ((cTicks E (cPair E w) 0 m).2.1 = E.2.1 ∧ (cTicks E (cPair E w) 0 m).1 5 = E.1 5 ∧ (cTicks E (cPair E w) 0 m).1 3 = E.1 3 ∧ cRun (cTicks E (cPair E w) 0 m).1 (cPair E w) = cRun E.1 (cPair E w) + m ∧ (m = 0 ∨ cRun E.1 (cPair E w) + m ≤ E.2.1 2)) ∨
    ((cTicks E (cPair E w) 0 m).2.1 = E.2.1 ∧ (cTicks E (cPair E w) 0 m).1 5 = cPair E w ∧ (cTicks E (cPair E w) 0 m).1 3 = leftO (E.1 3 + w) (E.2.1 1) ∧ (cTicks E (cPair E w) 0 m).1 9 = (if w = 1 then 1 else 2))
  | 0 => Or.inl ⟨rfl, rfl, rfl, by show cRun E.1 _ = _ + ((0 : Nat) : Int); omega, Or.inl rfl⟩
  | m + 1 => by
    have h5 := hI.2.2.2.1
    rcases turn1 hI hw hr m with ⟨k1, k2, k3, k4, k5⟩ | ⟨k1, k2, k3, k4⟩
    · show ((cTick (cTicks E (cPair E w) 0 m) (cPair E w) 0).2.1 = _ ∧ _) ∨ ((cTick (cTicks E (cPair E w) 0 m) (cPair E w) 0).2.1 = _ ∧ _)
      have hpe : cPair E w = ordP ((ordP ((cTicks E (cPair E w) 0 m).1 5) + w) % 4) := by rw [k2]; rfl
      show ((cTick (cTicks E (cPair E w) 0 m) (cPair E w) 0).2.1 = E.2.1 ∧ (cTick (cTicks E (cPair E w) 0 m) (cPair E w) 0).1 5 = E.1 5 ∧ (cTick (cTicks E (cPair E w) 0 m) (cPair E w) 0).1 3 = E.1 3 ∧ cRun (cTick (cTicks E (cPair E w) 0 m) (cPair E w) 0).1 (cPair E w) = cRun E.1 (cPair E w) + ((m + 1 : Nat) : Int) ∧ (m + 1 = 0 ∨ cRun E.1 (cPair E w) + ((m + 1 : Nat) : Int) ≤ E.2.1 2)) ∨
        ((cTick (cTicks E (cPair E w) 0 m) (cPair E w) 0).2.1 = E.2.1 ∧ (cTick (cTicks E (cPair E w) 0 m) (cPair E w) 0).1 5 = cPair E w ∧ (cTick (cTicks E (cPair E w) 0 m) (cPair E w) 0).1 3 = leftO (E.1 3 + w) (E.2.1 1) ∧ (cTick (cTicks E (cPair E w) 0 m) (cPair E w) 0).1 9 = (if w = 1 then 1 else 2))
      generalize cTicks E (cPair E w) 0 m = G at *
      have hrun : cRun (cTick G (cPair E w) 0).1 (cPair E w) = cRun G.1 (cPair E w) + 1 := by
        obtain ⟨-, -, -, -, b6, -, b8, -⟩ := tick_fs (E := G) (p := cPair E w) (i := 0) rfl (cDeed_in _ _ _)
        show (if _ then _ else _ : Int) = _
        rw [b6, if_pos rfl, b8]
      by_cases hb : cRun G.1 (cPair E w) < E.2.1 2
      · left
        have hd : cDeed G.1 G.2.1 (cPair E w) = 0 := by
          unfold cDeed
          split
          · rfl
          · rw [k1, if_pos hb]
        obtain ⟨b2, b3, b4, b5, -⟩ := tick_fs (E := G) (p := cPair E w) (i := 0) hd ⟨by decide, by decide⟩
        refine ⟨k1, ?_, ?_, by rw [hrun, k4]; omega, Or.inr (by omega)⟩
        · rw [b5, if_pos rfl, k2]
        · rw [b3, if_neg (fun z => absurd z.1 (by decide))]
          exact k3
      · right
        have hd : cDeed G.1 G.2.1 (cPair E w) = if w = 1 then 1 else 2 := by
          rw [hpe]
          exact deed_next (by omega) hw (by rw [← hpe, k1]; omega)
        obtain ⟨b2, b3, b4, b5, b6, b7, b8, b9, -⟩ := tick_fs (E := G) (p := cPair E w) (i := 0) hd (by split <;> omega)
        refine ⟨k1, ?_, ?_, ?_⟩
        · rw [b5, if_neg (by split <;> omega)]
        · rw [b3, if_neg (fun z => absurd z.1 (by decide)), k1, k3]
          obtain rfl | rfl := hw
          · rfl
          · rfl
        · rw [b9]
          obtain rfl | rfl := hw
          · rfl
          · rfl
    · right
      show (cTick (cTicks E (cPair E w) 0 m) (cPair E w) 0).2.1 = E.2.1 ∧ (cTick (cTicks E (cPair E w) 0 m) (cPair E w) 0).1 5 = cPair E w ∧ (cTick (cTicks E (cPair E w) 0 m) (cPair E w) 0).1 3 = leftO (E.1 3 + w) (E.2.1 1) ∧ (cTick (cTicks E (cPair E w) 0 m) (cPair E w) 0).1 9 = (if w = 1 then 1 else 2)
      generalize cTicks E (cPair E w) 0 m = G at *
      have hd : cDeed G.1 G.2.1 (cPair E w) = 0 := by
        unfold cDeed
        rw [if_pos k2.symm]
      obtain ⟨b2, b3, b4, b5, b6, b7, b8, b9, -⟩ := tick_fs (E := G) (p := cPair E w) (i := 0) hd ⟨by decide, by decide⟩
      refine ⟨k1, ?_, ?_, ?_⟩
      · rw [b5, if_pos rfl, k2]
      · rw [b3, if_neg (fun z => absurd z.1 (by decide))]
        exact k3
      · rw [b9, if_neg (by decide), if_neg (by decide), k4]
theorem turn_fx {E : Enc} {w : Int} (hI : InvE E) (hw : w = 1 ∨ w = -1) : (cTurn (Int.toNat (E.2.1 2)) w E).1 3 = leftO (E.1 3 + w) (E.2.1 1) ∧ (cTurn (Int.toNat (E.2.1 2)) w E).1 9 = (if w = 1 then 1 else 2) := by
  have h8 := hI.2.2.2.2.2.2.1
  have hs2 := hI.2.2.2.2.2.2.2.2.2.2.2.2.2.2.1
  have hr : 1 ≤ cRun E.1 (cPair E w) := by
    unfold cRun
    split <;> omega
  rcases turn1 hI hw hr (Int.toNat (E.2.1 2)) with ⟨-, -, -, -, k5⟩ | ⟨-, -, k3, k4⟩
  · exfalso
    omega
  · exact ⟨k3, k4⟩
/-- the count behind some turns -/
theorem turns_fx {E : Enc} {w : Int} (hI : InvE E) (h1 : E.2.1 1 = 1000) (hw : w = 1 ∨ w = -1) : ∀ n : Nat, E.1 2 + n * E.2.1 2 ≤ 99999 → (cTurns (Int.toNat (E.2.1 2)) w E n).1 3 = (E.1 3 + w * n) % 1000 ∧ (1 ≤ n → (cTurns (Int.toNat (E.2.1 2)) w E n).1 9 = (if w = 1 then 1 else 2))
  | 0, _ => by
    have h3 := hI.2.1
    refine ⟨?_, fun h => absurd h (by decide)⟩
    show E.1 3 = (E.1 3 + w * ((0 : Nat) : Int)) % 1000
    rw [show w * ((0 : Nat) : Int) = 0 from Int.mul_zero w]
    omega
  | n + 1, h => by
    have hs2 := hI.2.2.2.2.2.2.2.2.2.2.2.2.2.2.1
    have hF : ((Int.toNat (E.2.1 2) : Nat) : Int) = E.2.1 2 := by omega
    have e : ((n + 1 : Nat) : Int) * E.2.1 2 = n * E.2.1 2 + E.2.1 2 := by
      rw [Int.natCast_add, Int.add_mul]
      omega
    rw [e] at h
    obtain ⟨ih, -⟩ := turns_fx hI h1 hw n (by omega)
    obtain ⟨a, b, c⟩ := turns_inv (w := w) (F := Int.toNat (E.2.1 2)) hI n (by rw [hF]; omega)
    have q := turn_fx a hw
    rw [c, ih, h1] at q
    refine ⟨?_, fun _ => q.2⟩
    show (cTurn (Int.toNat (E.2.1 2)) w (cTurns (Int.toNat (E.2.1 2)) w E n)).1 3 = _
    rw [q.1]
    unfold leftO
    obtain rfl | rfl := hw
    · rw [show (1 : Int) * ((n + 1 : Nat) : Int) = n + 1 by omega, show (1 : Int) * (n : Int) = n by omega]
      omega
    · rw [show (-1 : Int) * ((n + 1 : Nat) : Int) = -(n : Int) - 1 by omega, show (-1 : Int) * (n : Int) = -(n : Int) by omega]
      omega
/-! a feed -/
theorem steps_fx {E : Enc} {p i : Int} : ∀ n : Nat, cSteps E p i n = (cTicks E p i n).1 10 + (cTicks E p i n).1 11 - E.1 10 - E.1 11 ∧ (cSteps E p i n = 0 ∨ (cSteps E p i n = 1 ∧ (cTicks E p i n).1 5 = p))
  | 0 => ⟨by show (0 : Int) = E.1 10 + E.1 11 - E.1 10 - E.1 11; omega, Or.inl rfl⟩
  | n + 1 => by
    obtain ⟨i1, i2⟩ := steps_fx (E := E) (p := p) (i := i) n
    have hd3 := cDeed_in (cTicks E p i n).1 (cTicks E p i n).2.1 p
    obtain ⟨b2, b3, b4, b5, b6, b7, b8, b9, b10, b11, -⟩ := tick_fs (E := cTicks E p i n) (p := p) (i := i) rfl hd3
    have hz : (cTicks E p i n).1 5 = p → cDeed (cTicks E p i n).1 (cTicks E p i n).2.1 p = 0 := fun h => by
      unfold cDeed
      rw [if_pos h.symm]
    have es : cSteps E p i (n + 1) = if cDeed (cTicks E p i n).1 (cTicks E p i n).2.1 p = 1 then cSteps E p i n + 1 else if cDeed (cTicks E p i n).1 (cTicks E p i n).2.1 p = 2 then cSteps E p i n + 1 else cSteps E p i n := rfl
    have et : cTicks E p i (n + 1) = cTick (cTicks E p i n) p i := rfl
    rw [es, et, b5, b10, b11]
    generalize cTicks E p i n = G at *
    generalize cDeed G.1 G.2.1 p = d at *
    obtain rfl | rfl | rfl | rfl : d = 0 ∨ d = 1 ∨ d = 2 ∨ d = 3 := by omega
    · exact ⟨i1, i2⟩
    · rcases i2 with h0 | ⟨h0, h1⟩
      · exact ⟨by show cSteps E p i n + 1 = G.1 10 + 1 + G.1 11 - E.1 10 - E.1 11; omega, Or.inr ⟨by show cSteps E p i n + 1 = 1; omega, rfl⟩⟩
      · exact absurd (hz h1) (by decide)
    · rcases i2 with h0 | ⟨h0, h1⟩
      · exact ⟨by show cSteps E p i n + 1 = G.1 10 + (G.1 11 + 1) - E.1 10 - E.1 11; omega, Or.inr ⟨by show cSteps E p i n + 1 = 1; omega, rfl⟩⟩
      · exact absurd (hz h1) (by decide)
    · rcases i2 with h0 | ⟨h0, h1⟩
      · exact ⟨i1, Or.inl h0⟩
      · exact ⟨i1, Or.inr ⟨h0, rfl⟩⟩
/-- the log's latest tick -/
theorem tick_ent0 {E : Enc} {p i : Int} : cEnt (cTick E p i).1 (cTick E p i).2.2 0 = p + 4 * i + 8 * cDeed E.1 E.2.1 p := by
  unfold cEnt
  rw [show (cTick E p i).1 2 = E.1 2 + 1 from rfl, show E.1 2 + 1 - 1 - 0 = E.1 2 by omega]
  exact updZ_eq _ _ _
theorem tick_entS {E : Enc} {p i a : Int} (h0 : 0 ≤ a) (h1 : a + 1 < 200) : cEnt (cTick E p i).1 (cTick E p i).2.2 (a + 1) = cEnt E.1 E.2.2 a := by
  unfold cEnt
  rw [show (cTick E p i).1 2 = E.1 2 + 1 from rfl, show E.1 2 + 1 - 1 - (a + 1) = E.1 2 - 1 - a by omega]
  exact updZ_ne _ _ (by omega)
theorem ticks_log0 {E : Enc} {p i : Int} (hp : 0 ≤ p ∧ p ≤ 3) (hi : 0 ≤ i ∧ i ≤ 1) {n : Nat} (hn : 1 ≤ n) : cEnt (cTicks E p i n).1 (cTicks E p i n).2.2 0 % 4 = p ∧ cEnt (cTicks E p i n).1 (cTicks E p i n).2.2 0 / 2 ^ 2 % 2 = i := by
  obtain ⟨k, rfl⟩ : ∃ k, n = k + 1 := ⟨n - 1, by omega⟩
  have hd := cDeed_in (cTicks E p i k).1 (cTicks E p i k).2.1 p
  show cEnt (cTick (cTicks E p i k) p i).1 (cTick (cTicks E p i k) p i).2.2 0 % 4 = p ∧ cEnt (cTick (cTicks E p i k) p i).1 (cTick (cTicks E p i k) p i).2.2 0 / 2 ^ 2 % 2 = i
  rw [tick_ent0]
  omega
