/-! ===== what is answered: log, count, speed, deeds ===== -/
theorem log_eq {E : Enc} {A : Nat → Int} {x w : Int} (hR : RepE E A) (hI : InvE E) : mLogR A x w = cLogR E x w := by
  have r14 : A 14 = min (E.1 2) 200 := hR.2.2.1.2.2.2.2
  have h := mIn_spec x 0 (A 14 - 1)
  unfold mLogR cLogR
  by_cases c : cHas E.1 x = 0
  · have c2 : ¬ (0 ≤ x ∧ x < min (E.1 2) 200) := fun z => by rw [cHas_1 z] at c; omega
    rw [if_pos c, if_pos (by omega)]
  · have c2 := has_of c
    have k : ((x.toNat : Nat) : Int) = x := by omega
    have ee := ent_eq hR (j := x.toNat) (by omega)
    rw [k] at ee
    have ei := cEnt_in hI x
    rw [if_neg c, if_neg (by omega), ee, rec1_8 ei, rec1_4 ei, rec1_1 ei]
theorem count_eq {E : Enc} {A : Nat → Int} {F : Nat → Int} {L len w : Int} (hR : RepE E A) (hL : F 2 = L) : mCountR A L len w = cCountR E F len w := by
  obtain ⟨⟨r0, r1, r2, r3, r4⟩, ⟨r5, r6, r7, r8, r9⟩, ⟨r10, r11, r12, r13, r14⟩, _⟩ := hR
  by_cases h : w < 0 ∨ 16 < w
  · have h1 := mIn_spec w 0 9
    have h2 := mIn_spec w 10 14
    rw [cCount_out E F len h]
    unfold mCountR
    rw [if_pos (by omega), if_pos (by omega), if_neg (by omega), if_neg (by omega)]
  · rcases (show w = 0 ∨ w = 1 ∨ w = 2 ∨ w = 3 ∨ w = 4 ∨ w = 5 ∨ w = 6 ∨ w = 7 ∨ w = 8 ∨ w = 9 ∨ w = 10 ∨ w = 11 ∨ w = 12 ∨ w = 13 ∨ w = 14 ∨ w = 15 ∨ w = 16 by omega) with rfl | rfl | rfl | rfl | rfl | rfl | rfl | rfl | rfl | rfl | rfl | rfl | rfl | rfl | rfl | rfl | rfl
    · exact r5
    · exact r6
    · exact r7
    · exact r8
    · exact r9
    · exact r10
    · exact r11
    · exact r12
    · exact r13
    · exact r14
    · exact r0
    · exact r1
    · exact r2
    · exact r3
    · exact r4
    · rfl
    · exact hL.symm
theorem gate_eq {E : Enc} {A : Nat → Int} (hR : RepE E A) (hI : InvE E) : ∀ n : Nat, (n : Int) ≤ min (E.1 2) 200 → mGt A n = cGate E n
  | 0, _ => rfl
  | n + 1, h => by
    have e := gate_eq hR hI n (by omega)
    have ee := ent_eq hR (j := n) (by omega)
    have ei := cEnt_in hI n
    show mGt A n + (if A (21 + n) % 4 = 1 then 1 else if A (21 + n) % 4 = 2 then -1 else 0) = if cEnt E.1 E.2.2 n / 2 ^ 3 = 1 then cGate E n + 1 else if cEnt E.1 E.2.2 n / 2 ^ 3 = 2 then cGate E n + (-1) else cGate E n
    rw [e, ee, rec1_1 ei]
    (repeat' split) <;> omega
theorem speed_eq {E : Enc} {A : Nat → Int} {w : Int} (hR : RepE E A) (hI : InvE E) : mSpeedR A w = cSpeedR E w := by
  have r14 : A 14 = min (E.1 2) 200 := hR.2.2.1.2.2.2.2
  have r3 : A 3 = E.2.1 3 := hR.1.2.2.2.1
  have rp := hR.2.2.2.2.1
  have h2 : 0 ≤ E.1 2 ∧ E.1 2 ≤ 99999 := hI.1
  have s3 : 1 ≤ E.2.1 3 ∧ E.2.1 3 ≤ 99 := hI.2.2.2.2.2.2.2.2.2.2.2.2.2.2.2.1
  have g := gate_eq hR hI (min (E.2.1 3) (min (E.1 2) 200)).toNat (by omega)
  unfold mSpeedR cSpeedR mGtR
  rw [r14, r3, g, rp]
  split
  · omega
  · rfl
theorem ds_eq {E : Enc} {A : Nat → Int} {w : Int} (hR : RepE E A) (hI : InvE E) : ∀ n : Nat, (n : Int) ≤ min (E.1 2) 200 → mDs A w n = cDs E w n
  | 0, _ => rfl
  | n + 1, h => by
    have e := ds_eq (w := w) hR hI n (by omega)
    have ee := ent_eq hR (j := n) (by omega)
    have ei := cEnt_in hI n
    show mDs A w n + (if A (21 + n) % 4 = w then 1 else 0) = if cEnt E.1 E.2.2 n / 2 ^ 3 = w then cDs E w n + 1 else cDs E w n
    rw [e, ee, rec1_1 ei]
    split <;> omega
theorem deeds_eq {E : Enc} {A : Nat → Int} {w : Int} (hR : RepE E A) (hI : InvE E) : mDeedsR A w = cDeedsR E w := by
  have r14 : A 14 = min (E.1 2) 200 := hR.2.2.1.2.2.2.2
  have h2 : 0 ≤ E.1 2 ∧ E.1 2 ≤ 99999 := hI.1
  have h := mIn_spec w 0 3
  have g := ds_eq (w := w) hR hI (min (E.1 2) 200).toNat (by omega)
  unfold mDeedsR cDeedsR
  rw [r14, g]
  by_cases c : 0 ≤ w ∧ w ≤ 3
  · rw [if_neg (by omega), if_neg (by omega), if_neg (by omega)]
  · rw [if_pos (by omega)]
    (repeat' split) <;> omega
