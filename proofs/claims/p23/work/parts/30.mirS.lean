/-! ===== what stays true of an encoder, method by method ===== -/
theorem clear_inv {E : Enc} (hI : InvE E) : InvE (cClear E) := by
  obtain ⟨h2, h3, h4, h5, h6, h7, h8, h9, h10, h13, h14, h15, hs0, hs1, hs2, hs3, hs4, hg⟩ := hI
  exact ⟨h2, ⟨Int.le_refl 0, by show (0 : Int) < E.2.1 1; omega⟩, ⟨Int.le_refl 0, by show (0 : Int) < E.2.1 0; omega⟩, h5, h6, h7, h8, h9, h10, h13, h14, h15, hs0, hs1, hs2, hs3, hs4, hg⟩
theorem pass_inv {E : Enc} {p i n : Int} (hI : InvE E) : InvE (cPassE E p i n) := by
  have h2 := hI.1
  unfold cPassE
  split
  · rename_i h
    unfold cPassOk at h
    split at h
    · split at h
      · exact (ticks_inv hI (p := p) (i := i) (by omega) (by omega) n.toNat (by omega)).1
      · omega
    · omega
  · exact hI
theorem rev_inv {E : Enc} {x : Int} (hI : InvE E) : InvE (cRevE E x) := by
  have hs := hI.2.2.2.2.2.2.2.2.2.2.2.2.2.2.1
  unfold cRevE
  split
  · rename_i h
    unfold cRevOk at h
    split at h
    · omega
    · split at h
      · rename_i h1 h2
        have ha : 0 ≤ absZ x := by unfold absZ; split <;> omega
        exact (turns_inv (w := if 0 < x then 1 else -1) (F := (E.2.1 2).toNat) hI (absZ x).toNat (by rw [show ((absZ x).toNat : Int) = absZ x by omega, show ((E.2.1 2).toNat : Int) = E.2.1 2 by omega]; omega)).1
      · omega
  · exact hI
theorem leastS_lo : leastS 0 = 4 ∧ leastS 1 = 10 ∧ leastS 2 = 1 ∧ leastS 3 = 1 ∧ leastS 4 = 0 := ⟨rfl, rfl, rfl, rfl, rfl⟩
theorem mostS_hi : mostS 0 = 400 ∧ mostS 1 = 9999 ∧ mostS 2 = 9 ∧ mostS 3 = 99 ∧ mostS 4 = 2 := ⟨rfl, rfl, rfl, rfl, rfl⟩
theorem adj_inv {E : Enc} {x y : Int} (hI : InvE E) : InvE (cAdjE E x y) := by
  unfold cAdjE
  split
  · rename_i h
    unfold cAdjOk at h
    split at h
    · rename_i hx
      split at h
      · rename_i hy
        obtain ⟨h2, h3, h4, h5, h6, h7, h8, h9, h10, h13, h14, h15, hs0, hs1, hs2, hs3, hs4, hg⟩ := hI
        obtain ⟨l0, l1, l2, l3, l4⟩ := leastS_lo
        obtain ⟨m0, m1, m2, m3, m4⟩ := mostS_hi
        obtain rfl | rfl | rfl | rfl | rfl : x = 0 ∨ x = 1 ∨ x = 2 ∨ x = 3 ∨ x = 4 := by omega
        · have hy' : 4 ≤ y ∧ y ≤ 400 := by
            have e : Int.toNat 0 = 0 := rfl
            rw [e] at hy; omega
          have q := leftO_in (x := E.1 4) (b := y) (by omega)
          exact ⟨h2, h3, q, h5, h6, h7, h8, h9, h10, h13, h14, h15, hy', hs1, hs2, hs3, hs4, hg⟩
        · have hy' : 10 ≤ y ∧ y ≤ 9999 := by
            have e : Int.toNat 1 = 1 := rfl
            rw [e] at hy; omega
          have q := leftO_in (x := E.1 3) (b := y) (by omega)
          exact ⟨h2, q, h4, h5, h6, h7, h8, h9, h10, h13, h14, h15, hs0, hy', hs2, hs3, hs4, hg⟩
        · have hy' : 1 ≤ y ∧ y ≤ 9 := by
            have e : Int.toNat 2 = 2 := rfl
            rw [e] at hy; omega
          exact ⟨h2, h3, h4, h5, h6, h7, h8, h9, h10, h13, h14, h15, hs0, hs1, hy', hs3, hs4, hg⟩
        · have hy' : 1 ≤ y ∧ y ≤ 99 := by
            have e : Int.toNat 3 = 3 := rfl
            rw [e] at hy; omega
          exact ⟨h2, h3, h4, h5, h6, h7, h8, h9, h10, h13, h14, h15, hs0, hs1, hs2, hy', hs4, hg⟩
        · have hy' : 0 ≤ y ∧ y ≤ 2 := by
            have e : Int.toNat 4 = 4 := rfl
            rw [e] at hy; omega
          exact ⟨h2, h3, h4, h5, h6, h7, h8, h9, h10, h13, h14, h15, hs0, hs1, hs2, hs3, hy', hg⟩
      · omega
    · omega
  · exact hI
theorem follow_inv {E T : Enc} {F : Int} (hI : InvE E) (hF : 1 ≤ F ∧ F ≤ 9) (hg : ∀ j, 0 ≤ T.2.2 j ∧ T.2.2 j ≤ 31) : InvE (cFollow E T F) :=
  (rep_inv hI (fresh_inv hI hF hg) rfl _ (by omega)).1
theorem invE_g {E : Enc} (hI : InvE E) : ∀ j, 0 ≤ E.2.2 j ∧ E.2.2 j ≤ 31 := hI.2.2.2.2.2.2.2.2.2.2.2.2.2.2.2.2.2
/-! ===== the class itself ===== -/
abbrev wSP (J : Nat → ClassId) (h : Nat) (A : Nat → Nat → Nat) (E T : Enc) (F : Nat → Int) (R : Nat → Enc) (G U : Nat → Int) (V : Nat → Enc) (len pos pr ix nm : Int) (C : Nat → Int) : va_W :=
  [cO 4 h [some (A 0 0), some (A 1 0), some (A 2 0), some (A 6 0), some (A 10 0)] (fun _ => 0)] ++ (wE J (A 0 0) (A 0 1) (A 0 2) E ++ (wE J (A 1 0) (A 1 1) (A 1 2) T ++ (wH J (A 2 0) (A 2 1) (A 3) (A 4) (A 5) F R ++ (wS J (A 6 0) (A 6 1) (A 6 2) (A 7) (A 8) (A 9) G U V ++ wPad J (A 10 0) (A 10 1) len pos pr ix nm C))))
def cLogR (E : Enc) (a w : Int) : Int := if cHas E.1 a = 0 then -1 else if w = 0 then cEnt E.1 E.2.2 a % 4 else if w = 1 then cEnt E.1 E.2.2 a / 2 ^ 2 % 2 else if w = 2 then cEnt E.1 E.2.2 a / 2 ^ 3 else -2
def cCountR (E : Enc) (F : Nat → Int) (len w : Int) : Int :=
  if w = 0 then E.1 2 else if w = 1 then E.1 3 else if w = 2 then E.1 4 else if w = 3 then E.1 5 else if w = 4 then E.1 9 else if w = 5 then E.1 10 else if w = 6 then E.1 11 else if w = 7 then E.1 12 else if w = 8 then E.1 13 else if w = 9 then min (E.1 2) 200
  else if w = 15 then len else if w = 16 then F 2 else if w < 10 then -2 else if 14 < w then -2 else E.2.1 (Int.toNat (w - 10))
def cSpeedR (E : Enc) (w : Int) : Int := if w = 0 then 1000 + cGate E (Int.toNat (min (E.2.1 3) (min (E.1 2) 200))) else if w = 1 then (if E.1 15 ≤ 0 then -6 else E.1 15) else -2
def cReplayOk (x w : Int) : Int := if x < 1 then -2 else if 9 < x then -2 else if w < 0 then -2 else if 3 < w then -2 else 0
def cReplayR (E T : Enc) (x w : Int) : Int := if cReplayOk x w = 0 then (if w = 0 then (cFollow E T x).1 10 else if w = 1 then (cFollow E T x).1 11 else if w = 2 then (cFollow E T x).1 12 else (cFollow E T x).1 3) else -2
def cReplayT (E T : Enc) (x w : Int) : Enc := if cReplayOk x w = 0 then cFollow E T x else T
/-- the filters one after the other: the trial, the best one so far, its illegal ones -/
def cBest (E T : Enc) : Nat → Enc × Int × Int
  | 0 => (T, 0, 0)
  | n + 1 => if (cBest E T n).2.1 = 0 then (cFollow E (cBest E T n).1 (n + 1), (n : Int) + 1, (cFollow E (cBest E T n).1 (n + 1)).1 12)
    else if (cFollow E (cBest E T n).1 (n + 1)).1 12 < (cBest E T n).2.2 then (cFollow E (cBest E T n).1 (n + 1), (n : Int) + 1, (cFollow E (cBest E T n).1 (n + 1)).1 12)
    else (cFollow E (cBest E T n).1 (n + 1), (cBest E T n).2.1, (cBest E T n).2.2)
def cBestR (E T : Enc) (w : Int) : Int := if w = 0 then (cBest E T 9).2.1 else if w = 1 then (cBest E T 9).2.2 else -2
def cBestT (E T : Enc) (w : Int) : Enc := if w = 0 then (cBest E T 9).1 else if w = 1 then (cBest E T 9).1 else T
def cWouldR (E : Enc) (q : Int) : Int := if q < 0 then -2 else if 3 < q then -2 else cDeed E.1 E.2.1 q
def cDs (E : Enc) (w : Int) : Nat → Int
  | 0 => 0
  | n + 1 => if cEnt E.1 E.2.2 n / 2 ^ 3 = w then cDs E w n + 1 else cDs E w n
def cDeedsR (E : Enc) (w : Int) : Int := if w < 0 then -2 else if 3 < w then -2 else cDs E w (Int.toNat (min (E.1 2) 200))
/-! the text carried out -/
def cCR (C : Nat → Int) (len : Int) : Nat → Enc → PS → Enc × PS × Int
  | 0, E, s => (E, s, -3)
  | n + 1, E, s => if pRunR C len s.1 = 0 then (E, pRun C len s, -3)
    else if cPassR E (pRun C len s).2.1 (pRun C len s).2.2.1 (pRun C len s).2.2.2 < 0 then (cPassE E (pRun C len s).2.1 (pRun C len s).2.2.1 (pRun C len s).2.2.2, pRun C len s, cPassR E (pRun C len s).2.1 (pRun C len s).2.2.1 (pRun C len s).2.2.2)
    else if pAt C len (pRun C len s).1 = 44 then cCR C len n (cPassE E (pRun C len s).2.1 (pRun C len s).2.2.1 (pRun C len s).2.2.2) ((pRun C len s).1 + 1, (pRun C len s).2)
    else (cPassE E (pRun C len s).2.1 (pRun C len s).2.2.1 (pRun C len s).2.2.2, pRun C len s, cPassR E (pRun C len s).2.1 (pRun C len s).2.2.1 (pRun C len s).2.2.2)
theorem cCR_s (C : Nat → Int) (len : Int) (n : Nat) (E : Enc) (s : PS) : cCR C len (n + 1) E s = if pRunR C len s.1 = 0 then (E, pRun C len s, -3)
    else if cPassR E (pRun C len s).2.1 (pRun C len s).2.2.1 (pRun C len s).2.2.2 < 0 then (cPassE E (pRun C len s).2.1 (pRun C len s).2.2.1 (pRun C len s).2.2.2, pRun C len s, cPassR E (pRun C len s).2.1 (pRun C len s).2.2.1 (pRun C len s).2.2.2)
    else if pAt C len (pRun C len s).1 = 44 then cCR C len n (cPassE E (pRun C len s).2.1 (pRun C len s).2.2.1 (pRun C len s).2.2.2) ((pRun C len s).1 + 1, (pRun C len s).2)
    else (cPassE E (pRun C len s).2.1 (pRun C len s).2.2.1 (pRun C len s).2.2.2, pRun C len s, cPassR E (pRun C len s).2.1 (pRun C len s).2.2.1 (pRun C len s).2.2.2) := rfl
def cCO (C : Nat → Int) (len : Int) (E : Enc) (s : PS) : Enc × PS × Int :=
  if pAt C len s.1 = 122 then (cClear E, (s.1 + 1, s.2), E.1 3)
  else if pAt C len s.1 = 110 then (if pDigR C len (s.1 + 1) = 0 then (E, pDig C len (s.1 + 1, s.2), -3) else (cAdjE E 2 (pDig C len (s.1 + 1, s.2)).2.2.2, pDig C len (s.1 + 1, s.2), cAdjR E 2 (pDig C len (s.1 + 1, s.2)).2.2.2))
  else if pAt C len s.1 = 102 then (if pNumR C len (s.1 + 1) = 0 then (E, pNum C len (s.1 + 1, s.2), -3) else (cRevE E (pNum C len (s.1 + 1, s.2)).2.2.2, pNum C len (s.1 + 1, s.2), cRevR E (pNum C len (s.1 + 1, s.2)).2.2.2))
  else if pAt C len s.1 = 98 then (if pNumR C len (s.1 + 1) = 0 then (E, pNum C len (s.1 + 1, s.2), -3) else (cRevE E (-(pNum C len (s.1 + 1, s.2)).2.2.2), pNum C len (s.1 + 1, s.2), cRevR E (-(pNum C len (s.1 + 1, s.2)).2.2.2)))
  else cCR C len 80 E s
def cCL (C : Nat → Int) (len : Int) : Nat → Enc → PS → Int → Enc × PS × Int
  | 0, E, s, k => (E, s, k)
  | n + 1, E, s, k => if (cCO C len E s).2.2 < 0 then ((cCO C len E s).1, (cCO C len E s).2.1, k)
    else if pAt C len (cCO C len E s).2.1.1 = 59 then cCL C len n (cCO C len E s).1 ((cCO C len E s).2.1.1 + 1, (cCO C len E s).2.1.2) (k + 1)
    else ((cCO C len E s).1, (cCO C len E s).2.1, k + 1)
theorem cCL_s (C : Nat → Int) (len : Int) (n : Nat) (E : Enc) (s : PS) (k : Int) : cCL C len (n + 1) E s k = if (cCO C len E s).2.2 < 0 then ((cCO C len E s).1, (cCO C len E s).2.1, k)
    else if pAt C len (cCO C len E s).2.1.1 = 59 then cCL C len n (cCO C len E s).1 ((cCO C len E s).2.1.1 + 1, (cCO C len E s).2.1.2) (k + 1)
    else ((cCO C len E s).1, (cCO C len E s).2.1, k + 1) := rfl
theorem passR_in {E : Enc} {p i n : Int} : -5 ≤ cPassR E p i n ∧ cPassR E p i n ≤ 9999 := by
  have q : ∀ k : Nat, 0 ≤ cSteps E p i k ∧ cSteps E p i k ≤ k := by
    intro k
    induction k with
    | zero => exact ⟨Int.le_refl 0, Int.le_refl 0⟩
    | succ k ih =>
      have e : cSteps E p i (k + 1) = cSteps E p i k + 1 ∨ cSteps E p i (k + 1) = cSteps E p i k := by
        show (if _ then _ else if _ then _ else _ : Int) = _ ∨ (if _ then _ else if _ then _ else _ : Int) = _
        split
        · exact Or.inl rfl
        · split
          · exact Or.inl rfl
          · exact Or.inr rfl
      omega
  have h := q n.toNat
  unfold cPassR cPassOk
  repeat' split
  all_goals omega
theorem revR_in {E : Enc} {x : Int} (hI : InvE E) : -5 ≤ cRevR E x ∧ cRevR E x ≤ 9999 := by
  have h3 := (rev_inv (x := x) hI).2.1
  have h1 := (rev_inv (x := x) hI).2.2.2.2.2.2.2.2.2.2.2.2.2.1
  have hok : cRevOk E x = -2 ∨ cRevOk E x = -5 ∨ cRevOk E x = 0 := by
    unfold cRevOk
    repeat' split
    all_goals omega
  unfold cRevR
  split <;> omega
theorem adjR_in {E : Enc} {x y : Int} (hI : InvE E) : -5 ≤ cAdjR E x y ∧ cAdjR E x y ≤ 9999 := by
  obtain ⟨h2, h3, h4, h5, h6, h7, h8, h9, h10, h13, h14, h15, hs0, hs1, hs2, hs3, hs4, hg⟩ := hI
  unfold cAdjR
  split
  · rename_i h
    unfold cAdjOk at h
    split at h
    · rename_i hx
      obtain rfl | rfl | rfl | rfl | rfl : x = 0 ∨ x = 1 ∨ x = 2 ∨ x = 3 ∨ x = 4 := by omega
      · show -5 ≤ E.2.1 0 ∧ E.2.1 0 ≤ 9999; omega
      · show -5 ≤ E.2.1 1 ∧ E.2.1 1 ≤ 9999; omega
      · show -5 ≤ E.2.1 2 ∧ E.2.1 2 ≤ 9999; omega
      · show -5 ≤ E.2.1 3 ∧ E.2.1 3 ≤ 9999; omega
      · show -5 ≤ E.2.1 4 ∧ E.2.1 4 ≤ 9999; omega
    · omega
  · omega
theorem cCR_in {C : Nat → Int} {len : Int} : ∀ (n : Nat) (E : Enc) (s : PS), InvE E → (0 ≤ s.1 ∧ s.1 ≤ 80) → InvE (cCR C len n E s).1 ∧ (0 ≤ (cCR C len n E s).2.1.1 ∧ (cCR C len n E s).2.1.1 ≤ 80) ∧ (-5 ≤ (cCR C len n E s).2.2 ∧ (cCR C len n E s).2.2 ≤ 9999)
  | 0, E, s, hI, hs => ⟨hI, hs, by show (-5 : Int) ≤ -3 ∧ (-3 : Int) ≤ 9999; omega⟩
  | n + 1, E, s, hI, hs => by
    have h1 := pRun_in (C := C) (len := len) hs
    have h2 := pAt_spec C len (pRun C len s).1
    have h3 := passR_in (E := E) (p := (pRun C len s).2.1) (i := (pRun C len s).2.2.1) (n := (pRun C len s).2.2.2)
    have h4 := pass_inv (p := (pRun C len s).2.1) (i := (pRun C len s).2.2.1) (n := (pRun C len s).2.2.2) hI
    rw [cCR_s]
    split
    · exact ⟨hI, h1, by show (-5 : Int) ≤ -3 ∧ (-3 : Int) ≤ 9999; omega⟩
    · split
      · exact ⟨h4, h1, h3⟩
      · split
        · exact cCR_in n _ ((pRun C len s).1 + 1, (pRun C len s).2) h4 ⟨by show 0 ≤ (pRun C len s).1 + 1; omega, by show (pRun C len s).1 + 1 ≤ 80; omega⟩
        · exact ⟨h4, h1, h3⟩
theorem cCO_in {C : Nat → Int} {len : Int} {E : Enc} {s : PS} (hI : InvE E) (hs : 0 ≤ s.1 ∧ s.1 ≤ 80) : InvE (cCO C len E s).1 ∧ (0 ≤ (cCO C len E s).2.1.1 ∧ (cCO C len E s).2.1.1 ≤ 80) ∧ (-5 ≤ (cCO C len E s).2.2 ∧ (cCO C len E s).2.2 ≤ 9999) := by
  have h1 := pAt_spec C len s.1
  have h2 := pAt_spec C len (s.1 + 1)
  have hd : pAt C len s.1 ≠ 0 → 0 ≤ (pDig C len (s.1 + 1, s.2)).1 ∧ (pDig C len (s.1 + 1, s.2)).1 ≤ 80 := by
    intro h0
    unfold pDig
    split
    · exact ⟨by show 0 ≤ s.1 + 1; omega, by show s.1 + 1 ≤ 80; omega⟩
    · rename_i h3
      have h4 : ¬ pAt C len (s.1 + 1) = 0 := fun z => h3 (by unfold pDigR; rw [if_pos (by show pAt C len (s.1 + 1) < 49; omega)])
      exact ⟨by show 0 ≤ s.1 + 1 + 1; omega, by show s.1 + 1 + 1 ≤ 80; omega⟩
  have hn : pAt C len s.1 ≠ 0 → 0 ≤ (pNum C len (s.1 + 1, s.2)).1 ∧ (pNum C len (s.1 + 1, s.2)).1 ≤ 80 := fun h0 => pNumP_in (pos := s.1 + 1) (by omega)
  have b3 : (-5 : Int) ≤ -3 ∧ (-3 : Int) ≤ 9999 := by omega
  unfold cCO
  split
  · have h3 := hI.2.1
    have h4 := hI.2.2.2.2.2.2.2.2.2.2.2.2.2.1
    exact ⟨clear_inv hI, ⟨by show 0 ≤ s.1 + 1; omega, by show s.1 + 1 ≤ 80; omega⟩, by show -5 ≤ E.1 3 ∧ E.1 3 ≤ 9999; omega⟩
  · split
    · split
      · exact ⟨hI, hd (by omega), b3⟩
      · exact ⟨adj_inv hI, hd (by omega), adjR_in hI⟩
    · split
      · split
        · exact ⟨hI, hn (by omega), b3⟩
        · exact ⟨rev_inv hI, hn (by omega), revR_in hI⟩
      · split
        · split
          · exact ⟨hI, hn (by omega), b3⟩
          · exact ⟨rev_inv hI, hn (by omega), revR_in hI⟩
        · exact cCR_in 80 E s hI hs
theorem has_of {f : Nat → Int} {a : Int} (h : ¬ cHas f a = 0) : 0 ≤ a ∧ a < min (f 2) 200 := by
  unfold cHas at h
  split at h
  · split at h
    · omega
    · omega
  · omega
theorem inR_of5 {x : Int} (h : -5 ≤ x ∧ x ≤ 9999) : inR x := ⟨by omega, by omega⟩
theorem inR_of6 {x : Int} (h : -6 ≤ x ∧ x ≤ 80) : inR x := ⟨by omega, by omega⟩
theorem fR_in {U : Nat → Int} {V : Nat → Enc} {x : Int} (hU : ∀ j, 0 ≤ U j ∧ U j ≤ 1) (hV : ∀ j, InvE (V j)) : -5 ≤ fR U V x ∧ fR U V x ≤ 9999 := by
  have h3 := (hV x.toNat).2.1
  have h4 := (hV x.toNat).2.2.2.2.2.2.2.2.2.2.2.2.2.1
  unfold fR
  repeat' split
  all_goals omega
theorem cCount_out (E : Enc) (F : Nat → Int) (len : Int) {w : Int} (h : w < 0 ∨ 16 < w) : cCountR E F len w = -2 := by
  unfold cCountR
  rw [if_neg (by omega), if_neg (by omega), if_neg (by omega), if_neg (by omega), if_neg (by omega), if_neg (by omega), if_neg (by omega), if_neg (by omega), if_neg (by omega), if_neg (by omega), if_neg (by omega), if_neg (by omega)]
  split
  · rfl
  · rw [if_pos (by omega)]
theorem pRun_val {C : Nat → Int} {len : Int} {s : PS} (h : ¬ pRunR C len s.1 = 0) : (0 ≤ (pRun C len s).2.1 ∧ (pRun C len s).2.1 ≤ 3) ∧ (0 ≤ (pRun C len s).2.2.1 ∧ (pRun C len s).2.2.1 ≤ 1) ∧ (0 ≤ (pRun C len s).2.2.2 ∧ (pRun C len s).2.2.2 ≤ 999) := by
  have hv := pNumV_in (C := C) len (pIxP C len s.1 + 1)
  have hi : 0 ≤ pIxV C len s.1 ∧ pIxV C len s.1 ≤ 1 := by
    unfold pIxV
    split <;> omega
  unfold pRunR at h
  unfold pRun
  split at h
  · omega
  · split at h
    · omega
    · rename_i h1 h2
      rw [if_neg h1, if_neg h2]
      split
      · exact ⟨⟨by show 0 ≤ pAt C len s.1 - 48; omega, by show pAt C len s.1 - 48 ≤ 3; omega⟩, hi, hv⟩
      · exact ⟨⟨by show 0 ≤ pAt C len s.1 - 48; omega, by show pAt C len s.1 - 48 ≤ 3; omega⟩, hi, by show (0 : Int) ≤ 1 ∧ (1 : Int) ≤ 999; omega⟩
theorem pDig_val {C : Nat → Int} {len : Int} {s : PS} (h : ¬ pDigR C len s.1 = 0) : 1 ≤ (pDig C len s).2.2.2 ∧ (pDig C len s).2.2.2 ≤ 9 := by
  unfold pDig
  rw [if_neg h]
  unfold pDigR at h
  split at h
  · omega
  · split at h
    · omega
    · show 1 ≤ pAt C len s.1 - 48 ∧ pAt C len s.1 - 48 ≤ 9; omega
theorem pFault_in {C : Nat → Int} {len : Int} : ∀ (n : Nat) (s : PS), (0 ≤ s.1 ∧ s.1 ≤ 80) → (0 ≤ (pFault C len n s).1.1 ∧ (pFault C len n s).1.1 ≤ 80) ∧ (-6 ≤ (pFault C len n s).2 ∧ (pFault C len n s).2 ≤ 80)
  | 0, s, h => ⟨h, by
    show -6 ≤ pFin len s.1 ∧ pFin len s.1 ≤ 80
    unfold pFin
    split <;> omega⟩
  | n + 1, s, h => by
    have h1 := (pOrd_in (C := C) (len := len) h).1
    have h2 := pAt_spec C len (pOrd C len s).1.1
    rw [pFault_s]
    split
    · exact ⟨h1, by show -6 ≤ (pOrd C len s).1.1 ∧ (pOrd C len s).1.1 ≤ 80; omega⟩
    · split
      · exact pFault_in n ((pOrd C len s).1.1 + 1, (pOrd C len s).1.2) ⟨by show 0 ≤ (pOrd C len s).1.1 + 1; omega, by show (pOrd C len s).1.1 + 1 ≤ 80; omega⟩
      · refine ⟨h1, ?_⟩
        show -6 ≤ pFin len (pOrd C len s).1.1 ∧ pFin len (pOrd C len s).1.1 ≤ 80
        unfold pFin
        split <;> omega
def cOutOk (C : Nat → Int) (len : Int) (s : PS) : Bool := decide ((pFault C len 81 (0, s.2.1, s.2.2.1, s.2.2.2)).2 = -6)
def cOut (C : Nat → Int) (len : Int) (E : Enc) (s : PS) : Enc × PS × Int := cCL C len 80 E (0, (pFault C len 81 (0, s.2.1, s.2.2.1, s.2.2.2)).1.2) 0
def cOutS (C : Nat → Int) (len : Int) (E : Enc) (s : PS) : PS := if cOutOk C len s = true then (cOut C len E s).2.1 else (pFault C len 81 (0, s.2.1, s.2.2.1, s.2.2.2)).1
def cOutR (C : Nat → Int) (len : Int) (E : Enc) (s : PS) : Int := if cOutOk C len s = true then (cOut C len E s).2.2 else -3
def cOutE (C : Nat → Int) (len : Int) (E : Enc) (s : PS) : Enc := if cOutOk C len s = true then (cOut C len E s).1 else E
def cOutL (C : Nat → Int) (len : Int) (s : PS) : Int := if cOutOk C len s = true then 0 else len
def cOutF (C : Nat → Int) (len : Int) (E : Enc) (s : PS) (F : Nat → Int) : Nat → Int := if cOutOk C len s = true then hKeep F (cOut C len E s).2.2 else F
def cOutH (C : Nat → Int) (len : Int) (E : Enc) (s : PS) (F : Nat → Int) (R : Nat → Enc) : Nat → Enc := if cOutOk C len s = true then upR R (Int.toNat (F 1)) E else R
theorem cBest_s (E T : Enc) (n : Nat) : cBest E T (n + 1) = if (cBest E T n).2.1 = 0 then (cFollow E (cBest E T n).1 (n + 1), (n : Int) + 1, (cFollow E (cBest E T n).1 (n + 1)).1 12)
    else if (cFollow E (cBest E T n).1 (n + 1)).1 12 < (cBest E T n).2.2 then (cFollow E (cBest E T n).1 (n + 1), (n : Int) + 1, (cFollow E (cBest E T n).1 (n + 1)).1 12)
    else (cFollow E (cBest E T n).1 (n + 1), (cBest E T n).2.1, (cBest E T n).2.2) := rfl
theorem best_in {E T : Enc} (hI : InvE E) (hg : ∀ j, 0 ≤ T.2.2 j ∧ T.2.2 j ≤ 31) : ∀ n : Nat, n ≤ 9 → (∀ j, 0 ≤ (cBest E T n).1.2.2 j ∧ (cBest E T n).1.2.2 j ≤ 31) ∧ (0 ≤ (cBest E T n).2.1 ∧ (cBest E T n).2.1 ≤ 9) ∧ (0 ≤ (cBest E T n).2.2 ∧ (cBest E T n).2.2 ≤ 99999)
  | 0, _ => ⟨hg, by show (0 : Int) ≤ 0 ∧ (0 : Int) ≤ 9; omega, by show (0 : Int) ≤ 0 ∧ (0 : Int) ≤ 99999; omega⟩
  | n + 1, h => by
    obtain ⟨a, b, d⟩ := best_in hI hg n (by omega)
    have k := follow_inv (F := (n : Int) + 1) hI ⟨by omega, by omega⟩ a
    have k1 := k.1
    have k9 := k.2.2.2.2.2.2.2.2.1
    have kg := invE_g k
    rw [cBest_s]
    split
    · exact ⟨kg, by show 0 ≤ (n : Int) + 1 ∧ (n : Int) + 1 ≤ 9; omega, by show 0 ≤ (cFollow E (cBest E T n).1 ((n : Int) + 1)).1 12 ∧ (cFollow E (cBest E T n).1 ((n : Int) + 1)).1 12 ≤ 99999; omega⟩
    · split
      · exact ⟨kg, by show 0 ≤ (n : Int) + 1 ∧ (n : Int) + 1 ≤ 9; omega, by show 0 ≤ (cFollow E (cBest E T n).1 ((n : Int) + 1)).1 12 ∧ (cFollow E (cBest E T n).1 ((n : Int) + 1)).1 12 ≤ 99999; omega⟩
      · exact ⟨kg, b, d⟩
def mkA (E T H S P : Nat → Nat) (f3 f4 f5 f7 f8 f9 : Nat → Nat) : Nat → Nat → Nat
  | 0 => E | 1 => T | 2 => H | 3 => f3 | 4 => f4 | 5 => f5 | 6 => S | 7 => f7 | 8 => f8 | 9 => f9 | _ => P
def fn3 (a0 a1 a2 : Nat) : Nat → Nat := fun j => if j = 0 then a0 else if j = 1 then a1 else a2
