/-! ===== the pad: its text, and a reader that goes along it (what stands in it: where, pair, index, number) ===== -/
def padK (len pos pr ix nm : Int) : Nat → Int := fun j => if j = 1 then len else if j = 2 then pos else if j = 3 then pr else if j = 4 then ix else if j = 5 then nm else 0
abbrev wPad (J : Nat → ClassId) (h k : Nat) (len pos pr ix nm : Int) (C : Nat → Int) : va_W := [cO 2 h [some k, none, none, none, none, none] (padK len pos pr ix nm), cI (J 1) k 80 C]
def pAt (C : Nat → Int) (len pos : Int) : Int := if 0 ≤ pos then (if pos < len then (if pos < 80 then C pos.toNat else 0) else 0) else 0
theorem pAt_spec (C : Nat → Int) (len pos : Int) : (0 ≤ pos ∧ pos < len ∧ pos < 80) ∨ pAt C len pos = 0 := by
  unfold pAt
  repeat' split
  all_goals omega
theorem pAt_in {C : Nat → Int} (hC : ∀ j, 0 ≤ C j ∧ C j ≤ 126) (len pos : Int) : 0 ≤ pAt C len pos ∧ pAt C len pos ≤ 126 := by
  have := hC pos.toNat
  unfold pAt
  repeat' split
  all_goals omega
def pSkR (C : Nat → Int) (len pos ch : Int) : Int := if pAt C len pos = ch then 1 else 0
def pSk (C : Nat → Int) (len pos ch : Int) : Int := if pAt C len pos = ch then pos + 1 else pos
theorem pSkR_1 {C : Nat → Int} {len pos ch : Int} (h : pAt C len pos = ch) : pSkR C len pos ch = 1 := if_pos h
theorem pSkR_0 {C : Nat → Int} {len pos ch : Int} (h : ¬ pAt C len pos = ch) : pSkR C len pos ch = 0 := if_neg h
theorem pSk_1 {C : Nat → Int} {len pos ch : Int} (h : pAt C len pos = ch) : pSk C len pos ch = pos + 1 := if_pos h
theorem pSk_0 {C : Nat → Int} {len pos ch : Int} (h : ¬ pAt C len pos = ch) : pSk C len pos ch = pos := if_neg h
theorem nar_bool {x : Int} (h : x = 0 ∨ x = 1) : narrow .boolean (.int (iI x)) = .int (iI x) := by
  rcases h with rfl | rfl <;> rfl
theorem nar_char {x : Int} (h : 0 ≤ x ∧ x < 65536) : narrow .char (.int (iI x)) = .int (iI x) := by
  obtain ⟨n, rfl⟩ := Int.eq_ofNat_of_zero_le h.1
  have q := (pk_charN (q := n) (by omega)).1
  rw [iI_nat] at q
  exact q
abbrev PS : Type := Int × Int × Int × Int
/-- a digit 1 to 9 -/
def pDigR (C : Nat → Int) (len pos : Int) : Int := if pAt C len pos < 49 then 0 else if 57 < pAt C len pos then 0 else 1
def pDig (C : Nat → Int) (len : Int) (s : PS) : PS := if pDigR C len s.1 = 0 then s else (s.1 + 1, s.2.1, s.2.2.1, pAt C len s.1 - 48)
/-- a number -/
def pNumR (C : Nat → Int) (len pos : Int) : Int := if pAt C len pos < 48 then 0 else if 57 < pAt C len pos then 0 else 1
def isDg (c : Int) : Bool := decide (48 ≤ c) && decide (c ≤ 57)
def pNumP (C : Nat → Int) (len pos : Int) : Int :=
  if pAt C len pos = 48 then pos + 1 else if pAt C len pos < 48 then pos else if 57 < pAt C len pos then pos
  else if pAt C len (pos + 1) < 48 then pos + 1 else if 57 < pAt C len (pos + 1) then pos + 1
  else if pAt C len (pos + 1 + 1) < 48 then pos + 1 + 1 else if 57 < pAt C len (pos + 1 + 1) then pos + 1 + 1 else pos + 1 + 1 + 1
def pNumV (C : Nat → Int) (len pos : Int) : Int :=
  if pAt C len pos = 48 then 0 else if pAt C len pos < 48 then 0 else if 57 < pAt C len pos then 0
  else if pAt C len (pos + 1) < 48 then 10 * 0 + pAt C len pos - 48 else if 57 < pAt C len (pos + 1) then 10 * 0 + pAt C len pos - 48
  else if pAt C len (pos + 1 + 1) < 48 then 10 * (10 * 0 + pAt C len pos - 48) + pAt C len (pos + 1) - 48 else if 57 < pAt C len (pos + 1 + 1) then 10 * (10 * 0 + pAt C len pos - 48) + pAt C len (pos + 1) - 48
  else 10 * (10 * (10 * 0 + pAt C len pos - 48) + pAt C len (pos + 1) - 48) + pAt C len (pos + 1 + 1) - 48
def pNum (C : Nat → Int) (len : Int) (s : PS) : PS := (pNumP C len s.1, s.2.1, s.2.2.1, pNumV C len s.1)
theorem pNumP_in {C : Nat → Int} {len pos : Int} (h : 0 ≤ pos ∧ pos ≤ 80) : 0 ≤ pNumP C len pos ∧ pNumP C len pos ≤ 80 := by
  have h1 := pAt_spec C len pos
  have h2 := pAt_spec C len (pos + 1)
  have h3 := pAt_spec C len (pos + 1 + 1)
  unfold pNumP
  repeat' split
  all_goals omega
theorem pNumV_in {C : Nat → Int} (len pos : Int) : 0 ≤ pNumV C len pos ∧ pNumV C len pos ≤ 999 := by
  unfold pNumV
  repeat' split
  all_goals omega
theorem pNumR_01 (C : Nat → Int) (len pos : Int) : pNumR C len pos = 0 ∨ pNumR C len pos = 1 := by
  unfold pNumR
  repeat' split
  all_goals omega
theorem pDigR_01 (C : Nat → Int) (len pos : Int) : pDigR C len pos = 0 ∨ pDigR C len pos = 1 := by
  unfold pDigR
  repeat' split
  all_goals omega
/-- a run: where the reader is behind the pair and the index -/
def pIxP (C : Nat → Int) (len pos : Int) : Int := if pAt C len (pos + 1) = 105 then pos + 1 + 1 else pos + 1
def pIxV (C : Nat → Int) (len pos : Int) : Int := if pAt C len (pos + 1) = 105 then 1 else 0
def pRunR (C : Nat → Int) (len pos : Int) : Int :=
  if pAt C len pos < 48 then 0 else if 51 < pAt C len pos then 0 else if pAt C len (pIxP C len pos) = 42 then pNumR C len (pIxP C len pos + 1) else 1
def pRun (C : Nat → Int) (len : Int) (s : PS) : PS :=
  if pAt C len s.1 < 48 then s else if 51 < pAt C len s.1 then s else
    if pAt C len (pIxP C len s.1) = 42 then (pNumP C len (pIxP C len s.1 + 1), pAt C len s.1 - 48, pIxV C len s.1, pNumV C len (pIxP C len s.1 + 1))
    else (pIxP C len s.1, pAt C len s.1 - 48, pIxV C len s.1, 1)
theorem pRunR_01 (C : Nat → Int) (len pos : Int) : pRunR C len pos = 0 ∨ pRunR C len pos = 1 := by
  have := pNumR_01 C len (pIxP C len pos + 1)
  unfold pRunR
  repeat' split
  all_goals omega
theorem pIxP_in {C : Nat → Int} {len pos : Int} (h : 0 ≤ pos ∧ pos ≤ 80) (h1 : ¬ pAt C len pos = 0) : 0 ≤ pIxP C len pos ∧ pIxP C len pos ≤ 80 := by
  have h2 := pAt_spec C len pos
  have h3 := pAt_spec C len (pos + 1)
  unfold pIxP
  split <;> omega
theorem pRun_in {C : Nat → Int} {len : Int} {s : PS} (h : 0 ≤ s.1 ∧ s.1 ≤ 80) : 0 ≤ (pRun C len s).1 ∧ (pRun C len s).1 ≤ 80 := by
  unfold pRun
  split
  · exact h
  · split
    · exact h
    · have h1 := pIxP_in (C := C) (len := len) h (by omega)
      have h2 := pAt_spec C len (pIxP C len s.1)
      split
      · exact pNumP_in (by omega)
      · exact h1
def pRuns (C : Nat → Int) (len : Int) : Nat → PS → PS × Int
  | 0, s => (s, 0)
  | n + 1, s => if pRunR C len s.1 = 0 then (pRun C len s, 0) else if pAt C len (pRun C len s).1 = 44 then pRuns C len n ((pRun C len s).1 + 1, (pRun C len s).2) else (pRun C len s, 1)
def pOrd (C : Nat → Int) (len : Int) (s : PS) : PS × Int :=
  if pAt C len s.1 = 122 then ((s.1 + 1, s.2), 1)
  else if pAt C len s.1 = 110 then (pDig C len (s.1 + 1, s.2), pDigR C len (s.1 + 1))
  else if pAt C len s.1 = 102 then (pNum C len (s.1 + 1, s.2), pNumR C len (s.1 + 1))
  else if pAt C len s.1 = 98 then (pNum C len (s.1 + 1, s.2), pNumR C len (s.1 + 1))
  else pRuns C len 80 s
def pFin (len p : Int) : Int := if p < len then p else -6
def pFault (C : Nat → Int) (len : Int) : Nat → PS → PS × Int
  | 0, s => (s, pFin len s.1)
  | n + 1, s => if (pOrd C len s).2 = 0 then ((pOrd C len s).1, (pOrd C len s).1.1) else if pAt C len (pOrd C len s).1.1 = 59 then pFault C len n ((pOrd C len s).1.1 + 1, (pOrd C len s).1.2) else ((pOrd C len s).1, pFin len (pOrd C len s).1.1)
theorem pRuns_s (C : Nat → Int) (len : Int) (n : Nat) (s : PS) : pRuns C len (n + 1) s = if pRunR C len s.1 = 0 then (pRun C len s, 0) else if pAt C len (pRun C len s).1 = 44 then pRuns C len n ((pRun C len s).1 + 1, (pRun C len s).2) else (pRun C len s, 1) := rfl
theorem pRuns_in {C : Nat → Int} {len : Int} : ∀ (n : Nat) (s : PS), (0 ≤ s.1 ∧ s.1 ≤ 80) → (0 ≤ (pRuns C len n s).1.1 ∧ (pRuns C len n s).1.1 ≤ 80) ∧ ((pRuns C len n s).2 = 0 ∨ (pRuns C len n s).2 = 1)
  | 0, s, h => ⟨h, Or.inl rfl⟩
  | n + 1, s, h => by
    have h1 := pRun_in (C := C) (len := len) h
    have h2 := pAt_spec C len (pRun C len s).1
    rw [pRuns_s]
    split
    · exact ⟨h1, Or.inl rfl⟩
    · split
      · exact pRuns_in n ((pRun C len s).1 + 1, (pRun C len s).2) ⟨by show 0 ≤ (pRun C len s).1 + 1; omega, by show (pRun C len s).1 + 1 ≤ 80; omega⟩
      · exact ⟨h1, Or.inr rfl⟩
theorem pOrd_in {C : Nat → Int} {len : Int} {s : PS} (h : 0 ≤ s.1 ∧ s.1 ≤ 80) : (0 ≤ (pOrd C len s).1.1 ∧ (pOrd C len s).1.1 ≤ 80) ∧ ((pOrd C len s).2 = 0 ∨ (pOrd C len s).2 = 1) := by
  have h1 := pAt_spec C len s.1
  unfold pOrd
  split
  · exact ⟨⟨by show 0 ≤ s.1 + 1; omega, by show s.1 + 1 ≤ 80; omega⟩, Or.inr rfl⟩
  · split
    · refine ⟨?_, pDigR_01 _ _ _⟩
      have h2 := pAt_spec C len (s.1 + 1)
      unfold pDig
      split
      · exact ⟨by show 0 ≤ s.1 + 1; omega, by show s.1 + 1 ≤ 80; omega⟩
      · rename_i h3
        have h4 : ¬ pAt C len (s.1 + 1) = 0 := fun z => h3 (by unfold pDigR; rw [if_pos (by show pAt C len (s.1 + 1) < 49; omega)])
        exact ⟨by show 0 ≤ s.1 + 1 + 1; omega, by show s.1 + 1 + 1 ≤ 80; omega⟩
    · split
      · exact ⟨pNumP_in (pos := s.1 + 1) (by omega), pNumR_01 _ _ _⟩
      · split
        · exact ⟨pNumP_in (pos := s.1 + 1) (by omega), pNumR_01 _ _ _⟩
        · exact pRuns_in 80 s h
theorem inR_01 {x : Int} (h : x = 0 ∨ x = 1) : inR x := by
  rcases h with rfl | rfl <;> exact ⟨by decide, by decide⟩
theorem pFault_s (C : Nat → Int) (len : Int) (n : Nat) (s : PS) : pFault C len (n + 1) s = if (pOrd C len s).2 = 0 then ((pOrd C len s).1, (pOrd C len s).1.1) else if pAt C len (pOrd C len s).1.1 = 59 then pFault C len n ((pOrd C len s).1.1 + 1, (pOrd C len s).1.2) else ((pOrd C len s).1, pFin len (pOrd C len s).1.1) := rfl
theorem vnar_char {x : Int} (h : 0 ≤ x ∧ x < 65536) : vp_nar .char (iI x) = iI x := by
  unfold vp_nar
  rw [nar_char h]
