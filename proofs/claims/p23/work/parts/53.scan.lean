/-! ===== p23, pure: the law's own reading of the log ===== -/
/-- the law's sums over the log's latest n ticks: by the gate, the latest step, the one ahead of it -/
def gatS (E : Enc) : Nat → Int
  | 0 => 0
  | n + 1 => gatS E n + (if (n : Int) < E.2.1 3 then (if cDat E.1 E.2.2 n = 1 then 1 else if cDat E.1 E.2.2 n = 2 then -1 else 0) else 0)
def fstS (E : Enc) : Nat → Int
  | 0 => -1
  | n + 1 => if fstS E n < 0 then (if cDat E.1 E.2.2 n = 1 ∨ cDat E.1 E.2.2 n = 2 then (n : Int) else fstS E n) else fstS E n
def sndS (E : Enc) : Nat → Int
  | 0 => -1
  | n + 1 => if 0 ≤ fstS E n ∧ sndS E n < 0 ∧ (cDat E.1 E.2.2 n = 1 ∨ cDat E.1 E.2.2 n = 2) then (n : Int) else sndS E n
def dsF (E : Enc) (n : Nat) : Nat → Int := fun j => cDs E (j : Int) n
theorem gatS_s (E : Enc) (n : Nat) : gatS E (n + 1) = gatS E n + (if (n : Int) < E.2.1 3 then (if cDat E.1 E.2.2 n = 1 then 1 else if cDat E.1 E.2.2 n = 2 then -1 else 0) else 0) := rfl
theorem fstS_s (E : Enc) (n : Nat) : fstS E (n + 1) = if fstS E n < 0 then (if cDat E.1 E.2.2 n = 1 ∨ cDat E.1 E.2.2 n = 2 then (n : Int) else fstS E n) else fstS E n := rfl
theorem sndS_s (E : Enc) (n : Nat) : sndS E (n + 1) = if 0 ≤ fstS E n ∧ sndS E n < 0 ∧ (cDat E.1 E.2.2 n = 1 ∨ cDat E.1 E.2.2 n = 2) then (n : Int) else sndS E n := rfl
theorem cGate_s (E : Enc) (n : Nat) : cGate E (n + 1) = if cDat E.1 E.2.2 n = 1 then cGate E n + 1 else if cDat E.1 E.2.2 n = 2 then cGate E n + (-1) else cGate E n := rfl
theorem gatS_in (E : Enc) : ∀ n : Nat, -(n : Int) ≤ gatS E n ∧ gatS E n ≤ n
  | 0 => ⟨by show -((0 : Nat) : Int) ≤ 0; omega, by show (0 : Int) ≤ ((0 : Nat) : Int); omega⟩
  | n + 1 => by
    have ih := gatS_in E n
    rw [gatS_s]
    (repeat' split) <;> omega
theorem gatS_gate (E : Enc) (hg : 0 ≤ E.2.1 3) : ∀ n : Nat, gatS E n = cGate E (min n (Int.toNat (E.2.1 3)))
  | 0 => by rw [Nat.zero_min]; rfl
  | n + 1 => by
    have ih := gatS_gate E hg n
    rw [gatS_s, ih]
    by_cases h : (n : Int) < E.2.1 3
    · rw [if_pos h, Nat.min_eq_left (show n ≤ Int.toNat (E.2.1 3) by omega), Nat.min_eq_left (show n + 1 ≤ Int.toNat (E.2.1 3) by omega), cGate_s]
      (repeat' split) <;> omega
    · rw [if_neg h, Nat.min_eq_right (show Int.toNat (E.2.1 3) ≤ n by omega), Nat.min_eq_right (show Int.toNat (E.2.1 3) ≤ n + 1 by omega)]
      omega
theorem gatS_end (E : Enc) (hg : 0 ≤ E.2.1 3) (n : Nat) : gatS E n = cGate E (Int.toNat (min (E.2.1 3) (n : Int))) := by
  rw [gatS_gate E hg n]
  congr 1
  omega
/-- the latest step of the first n ticks -/
theorem fstS_spec (E : Enc) : ∀ n : Nat, (fstS E n = -1 ∧ ∀ b : Int, 0 ≤ b → b < n → ¬ isSt E b) ∨ ((0 ≤ fstS E n ∧ fstS E n < n) ∧ isSt E (fstS E n) ∧ ∀ b : Int, 0 ≤ b → b < fstS E n → ¬ isSt E b)
  | 0 => Or.inl ⟨rfl, fun b h1 h2 => absurd h2 (by omega)⟩
  | n + 1 => by
    rw [fstS_s]
    rcases fstS_spec E n with ⟨h1, h2⟩ | ⟨h1, h2, h3⟩
    · rw [if_pos (by omega)]
      by_cases h : cDat E.1 E.2.2 n = 1 ∨ cDat E.1 E.2.2 n = 2
      · rw [if_pos h]
        exact Or.inr ⟨⟨by omega, by omega⟩, h, fun b b1 b2 => h2 b b1 b2⟩
      · rw [if_neg h]
        refine Or.inl ⟨h1, fun b b1 b2 => ?_⟩
        by_cases e : b = n
        · rw [e]; exact h
        · exact h2 b b1 (by omega)
    · rw [if_neg (by omega)]
      exact Or.inr ⟨⟨h1.1, by omega⟩, h2, h3⟩
/-- the step ahead of it -/
theorem sndS_spec (E : Enc) : ∀ n : Nat, (sndS E n = -1 ∧ (0 ≤ fstS E n → ∀ b : Int, fstS E n < b → b < n → ¬ isSt E b)) ∨ ((0 ≤ fstS E n ∧ fstS E n < sndS E n ∧ sndS E n < n) ∧ isSt E (sndS E n) ∧ ∀ b : Int, fstS E n < b → b < sndS E n → ¬ isSt E b)
  | 0 => Or.inl ⟨rfl, fun h => absurd (show (0 : Int) ≤ -1 from h) (by decide)⟩
  | n + 1 => by
    have hf := fstS_spec E n
    rw [sndS_s, fstS_s]
    by_cases hneg : fstS E n < 0
    · have hs : sndS E n = -1 := by
        rcases sndS_spec E n with ⟨h, -⟩ | ⟨h, -⟩
        · exact h
        · omega
      rw [if_neg (fun z => absurd z.1 (by omega)), if_pos hneg]
      refine Or.inl ⟨hs, fun h0 b b1 b2 => ?_⟩
      split at h0
      · rename_i hd
        rw [if_pos hd] at b1
        omega
      · omega
    · rw [if_neg hneg]
      rcases sndS_spec E n with ⟨h1, h2⟩ | ⟨h1, h2, h3⟩
      · by_cases h : cDat E.1 E.2.2 n = 1 ∨ cDat E.1 E.2.2 n = 2
        · rw [if_pos ⟨by omega, by omega, h⟩]
          rcases hf with ⟨g, -⟩ | ⟨g, -⟩
          · omega
          · exact Or.inr ⟨⟨g.1, g.2, by omega⟩, h, fun b b1 b2 => h2 g.1 b b1 b2⟩
        · rw [if_neg (fun z => h z.2.2)]
          refine Or.inl ⟨h1, fun h0 b b1 b2 => ?_⟩
          by_cases e : b = n
          · rw [e]; exact h
          · exact h2 h0 b b1 (by omega)
      · rw [if_neg (fun z => absurd z.2.1 (by omega))]
        exact Or.inr ⟨⟨h1.1, h1.2.1, by omega⟩, h2, h3⟩
theorem fstS_in (E : Enc) (n : Nat) : -1 ≤ fstS E n ∧ fstS E n < n := by
  rcases fstS_spec E n with ⟨h, -⟩ | ⟨h, -⟩ <;> omega
theorem sndS_in (E : Enc) (n : Nat) : -1 ≤ sndS E n ∧ sndS E n < n := by
  rcases sndS_spec E n with ⟨h, -⟩ | ⟨h, -⟩ <;> omega
/-- what the two say of the direction and the period, at the log's end -/
theorem well_fst {E : Enc} (hW : WellE E) {n : Nat} (hn : (n : Int) = min (E.1 2) 200) (h0 : 0 ≤ fstS E n) : cDat E.1 E.2.2 (fstS E n) = E.1 9 := by
  rcases fstS_spec E n with ⟨h, -⟩ | ⟨h1, h2, h3⟩
  · omega
  · exact (hW.2.1 _ h1.1 (by omega) h2 h3).1
theorem well_snd {E : Enc} (hW : WellE E) {n : Nat} (hn : (n : Int) = min (E.1 2) 200) (h0 : 0 ≤ sndS E n) : 0 ≤ fstS E n ∧ fstS E n < sndS E n ∧ sndS E n < n ∧ (cDat E.1 E.2.2 (fstS E n) = cDat E.1 E.2.2 (sndS E n) → E.1 15 = sndS E n - fstS E n) ∧ (cDat E.1 E.2.2 (fstS E n) ≠ cDat E.1 E.2.2 (sndS E n) → E.1 15 = 0) := by
  rcases sndS_spec E n with ⟨h, -⟩ | ⟨h1, h2, h3⟩
  · omega
  · rcases fstS_spec E n with ⟨g, -⟩ | ⟨g1, g2, g3⟩
    · omega
    · have q := hW.2.2.1 (fstS E n) (sndS E n) g1.1 h1.2.1 (by omega) g2 h2 (fun b b1 b2 b3 b4 => by
        by_cases e : b < fstS E n
        · exact g3 b b1 e b4
        · exact h3 b (by omega) b2 b4)
      exact ⟨h1.1, h1.2.1, h1.2.2, fun z => q.1 z.symm, fun z => q.2 (fun y => z y.symm)⟩
theorem dsF_s {E : Enc} {n : Nat} (h : 0 ≤ cDat E.1 E.2.2 n) : updZ (dsF E n) (Int.toNat (cDat E.1 E.2.2 n)) (dsF E n (Int.toNat (cDat E.1 E.2.2 n)) + 1) = dsF E (n + 1) := by
  funext j
  have hj : (j = Int.toNat (cDat E.1 E.2.2 n)) ↔ (cEnt E.1 E.2.2 n / 2 ^ 3 = (j : Int)) := by
    show _ ↔ cDat E.1 E.2.2 n = (j : Int)
    omega
  unfold updZ
  show (if j = _ then cDs E _ n + 1 else cDs E j n) = cDs E j (n + 1)
  rw [cDs_s]
  by_cases e : j = Int.toNat (cDat E.1 E.2.2 n)
  · rw [if_pos e, if_pos (hj.mp e), ← e]
  · rw [if_neg e, if_neg (fun z => e (hj.mpr z))]
