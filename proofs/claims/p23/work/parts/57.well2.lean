/-! ===== p23, pure: what isWell asks beside ===== -/
theorem rate_sg {E : Enc} (hI : InvE E) : ∃ z : Int, ((E.1 15 ≤ 0 ∧ z = 0) ∨ (0 < E.1 15 ∧ E.1 9 = 1 ∧ z = 1) ∨ (0 < E.1 15 ∧ E.1 9 ≠ 1 ∧ z = -1)) ∧ lg_cmp (cRateR E) (lI 0) = iI z := by
  by_cases h : E.1 15 ≤ 0
  · exact ⟨0, Or.inl ⟨h, rfl⟩, by rw [rate_0 hI h]; exact (l_cmp (by unfold inL; omega) (by unfold inL; omega)).trans rfl⟩
  · obtain ⟨X, hX, e1, -⟩ := rate_p hI (by omega)
    by_cases h9 : E.1 9 = 1
    · refine ⟨1, Or.inr (Or.inl ⟨by omega, h9, rfl⟩), ?_⟩
      rw [e1, if_pos h9, l_cmp (by unfold inL; omega) (by unfold inL; omega)]
      unfold sgnZ
      rw [if_pos hX.1]
    · refine ⟨-1, Or.inr (Or.inr ⟨by omega, h9, rfl⟩), ?_⟩
      rw [e1, if_neg h9, l_cmp (by unfold inL; omega) (by unfold inL; omega)]
      unfold sgnZ
      rw [if_neg (by omega), if_neg (by omega)]
theorem would_seen {E : Enc} (h5 : 0 ≤ E.1 5 ∧ E.1 5 ≤ 3) : cWouldR E (E.1 5) = 0 := by
  unfold cWouldR cDeed
  rw [if_neg (by omega), if_neg (by omega), if_pos rfl]
theorem opp_of {s v : Int} (h5 : 0 ≤ s ∧ s ≤ 3) (h : (v = swZ s ∧ ¬ swZ s = s) ∨ (v = 3 - s ∧ swZ s = s)) : (0 ≤ v ∧ v ≤ 3) ∧ ordP v = (ordP s + 2) % 4 := by
  obtain rfl | rfl | rfl | rfl : s = 0 ∨ s = 1 ∨ s = 2 ∨ s = 3 := by omega
  · rcases h with ⟨rfl, h⟩ | ⟨rfl, h⟩
    · exact absurd rfl h
    · exact ⟨by decide, by decide⟩
  · rcases h with ⟨rfl, h⟩ | ⟨rfl, h⟩
    · exact ⟨by decide, by decide⟩
    · exact absurd h (by decide)
  · rcases h with ⟨rfl, h⟩ | ⟨rfl, h⟩
    · exact ⟨by decide, by decide⟩
    · exact absurd h (by decide)
  · rcases h with ⟨rfl, h⟩ | ⟨rfl, h⟩
    · exact absurd rfl h
    · exact ⟨by decide, by decide⟩
theorem would_opp {E : Enc} {v : Int} (h2 : E.2.1 2 ≤ 1) (h5 : 0 ≤ E.1 5 ∧ E.1 5 ≤ 3) (hv : 0 ≤ v ∧ v ≤ 3) (ho : ordP v = (ordP (E.1 5) + 2) % 4) (hI : InvE E) : cWouldR E v = 3 := by
  have h8 := hI.2.2.2.2.2.2.1
  have i5 := ordP_in h5
  have hr : 1 ≤ cRun E.1 v := by
    unfold cRun
    split <;> omega
  have hne : ¬ v = E.1 5 := by
    intro z
    rw [z] at ho
    omega
  unfold cWouldR cDeed
  rw [if_neg (by omega), if_neg (by omega), if_neg hne, if_neg (by omega), ho, if_neg (by omega), if_neg (by omega)]
