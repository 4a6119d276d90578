/-! ===== what an order leaves stays in its ranges ===== -/
theorem mRunP_in {P : Nat → Int} {pl sp : Int} (h : 0 ≤ sp ∧ sp ≤ 80) : (0 ≤ mRunP P pl sp ∧ mRunP P pl sp ≤ 80) ∧ sp ≤ mRunP P pl sp := by
  have h1 := pAt_spec P pl sp
  have h2 := pAt_spec P pl (sp + 1)
  have hix : (pIxP P pl sp = sp + 1 + 1 ∧ pAt P pl (sp + 1) = 105) ∨ pIxP P pl sp = sp + 1 := by
    unfold pIxP
    split
    · exact Or.inl ⟨rfl, by assumption⟩
    · exact Or.inr rfl
  have h3 := pAt_spec P pl (pIxP P pl sp)
  have h4 := pNumP_ge P pl (pIxP P pl sp + 1)
  unfold mRunP
  split
  · omega
  · split
    · omega
    · split
      · have h5 := pNumP_in (C := P) (len := pl) (pos := pIxP P pl sp + 1) (by omega)
        omega
      · omega
theorem mRunX_in {dn : Int} {A : Nat → Int} {er q i n : Int} (hI : InvM A) (he : -5 ≤ er ∧ er ≤ 0) : InvM (mRunX dn A er q i n).1 ∧ (-5 ≤ (mRunX dn A er q i n).2 ∧ (mRunX dn A er q i n).2 ≤ 0) := by
  unfold mRunX
  split
  · exact ⟨hI, he⟩
  · split
    · exact ⟨mFeed_inv hI, does_in mFeedR_in⟩
    · exact ⟨hI, he⟩
theorem mRuns_in {P : Nat → Int} {pl dn : Int} : ∀ (n : Nat) (s : MS), InvM s.1 → (-5 ≤ s.2.1 ∧ s.2.1 ≤ 0) → (0 ≤ s.2.2.1 ∧ s.2.2.1 ≤ 80) → InvM (mRuns P pl dn n s).1.1 ∧ (-5 ≤ (mRuns P pl dn n s).1.2.1 ∧ (mRuns P pl dn n s).1.2.1 ≤ 0) ∧ (0 ≤ (mRuns P pl dn n s).1.2.2.1 ∧ (mRuns P pl dn n s).1.2.2.1 ≤ 80) ∧ s.2.2.1 ≤ (mRuns P pl dn n s).1.2.2.1
  | 0, s, hI, he, hs => ⟨hI, he, hs, Int.le_refl _⟩
  | n + 1, s, hI, he, hs => by
    have hp := mRunP_in (P := P) (pl := pl) hs
    have hx := mRunX_in (dn := dn) (q := pAt P pl s.2.2.1 - 48) (i := pIxV P pl s.2.2.1) (n := mRunN P pl s.2.2.1 s.2.2.2) hI he
    have e : mRuns P pl dn (n + 1) s = if pRunR P pl s.2.2.1 = 0 then ((s.1, s.2.1, mRunP P pl s.2.2.1, mRunN P pl s.2.2.1 s.2.2.2), 0)
      else if pAt P pl (mRunP P pl s.2.2.1) = 44 then mRuns P pl dn n ((mRunX dn s.1 s.2.1 (pAt P pl s.2.2.1 - 48) (pIxV P pl s.2.2.1) (mRunN P pl s.2.2.1 s.2.2.2)).1, (mRunX dn s.1 s.2.1 (pAt P pl s.2.2.1 - 48) (pIxV P pl s.2.2.1) (mRunN P pl s.2.2.1 s.2.2.2)).2, mRunP P pl s.2.2.1 + 1, mRunN P pl s.2.2.1 s.2.2.2)
      else (((mRunX dn s.1 s.2.1 (pAt P pl s.2.2.1 - 48) (pIxV P pl s.2.2.1) (mRunN P pl s.2.2.1 s.2.2.2)).1, (mRunX dn s.1 s.2.1 (pAt P pl s.2.2.1 - 48) (pIxV P pl s.2.2.1) (mRunN P pl s.2.2.1 s.2.2.2)).2, mRunP P pl s.2.2.1, mRunN P pl s.2.2.1 s.2.2.2), 1) := rfl
    rw [e]
    split
    · exact ⟨hI, he, hp.1, hp.2⟩
    · split
      · rename_i hc
        have hq := pAt_spec P pl (mRunP P pl s.2.2.1)
        have r := mRuns_in (P := P) (pl := pl) (dn := dn) n ((mRunX dn s.1 s.2.1 (pAt P pl s.2.2.1 - 48) (pIxV P pl s.2.2.1) (mRunN P pl s.2.2.1 s.2.2.2)).1, (mRunX dn s.1 s.2.1 (pAt P pl s.2.2.1 - 48) (pIxV P pl s.2.2.1) (mRunN P pl s.2.2.1 s.2.2.2)).2, mRunP P pl s.2.2.1 + 1, mRunN P pl s.2.2.1 s.2.2.2) hx.1 hx.2 (by show 0 ≤ mRunP P pl s.2.2.1 + 1 ∧ mRunP P pl s.2.2.1 + 1 ≤ 80; omega)
        refine ⟨r.1, r.2.1, r.2.2.1, ?_⟩
        have r4 : mRunP P pl s.2.2.1 + 1 ≤ _ := r.2.2.2
        omega
      · exact ⟨hx.1, hx.2, hp.1, hp.2⟩
