/-! ===== what an order leaves stays in its ranges ===== -/
theorem mRunP_in {P : Nat → Int} {pl sp : Int} (h : 0 ≤ sp ∧ sp ≤ 80) : (0 ≤ mRunP P pl sp ∧ mRunP P pl sp ≤ 80) ∧ sp ≤ mRunP P pl sp := by
  have h1 := pAt_spec P pl sp
  have h2 := pAt_spec P pl (sp + 1)
  have hix : (pIxP P pl sp = sp + 1 + 1 ∧ pAt P pl (sp + 1) = 105) ∨ pIxP P pl sp = sp + 1 := by
    unfold pIxP
    split
    · exact Or.inl ⟨rfl, by assumption⟩
    · exact Or.inr rfl
  have h3 := pAt_spec P pl (pIxP P pl sp)
  have h4 := pNumP_ge P pl (pIxP P pl sp + 1)
  unfold mRunP
  split
  · omega
  · split
    · omega
    · split
      · have h5 := pNumP_in (C := P) (len := pl) (pos := pIxP P pl sp + 1) (by omega)
        omega
      · omega
theorem mRunX_in {dn : Int} {A : Nat → Int} {er q i n : Int} (hI : InvM A) (he : -5 ≤ er ∧ er ≤ 0) : InvM (mRunX dn A er q i n).1 ∧ (-5 ≤ (mRunX dn A er q i n).2 ∧ (mRunX dn A er q i n).2 ≤ 0) := by
  unfold mRunX
  split
  · exact ⟨hI, he⟩
  · split
    · exact ⟨mFeed_inv hI, does_in mFeedR_in⟩
    · exact ⟨hI, he⟩
theorem mRuns_in {P : Nat → Int} {pl dn : Int} : ∀ (n : Nat) (s : MS), InvM s.1 → (-5 ≤ s.2.1 ∧ s.2.1 ≤ 0) → (0 ≤ s.2.2.1 ∧ s.2.2.1 ≤ 80) → InvM (mRuns P pl dn n s).1.1 ∧ (-5 ≤ (mRuns P pl dn n s).1.2.1 ∧ (mRuns P pl dn n s).1.2.1 ≤ 0) ∧ (0 ≤ (mRuns P pl dn n s).1.2.2.1 ∧ (mRuns P pl dn n s).1.2.2.1 ≤ 80) ∧ s.2.2.1 ≤ (mRuns P pl dn n s).1.2.2.1
  | 0, s, hI, he, hs => ⟨hI, he, hs, Int.le_refl _⟩
  | n + 1, s, hI, he, hs => by
    have hp := mRunP_in (P := P) (pl := pl) hs
    have hx := mRunX_in (dn := dn) (q := pAt P pl s.2.2.1 - 48) (i := pIxV P pl s.2.2.1) (n := mRunN P pl s.2.2.1 s.2.2.2) hI he
    have e : mRuns P pl dn (n + 1) s = if pRunR P pl s.2.2.1 = 0 then ((s.1, s.2.1, mRunP P pl s.2.2.1, mRunN P pl s.2.2.1 s.2.2.2), 0)
      else if pAt P pl (mRunP P pl s.2.2.1) = 44 then mRuns P pl dn n ((mRunX dn s.1 s.2.1 (pAt P pl s.2.2.1 - 48) (pIxV P pl s.2.2.1) (mRunN P pl s.2.2.1 s.2.2.2)).1, (mRunX dn s.1 s.2.1 (pAt P pl s.2.2.1 - 48) (pIxV P pl s.2.2.1) (mRunN P pl s.2.2.1 s.2.2.2)).2, mRunP P pl s.2.2.1 + 1, mRunN P pl s.2.2.1 s.2.2.2)
      else (((mRunX dn s.1 s.2.1 (pAt P pl s.2.2.1 - 48) (pIxV P pl s.2.2.1) (mRunN P pl s.2.2.1 s.2.2.2)).1, (mRunX dn s.1 s.2.1 (pAt P pl s.2.2.1 - 48) (pIxV P pl s.2.2.1) (mRunN P pl s.2.2.1 s.2.2.2)).2, mRunP P pl s.2.2.1, mRunN P pl s.2.2.1 s.2.2.2), 1) := rfl
    rw [e]
    split
    · exact ⟨hI, he, hp.1, hp.2⟩
    · split
      · rename_i hc
        have hq := pAt_spec P pl (mRunP P pl s.2.2.1)
        have r := mRuns_in (P := P) (pl := pl) (dn := dn) n ((mRunX dn s.1 s.2.1 (pAt P pl s.2.2.1 - 48) (pIxV P pl s.2.2.1) (mRunN P pl s.2.2.1 s.2.2.2)).1, (mRunX dn s.1 s.2.1 (pAt P pl s.2.2.1 - 48) (pIxV P pl s.2.2.1) (mRunN P pl s.2.2.1 s.2.2.2)).2, mRunP P pl s.2.2.1 + 1, mRunN P pl s.2.2.1 s.2.2.2) hx.1 hx.2 (by show 0 ≤ mRunP P pl s.2.2.1 + 1 ∧ mRunP P pl s.2.2.1 + 1 ≤ 80; omega)
        refine ⟨r.1, r.2.1, r.2.2.1, ?_⟩
        have r4 : mRunP P pl s.2.2.1 + 1 ≤ _ := r.2.2.2
        omega
      · exact ⟨hx.1, hx.2, hp.1, hp.2⟩
theorem mTurn_inv {A : Nat → Int} {x : Int} (hI : InvM A) : InvM (mTurnA A x) := by
  unfold mTurnA
  split
  · rename_i h
    have hx : mMany x * A 2 ≤ 99999 - A 5 ∧ 0 ≤ mMany x := by
      unfold mTurnOk at h
      have hm : 0 ≤ mMany x := by unfold mMany; split <;> omega
      (repeat' split at h) <;> first | exact ⟨by omega, hm⟩ | omega
    exact (mTurns_inv (w := mWay x) hI (mMany x).toNat (by rw [Int.toNat_of_nonneg hx.2]; exact hx.1)).1
  · exact hI
theorem mZero_inv {A : Nat → Int} (hI : InvM A) : InvM (updZ (updZ A 6 0) 7 0) := by
  obtain ⟨a0, a1, a2, a3, a4, a5, a6, a7, a8, a9, a10, a11, a12, a13, a14, a15, a16, a17, a18, ag⟩ := hI
  refine ⟨a0, a1, a2, a3, a4, a5, ?_, ?_, a8, a9, a10, a11, a12, a13, a14, a15, a16, a17, a18, ?_⟩
  · show 0 ≤ (0 : Int) ∧ (0 : Int) < A 1; omega
  · show 0 ≤ (0 : Int) ∧ (0 : Int) < A 0; omega
  · intro j hj
    rw [updZ_ne _ _ (by omega), updZ_ne _ _ (by omega)]
    exact ag j hj
theorem mOrdr_in {P : Nat → Int} {pl dn : Int} {A : Nat → Int} {er sp nb : Int} (hI : InvM A) (he : -5 ≤ er ∧ er ≤ 0) (hs : 0 ≤ sp ∧ sp ≤ 80) : InvM (mOrdr P pl dn A er sp nb).1.1 ∧ (-5 ≤ (mOrdr P pl dn A er sp nb).1.2.1 ∧ (mOrdr P pl dn A er sp nb).1.2.1 ≤ 0) ∧ (0 ≤ (mOrdr P pl dn A er sp nb).1.2.2.1 ∧ (mOrdr P pl dn A er sp nb).1.2.2.1 ≤ 80) ∧ sp ≤ (mOrdr P pl dn A er sp nb).1.2.2.1 := by
  have h1 := pAt_spec P pl sp
  have h2 := pAt_spec P pl (sp + 1)
  have hm := mIn_spec (pAt P pl (sp + 1)) 49 57
  have hge := pNumP_ge P pl (sp + 1)
  have a6 : 0 ≤ A 6 ∧ A 6 < A 1 := (invM_iff.mp hI).1.2.2.2.2.2.2.1
  have a1 : 10 ≤ A 1 ∧ A 1 ≤ 9999 := (invM_iff.mp hI).1.2.1
  have ht : ∀ w, ¬ pAt P pl sp = 0 → InvM (mOrdT P pl dn A er sp nb w).1.1 ∧ (-5 ≤ (mOrdT P pl dn A er sp nb w).1.2.1 ∧ (mOrdT P pl dn A er sp nb w).1.2.1 ≤ 0) ∧ (0 ≤ (mOrdT P pl dn A er sp nb w).1.2.2.1 ∧ (mOrdT P pl dn A er sp nb w).1.2.2.1 ≤ 80) ∧ sp ≤ (mOrdT P pl dn A er sp nb w).1.2.2.1 := by
    intro w h0
    have hp := pNumP_in (C := P) (len := pl) (pos := sp + 1) (by omega)
    have hge' : sp ≤ pNumP P pl (sp + 1) := by omega
    unfold mOrdT
    split
    · exact ⟨hI, he, hp, hge'⟩
    · split
      · exact ⟨hI, he, hp, hge'⟩
      · exact ⟨mTurn_inv hI, does_in (mTurnR_in hI), hp, hge'⟩
  unfold mOrdr
  split
  · have hp : 0 ≤ sp + 1 ∧ sp + 1 ≤ 80 := by omega
    have hle : sp ≤ sp + 1 := by omega
    unfold mOrdZ
    split
    · exact ⟨hI, he, hp, hle⟩
    · exact ⟨mZero_inv hI, does_in (by omega), hp, hle⟩
  · split
    · have hp : 0 ≤ sp + 1 ∧ sp + 1 ≤ 80 := by omega
      have hle : sp ≤ sp + 1 := by omega
      unfold mOrdN
      split
      · exact ⟨hI, he, hp, hle⟩
      · have hp2 : 0 ≤ sp + 1 + 1 ∧ sp + 1 + 1 ≤ 80 := by omega
        have hle2 : sp ≤ sp + 1 + 1 := by omega
        split
        · exact ⟨hI, he, hp2, hle2⟩
        · exact ⟨mSet_inv hI, does_in (mSetR_in hI), hp2, hle2⟩
    · split
      · exact ht 1 (by omega)
      · split
        · exact ht (-1) (by omega)
        · exact mRuns_in 81 (A, er, sp, nb) hI he hs
theorem mOrdr_01 {P : Nat → Int} {pl dn : Int} {A : Nat → Int} {er sp nb : Int} : (mOrdr P pl dn A er sp nb).2 = 0 ∨ (mOrdr P pl dn A er sp nb).2 = 1 := by
  unfold mOrdr mOrdZ mOrdN mOrdT
  (repeat' split) <;> first | exact Or.inl rfl | exact Or.inr rfl | exact mRuns_01 _ _ _ _ _
