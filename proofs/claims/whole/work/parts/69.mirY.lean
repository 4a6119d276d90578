/-! ===== the model's fault ===== -/
def mFin (pl sp : Int) : Int := if sp = pl then -6 else sp
def mFlt (P : Nat → Int) (pl : Int) : Nat → MS → MS × Int
  | 0, s => (s, 0)
  | n + 1, s => if (mOrdr P pl 0 s.1 s.2.1 s.2.2.1 s.2.2.2).2 = 0 then ((mOrdr P pl 0 s.1 s.2.1 s.2.2.1 s.2.2.2).1, (mOrdr P pl 0 s.1 s.2.1 s.2.2.1 s.2.2.2).1.2.2.1)
    else if pAt P pl (mOrdr P pl 0 s.1 s.2.1 s.2.2.1 s.2.2.2).1.2.2.1 = 59 then mFlt P pl n ((mOrdr P pl 0 s.1 s.2.1 s.2.2.1 s.2.2.2).1.1, (mOrdr P pl 0 s.1 s.2.1 s.2.2.1 s.2.2.2).1.2.1, (mOrdr P pl 0 s.1 s.2.1 s.2.2.1 s.2.2.2).1.2.2.1 + 1, (mOrdr P pl 0 s.1 s.2.1 s.2.2.1 s.2.2.2).1.2.2.2)
    else ((mOrdr P pl 0 s.1 s.2.1 s.2.2.1 s.2.2.2).1, mFin pl (mOrdr P pl 0 s.1 s.2.1 s.2.2.1 s.2.2.2).1.2.2.1)
theorem mFlt_s (P : Nat → Int) (pl : Int) (n : Nat) (B : Nat → Int) (e s b : Int) : mFlt P pl (n + 1) (B, e, s, b) = if (mOrdr P pl 0 B e s b).2 = 0 then ((mOrdr P pl 0 B e s b).1, (mOrdr P pl 0 B e s b).1.2.2.1)
    else if pAt P pl (mOrdr P pl 0 B e s b).1.2.2.1 = 59 then mFlt P pl n ((mOrdr P pl 0 B e s b).1.1, (mOrdr P pl 0 B e s b).1.2.1, (mOrdr P pl 0 B e s b).1.2.2.1 + 1, (mOrdr P pl 0 B e s b).1.2.2.2)
    else ((mOrdr P pl 0 B e s b).1, mFin pl (mOrdr P pl 0 B e s b).1.2.2.1) := rfl
theorem mRuns_0 {P : Nat → Int} {pl : Int} : ∀ (n : Nat) (s : MS), (mRuns P pl 0 n s).1.1 = s.1 ∧ (mRuns P pl 0 n s).1.2.1 = s.2.1
  | 0, _ => ⟨rfl, rfl⟩
  | n + 1, s => by
    have hx : ∀ q i m, mRunX 0 s.1 s.2.1 q i m = (s.1, s.2.1) := fun q i m => if_pos rfl
    have e : mRuns P pl 0 (n + 1) s = if pRunR P pl s.2.2.1 = 0 then ((s.1, s.2.1, mRunP P pl s.2.2.1, mRunN P pl s.2.2.1 s.2.2.2), 0)
      else if pAt P pl (mRunP P pl s.2.2.1) = 44 then mRuns P pl 0 n ((mRunX 0 s.1 s.2.1 (pAt P pl s.2.2.1 - 48) (pIxV P pl s.2.2.1) (mRunN P pl s.2.2.1 s.2.2.2)).1, (mRunX 0 s.1 s.2.1 (pAt P pl s.2.2.1 - 48) (pIxV P pl s.2.2.1) (mRunN P pl s.2.2.1 s.2.2.2)).2, mRunP P pl s.2.2.1 + 1, mRunN P pl s.2.2.1 s.2.2.2)
      else (((mRunX 0 s.1 s.2.1 (pAt P pl s.2.2.1 - 48) (pIxV P pl s.2.2.1) (mRunN P pl s.2.2.1 s.2.2.2)).1, (mRunX 0 s.1 s.2.1 (pAt P pl s.2.2.1 - 48) (pIxV P pl s.2.2.1) (mRunN P pl s.2.2.1 s.2.2.2)).2, mRunP P pl s.2.2.1, mRunN P pl s.2.2.1 s.2.2.2), 1) := rfl
    rw [e, hx]
    split
    · exact ⟨rfl, rfl⟩
    · split
      · exact mRuns_0 (P := P) (pl := pl) n (s.1, s.2.1, mRunP P pl s.2.2.1 + 1, mRunN P pl s.2.2.1 s.2.2.2)
      · exact ⟨rfl, rfl⟩
theorem mOrdr_0 {P : Nat → Int} {pl : Int} {A : Nat → Int} {er sp nb : Int} : (mOrdr P pl 0 A er sp nb).1.1 = A ∧ (mOrdr P pl 0 A er sp nb).1.2.1 = er := by
  have ht : ∀ w, (mOrdT P pl 0 A er sp nb w).1.1 = A ∧ (mOrdT P pl 0 A er sp nb w).1.2.1 = er := by
    intro w
    unfold mOrdT
    split
    · exact ⟨rfl, rfl⟩
    · exact ⟨rfl, rfl⟩
  unfold mOrdr
  split
  · exact ⟨rfl, rfl⟩
  · split
    · unfold mOrdN
      split
      · exact ⟨rfl, rfl⟩
      · exact ⟨rfl, rfl⟩
    · split
      · exact ht 1
      · split
        · exact ht (-1)
        · exact mRuns_0 81 (A, er, sp, nb)
theorem mFlt_0 {P : Nat → Int} {pl : Int} : ∀ (n : Nat) (s : MS), (mFlt P pl n s).1.1 = s.1 ∧ (mFlt P pl n s).1.2.1 = s.2.1
  | 0, _ => ⟨rfl, rfl⟩
  | n + 1, (B, e, s, b) => by
    obtain ⟨h1, h2⟩ := mOrdr_0 (P := P) (pl := pl) (A := B) (er := e) (sp := s) (nb := b)
    rw [mFlt_s]
    split
    · exact ⟨h1, h2⟩
    · split
      · have r := mFlt_0 (P := P) (pl := pl) n ((mOrdr P pl 0 B e s b).1.1, (mOrdr P pl 0 B e s b).1.2.1, (mOrdr P pl 0 B e s b).1.2.2.1 + 1, (mOrdr P pl 0 B e s b).1.2.2.2)
        exact ⟨r.1.trans h1, r.2.trans h2⟩
      · exact ⟨h1, h2⟩
theorem mFlt_in {P : Nat → Int} {pl : Int} (hpl : 0 ≤ pl ∧ pl ≤ 80) : ∀ (n : Nat) (s : MS), InvM s.1 → (-5 ≤ s.2.1 ∧ s.2.1 ≤ 0) → (0 ≤ s.2.2.1 ∧ s.2.2.1 ≤ 80) → -6 ≤ (mFlt P pl n s).2 ∧ (mFlt P pl n s).2 ≤ 80
  | 0, _, _, _, _ => by show -6 ≤ (0 : Int) ∧ (0 : Int) ≤ 80; omega
  | n + 1, (B, e, s, b), hI, he, hs => by
    have o := mOrdr_in (P := P) (pl := pl) (dn := 0) (A := B) (er := e) (sp := s) (nb := b) hI he hs
    have o3 := o.2.2.1
    have hq := pAt_spec P pl (mOrdr P pl 0 B e s b).1.2.2.1
    rw [mFlt_s]
    split
    · show -6 ≤ (mOrdr P pl 0 B e s b).1.2.2.1 ∧ (mOrdr P pl 0 B e s b).1.2.2.1 ≤ 80; omega
    · split
      · exact mFlt_in hpl n _ o.1 o.2.1 (by show 0 ≤ (mOrdr P pl 0 B e s b).1.2.2.1 + 1 ∧ (mOrdr P pl 0 B e s b).1.2.2.1 + 1 ≤ 80; omega)
      · show -6 ≤ mFin pl _ ∧ mFin pl _ ≤ 80
        unfold mFin
        split <;> omega
