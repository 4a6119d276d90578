/-! ===== the model reads runs ===== -/
abbrev MS : Type := (Nat → Int) × Int × Int × Int
def mRunP (P : Nat → Int) (pl sp : Int) : Int := if pAt P pl sp < 48 then sp else if 51 < pAt P pl sp then sp else if pAt P pl (pIxP P pl sp) = 42 then pNumP P pl (pIxP P pl sp + 1) else pIxP P pl sp
def mRunN (P : Nat → Int) (pl sp nb : Int) : Int := if pAt P pl sp < 48 then nb else if 51 < pAt P pl sp then nb else if pAt P pl (pIxP P pl sp) = 42 then (if pNumR P pl (pIxP P pl sp + 1) = 0 then 1 else pNumV P pl (pIxP P pl sp + 1)) else 1
def mDoes (r : Int) : Int := if r < 0 then r else 0
def mRunX (dn : Int) (A : Nat → Int) (er q i n : Int) : (Nat → Int) × Int := if dn = 0 then (A, er) else if er = 0 then (mFeedA A q i n, if mFeedR A q i n < 0 then mFeedR A q i n else 0) else (A, er)
def mRuns (P : Nat → Int) (pl dn : Int) : Nat → MS → MS × Int
  | 0, s => (s, 0)
  | n + 1, s => if pRunR P pl s.2.2.1 = 0 then ((s.1, s.2.1, mRunP P pl s.2.2.1, mRunN P pl s.2.2.1 s.2.2.2), 0)
    else if pAt P pl (mRunP P pl s.2.2.1) = 44 then mRuns P pl dn n ((mRunX dn s.1 s.2.1 (pAt P pl s.2.2.1 - 48) (pIxV P pl s.2.2.1) (mRunN P pl s.2.2.1 s.2.2.2)).1, (mRunX dn s.1 s.2.1 (pAt P pl s.2.2.1 - 48) (pIxV P pl s.2.2.1) (mRunN P pl s.2.2.1 s.2.2.2)).2, mRunP P pl s.2.2.1 + 1, mRunN P pl s.2.2.1 s.2.2.2)
    else (((mRunX dn s.1 s.2.1 (pAt P pl s.2.2.1 - 48) (pIxV P pl s.2.2.1) (mRunN P pl s.2.2.1 s.2.2.2)).1, (mRunX dn s.1 s.2.1 (pAt P pl s.2.2.1 - 48) (pIxV P pl s.2.2.1) (mRunN P pl s.2.2.1 s.2.2.2)).2, mRunP P pl s.2.2.1, mRunN P pl s.2.2.1 s.2.2.2), 1)
/-- one run read and done, by what it comes to -/
theorem mRuns_no {P : Nat → Int} {pl dn : Int} {n : Nat} {B : Nat → Int} {e s b s' b' : Int} (h : pRunR P pl s = 0) (hp : mRunP P pl s = s') (hn : mRunN P pl s b = b') : mRuns P pl dn (n + 1) (B, e, s, b) = ((B, e, s', b'), 0) := by
  show (if _ then _ else _) = _
  rw [if_pos h]
  subst hp hn
  rfl
theorem mRuns_on {P : Nat → Int} {pl dn : Int} {n : Nat} {B B' : Nat → Int} {e e' s b s' b' q i : Int} (h : ¬ pRunR P pl s = 0) (hp : mRunP P pl s = s') (hn : mRunN P pl s b = b') (hq : pAt P pl s - 48 = q) (hi : pIxV P pl s = i) (hx : mRunX dn B e q i b' = (B', e')) (hc : pAt P pl s' = 44) : mRuns P pl dn (n + 1) (B, e, s, b) = mRuns P pl dn n (B', e', s' + 1, b') := by
  subst hp hn hq hi
  show (if _ then _ else if _ then _ else _) = _
  rw [if_neg h, if_pos hc, hx]
theorem mRuns_end {P : Nat → Int} {pl dn : Int} {n : Nat} {B B' : Nat → Int} {e e' s b s' b' q i : Int} (h : ¬ pRunR P pl s = 0) (hp : mRunP P pl s = s') (hn : mRunN P pl s b = b') (hq : pAt P pl s - 48 = q) (hi : pIxV P pl s = i) (hx : mRunX dn B e q i b' = (B', e')) (hc : ¬ pAt P pl s' = 44) : mRuns P pl dn (n + 1) (B, e, s, b) = ((B', e', s', b'), 1) := by
  subst hp hn hq hi
  show (if _ then _ else if _ then _ else _) = _
  rw [if_neg h, if_neg hc, hx]
theorem mFeed_inv {A : Nat → Int} {q i n : Int} (hI : InvM A) : InvM (mFeedA A q i n) := by
  have h1 := mIn_spec q 0 3
  have h2 := mIn_spec i 0 1
  have h3 := mIn_spec n 1 99
  unfold mFeedA
  split
  · rename_i h
    have hh : (0 ≤ q ∧ q ≤ 3) ∧ (0 ≤ i ∧ i ≤ 1) ∧ 0 ≤ n ∧ A 5 + n ≤ 99999 := by
      unfold mFeedOk at h
      (repeat' split at h) <;> omega
    exact (mTicks_inv hI hh.1 hh.2.1 n.toNat (by omega)).1
  · exact hI
theorem pNumP_ge (C : Nat → Int) (len pos : Int) : pos ≤ pNumP C len pos := by
  unfold pNumP
  (repeat' split) <;> omega
theorem does_in {r : Int} (h : -5 ≤ r ∧ r ≤ 9999) : -5 ≤ (if r < 0 then r else 0) ∧ (if r < 0 then r else 0) ≤ 0 := by
  split <;> omega
def mNumN (P : Nat → Int) (pl sp nb : Int) : Int := if pNumR P pl sp = 0 then nb else pNumV P pl sp
def mOrdT (P : Nat → Int) (pl dn : Int) (A : Nat → Int) (er sp nb w : Int) : MS × Int :=
  if pNumR P pl (sp + 1) = 0 then ((A, er, pNumP P pl (sp + 1), mNumN P pl (sp + 1) nb), 0) else if dn = 0 then ((A, er, pNumP P pl (sp + 1), mNumN P pl (sp + 1) nb), 1) else ((mTurnA A (w * mNumN P pl (sp + 1) nb), if mTurnR A (w * mNumN P pl (sp + 1) nb) < 0 then mTurnR A (w * mNumN P pl (sp + 1) nb) else 0, pNumP P pl (sp + 1), mNumN P pl (sp + 1) nb), 1)
def mOrdN (P : Nat → Int) (pl dn : Int) (A : Nat → Int) (er sp nb : Int) : MS × Int :=
  if mIn (pAt P pl (sp + 1)) 49 57 = 0 then ((A, er, sp + 1, nb), 0) else if dn = 0 then ((A, er, sp + 1 + 1, nb), 1) else ((mSetA A 2 (pAt P pl (sp + 1) - 48), if mSetR A 2 (pAt P pl (sp + 1) - 48) < 0 then mSetR A 2 (pAt P pl (sp + 1) - 48) else 0, sp + 1 + 1, nb), 1)
def mOrdZ (dn : Int) (A : Nat → Int) (er sp nb : Int) : MS × Int := if dn = 0 then ((A, er, sp + 1, nb), 1) else ((updZ (updZ A 6 0) 7 0, if A 6 < 0 then A 6 else 0, sp + 1, nb), 1)
def mOrdr (P : Nat → Int) (pl dn : Int) (A : Nat → Int) (er sp nb : Int) : MS × Int :=
  if pAt P pl sp = 122 then mOrdZ dn A er sp nb else if pAt P pl sp = 110 then mOrdN P pl dn A er sp nb else if pAt P pl sp = 102 then mOrdT P pl dn A er sp nb 1 else if pAt P pl sp = 98 then mOrdT P pl dn A er sp nb (-1) else mRuns P pl dn 81 (A, er, sp, nb)
theorem mRuns_01 (P : Nat → Int) (pl dn : Int) : ∀ (n : Nat) (s : MS), (mRuns P pl dn n s).2 = 0 ∨ (mRuns P pl dn n s).2 = 1
  | 0, _ => Or.inl rfl
  | n + 1, s => by
    show (if _ then _ else if _ then _ else _ : MS × Int).2 = 0 ∨ (if _ then _ else if _ then _ else _ : MS × Int).2 = 1
    split
    · exact Or.inl rfl
    · split
      · exact mRuns_01 P pl dn n _
      · exact Or.inr rfl
