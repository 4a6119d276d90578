/-! ===== the model reads runs ===== -/
abbrev MS : Type := (Nat → Int) × Int × Int × Int
def mRunP (P : Nat → Int) (pl sp : Int) : Int := if pAt P pl sp < 48 then sp else if 51 < pAt P pl sp then sp else if pAt P pl (pIxP P pl sp) = 42 then pNumP P pl (pIxP P pl sp + 1) else pIxP P pl sp
def mRunN (P : Nat → Int) (pl sp nb : Int) : Int := if pAt P pl sp < 48 then nb else if 51 < pAt P pl sp then nb else if pAt P pl (pIxP P pl sp) = 42 then (if pNumR P pl (pIxP P pl sp + 1) = 0 then 1 else pNumV P pl (pIxP P pl sp + 1)) else 1
def mDoes (r : Int) : Int := if r < 0 then r else 0
def mRunX (dn : Int) (A : Nat → Int) (er q i n : Int) : (Nat → Int) × Int := if dn = 0 then (A, er) else if er = 0 then (mFeedA A q i n, if mFeedR A q i n < 0 then mFeedR A q i n else 0) else (A, er)
def mRuns (P : Nat → Int) (pl dn : Int) : Nat → MS → MS × Int
  | 0, s => (s, 0)
  | n + 1, s => if pRunR P pl s.2.2.1 = 0 then ((s.1, s.2.1, mRunP P pl s.2.2.1, mRunN P pl s.2.2.1 s.2.2.2), 0)
    else if pAt P pl (mRunP P pl s.2.2.1) = 44 then mRuns P pl dn n ((mRunX dn s.1 s.2.1 (pAt P pl s.2.2.1 - 48) (pIxV P pl s.2.2.1) (mRunN P pl s.2.2.1 s.2.2.2)).1, (mRunX dn s.1 s.2.1 (pAt P pl s.2.2.1 - 48) (pIxV P pl s.2.2.1) (mRunN P pl s.2.2.1 s.2.2.2)).2, mRunP P pl s.2.2.1 + 1, mRunN P pl s.2.2.1 s.2.2.2)
    else (((mRunX dn s.1 s.2.1 (pAt P pl s.2.2.1 - 48) (pIxV P pl s.2.2.1) (mRunN P pl s.2.2.1 s.2.2.2)).1, (mRunX dn s.1 s.2.1 (pAt P pl s.2.2.1 - 48) (pIxV P pl s.2.2.1) (mRunN P pl s.2.2.1 s.2.2.2)).2, mRunP P pl s.2.2.1, mRunN P pl s.2.2.1 s.2.2.2), 1)
/-- one run read and done, by what it comes to -/
theorem mRuns_no {P : Nat → Int} {pl dn : Int} {n : Nat} {B : Nat → Int} {e s b s' b' : Int} (h : pRunR P pl s = 0) (hp : mRunP P pl s = s') (hn : mRunN P pl s b = b') : mRuns P pl dn (n + 1) (B, e, s, b) = ((B, e, s', b'), 0) := by
  show (if _ then _ else _) = _
  rw [if_pos h]
  subst hp hn
  rfl
theorem mRuns_on {P : Nat → Int} {pl dn : Int} {n : Nat} {B B' : Nat → Int} {e e' s b s' b' q i : Int} (h : ¬ pRunR P pl s = 0) (hp : mRunP P pl s = s') (hn : mRunN P pl s b = b') (hq : pAt P pl s - 48 = q) (hi : pIxV P pl s = i) (hx : mRunX dn B e q i b' = (B', e')) (hc : pAt P pl s' = 44) : mRuns P pl dn (n + 1) (B, e, s, b) = mRuns P pl dn n (B', e', s' + 1, b') := by
  subst hp hn hq hi
  show (if _ then _ else if _ then _ else _) = _
  rw [if_neg h, if_pos hc, hx]
theorem mRuns_end {P : Nat → Int} {pl dn : Int} {n : Nat} {B B' : Nat → Int} {e e' s b s' b' q i : Int} (h : ¬ pRunR P pl s = 0) (hp : mRunP P pl s = s') (hn : mRunN P pl s b = b') (hq : pAt P pl s - 48 = q) (hi : pIxV P pl s = i) (hx : mRunX dn B e q i b' = (B', e')) (hc : ¬ pAt P pl s' = 44) : mRuns P pl dn (n + 1) (B, e, s, b) = ((B', e', s', b'), 1) := by
  subst hp hn hq hi
  show (if _ then _ else if _ then _ else _) = _
  rw [if_neg h, if_neg hc, hx]
theorem mFeed_inv {A : Nat → Int} {q i n : Int} (hI : InvM A) : InvM (mFeedA A q i n) := by
  have h1 := mIn_spec q 0 3
  have h2 := mIn_spec i 0 1
  have h3 := mIn_spec n 1 99
  unfold mFeedA
  split
  · rename_i h
    have hh : (0 ≤ q ∧ q ≤ 3) ∧ (0 ≤ i ∧ i ≤ 1) ∧ 0 ≤ n ∧ A 5 + n ≤ 99999 := by
      unfold mFeedOk at h
      (repeat' split at h) <;> omega
    exact (mTicks_inv hI hh.1 hh.2.1 n.toNat (by omega)).1
  · exact hI
theorem pNumP_ge (C : Nat → Int) (len pos : Int) : pos ≤ pNumP C len pos := by
  unfold pNumP
  (repeat' split) <;> omega
theorem does_in {r : Int} (h : -5 ≤ r ∧ r ≤ 9999) : -5 ≤ (if r < 0 then r else 0) ∧ (if r < 0 then r else 0) ≤ 0 := by
  split <;> omega
