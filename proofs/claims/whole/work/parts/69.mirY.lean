/-! ===== the model's fault ===== -/
def mFin (pl sp : Int) : Int := if sp = pl then -6 else sp
def mFlt (P : Nat → Int) (pl : Int) : Nat → MS → MS × Int
  | 0, s => (s, 0)
  | n + 1, s => if (mOrdr P pl 0 s.1 s.2.1 s.2.2.1 s.2.2.2).2 = 0 then ((mOrdr P pl 0 s.1 s.2.1 s.2.2.1 s.2.2.2).1, (mOrdr P pl 0 s.1 s.2.1 s.2.2.1 s.2.2.2).1.2.2.1)
    else if pAt P pl (mOrdr P pl 0 s.1 s.2.1 s.2.2.1 s.2.2.2).1.2.2.1 = 59 then mFlt P pl n ((mOrdr P pl 0 s.1 s.2.1 s.2.2.1 s.2.2.2).1.1, (mOrdr P pl 0 s.1 s.2.1 s.2.2.1 s.2.2.2).1.2.1, (mOrdr P pl 0 s.1 s.2.1 s.2.2.1 s.2.2.2).1.2.2.1 + 1, (mOrdr P pl 0 s.1 s.2.1 s.2.2.1 s.2.2.2).1.2.2.2)
    else ((mOrdr P pl 0 s.1 s.2.1 s.2.2.1 s.2.2.2).1, mFin pl (mOrdr P pl 0 s.1 s.2.1 s.2.2.1 s.2.2.2).1.2.2.1)
theorem mFlt_s (P : Nat → Int) (pl : Int) (n : Nat) (B : Nat → Int) (e s b : Int) : mFlt P pl (n + 1) (B, e, s, b) = if (mOrdr P pl 0 B e s b).2 = 0 then ((mOrdr P pl 0 B e s b).1, (mOrdr P pl 0 B e s b).1.2.2.1)
    else if pAt P pl (mOrdr P pl 0 B e s b).1.2.2.1 = 59 then mFlt P pl n ((mOrdr P pl 0 B e s b).1.1, (mOrdr P pl 0 B e s b).1.2.1, (mOrdr P pl 0 B e s b).1.2.2.1 + 1, (mOrdr P pl 0 B e s b).1.2.2.2)
    else ((mOrdr P pl 0 B e s b).1, mFin pl (mOrdr P pl 0 B e s b).1.2.2.1) := rfl
