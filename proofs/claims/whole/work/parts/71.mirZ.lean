/-! ===== the model carries a text out ===== -/
abbrev OS : Type := (Nat → Int) × Int × Int × Int
def mOut (P : Nat → Int) (pl : Int) : Nat → OS → MS × Int
  | 0, s => ((s.1, 0, s.2.1, s.2.2.1), s.2.2.2)
  | n + 1, s => if (mOrdr P pl 1 s.1 0 s.2.1 s.2.2.1).1.2.1 = 0 then (if pAt P pl (mOrdr P pl 1 s.1 0 s.2.1 s.2.2.1).1.2.2.1 = 59 then mOut P pl n ((mOrdr P pl 1 s.1 0 s.2.1 s.2.2.1).1.1, (mOrdr P pl 1 s.1 0 s.2.1 s.2.2.1).1.2.2.1 + 1, (mOrdr P pl 1 s.1 0 s.2.1 s.2.2.1).1.2.2.2, s.2.2.2 + 1) else ((mOrdr P pl 1 s.1 0 s.2.1 s.2.2.1).1, s.2.2.2 + 1)) else ((mOrdr P pl 1 s.1 0 s.2.1 s.2.2.1).1, s.2.2.2 + 0)
theorem mOut_s (P : Nat → Int) (pl : Int) (n : Nat) (B : Nat → Int) (s b k : Int) : mOut P pl (n + 1) (B, s, b, k) = if (mOrdr P pl 1 B 0 s b).1.2.1 = 0 then (if pAt P pl (mOrdr P pl 1 B 0 s b).1.2.2.1 = 59 then mOut P pl n ((mOrdr P pl 1 B 0 s b).1.1, (mOrdr P pl 1 B 0 s b).1.2.2.1 + 1, (mOrdr P pl 1 B 0 s b).1.2.2.2, k + 1) else ((mOrdr P pl 1 B 0 s b).1, k + 1)) else ((mOrdr P pl 1 B 0 s b).1, k + 0) := rfl
def mCoF (P : Nat → Int) (pl : Int) (A : Nat → Int) (er nb : Int) : MS × Int := mFlt P pl 81 (A, er, 0, nb)
def mCoO (P : Nat → Int) (pl : Int) (A : Nat → Int) (er nb : Int) : MS × Int := mOut P pl 81 (A, 0, (mCoF P pl A er nb).1.2.2.2, 0)
