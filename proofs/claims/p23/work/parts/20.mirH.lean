/-! ===== the history, the slots ===== -/
def upR {α : Type} (R : Nat → α) (k : Nat) (E : α) : Nat → α := fun j => if j = k then E else R j
abbrev wR7 (J : Nat → ClassId) (a b c : Nat → Nat) (R : Nat → Enc) : va_W := wE J (a 0) (b 0) (c 0) (R 0) ++ (wE J (a 1) (b 1) (c 1) (R 1) ++ (wE J (a 2) (b 2) (c 2) (R 2) ++ (wE J (a 3) (b 3) (c 3) (R 3) ++ (wE J (a 4) (b 4) (c 4) (R 4) ++ (wE J (a 5) (b 5) (c 5) (R 5) ++ wE J (a 6) (b 6) (c 6) (R 6))))))
abbrev wH (J : Nat → ClassId) (h r : Nat) (a b c : Nat → Nat) (F : Nat → Int) (R : Nat → Enc) : va_W := [cO 1 h [some r, none, none] F, cQ (J 3) r 7 (fun j => some (a j))] ++ wR7 J a b c R
abbrev wR2 (J : Nat → ClassId) (a b c : Nat → Nat) (R : Nat → Enc) : va_W := wE J (a 0) (b 0) (c 0) (R 0) ++ wE J (a 1) (b 1) (c 1) (R 1)
abbrev wS (J : Nat → ClassId) (h r u : Nat) (a b c : Nat → Nat) (F U : Nat → Int) (R : Nat → Enc) : va_W := [cO 3 h [some r, some u] F, cQ (J 3) r 2 (fun j => some (a j)), cI (J 2) u 2 U] ++ wR2 J a b c R
def hKeep (F : Nat → Int) (x : Int) : Nat → Int := if 0 ≤ x then updZ (updZ F 1 ((F 1 + 1) % 7)) 2 (min (F 2 + 1) 6) else F
def hBack (F : Nat → Int) : Nat → Int := updZ (updZ F 1 ((F 1 + 7 - 1) % 7)) 2 (F 2 - 1)
def hBackR (F : Nat → Int) : Int := if F 2 = 0 then -5 else F 2 - 1
def hBackF (F : Nat → Int) : Nat → Int := if F 2 = 0 then F else hBack F
def hBackE (F : Nat → Int) (R : Nat → Enc) (E : Enc) : Enc := if F 2 = 0 then E else R (Int.toNat ((F 1 + 7 - 1) % 7))
def sR (x : Int) (E : Enc) : Int := if 0 ≤ x ∧ x < 2 then E.1 3 else -2
def sU (U : Nat → Int) (x : Int) : Nat → Int := if 0 ≤ x ∧ x < 2 then updZ U x.toNat 1 else U
def sV (V : Nat → Enc) (x : Int) (E : Enc) : Nat → Enc := if 0 ≤ x ∧ x < 2 then upR V x.toNat E else V
def fR (U : Nat → Int) (V : Nat → Enc) (x : Int) : Int := if 0 ≤ x ∧ x < 2 then (if U x.toNat = 0 then -5 else (V x.toNat).1 3) else -2
def fE (U : Nat → Int) (V : Nat → Enc) (x : Int) (E : Enc) : Enc := if 0 ≤ x ∧ x < 2 then (if U x.toNat = 0 then E else V x.toNat) else E
def fn2 (a0 a1 : Nat) : Nat → Nat := fun j => if j = 0 then a0 else a1
def fn7 (a0 a1 a2 a3 a4 a5 a6 : Nat) : Nat → Nat := fun j => if j = 0 then a0 else if j = 1 then a1 else if j = 2 then a2 else if j = 3 then a3 else if j = 4 then a4 else if j = 5 then a5 else a6
