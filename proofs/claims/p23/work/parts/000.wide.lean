/-! a name of the library's wider part, asked for first: so that a round on a new machine is read over the whole library from its first part on, and doesn't begin anew at part 40 -/
theorem aa_wide (f : Jvm.FP.Core.Fmt) (s : Bool) (A B : Nat) (e : Int) : Jvm.FP.Core.roundRatio f s A B e ≠ .nan := Jvm.FP.Core.roundRatio_ne_nan f s A B e
