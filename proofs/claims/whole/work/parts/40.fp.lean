/-! ===== floats: the bits of a Jvm.FP.Core.quotient ===== -/
theorem rr_normal {f : Jvm.FP.Core.Fmt} (hf : Jvm.FP.Core.Good f) (hq : f.qmin ≤ -26 - ((f.p : Int) - 1)) (hx : 0 ≤ f.qmax + ((f.p : Int) - 1)) {s : Bool} {A B : Nat} (hA : 1 ≤ A) (hAB : A ≤ B) (hB : B ≤ 2 ^ 26) :
    ∃ (c : Nat) (q : Int), Jvm.FP.Core.roundRatio f s A B 0 = .fin s c q ∧ f.tails ≤ c ∧ c < 2 ^ f.p ∧ -26 - ((f.p : Int) - 1) ≤ q ∧ q ≤ -((f.p : Int) - 1) ∧ (q = -((f.p : Int) - 1) → c = f.tails) := by
  have hA0 : 0 < A := hA
  have hB0 : 0 < B := by omega
  have hp := hf.2
  have l1 := (Jvm.FP.Core.leading_spec hA0 hB0).1
  have l2 := (Jvm.FP.Core.leading_spec hA0 hB0).2
  have t2 := Jvm.FP.Core.two_tails hf
  have t0 := Jvm.FP.Core.tails_pos f
  have hL1 : -26 ≤ Jvm.FP.Core.leading A B := by
    have hb : ¬ Jvm.FP.Core.Below A B (-26) := by
      unfold Jvm.FP.Core.Below
      have e1 : ((-(-26 : Int)).toNat) = 26 := rfl
      have e2 : ((-26 : Int).toNat) = 0 := rfl
      rw [e1, e2]
      have e3 : 2 ^ 26 ≤ A * 2 ^ 26 := Nat.le_mul_of_pos_left _ hA0
      omega
    have := Jvm.FP.Core.lt_of_below hb l2
    omega
  have hL0 : Jvm.FP.Core.leading A B ≤ 0 := by
    have hb : Jvm.FP.Core.Below A B 1 := by
      unfold Jvm.FP.Core.Below
      have e1 : ((-(1 : Int)).toNat) = 0 := rfl
      have e2 : ((1 : Int).toNat) = 1 := rfl
      rw [e1, e2]
      omega
    have := Jvm.FP.Core.lt_of_below l1 hb
    omega
  have hqe : Jvm.FP.Core.quantum f A B 0 = Jvm.FP.Core.leading A B - ((f.p : Int) - 1) := by
    unfold Jvm.FP.Core.quantum
    omega
  have n1 : ¬ Jvm.FP.Core.unitsNum A 0 (Jvm.FP.Core.quantum f A B 0) < 2 ^ (f.p - 1) * Jvm.FP.Core.unitsDen B 0 (Jvm.FP.Core.quantum f A B 0) := by
    rw [Jvm.FP.Core.units_below]
    have e : Jvm.FP.Core.quantum f A B 0 - 0 + ((f.p - 1 : Nat) : Int) = Jvm.FP.Core.leading A B := by omega
    rw [e]
    exact l1
  have n2 : Jvm.FP.Core.unitsNum A 0 (Jvm.FP.Core.quantum f A B 0) < 2 ^ f.p * Jvm.FP.Core.unitsDen B 0 (Jvm.FP.Core.quantum f A B 0) := by
    rw [Jvm.FP.Core.units_below]
    have e : Jvm.FP.Core.quantum f A B 0 - 0 + (f.p : Int) = Jvm.FP.Core.leading A B + 1 := by omega
    rw [e]
    exact l2
  have hD := Jvm.FP.Core.unitsDen_pos hB0 0 (Jvm.FP.Core.quantum f A B 0)
  have g1 : f.tails ≤ Jvm.FP.Core.nearest (Jvm.FP.Core.unitsNum A 0 (Jvm.FP.Core.quantum f A B 0)) (Jvm.FP.Core.unitsDen B 0 (Jvm.FP.Core.quantum f A B 0)) := Jvm.FP.Core.nearest_ge hD (Nat.le_of_not_lt n1)
  have g2 : Jvm.FP.Core.nearest (Jvm.FP.Core.unitsNum A 0 (Jvm.FP.Core.quantum f A B 0)) (Jvm.FP.Core.unitsDen B 0 (Jvm.FP.Core.quantum f A B 0)) ≤ 2 ^ f.p := Jvm.FP.Core.nearest_le hD (Nat.le_of_lt n2)
  have g3 : Jvm.FP.Core.leading A B = 0 → Jvm.FP.Core.nearest (Jvm.FP.Core.unitsNum A 0 (Jvm.FP.Core.quantum f A B 0)) (Jvm.FP.Core.unitsDen B 0 (Jvm.FP.Core.quantum f A B 0)) = f.tails := by
    intro h0
    refine Nat.le_antisymm (Jvm.FP.Core.nearest_le hD ?_) g1
    have hq0 : Jvm.FP.Core.quantum f A B 0 = -((f.p - 1 : Nat) : Int) := by omega
    rw [hq0]
    unfold Jvm.FP.Core.unitsNum Jvm.FP.Core.unitsDen
    have e1 : (0 - -((f.p - 1 : Nat) : Int)).toNat = f.p - 1 := by omega
    have e2 : (-((f.p - 1 : Nat) : Int) - 0).toNat = 0 := by omega
    rw [e1, e2, Nat.pow_zero, Nat.mul_one]
    show A * 2 ^ (f.p - 1) ≤ 2 ^ (f.p - 1) * B
    rw [Nat.mul_comm A]
    exact Nat.mul_le_mul_left _ hAB
  have hr : Jvm.FP.Core.roundRatio f s A B 0 = Jvm.FP.Core.settle f s (Jvm.FP.Core.nearest (Jvm.FP.Core.unitsNum A 0 (Jvm.FP.Core.quantum f A B 0)) (Jvm.FP.Core.unitsDen B 0 (Jvm.FP.Core.quantum f A B 0))) (Jvm.FP.Core.quantum f A B 0) := by
    unfold Jvm.FP.Core.roundRatio Jvm.FP.Core.roundAt
    rw [if_neg (by omega)]
  rw [hr]
  generalize Jvm.FP.Core.nearest (Jvm.FP.Core.unitsNum A 0 (Jvm.FP.Core.quantum f A B 0)) (Jvm.FP.Core.unitsDen B 0 (Jvm.FP.Core.quantum f A B 0)) = c at g1 g2 g3
  unfold Jvm.FP.Core.settle
  split
  · refine ⟨c, Jvm.FP.Core.quantum f A B 0, ?_, g1, by assumption, by omega, by omega, fun h => g3 (by omega)⟩
    unfold Jvm.FP.Core.bound
    rw [if_pos (by omega)]
  · have hL : Jvm.FP.Core.leading A B ≠ 0 := fun h => by have := g3 h; omega
    refine ⟨f.tails, Jvm.FP.Core.quantum f A B 0 + 1, ?_, Nat.le_refl _, by omega, by omega, by omega, fun _ => rfl⟩
    unfold Jvm.FP.Core.bound
    rw [if_pos (by omega)]
/-! doubles -/
def D64 (s : Bool) (E d : Nat) : UInt64 := Jvm.FP.Core.of64 (.fin s (4503599627370496 + d) ((E : Int) - 1075))
theorem d64_fits {s : Bool} {E d : Nat} (hE : 1 ≤ E ∧ E ≤ 2046) (hd : d < 4503599627370496) : Jvm.FP.Core.fits Jvm.FP.Core.b64 (.fin s (4503599627370496 + d) ((E : Int) - 1075)) := by
  refine ⟨?_, ?_, ?_, Or.inr ?_⟩
  · show 4503599627370496 + d < 9007199254740992; omega
  · show (-1074 : Int) ≤ _; omega
  · show _ ≤ (971 : Int); omega
  · show 4503599627370496 ≤ _; omega
theorem d64_val {s : Bool} {E d : Nat} (hE : 1 ≤ E ∧ E ≤ 2046) (hd : d < 4503599627370496) : Jvm.FP.Core.val64 (D64 s E d) = .fin s (4503599627370496 + d) ((E : Int) - 1075) := Jvm.FP.Core.val64_of64 (d64_fits hE hd)
theorem d64_toNat {s : Bool} {E d : Nat} (hE : 1 ≤ E ∧ E ≤ 2046) (hd : d < 4503599627370496) : (D64 s E d).toNat = (s.toNat * 2048 + E) * 4503599627370496 + d := by
  unfold D64
  rw [Jvm.FP.Core.toNat_of64 (d64_fits hE hd)]
  unfold Jvm.FP.Core.encode
  have e : Jvm.FP.Core.b64.tails = 4503599627370496 := rfl
  have e2 : Jvm.FP.Core.b64.qmin = -1074 := rfl
  have e3 : Jvm.FP.Core.b64.exps = 2048 := rfl
  simp only [e, e2]
  rw [if_neg (by omega)]
  unfold Jvm.FP.Core.assemble
  rw [e, e3]
  have e4 : ((E : Int) - 1075 - -1074).toNat + 1 = E := by omega
  rw [e4]
  omega
theorem d64_of {x : UInt64} {s : Bool} {c : Nat} {q : Int} (h : Jvm.FP.Core.val64 x = .fin s c q) (hc : 4503599627370496 ≤ c) : x = D64 s (q + 1075).toNat (c - 4503599627370496) := by
  have h1 := Jvm.FP.Core.val64_fits x
  rw [h] at h1
  obtain ⟨a, b, d, _⟩ := h1
  have b' : (-1074 : Int) ≤ q := b
  unfold D64
  have e1 : 4503599627370496 + (c - 4503599627370496) = c := by omega
  have e2 : (((q + 1075).toNat : Nat) : Int) - 1075 = q := by omega
  rw [e1, e2, ← h, Jvm.FP.Core.of64_val64 (by rw [h]; exact fun z => Jvm.FP.Core.Datum.noConfusion z)]
theorem d64_mul2 {s : Bool} {E d : Nat} (hE : 1 ≤ E ∧ E ≤ 2045) (hd : d < 4503599627370496) : Jvm.FP.dmul (D64 s E d) 4611686018427387904 = D64 s (E + 1) d := by
  refine Jvm.FP.Core.val64_inj ?_ ?_
  · rw [show Jvm.FP.Core.val64 (Jvm.FP.dmul (D64 s E d) 4611686018427387904) = _ from Jvm.FP.Core.val64_dmul _ _]
    rw [d64_val ⟨by omega, by omega⟩ hd, show Jvm.FP.Core.val64 4611686018427387904 = .fin false 4503599627370496 (-51) by decide +kernel]
    show Jvm.FP.Core.roundRatio _ _ _ _ _ ≠ _
    exact Jvm.FP.Core.roundRatio_ne_nan _ _ _ _ _
  · rw [show Jvm.FP.Core.val64 (Jvm.FP.dmul (D64 s E d) 4611686018427387904) = _ from Jvm.FP.Core.val64_dmul _ _]
    rw [d64_val ⟨by omega, by omega⟩ hd, d64_val ⟨by omega, by omega⟩ hd, show Jvm.FP.Core.val64 4611686018427387904 = .fin false 4503599627370496 (-51) by decide +kernel]
    show Jvm.FP.Core.roundRatio Jvm.FP.Core.b64 (s != false) ((4503599627370496 + d) * 4503599627370496) 1 ((E : Int) - 1075 + -51) = _
    have e : (s != false) = s := by cases s <;> rfl
    rw [e]
    refine Jvm.FP.Core.roundRatio_exact Jvm.FP.Core.good_b64 (by decide) (d64_fits (E := E + 1) ⟨by omega, by omega⟩ hd) ?_
    have e1 : ((E : Int) - 1075 + -51 - (((E + 1 : Nat) : Int) - 1075)).toNat = 0 := by omega
    have e2 : (((E + 1 : Nat) : Int) - 1075 - ((E : Int) - 1075 + -51)).toNat = 52 := by omega
    rw [e1, e2]
    omega
