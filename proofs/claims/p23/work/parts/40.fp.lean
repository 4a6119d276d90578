/-! ===== floats: the bits of a Jvm.FP.Core.quotient ===== -/
theorem lI_sub (a b : Int) : lI a - lI b = lI (a - b) := (Int64.ofInt_sub a b).symm
theorem rr_normal {f : Jvm.FP.Core.Fmt} (hf : Jvm.FP.Core.Good f) (hq : f.qmin ≤ -26 - ((f.p : Int) - 1)) (hx : 0 ≤ f.qmax + ((f.p : Int) - 1)) {s : Bool} {A B : Nat} (hA : 1 ≤ A) (hAB : A ≤ B) (hB : B ≤ 2 ^ 26) :
    ∃ (c : Nat) (q : Int), Jvm.FP.Core.roundRatio f s A B 0 = .fin s c q ∧ f.tails ≤ c ∧ c < 2 ^ f.p ∧ -26 - ((f.p : Int) - 1) ≤ q ∧ q ≤ -((f.p : Int) - 1) ∧ (q = -((f.p : Int) - 1) → c = f.tails) := by
  have hA0 : 0 < A := hA
  have hB0 : 0 < B := by omega
  have hp := hf.2
  have l1 := (Jvm.FP.Core.leading_spec hA0 hB0).1
  have l2 := (Jvm.FP.Core.leading_spec hA0 hB0).2
  have t2 := Jvm.FP.Core.two_tails hf
  have t0 := Jvm.FP.Core.tails_pos f
  have hL1 : -26 ≤ Jvm.FP.Core.leading A B := by
    have hb : ¬ Jvm.FP.Core.Below A B (-26) := by
      unfold Jvm.FP.Core.Below
      have e1 : ((-(-26 : Int)).toNat) = 26 := rfl
      have e2 : ((-26 : Int).toNat) = 0 := rfl
      rw [e1, e2]
      have e3 : 2 ^ 26 ≤ A * 2 ^ 26 := Nat.le_mul_of_pos_left _ hA0
      omega
    have := Jvm.FP.Core.lt_of_below hb l2
    omega
  have hL0 : Jvm.FP.Core.leading A B ≤ 0 := by
    have hb : Jvm.FP.Core.Below A B 1 := by
      unfold Jvm.FP.Core.Below
      have e1 : ((-(1 : Int)).toNat) = 0 := rfl
      have e2 : ((1 : Int).toNat) = 1 := rfl
      rw [e1, e2]
      omega
    have := Jvm.FP.Core.lt_of_below l1 hb
    omega
  have hqe : Jvm.FP.Core.quantum f A B 0 = Jvm.FP.Core.leading A B - ((f.p : Int) - 1) := by
    unfold Jvm.FP.Core.quantum
    omega
  have n1 : ¬ Jvm.FP.Core.unitsNum A 0 (Jvm.FP.Core.quantum f A B 0) < 2 ^ (f.p - 1) * Jvm.FP.Core.unitsDen B 0 (Jvm.FP.Core.quantum f A B 0) := by
    rw [Jvm.FP.Core.units_below]
    have e : Jvm.FP.Core.quantum f A B 0 - 0 + ((f.p - 1 : Nat) : Int) = Jvm.FP.Core.leading A B := by omega
    rw [e]
    exact l1
  have n2 : Jvm.FP.Core.unitsNum A 0 (Jvm.FP.Core.quantum f A B 0) < 2 ^ f.p * Jvm.FP.Core.unitsDen B 0 (Jvm.FP.Core.quantum f A B 0) := by
    rw [Jvm.FP.Core.units_below]
    have e : Jvm.FP.Core.quantum f A B 0 - 0 + (f.p : Int) = Jvm.FP.Core.leading A B + 1 := by omega
    rw [e]
    exact l2
  have hD := Jvm.FP.Core.unitsDen_pos hB0 0 (Jvm.FP.Core.quantum f A B 0)
  have g1 : f.tails ≤ Jvm.FP.Core.nearest (Jvm.FP.Core.unitsNum A 0 (Jvm.FP.Core.quantum f A B 0)) (Jvm.FP.Core.unitsDen B 0 (Jvm.FP.Core.quantum f A B 0)) := Jvm.FP.Core.nearest_ge hD (Nat.le_of_not_lt n1)
  have g2 : Jvm.FP.Core.nearest (Jvm.FP.Core.unitsNum A 0 (Jvm.FP.Core.quantum f A B 0)) (Jvm.FP.Core.unitsDen B 0 (Jvm.FP.Core.quantum f A B 0)) ≤ 2 ^ f.p := Jvm.FP.Core.nearest_le hD (Nat.le_of_lt n2)
  have g3 : Jvm.FP.Core.leading A B = 0 → Jvm.FP.Core.nearest (Jvm.FP.Core.unitsNum A 0 (Jvm.FP.Core.quantum f A B 0)) (Jvm.FP.Core.unitsDen B 0 (Jvm.FP.Core.quantum f A B 0)) = f.tails := by
    intro h0
    refine Nat.le_antisymm (Jvm.FP.Core.nearest_le hD ?_) g1
    have hq0 : Jvm.FP.Core.quantum f A B 0 = -((f.p - 1 : Nat) : Int) := by omega
    rw [hq0]
    unfold Jvm.FP.Core.unitsNum Jvm.FP.Core.unitsDen
    have e1 : (0 - -((f.p - 1 : Nat) : Int)).toNat = f.p - 1 := by omega
    have e2 : (-((f.p - 1 : Nat) : Int) - 0).toNat = 0 := by omega
    rw [e1, e2, Nat.pow_zero, Nat.mul_one]
    show A * 2 ^ (f.p - 1) ≤ 2 ^ (f.p - 1) * B
    rw [Nat.mul_comm A]
    exact Nat.mul_le_mul_left _ hAB
  have hr : Jvm.FP.Core.roundRatio f s A B 0 = Jvm.FP.Core.settle f s (Jvm.FP.Core.nearest (Jvm.FP.Core.unitsNum A 0 (Jvm.FP.Core.quantum f A B 0)) (Jvm.FP.Core.unitsDen B 0 (Jvm.FP.Core.quantum f A B 0))) (Jvm.FP.Core.quantum f A B 0) := by
    unfold Jvm.FP.Core.roundRatio Jvm.FP.Core.roundAt
    rw [if_neg (by omega)]
  rw [hr]
  generalize Jvm.FP.Core.nearest (Jvm.FP.Core.unitsNum A 0 (Jvm.FP.Core.quantum f A B 0)) (Jvm.FP.Core.unitsDen B 0 (Jvm.FP.Core.quantum f A B 0)) = c at g1 g2 g3
  unfold Jvm.FP.Core.settle
  split
  · refine ⟨c, Jvm.FP.Core.quantum f A B 0, ?_, g1, by assumption, by omega, by omega, fun h => g3 (by omega)⟩
    unfold Jvm.FP.Core.bound
    rw [if_pos (by omega)]
  · have hL : Jvm.FP.Core.leading A B ≠ 0 := fun h => by have := g3 h; omega
    refine ⟨f.tails, Jvm.FP.Core.quantum f A B 0 + 1, ?_, Nat.le_refl _, by omega, by omega, by omega, fun _ => rfl⟩
    unfold Jvm.FP.Core.bound
    rw [if_pos (by omega)]
/-! doubles -/
def D64 (s : Bool) (E d : Nat) : UInt64 := Jvm.FP.Core.of64 (.fin s (4503599627370496 + d) ((E : Int) - 1075))
theorem d64_fits {s : Bool} {E d : Nat} (hE : 1 ≤ E ∧ E ≤ 2046) (hd : d < 4503599627370496) : Jvm.FP.Core.fits Jvm.FP.Core.b64 (.fin s (4503599627370496 + d) ((E : Int) - 1075)) := by
  refine ⟨?_, ?_, ?_, Or.inr ?_⟩
  · show 4503599627370496 + d < 9007199254740992; omega
  · show (-1074 : Int) ≤ _; omega
  · show _ ≤ (971 : Int); omega
  · show 4503599627370496 ≤ _; omega
theorem d64_val {s : Bool} {E d : Nat} (hE : 1 ≤ E ∧ E ≤ 2046) (hd : d < 4503599627370496) : Jvm.FP.Core.val64 (D64 s E d) = .fin s (4503599627370496 + d) ((E : Int) - 1075) := Jvm.FP.Core.val64_of64 (d64_fits hE hd)
theorem d64_toNat {s : Bool} {E d : Nat} (hE : 1 ≤ E ∧ E ≤ 2046) (hd : d < 4503599627370496) : (D64 s E d).toNat = (s.toNat * 2048 + E) * 4503599627370496 + d := by
  unfold D64
  rw [Jvm.FP.Core.toNat_of64 (d64_fits hE hd)]
  unfold Jvm.FP.Core.encode
  have e : Jvm.FP.Core.b64.tails = 4503599627370496 := rfl
  have e2 : Jvm.FP.Core.b64.qmin = -1074 := rfl
  have e3 : Jvm.FP.Core.b64.exps = 2048 := rfl
  simp only [e, e2]
  rw [if_neg (by omega)]
  unfold Jvm.FP.Core.assemble
  rw [e, e3]
  have e4 : ((E : Int) - 1075 - -1074).toNat + 1 = E := by omega
  rw [e4]
  omega
theorem d64_of {x : UInt64} {s : Bool} {c : Nat} {q : Int} (h : Jvm.FP.Core.val64 x = .fin s c q) (hc : 4503599627370496 ≤ c) : x = D64 s (q + 1075).toNat (c - 4503599627370496) := by
  have h1 := Jvm.FP.Core.val64_fits x
  rw [h] at h1
  obtain ⟨a, b, d, _⟩ := h1
  have b' : (-1074 : Int) ≤ q := b
  unfold D64
  have e1 : 4503599627370496 + (c - 4503599627370496) = c := by omega
  have e2 : (((q + 1075).toNat : Nat) : Int) - 1075 = q := by omega
  rw [e1, e2, ← h, Jvm.FP.Core.of64_val64 (by rw [h]; exact fun z => Jvm.FP.Core.Datum.noConfusion z)]
theorem d64_mul2 {s : Bool} {E d : Nat} (hE : 1 ≤ E ∧ E ≤ 2045) (hd : d < 4503599627370496) : Jvm.FP.dmul (D64 s E d) 4611686018427387904 = D64 s (E + 1) d := by
  refine Jvm.FP.Core.val64_inj ?_ ?_
  · rw [show Jvm.FP.Core.val64 (Jvm.FP.dmul (D64 s E d) 4611686018427387904) = _ from Jvm.FP.Core.val64_dmul _ _]
    rw [d64_val ⟨by omega, by omega⟩ hd, show Jvm.FP.Core.val64 4611686018427387904 = .fin false 4503599627370496 (-51) by decide +kernel]
    show Jvm.FP.Core.roundRatio _ _ _ _ _ ≠ _
    exact Jvm.FP.Core.roundRatio_ne_nan _ _ _ _ _
  · rw [show Jvm.FP.Core.val64 (Jvm.FP.dmul (D64 s E d) 4611686018427387904) = _ from Jvm.FP.Core.val64_dmul _ _]
    rw [d64_val ⟨by omega, by omega⟩ hd, d64_val ⟨by omega, by omega⟩ hd, show Jvm.FP.Core.val64 4611686018427387904 = .fin false 4503599627370496 (-51) by decide +kernel]
    show Jvm.FP.Core.roundRatio Jvm.FP.Core.b64 (s != false) ((4503599627370496 + d) * 4503599627370496) 1 ((E : Int) - 1075 + -51) = _
    have e : (s != false) = s := by cases s <;> rfl
    rw [e]
    refine Jvm.FP.Core.roundRatio_exact Jvm.FP.Core.good_b64 (by decide) (d64_fits (E := E + 1) ⟨by omega, by omega⟩ hd) ?_
    have e1 : ((E : Int) - 1075 + -51 - (((E + 1 : Nat) : Int) - 1075)).toNat = 0 := by omega
    have e2 : (((E + 1 : Nat) : Int) - 1075 - ((E : Int) - 1075 + -51)).toNat = 52 := by omega
    rw [e1, e2]
    omega
theorem n64_of {r : UInt64} (h : Jvm.FP.Core.val64 r ≠ .nan) : vf_n64 r := by
  have h1 : ¬ Jvm.FP.Core.infBits Jvm.FP.Core.b64 < Jvm.FP.Core.mag Jvm.FP.Core.b64 r.toNat := fun z => h ((Jvm.FP.Core.decode_nan r.toNat).mpr z)
  unfold vf_n64
  rw [UInt64.le_iff_toNat_le, Jvm.FP.Core.mask_toNat]
  have e1 : Jvm.FP.Core.infBits Jvm.FP.Core.b64 = 9218868437227405312 := by decide +kernel
  have e2 : Jvm.FP.Core.mag Jvm.FP.Core.b64 r.toNat = r.toNat % 2 ^ 63 := rfl
  rw [e1, e2] at h1
  show r.toNat % 2 ^ 63 ≤ 9218868437227405312
  omega
theorem d64_nn {s : Bool} {E d : Nat} (hE : 1 ≤ E ∧ E ≤ 2046) (hd : d < 4503599627370496) : Jvm.FP.Core.val64 (D64 s E d) ≠ .nan := by
  rw [d64_val hE hd]
  exact fun z => Jvm.FP.Core.Datum.noConfusion z
theorem fin_nn {x : UInt64} {s : Bool} {c : Nat} {q : Int} (h : Jvm.FP.Core.val64 x = .fin s c q) : Jvm.FP.Core.val64 x ≠ .nan := by
  rw [h]
  exact fun z => Jvm.FP.Core.Datum.noConfusion z
theorem pw_norm {d : Nat} (h0 : 0 < d) (hd : d < 4503599627370496) : ∃ k : Nat, k ≤ 52 ∧ 4503599627370496 ≤ d * 2 ^ k ∧ d * 2 ^ k < 9007199254740992 := by
  have a1 : 2 ^ d.log2 ≤ d := Nat.log2_self_le (by omega)
  have a2 : d < 2 ^ (d.log2 + 1) := Nat.lt_log2_self
  have hl : d.log2 < 52 := (Nat.log2_lt (by omega)).mpr hd
  refine ⟨52 - d.log2, by omega, ?_, ?_⟩
  · have e : 2 ^ d.log2 * 2 ^ (52 - d.log2) = 4503599627370496 := by
      rw [← Nat.pow_add, show d.log2 + (52 - d.log2) = 52 by omega]
    rw [← e]
    exact Nat.mul_le_mul_right _ a1
  · have e : 2 ^ (d.log2 + 1) * 2 ^ (52 - d.log2) = 9007199254740992 := by
      rw [← Nat.pow_add, show d.log2 + 1 + (52 - d.log2) = 53 by omega]
    rw [← e]
    exact Nat.mul_lt_mul_of_pos_right a2 (Nat.two_pow_pos _)
theorem d64_frac {d : Nat} (hd : d < 4503599627370496) :
    Jvm.FP.Core.val64 (Jvm.FP.dsub (D64 false 1023 d) Jvm.FP.dconst1) ≠ .nan ∧ Jvm.FP.Core.val64 (Jvm.FP.dmul (Jvm.FP.dsub (D64 false 1023 d) Jvm.FP.dconst1) 4841369599423283200) ≠ .nan ∧ Jvm.FP.d2l (Jvm.FP.dmul (Jvm.FP.dsub (D64 false 1023 d) Jvm.FP.dconst1) 4841369599423283200) = Int64.ofInt (d : Int) := by
  have s1 : Jvm.FP.Core.val64 (Jvm.FP.dsub (D64 false 1023 d) Jvm.FP.dconst1) = Jvm.FP.Core.roundRatio Jvm.FP.Core.b64 false d 1 (-52) := by
    rw [show Jvm.FP.Core.val64 (Jvm.FP.dsub (D64 false 1023 d) Jvm.FP.dconst1) = _ from Jvm.FP.Core.val64_dsub _ _]
    rw [d64_val ⟨by omega, by omega⟩ hd, show Jvm.FP.Core.val64 Jvm.FP.dconst1 = .fin false 4503599627370496 (-52) by decide +kernel]
    have e1 : ((1023 : Nat) : Int) - 1075 = -52 := by omega
    rw [e1]
    show Jvm.FP.Core.round Jvm.FP.Core.b64 (Jvm.FP.Core.exactSum (.fin false (4503599627370496 + d) (-52)) (.fin true 4503599627370496 (-52))) = _
    have e2 : Jvm.FP.Core.sumUnits false (4503599627370496 + d) (-52) true 4503599627370496 (-52) (min (-52) (-52)) = (d : Int) := by
      show (((4503599627370496 + d) * 1 : Nat) : Int) + -((4503599627370496 * 1 : Nat) : Int) = (d : Int)
      omega
    show Jvm.FP.Core.round Jvm.FP.Core.b64 (.fin (Jvm.FP.Core.sumSign false true (Jvm.FP.Core.sumUnits false (4503599627370496 + d) (-52) true 4503599627370496 (-52) (min (-52) (-52)))) (Jvm.FP.Core.sumUnits false (4503599627370496 + d) (-52) true 4503599627370496 (-52) (min (-52) (-52))).natAbs (min (-52) (-52))) = _
    rw [e2]
    have e3 : Jvm.FP.Core.sumSign false true (d : Int) = false := by
      unfold Jvm.FP.Core.sumSign
      split
      · rfl
      · exact decide_eq_false (by omega)
    rw [e3]
    rfl
  have s2 : ∀ y, Jvm.FP.Core.val64 (Jvm.FP.dmul y 4841369599423283200) = Jvm.FP.Core.round Jvm.FP.Core.b64 (Jvm.FP.Core.exactProduct (Jvm.FP.Core.val64 y) (.fin false 4503599627370496 0)) := by
    intro y
    rw [show Jvm.FP.Core.val64 (Jvm.FP.dmul y 4841369599423283200) = _ from Jvm.FP.Core.val64_dmul _ _, show Jvm.FP.Core.val64 4841369599423283200 = .fin false 4503599627370496 0 by decide +kernel]
  have n1 : Jvm.FP.Core.val64 (Jvm.FP.dsub (D64 false 1023 d) Jvm.FP.dconst1) ≠ .nan := by
    rw [s1]
    exact Jvm.FP.Core.roundRatio_ne_nan _ _ _ _ _
  by_cases h0 : d = 0
  · subst h0
    exact ⟨n1, by rw [s2, s1]; decide +kernel, by decide +kernel⟩
  · obtain ⟨k, hk, k1, k2⟩ := pw_norm (by omega) hd
    have s3 : Jvm.FP.Core.roundRatio Jvm.FP.Core.b64 false d 1 (-52) = .fin false (d * 2 ^ k) (-52 - (k : Int)) := by
      refine Jvm.FP.Core.roundRatio_exact Jvm.FP.Core.good_b64 (by decide) ⟨k2, ?_, ?_, Or.inr k1⟩ ?_
      · show (-1074 : Int) ≤ _; omega
      · show _ ≤ (971 : Int); omega
      · have e1 : ((-52 : Int) - (-52 - (k : Int))).toNat = k := by omega
        have e2 : (-52 - (k : Int) - (-52 : Int)).toNat = 0 := by omega
        rw [e1, e2]
        omega
    have s4 : Jvm.FP.Core.val64 (Jvm.FP.dmul (Jvm.FP.dsub (D64 false 1023 d) Jvm.FP.dconst1) 4841369599423283200) = .fin false (d * 2 ^ k) (-(k : Int)) := by
      rw [s2, s1, s3]
      show Jvm.FP.Core.roundRatio Jvm.FP.Core.b64 (false != false) (d * 2 ^ k * 4503599627370496) 1 (-52 - (k : Int) + 0) = _
      refine Jvm.FP.Core.roundRatio_exact Jvm.FP.Core.good_b64 (by decide) ⟨k2, ?_, ?_, Or.inr k1⟩ ?_
      · show (-1074 : Int) ≤ _; omega
      · show _ ≤ (971 : Int); omega
      · have e1 : (-52 - (k : Int) + 0 - -(k : Int)).toNat = 0 := by omega
        have e2 : (-(k : Int) - (-52 - (k : Int) + 0)).toNat = 52 := by omega
        rw [e1, e2]
        omega
    refine ⟨n1, fin_nn s4, ?_⟩
    show Jvm.FP.Core.toL (Jvm.FP.Core.val64 _) = _
    rw [s4]
    show Int64.ofInt (max (-2 ^ 63) (min (2 ^ 63 - 1) (((d * 2 ^ k * 2 ^ (-(k : Int)).toNat / 2 ^ (- -(k : Int)).toNat : Nat) : Int)))) = _
    have e1 : (-(k : Int)).toNat = 0 := by omega
    have e2 : (- -(k : Int)).toNat = k := by omega
    rw [e1, e2, Nat.pow_zero, Nat.mul_one, Nat.mul_div_cancel _ (Nat.two_pow_pos k)]
    have e3 : max (-2 ^ 63 : Int) (min (2 ^ 63 - 1) ((d : Nat) : Int)) = (d : Int) := by omega
    rw [e3]
theorem d64_cmp0 {s : Bool} {E d : Nat} (hE : 1 ≤ E ∧ E ≤ 2046) (hd : d < 4503599627370496) : Jvm.FP.dcmp (D64 s E d) Jvm.FP.dconst0 = some (if s then .lt else .gt) := by
  have hn := d64_nn (s := s) hE hd
  have hz : Jvm.FP.Core.val64 Jvm.FP.dconst0 ≠ .nan := by decide +kernel
  have hk := d64_toNat (s := s) hE hd
  have hk0 : Jvm.FP.Core.dkey Jvm.FP.dconst0 = 0 := by decide +kernel
  cases s with
  | true =>
    refine (Jvm.FP.Core.dcmp_lt_key hn hz).mpr ?_
    rw [hk0]
    unfold Jvm.FP.Core.dkey
    rw [hk, if_pos (by show 2 ^ 63 ≤ (1 * 2048 + E) * 4503599627370496 + d; omega)]
    show ((2 ^ 63 : Nat) : Int) - (((1 * 2048 + E) * 4503599627370496 + d : Nat) : Int) < 0
    omega
  | false =>
    refine (Jvm.FP.Core.dcmp_gt_key hn hz).mpr ?_
    rw [hk0]
    unfold Jvm.FP.Core.dkey
    rw [hk, if_neg (by show ¬ 2 ^ 63 ≤ (0 * 2048 + E) * 4503599627370496 + d; omega)]
    show 0 < (((0 * 2048 + E) * 4503599627370496 + d : Nat) : Int)
    omega
theorem d64_cmp1 {E d : Nat} (hE : 1 ≤ E ∧ E ≤ 2046) (hd : d < 4503599627370496) : (E < 1023 → Jvm.FP.dcmp (D64 false E d) Jvm.FP.dconst1 = some .lt) ∧ (E = 1023 → d = 0 → Jvm.FP.dcmp (D64 false E d) Jvm.FP.dconst1 = some .eq) ∧ (E = 1023 → d ≠ 0 → Jvm.FP.dcmp (D64 false E d) Jvm.FP.dconst1 = some .gt) := by
  have hn := d64_nn (s := false) hE hd
  have hz : Jvm.FP.Core.val64 Jvm.FP.dconst1 ≠ .nan := by decide +kernel
  have hk := d64_toNat (s := false) hE hd
  have hk1 : Jvm.FP.Core.dkey Jvm.FP.dconst1 = 4607182418800017408 := by decide +kernel
  have hkk : Jvm.FP.Core.dkey (D64 false E d) = (((0 * 2048 + E) * 4503599627370496 + d : Nat) : Int) := by
    unfold Jvm.FP.Core.dkey
    rw [hk, if_neg (by show ¬ 2 ^ 63 ≤ (0 * 2048 + E) * 4503599627370496 + d; omega)]
    rfl
  refine ⟨fun h => (Jvm.FP.Core.dcmp_lt_key hn hz).mpr ?_, fun h h' => (Jvm.FP.Core.dcmp_eq_key hn hz).mpr ?_, fun h h' => (Jvm.FP.Core.dcmp_gt_key hn hz).mpr ?_⟩
  · rw [hk1, hkk]; omega
  · rw [hk1, hkk]; omega
  · rw [hk1, hkk]; omega
theorem d64_neg {E d : Nat} (hE : 1 ≤ E ∧ E ≤ 2046) (hd : d < 4503599627370496) : Jvm.FP.dneg (D64 true E d) = D64 false E d := by
  have hk := d64_toNat (s := true) hE hd
  have hk' := d64_toNat (s := false) hE hd
  refine UInt64.toNat_inj.mp ?_
  show ((D64 true E d) ^^^ 0x8000000000000000).toNat = _
  rw [UInt64.toNat_xor, hk, hk']
  show ((1 * 2048 + E) * 4503599627370496 + d) ^^^ 9223372036854775808 = (0 * 2048 + E) * 4503599627370496 + d
  have e1 : (1 * 2048 + E) * 4503599627370496 + d = 2 ^ 63 * 1 + (E * 4503599627370496 + d) := by omega
  have e3 : (0 * 2048 + E) * 4503599627370496 + d = E * 4503599627370496 + d := by rw [Nat.zero_mul, Nat.zero_add]
  have hlt : E * 4503599627370496 + d < 2 ^ 63 := by omega
  rw [e1, show (9223372036854775808 : Nat) = 2 ^ 63 * 1 + 0 from rfl, e3]
  generalize E * 4503599627370496 + d = y at hlt
  rw [Nat.two_pow_add_eq_or_of_lt hlt 1, Nat.two_pow_add_eq_or_of_lt (Nat.two_pow_pos 63) 1]
  have hb : y.testBit 63 = false := Nat.testBit_lt_two_pow hlt
  refine Nat.eq_of_testBit_eq fun i => ?_
  simp only [Nat.testBit_xor, Nat.testBit_or, Nat.testBit_mul_two_pow, Nat.zero_testBit, Bool.or_false, Nat.mul_one, Nat.testBit_two_pow]
  by_cases h : 63 = i
  · subst h; simp [hb]
  · simp [h]
theorem d64_bits {s : Bool} {E d : Nat} (hE : 1 ≤ E ∧ E ≤ 2046) (hd : d < 4503599627370496) (g : Int64) (hg : g = Int64.ofNat s.toNat) :
    (g <<< ((iI 63).toInt64 &&& 63)) ||| (lI (E : Int) <<< ((iI 52).toInt64 &&& 63)) ||| lI (d : Int) = (D64 s E d).toInt64 := by
  have hk := d64_toNat (s := s) hE hd
  subst hg
  have a1 : ((iI 63).toInt64 &&& 63) = 63 := by decide +kernel
  have a2 : ((iI 52).toInt64 &&& 63) = 52 := by decide +kernel
  rw [a1, a2]
  refine Int64.toBitVec_inj.mp (BitVec.eq_of_toNat_eq ?_)
  have r : (D64 s E d).toInt64.toBitVec.toNat = (s.toNat * 2048 + E) * 4503599627370496 + d := hk
  rw [r]
  rw [Int64.toBitVec_or, Int64.toBitVec_or, BitVec.toNat_or, BitVec.toNat_or]
  have b1 : (Int64.ofNat s.toNat <<< (63 : Int64)).toBitVec.toNat = s.toNat * 2 ^ 63 := by cases s <;> decide +kernel
  have b2 : (lI (E : Int) <<< (52 : Int64)).toBitVec.toNat = E * 2 ^ 52 := by
    have z : (lI (E : Int) <<< (52 : Int64)).toBitVec = BitVec.ofNat 64 E <<< 52 := by
      rw [Int64.toBitVec_shiftLeft]
      have y : (lI (E : Int)).toBitVec = BitVec.ofNat 64 E := by
        show BitVec.ofInt 64 (E : Int) = _
        exact BitVec.ofInt_natCast ..
      rw [y]
      rfl
    rw [z, BitVec.toNat_shiftLeft, BitVec.toNat_ofNat, Nat.shiftLeft_eq]
    omega
  have b3 : (lI (d : Int)).toBitVec.toNat = d := by
    show (BitVec.ofInt 64 (d : Int)).toNat = d
    rw [BitVec.ofInt_natCast, BitVec.toNat_ofNat]
    omega
  rw [b1, b2, b3]
  have c1 : s.toNat * 2 ^ 63 ||| E * 2 ^ 52 = 2 ^ 63 * s.toNat + E * 2 ^ 52 := by
    rw [Nat.two_pow_add_eq_or_of_lt (by omega : E * 2 ^ 52 < 2 ^ 63) s.toNat, Nat.mul_comm]
  have c2 : 2 ^ 63 * s.toNat + E * 2 ^ 52 = 2 ^ 52 * (s.toNat * 2048 + E) := by omega
  rw [c1, c2, ← Nat.two_pow_add_eq_or_of_lt (show d < 2 ^ 52 from hd) (s.toNat * 2048 + E)]
  omega
theorem q_congr {cA cB a b : Nat} {qA qB : Int} (hA : cA * 2 ^ qA.toNat = a * 2 ^ (-qA).toNat) (hB : cB * 2 ^ qB.toNat = b * 2 ^ (-qB).toNat) : cA * b * 2 ^ (qA - qB - 0).toNat = a * cB * 2 ^ (0 - (qA - qB)).toNat := by
  have hS : 0 < 2 ^ qA.toNat * 2 ^ (-qB).toNat := Nat.mul_pos (Nat.two_pow_pos _) (Nat.two_pow_pos _)
  refine Nat.eq_of_mul_eq_mul_right hS ?_
  have e : (-qA).toNat + qB.toNat + (qA - qB - 0).toNat = (0 - (qA - qB)).toNat + qA.toNat + (-qB).toNat := by omega
  calc cA * b * 2 ^ (qA - qB - 0).toNat * (2 ^ qA.toNat * 2 ^ (-qB).toNat) = (cA * 2 ^ qA.toNat) * (b * 2 ^ (-qB).toNat) * 2 ^ (qA - qB - 0).toNat := by ac_rfl
    _ = (a * 2 ^ (-qA).toNat) * (cB * 2 ^ qB.toNat) * 2 ^ (qA - qB - 0).toNat := by rw [hA, hB]
    _ = a * cB * (2 ^ (-qA).toNat * 2 ^ qB.toNat * 2 ^ (qA - qB - 0).toNat) := by ac_rfl
    _ = a * cB * (2 ^ (0 - (qA - qB)).toNat * 2 ^ qA.toNat * 2 ^ (-qB).toNat) := by rw [← Nat.pow_add, ← Nat.pow_add, e, Nat.pow_add, Nat.pow_add]
    _ = _ := by ac_rfl
theorem fin_of_whole {i : Int} {d : Jvm.FP.Core.Datum} (h : Jvm.FP.Core.Whole i d) (h0 : 0 < i) : ∃ (c : Nat) (q : Int), d = .fin false c q ∧ c * 2 ^ q.toNat = i.toNat * 2 ^ (-q).toNat ∧ c ≠ 0 := by
  cases d with
  | nan => exact h.elim
  | inf => exact h.elim
  | fin s c q =>
    have h1 := Jvm.FP.Core.whole_sign h (by omega)
    have h2 := Jvm.FP.Core.whole_natAbs h
    have h3 := Jvm.FP.Core.whole_zero h
    have h4 : s = false := by rw [h1]; exact decide_eq_false (by omega)
    subst h4
    refine ⟨c, q, rfl, ?_, fun z => by have := h3.mp z; omega⟩
    rw [show i.toNat = i.natAbs by omega]
    exact h2
theorem d64_div {n : Int} (h1 : 1 ≤ n) (h2 : n ≤ 67108864) (s : Bool) : ∃ E d : Nat, Jvm.FP.ddiv (if s then 13830554455654793216 else Jvm.FP.dconst1) (Jvm.FP.i2d (iI n)) = D64 s E d ∧ (997 ≤ E ∧ E ≤ 1023) ∧ d < 4503599627370496 ∧ (E = 1023 → d = 0) := by
  have hn : (iI n).toInt = n := iI_toInt ⟨by omega, by omega⟩
  have hw : Jvm.FP.Core.Whole n (Jvm.FP.Core.val64 (Jvm.FP.i2d (iI n))) := by
    have := Jvm.FP.Core.i2d_int (iI n)
    rw [hn] at this
    exact this
  obtain ⟨c, q, e1, e2, e3⟩ := fin_of_whole hw (by omega)
  have hv : Jvm.FP.Core.val64 (Jvm.FP.ddiv (if s then 13830554455654793216 else Jvm.FP.dconst1) (Jvm.FP.i2d (iI n))) = Jvm.FP.Core.roundRatio Jvm.FP.Core.b64 s 1 n.toNat 0 := by
    rw [show Jvm.FP.Core.val64 (Jvm.FP.ddiv (if s then 13830554455654793216 else Jvm.FP.dconst1) (Jvm.FP.i2d (iI n))) = _ from Jvm.FP.Core.val64_ddiv _ _, e1]
    have ea : Jvm.FP.Core.val64 (if s then 13830554455654793216 else Jvm.FP.dconst1) = .fin s 4503599627370496 (-52) := by cases s <;> decide +kernel
    rw [ea]
    show (if c = 0 then _ else Jvm.FP.Core.roundRatio Jvm.FP.Core.b64 (s != false) 4503599627370496 c (-52 - q)) = _
    rw [if_neg e3, show (s != false) = s by cases s <;> rfl]
    exact Jvm.FP.Core.roundRatio_congr (by omega) (by omega) (q_congr (cA := 4503599627370496) (a := 1) (by decide) e2)
  obtain ⟨c', q', r1, r2, r3, r4, r5, r6⟩ := rr_normal Jvm.FP.Core.good_b64 (by decide) (by decide) (s := s) (A := 1) (B := n.toNat) (Nat.le_refl 1) (by omega) (by show n.toNat ≤ 67108864; omega)
  rw [r1] at hv
  have r2' : 4503599627370496 ≤ c' := r2
  have r3' : c' < 9007199254740992 := r3
  have r4' : -78 ≤ q' := r4
  have r5' : q' ≤ -52 := r5
  have r6' : q' = -52 → c' = 4503599627370496 := r6
  refine ⟨(q' + 1075).toNat, c' - 4503599627370496, d64_of hv r2', ⟨by omega, by omega⟩, by omega, fun h => ?_⟩
  have := r6' (by omega)
  omega
/-! floats -/
def F32 (E d : Nat) : UInt32 := Jvm.FP.Core.of32 (.fin false (8388608 + d) ((E : Int) - 150))
theorem f32_fits {E d : Nat} (hE : 1 ≤ E ∧ E ≤ 254) (hd : d < 8388608) : Jvm.FP.Core.fits Jvm.FP.Core.b32 (.fin false (8388608 + d) ((E : Int) - 150)) := by
  refine ⟨?_, ?_, ?_, Or.inr ?_⟩
  · show 8388608 + d < 16777216; omega
  · show (-149 : Int) ≤ _; omega
  · show _ ≤ (104 : Int); omega
  · show 8388608 ≤ _; omega
theorem f32_val {E d : Nat} (hE : 1 ≤ E ∧ E ≤ 254) (hd : d < 8388608) : Jvm.FP.Core.val32 (F32 E d) = .fin false (8388608 + d) ((E : Int) - 150) := Jvm.FP.Core.val32_of32 (f32_fits hE hd)
theorem f32_toNat {E d : Nat} (hE : 1 ≤ E ∧ E ≤ 254) (hd : d < 8388608) : (F32 E d).toNat = E * 8388608 + d := by
  unfold F32
  rw [Jvm.FP.Core.toNat_of32 (f32_fits hE hd)]
  unfold Jvm.FP.Core.encode
  have e : Jvm.FP.Core.b32.tails = 8388608 := rfl
  have e2 : Jvm.FP.Core.b32.qmin = -149 := rfl
  have e3 : Jvm.FP.Core.b32.exps = 256 := rfl
  simp only [e, e2]
  rw [if_neg (by omega)]
  unfold Jvm.FP.Core.assemble
  rw [e, e3]
  have e4 : ((E : Int) - 150 - -149).toNat + 1 = E := by omega
  rw [e4]
  show (0 * 256 + E) * 8388608 + (8388608 + d - 8388608) = _
  rw [Nat.zero_mul, Nat.zero_add, Nat.add_sub_cancel_left]
theorem f32_of {x : UInt32} {c : Nat} {q : Int} (h : Jvm.FP.Core.val32 x = .fin false c q) (hc : 8388608 ≤ c) : x = F32 (q + 150).toNat (c - 8388608) := by
  have h1 := Jvm.FP.Core.val32_fits x
  rw [h] at h1
  obtain ⟨a, b, d, _⟩ := h1
  have b' : (-149 : Int) ≤ q := b
  unfold F32
  have e1 : 8388608 + (c - 8388608) = c := by omega
  have e2 : (((q + 150).toNat : Nat) : Int) - 150 = q := by omega
  rw [e1, e2, ← h, Jvm.FP.Core.of32_val32 (by rw [h]; exact fun z => Jvm.FP.Core.Datum.noConfusion z)]
theorem f32_nn {E d : Nat} (hE : 1 ≤ E ∧ E ≤ 254) (hd : d < 8388608) : Jvm.FP.Core.val32 (F32 E d) ≠ .nan := by
  rw [f32_val hE hd]
  exact fun z => Jvm.FP.Core.Datum.noConfusion z
theorem fin_nn32 {x : UInt32} {s : Bool} {c : Nat} {q : Int} (h : Jvm.FP.Core.val32 x = .fin s c q) : Jvm.FP.Core.val32 x ≠ .nan := by
  rw [h]
  exact fun z => Jvm.FP.Core.Datum.noConfusion z
theorem f32_mul2 {E d : Nat} (hE : 1 ≤ E ∧ E ≤ 253) (hd : d < 8388608) : Jvm.FP.fmul (F32 E d) Jvm.FP.fconst2 = F32 (E + 1) d := by
  have e0 : Jvm.FP.Core.val32 Jvm.FP.fconst2 = .fin false 8388608 (-22) := by decide +kernel
  refine Jvm.FP.Core.val32_inj ?_ ?_
  · rw [show Jvm.FP.Core.val32 (Jvm.FP.fmul (F32 E d) Jvm.FP.fconst2) = _ from Jvm.FP.Core.val32_fmul _ _]
    rw [f32_val ⟨by omega, by omega⟩ hd, e0]
    show Jvm.FP.Core.roundRatio _ _ _ _ _ ≠ _
    exact Jvm.FP.Core.roundRatio_ne_nan _ _ _ _ _
  · rw [show Jvm.FP.Core.val32 (Jvm.FP.fmul (F32 E d) Jvm.FP.fconst2) = _ from Jvm.FP.Core.val32_fmul _ _]
    rw [f32_val ⟨by omega, by omega⟩ hd, f32_val ⟨by omega, by omega⟩ hd, e0]
    show Jvm.FP.Core.roundRatio Jvm.FP.Core.b32 (false != false) ((8388608 + d) * 8388608) 1 ((E : Int) - 150 + -22) = _
    refine Jvm.FP.Core.roundRatio_exact Jvm.FP.Core.good_b32 (by decide) (f32_fits (E := E + 1) ⟨by omega, by omega⟩ hd) ?_
    have e1 : ((E : Int) - 150 + -22 - (((E + 1 : Nat) : Int) - 150)).toNat = 0 := by omega
    have e2 : (((E + 1 : Nat) : Int) - 150 - ((E : Int) - 150 + -22)).toNat = 23 := by omega
    rw [e1, e2]
    omega
theorem n32_of {r : UInt32} (h : Jvm.FP.Core.val32 r ≠ .nan) : vf_n32 r := by
  have h1 : ¬ Jvm.FP.Core.infBits Jvm.FP.Core.b32 < Jvm.FP.Core.mag Jvm.FP.Core.b32 r.toNat := fun z => h ((Jvm.FP.Core.decode_nan r.toNat).mpr z)
  unfold vf_n32
  rw [UInt32.le_iff_toNat_le, UInt32.toNat_and, show (0x7fffffff : UInt32).toNat = 2 ^ 31 - 1 from rfl, Nat.and_two_pow_sub_one_eq_mod]
  have e1 : Jvm.FP.Core.infBits Jvm.FP.Core.b32 = 2139095040 := by decide +kernel
  have e2 : Jvm.FP.Core.mag Jvm.FP.Core.b32 r.toNat = r.toNat % 2 ^ 31 := rfl
  rw [e1, e2] at h1
  show r.toNat % 2 ^ 31 ≤ 2139095040
  omega
theorem pw_norm32 {d : Nat} (h0 : 0 < d) (hd : d < 8388608) : ∃ k : Nat, k ≤ 23 ∧ 8388608 ≤ d * 2 ^ k ∧ d * 2 ^ k < 16777216 := by
  have a1 : 2 ^ d.log2 ≤ d := Nat.log2_self_le (by omega)
  have a2 : d < 2 ^ (d.log2 + 1) := Nat.lt_log2_self
  have hl : d.log2 < 23 := (Nat.log2_lt (by omega)).mpr hd
  refine ⟨23 - d.log2, by omega, ?_, ?_⟩
  · have e : 2 ^ d.log2 * 2 ^ (23 - d.log2) = 8388608 := by
      rw [← Nat.pow_add, show d.log2 + (23 - d.log2) = 23 by omega]
    rw [← e]
    exact Nat.mul_le_mul_right _ a1
  · have e : 2 ^ (d.log2 + 1) * 2 ^ (23 - d.log2) = 16777216 := by
      rw [← Nat.pow_add, show d.log2 + 1 + (23 - d.log2) = 24 by omega]
    rw [← e]
    exact Nat.mul_lt_mul_of_pos_right a2 (Nat.two_pow_pos _)
theorem f32_frac {d : Nat} (hd : d < 8388608) :
    Jvm.FP.Core.val32 (Jvm.FP.fsub (F32 127 d) Jvm.FP.fconst1) ≠ .nan ∧ Jvm.FP.Core.val32 (Jvm.FP.fmul (Jvm.FP.fsub (F32 127 d) Jvm.FP.fconst1) 1258291200) ≠ .nan ∧ Jvm.FP.f2i (Jvm.FP.fmul (Jvm.FP.fsub (F32 127 d) Jvm.FP.fconst1) 1258291200) = Int32.ofInt (d : Int) := by
  have s1 : Jvm.FP.Core.val32 (Jvm.FP.fsub (F32 127 d) Jvm.FP.fconst1) = Jvm.FP.Core.roundRatio Jvm.FP.Core.b32 false d 1 (-23) := by
    rw [show Jvm.FP.Core.val32 (Jvm.FP.fsub (F32 127 d) Jvm.FP.fconst1) = _ from Jvm.FP.Core.val32_fsub _ _]
    rw [f32_val ⟨by omega, by omega⟩ hd, show Jvm.FP.Core.val32 Jvm.FP.fconst1 = .fin false 8388608 (-23) by decide +kernel]
    have e1 : ((127 : Nat) : Int) - 150 = -23 := by omega
    rw [e1]
    show Jvm.FP.Core.round Jvm.FP.Core.b32 (Jvm.FP.Core.exactSum (.fin false (8388608 + d) (-23)) (.fin true 8388608 (-23))) = _
    have e2 : Jvm.FP.Core.sumUnits false (8388608 + d) (-23) true 8388608 (-23) (min (-23) (-23)) = (d : Int) := by
      show (((8388608 + d) * 1 : Nat) : Int) + -((8388608 * 1 : Nat) : Int) = (d : Int)
      omega
    show Jvm.FP.Core.round Jvm.FP.Core.b32 (.fin (Jvm.FP.Core.sumSign false true (Jvm.FP.Core.sumUnits false (8388608 + d) (-23) true 8388608 (-23) (min (-23) (-23)))) (Jvm.FP.Core.sumUnits false (8388608 + d) (-23) true 8388608 (-23) (min (-23) (-23))).natAbs (min (-23) (-23))) = _
    rw [e2]
    have e3 : Jvm.FP.Core.sumSign false true (d : Int) = false := by
      unfold Jvm.FP.Core.sumSign
      split
      · rfl
      · exact decide_eq_false (by omega)
    rw [e3]
    rfl
  have s2 : ∀ y, Jvm.FP.Core.val32 (Jvm.FP.fmul y 1258291200) = Jvm.FP.Core.round Jvm.FP.Core.b32 (Jvm.FP.Core.exactProduct (Jvm.FP.Core.val32 y) (.fin false 8388608 0)) := by
    intro y
    rw [show Jvm.FP.Core.val32 (Jvm.FP.fmul y 1258291200) = _ from Jvm.FP.Core.val32_fmul _ _, show Jvm.FP.Core.val32 1258291200 = .fin false 8388608 0 by decide +kernel]
  have n1 : Jvm.FP.Core.val32 (Jvm.FP.fsub (F32 127 d) Jvm.FP.fconst1) ≠ .nan := by
    rw [s1]
    exact Jvm.FP.Core.roundRatio_ne_nan _ _ _ _ _
  by_cases h0 : d = 0
  · subst h0
    exact ⟨n1, by rw [s2, s1]; decide +kernel, by decide +kernel⟩
  · obtain ⟨k, hk, k1, k2⟩ := pw_norm32 (by omega) hd
    have s3 : Jvm.FP.Core.roundRatio Jvm.FP.Core.b32 false d 1 (-23) = .fin false (d * 2 ^ k) (-23 - (k : Int)) := by
      refine Jvm.FP.Core.roundRatio_exact Jvm.FP.Core.good_b32 (by decide) ⟨k2, ?_, ?_, Or.inr k1⟩ ?_
      · show (-149 : Int) ≤ _; omega
      · show _ ≤ (104 : Int); omega
      · have e1 : ((-23 : Int) - (-23 - (k : Int))).toNat = k := by omega
        have e2 : (-23 - (k : Int) - (-23 : Int)).toNat = 0 := by omega
        rw [e1, e2]
        omega
    have s4 : Jvm.FP.Core.val32 (Jvm.FP.fmul (Jvm.FP.fsub (F32 127 d) Jvm.FP.fconst1) 1258291200) = .fin false (d * 2 ^ k) (-(k : Int)) := by
      rw [s2, s1, s3]
      show Jvm.FP.Core.roundRatio Jvm.FP.Core.b32 (false != false) (d * 2 ^ k * 8388608) 1 (-23 - (k : Int) + 0) = _
      refine Jvm.FP.Core.roundRatio_exact Jvm.FP.Core.good_b32 (by decide) ⟨k2, ?_, ?_, Or.inr k1⟩ ?_
      · show (-149 : Int) ≤ _; omega
      · show _ ≤ (104 : Int); omega
      · have e1 : (-23 - (k : Int) + 0 - -(k : Int)).toNat = 0 := by omega
        have e2 : (-(k : Int) - (-23 - (k : Int) + 0)).toNat = 23 := by omega
        rw [e1, e2]
        omega
    refine ⟨n1, fin_nn32 s4, ?_⟩
    show Jvm.FP.Core.toI (Jvm.FP.Core.val32 _) = _
    rw [s4]
    show Int32.ofInt (max (-2 ^ 31) (min (2 ^ 31 - 1) (((d * 2 ^ k * 2 ^ (-(k : Int)).toNat / 2 ^ (- -(k : Int)).toNat : Nat) : Int)))) = _
    have e1 : (-(k : Int)).toNat = 0 := by omega
    have e2 : (- -(k : Int)).toNat = k := by omega
    rw [e1, e2, Nat.pow_zero, Nat.mul_one, Nat.mul_div_cancel _ (Nat.two_pow_pos k)]
    have e3 : max (-2 ^ 31 : Int) (min (2 ^ 31 - 1) ((d : Nat) : Int)) = (d : Int) := by omega
    rw [e3]
theorem f32_key {E d : Nat} (hE : 1 ≤ E ∧ E ≤ 254) (hd : d < 8388608) : Jvm.FP.Core.fkey (F32 E d) = ((E * 8388608 + d : Nat) : Int) := by
  unfold Jvm.FP.Core.fkey
  rw [f32_toNat hE hd, if_neg (by omega)]
theorem f32_cmp0 {E d : Nat} (hE : 1 ≤ E ∧ E ≤ 254) (hd : d < 8388608) : Jvm.FP.fcmp (F32 E d) Jvm.FP.fconst0 = some .gt := by
  refine (Jvm.FP.Core.fcmp_gt_key (f32_nn hE hd) (by decide +kernel)).mpr ?_
  rw [f32_key hE hd, show Jvm.FP.Core.fkey Jvm.FP.fconst0 = 0 by decide +kernel]
  omega
theorem f32_cmp1 {E d : Nat} (hE : 1 ≤ E ∧ E ≤ 254) (hd : d < 8388608) : (E < 127 → Jvm.FP.fcmp (F32 E d) Jvm.FP.fconst1 = some .lt) ∧ (E = 127 → d = 0 → Jvm.FP.fcmp (F32 E d) Jvm.FP.fconst1 = some .eq) ∧ (E = 127 → d ≠ 0 → Jvm.FP.fcmp (F32 E d) Jvm.FP.fconst1 = some .gt) := by
  have hn := f32_nn hE hd
  have hz : Jvm.FP.Core.val32 Jvm.FP.fconst1 ≠ .nan := by decide +kernel
  have hk1 : Jvm.FP.Core.fkey Jvm.FP.fconst1 = 1065353216 := by decide +kernel
  have hkk := f32_key hE hd
  refine ⟨fun h => (Jvm.FP.Core.fcmp_lt_key hn hz).mpr ?_, fun h h' => (Jvm.FP.Core.fcmp_eq_key hn hz).mpr ?_, fun h h' => (Jvm.FP.Core.fcmp_gt_key hn hz).mpr ?_⟩
  · rw [hk1, hkk]; omega
  · rw [hk1, hkk]; omega
  · rw [hk1, hkk]; omega
theorem toInt32_iI (x : UInt32) : x.toInt32 = iI ((x.toNat : Nat) : Int) := by
  refine Int32.toBitVec_inj.mp ?_
  show x.toBitVec = BitVec.ofInt 32 ((x.toNat : Nat) : Int)
  rw [BitVec.ofInt_natCast]
  exact BitVec.eq_of_toNat_eq (by rw [BitVec.toNat_ofNat]; exact (Nat.mod_eq_of_lt x.toBitVec.isLt).symm)
theorem f32_bits {E d : Nat} (hE : 1 ≤ E ∧ E ≤ 254) (hd : d < 8388608) :
    (iI (E : Int) <<< (iI 23 &&& 31)) ||| Int32.ofInt (d : Int) = iI (((F32 E d).toNat : Nat) : Int) := by
  rw [f32_toNat hE hd]
  have a1 : (iI 23 &&& 31) = 23 := by decide +kernel
  rw [a1]
  refine Int32.toBitVec_inj.mp (BitVec.eq_of_toNat_eq ?_)
  rw [Int32.toBitVec_or, BitVec.toNat_or]
  have b2 : (iI (E : Int) <<< (23 : Int32)).toBitVec.toNat = E * 2 ^ 23 := by
    have z : (iI (E : Int) <<< (23 : Int32)).toBitVec = BitVec.ofNat 32 E <<< 23 := by
      rw [Int32.toBitVec_shiftLeft]
      have y : (iI (E : Int)).toBitVec = BitVec.ofNat 32 E := by
        show BitVec.ofInt 32 (E : Int) = _
        exact BitVec.ofInt_natCast ..
      rw [y]
      rfl
    rw [z, BitVec.toNat_shiftLeft, BitVec.toNat_ofNat, Nat.shiftLeft_eq]
    omega
  have b3 : (Int32.ofInt (d : Int)).toBitVec.toNat = d := by
    show (BitVec.ofInt 32 (d : Int)).toNat = d
    rw [BitVec.ofInt_natCast, BitVec.toNat_ofNat]
    omega
  have b4 : (iI ((E * 8388608 + d : Nat) : Int)).toBitVec.toNat = E * 8388608 + d := by
    show (BitVec.ofInt 32 ((E * 8388608 + d : Nat) : Int)).toNat = _
    rw [BitVec.ofInt_natCast, BitVec.toNat_ofNat]
    omega
  rw [b2, b3, b4, show E * 2 ^ 23 = 2 ^ 23 * E by omega, ← Nat.two_pow_add_eq_or_of_lt (show d < 2 ^ 23 from hd) E]
theorem f32_div {a n : Int} (h0 : 0 ≤ a) (ha : a ≤ n) (h1 : 1 ≤ n) (h2 : n ≤ 16777216) : (Jvm.FP.fdiv (Jvm.FP.i2f (iI a)) (Jvm.FP.i2f (iI n)) = 0) ∨ ∃ E d : Nat, Jvm.FP.fdiv (Jvm.FP.i2f (iI a)) (Jvm.FP.i2f (iI n)) = F32 E d ∧ (101 ≤ E ∧ E ≤ 127) ∧ d < 8388608 ∧ (E = 127 → d = 0) := by
  have wf : ∀ m : Int, 0 ≤ m → m ≤ 16777216 → Jvm.FP.Core.Whole m (Jvm.FP.Core.val32 (Jvm.FP.i2f (iI m))) := by
    intro m m0 m1
    have hn : (iI m).toInt = m := iI_toInt ⟨by omega, by omega⟩
    have := Jvm.FP.Core.i2f_int (a := iI m) (by rw [hn]; show m.natAbs ≤ 16777216; omega)
    unfold Jvm.FP.Core.FInt at this
    rw [hn] at this
    exact this
  obtain ⟨c, q, e1, e2, e3⟩ := fin_of_whole (wf n (by omega) h2) (by omega)
  have hv0 : Jvm.FP.Core.val32 (Jvm.FP.fdiv (Jvm.FP.i2f (iI a)) (Jvm.FP.i2f (iI n))) = _ := Jvm.FP.Core.val32_fdiv _ _
  by_cases ha0 : a = 0
  · left
    subst ha0
    refine Jvm.FP.Core.val32_inj ?_ ?_
    · rw [hv0, e1, show Jvm.FP.Core.val32 (Jvm.FP.i2f (iI 0)) = .fin false 0 (-149) by decide +kernel]
      show (if c = 0 then _ else Jvm.FP.Core.roundRatio Jvm.FP.Core.b32 _ 0 c _) ≠ _
      rw [if_neg e3]
      exact Jvm.FP.Core.roundRatio_ne_nan _ _ _ _ _
    · rw [hv0, e1, show Jvm.FP.Core.val32 (Jvm.FP.i2f (iI 0)) = .fin false 0 (-149) by decide +kernel]
      show (if c = 0 then _ else Jvm.FP.Core.roundRatio Jvm.FP.Core.b32 _ 0 c _) = _
      rw [if_neg e3, show Jvm.FP.Core.val32 (0 : UInt32) = .fin false 0 (-149) by decide +kernel]
      rfl
  · right
    obtain ⟨c0, q0, f1, f2, f3⟩ := fin_of_whole (wf a (by omega) (by omega)) (by omega)
    have hv : Jvm.FP.Core.val32 (Jvm.FP.fdiv (Jvm.FP.i2f (iI a)) (Jvm.FP.i2f (iI n))) = Jvm.FP.Core.roundRatio Jvm.FP.Core.b32 false a.toNat n.toNat 0 := by
      rw [hv0, e1, f1]
      show (if c = 0 then _ else Jvm.FP.Core.roundRatio Jvm.FP.Core.b32 (false != false) c0 c (q0 - q)) = _
      rw [if_neg e3]
      exact Jvm.FP.Core.roundRatio_congr (by omega) (by omega) (q_congr f2 e2)
    obtain ⟨c', q', r1, r2, r3, r4, r5, r6⟩ := rr_normal Jvm.FP.Core.good_b32 (by decide) (by decide) (s := false) (A := a.toNat) (B := n.toNat) (by omega) (by omega) (by show n.toNat ≤ 67108864; omega)
    rw [r1] at hv
    have r2' : 8388608 ≤ c' := r2
    have r3' : c' < 16777216 := r3
    have r4' : -49 ≤ q' := r4
    have r5' : q' ≤ -23 := r5
    have r6' : q' = -23 → c' = 8388608 := r6
    refine ⟨(q' + 150).toNat, c' - 8388608, f32_of hv r2', ⟨by omega, by omega⟩, by omega, fun h => ?_⟩
    have := r6' (by omega)
    omega
theorem d64_c1 {d : Nat} (hd : d < 4503599627370496) : Op.cmpValue (Jvm.FP.dcmp (D64 false 1023 d) Jvm.FP.dconst1) .g = iI (if d = 0 then 0 else 1) := by
  have h := d64_cmp1 (E := 1023) ⟨by omega, by omega⟩ hd
  split
  · rw [h.2.1 rfl (by assumption)]; decide
  · rw [h.2.2 rfl (by assumption)]; decide
theorem f32_c1 {d : Nat} (hd : d < 8388608) : Op.cmpValue (Jvm.FP.fcmp (F32 127 d) Jvm.FP.fconst1) .g = iI (if d = 0 then 0 else 1) := by
  have h := f32_cmp1 (E := 127) ⟨by omega, by omega⟩ hd
  split
  · rw [h.2.1 rfl (by assumption)]; decide
  · rw [h.2.2 rfl (by assumption)]; decide
theorem f32_divX {a n : Int} (h0 : 0 ≤ a) (ha : a ≤ n) (h1 : 1 ≤ n) (h2 : n ≤ 16777216) : Jvm.FP.Core.val32 (Jvm.FP.fdiv (Jvm.FP.i2f (iI a)) (Jvm.FP.i2f (iI n))) ≠ .nan ∧ (Jvm.FP.fdiv (Jvm.FP.i2f (iI a)) (Jvm.FP.i2f (iI n)) = 0 ∨ ∃ E d : Nat, Jvm.FP.fdiv (Jvm.FP.i2f (iI a)) (Jvm.FP.i2f (iI n)) = F32 E d ∧ (101 ≤ E ∧ E ≤ 127) ∧ d < 8388608) := by
  rcases f32_div h0 ha h1 h2 with h | ⟨E, d, h, hE, hd, _⟩
  · exact ⟨by rw [h]; decide +kernel, Or.inl h⟩
  · exact ⟨by rw [h]; exact f32_nn ⟨by omega, by omega⟩ hd, Or.inr ⟨E, d, h, hE, hd⟩⟩
theorem mulr_in {a b : Int} (ha : 0 ≤ a ∧ a ≤ 99999) (hb : 4 ≤ b ∧ b ≤ 400) : 0 ≤ a * b ∧ a * b ≤ 39999600 := by
  have h1 : a * b ≤ 99999 * b := Int.mul_le_mul_of_nonneg_right ha.2 (by omega)
  have h0 : 0 ≤ a * b := Int.mul_nonneg ha.1 (by omega)
  omega
def cRateX (E : Enc) : UInt64 := Jvm.FP.ddiv (if E.1 9 = 1 then Jvm.FP.dconst1 else 13830554455654793216) (Jvm.FP.i2d (iI (E.1 15 * E.2.1 0)))
def cRateR (E : Enc) : Int64 := if E.1 15 * E.2.1 0 ≤ 0 then lI 0 else (cRateX E).toInt64
def cNoiseX (E : Enc) : UInt32 := Jvm.FP.fdiv (Jvm.FP.i2f (iI (E.1 12))) (Jvm.FP.i2f (iI (E.1 10 + E.1 11 + E.1 12)))
def cNoiseR (E : Enc) : Int := if E.1 10 + E.1 11 + E.1 12 ≤ 0 then -6 else (((cNoiseX E).toNat : Nat) : Int)
