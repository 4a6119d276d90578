/-! ===== p23, pure: the rate's bits, and their sign ===== -/
theorem rr_flip {f : Jvm.FP.Core.Fmt} {A B : Nat} {e : Int} {c : Nat} {q : Int} (h : Jvm.FP.Core.roundRatio f false A B e = .fin false c q) : Jvm.FP.Core.roundRatio f true A B e = .fin true c q := by
  unfold Jvm.FP.Core.roundRatio Jvm.FP.Core.roundAt Jvm.FP.Core.settle Jvm.FP.Core.bound at h ⊢
  split at h
  · rename_i h0
    rw [if_pos h0]
    injection h with _ h2 h3
    rw [h2, h3]
  · rename_i h0
    rw [if_neg h0]
    split at h
    · rename_i h1
      rw [if_pos h1]
      split at h
      · rename_i h2
        rw [if_pos h2]
        injection h with _ h3 h4
        rw [h3, h4]
      · exact Jvm.FP.Core.Datum.noConfusion h
    · rename_i h1
      rw [if_neg h1]
      split at h
      · rename_i h2
        rw [if_pos h2]
        injection h with _ h3 h4
        rw [h3, h4]
      · exact Jvm.FP.Core.Datum.noConfusion h
theorem d64_div2 {n : Int} (h1 : 1 ≤ n) (h2 : n ≤ 67108864) : ∃ E d : Nat, Jvm.FP.ddiv Jvm.FP.dconst1 (Jvm.FP.i2d (iI n)) = D64 false E d ∧ Jvm.FP.ddiv 13830554455654793216 (Jvm.FP.i2d (iI n)) = D64 true E d ∧ (997 ≤ E ∧ E ≤ 1023) ∧ d < 4503599627370496 := by
  have hn : (iI n).toInt = n := iI_toInt ⟨by omega, by omega⟩
  have hw : Jvm.FP.Core.Whole n (Jvm.FP.Core.val64 (Jvm.FP.i2d (iI n))) := by
    have := Jvm.FP.Core.i2d_int (iI n)
    rw [hn] at this
    exact this
  obtain ⟨c, q, e1, e2, e3⟩ := fin_of_whole hw (by omega)
  have hv : ∀ (s : Bool) (x : UInt64), Jvm.FP.Core.val64 x = .fin s 4503599627370496 (-52) → Jvm.FP.Core.val64 (Jvm.FP.ddiv x (Jvm.FP.i2d (iI n))) = Jvm.FP.Core.roundRatio Jvm.FP.Core.b64 s 1 n.toNat 0 := by
    intro s x hx
    rw [show Jvm.FP.Core.val64 (Jvm.FP.ddiv x (Jvm.FP.i2d (iI n))) = _ from Jvm.FP.Core.val64_ddiv _ _, e1, hx]
    show (if c = 0 then _ else Jvm.FP.Core.roundRatio Jvm.FP.Core.b64 (s != false) 4503599627370496 c (-52 - q)) = _
    rw [if_neg e3, show (s != false) = s by cases s <;> rfl]
    exact Jvm.FP.Core.roundRatio_congr (by omega) (by omega) (q_congr (cA := 4503599627370496) (a := 1) (by decide) e2)
  obtain ⟨c', q', r1, r2, r3, r4, r5, r6⟩ := rr_normal Jvm.FP.Core.good_b64 (by decide) (by decide) (s := false) (A := 1) (B := n.toNat) (Nat.le_refl 1) (by omega) (by show n.toNat ≤ 67108864; omega)
  have v1 := hv false Jvm.FP.dconst1 (by decide +kernel)
  have v2 := hv true 13830554455654793216 (by decide +kernel)
  rw [r1] at v1
  rw [rr_flip r1] at v2
  have r2' : 4503599627370496 ≤ c' := r2
  have r3' : c' < 9007199254740992 := r3
  have r4' : -78 ≤ q' := r4
  have r5' : q' ≤ -52 := r5
  exact ⟨(q' + 1075).toNat, c' - 4503599627370496, d64_of v1 r2', d64_of v2 r2', ⟨by omega, by omega⟩, by omega⟩
theorem d64_lI {s : Bool} {E d Y : Nat} (hE : 997 ≤ E ∧ E ≤ 1023) (hd : d < 4503599627370496) (hY : Y = E * 4503599627370496 + d) : (D64 s E d).toInt64 = lI (if s = true then (Y : Int) - 9223372036854775808 else (Y : Int)) := by
  have hk := d64_toNat (s := s) (E := E) (d := d) ⟨by omega, by omega⟩ hd
  have r : (D64 s E d).toInt64.toBitVec.toNat = (s.toNat * 2048 + E) * 4503599627370496 + d := hk
  refine Int64.toBitVec_inj.mp (BitVec.eq_of_toNat_eq ?_)
  cases s
  · rw [Bool.toNat_false] at r
    have r2 : (D64 false E d).toInt64.toBitVec.toNat = Y := by omega
    rw [r2, if_neg Bool.false_ne_true]
    have q : (lI (Y : Int)).toBitVec.toNat = (BitVec.ofInt 64 (Y : Int)).toNat := rfl
    rw [q, BitVec.toNat_ofInt]
    omega
  · rw [Bool.toNat_true] at r
    have r2 : (D64 true E d).toInt64.toBitVec.toNat = 9223372036854775808 + Y := by omega
    rw [r2, if_pos rfl]
    have q : (lI ((Y : Int) - 9223372036854775808)).toBitVec.toNat = (BitVec.ofInt 64 ((Y : Int) - 9223372036854775808)).toNat := rfl
    rw [q, BitVec.toNat_ofInt]
    omega
/-- the rate is 0 without a period, else above 0 forwards, below it backwards; the mirror's has the other sign bit -/
theorem rate_0 {E : Enc} (hI : InvE E) (h : E.1 15 ≤ 0) : cRateR E = lI 0 := by
  have h15 := hI.2.2.2.2.2.2.2.2.2.2.2.1
  have e : E.1 15 = 0 := by omega
  unfold cRateR
  rw [e, Int.zero_mul, if_pos (by decide)]
theorem rate_p {E : Enc} (hI : InvE E) (h : 0 < E.1 15) : ∃ X : Int, (0 < X ∧ X < 9223372036854775808) ∧ cRateR E = lI (if E.1 9 = 1 then X else X - 9223372036854775808) ∧ ∀ P : Enc, P.1 15 = E.1 15 → P.2.1 0 = E.2.1 0 → cRateR P = lI (if P.1 9 = 1 then X else X - 9223372036854775808) := by
  have h15 := hI.2.2.2.2.2.2.2.2.2.2.2.1
  have hs0 := hI.2.2.2.2.2.2.2.2.2.2.2.2.1
  have h2 := hI.1
  have hm := mulr_in (a := E.1 15) (b := E.2.1 0) ⟨by omega, by omega⟩ hs0
  have hm1 : 1 ≤ E.1 15 * E.2.1 0 := by
    have := Int.mul_le_mul (show 1 ≤ E.1 15 by omega) (show (1 : Int) ≤ E.2.1 0 by omega) (by decide) (by omega)
    omega
  obtain ⟨X, d, q1, q2, q3, q4⟩ := d64_div2 hm1 (by omega)
  obtain ⟨Y, hY⟩ : ∃ Y : Nat, Y = X * 4503599627370496 + d := ⟨_, rfl⟩
  have w1 := d64_lI (s := false) q3 q4 hY
  have w2 := d64_lI (s := true) q3 q4 hY
  rw [if_neg Bool.false_ne_true] at w1
  rw [if_pos rfl] at w2
  have hYr : 0 < (Y : Int) ∧ (Y : Int) < 9223372036854775808 := ⟨by omega, by omega⟩
  have key : ∀ P : Enc, P.1 15 = E.1 15 → P.2.1 0 = E.2.1 0 → cRateR P = lI (if P.1 9 = 1 then (Y : Int) else (Y : Int) - 9223372036854775808) := by
    intro P p1 p2
    unfold cRateR cRateX
    rw [p1, p2, if_neg (by omega)]
    by_cases h9 : P.1 9 = 1
    · rw [if_pos h9, if_pos h9, q1, w1]
    · rw [if_neg h9, if_neg h9, q2, w2]
  exact ⟨(Y : Int), hYr, key E rfl rfl, key⟩
theorem lI_xor {X : Int} (h : 0 < X ∧ X < 9223372036854775808) : lI X ^^^ lI (X - 9223372036854775808) = lI (-9223372036854775808) ∧ lI (X - 9223372036854775808) ^^^ lI X = lI (-9223372036854775808) := by
  have e : lI (X - 9223372036854775808) = lI X ^^^ lI (-9223372036854775808) := by
    obtain ⟨n, rfl⟩ := Int.eq_ofNat_of_zero_le (Int.le_of_lt h.1)
    have hn : n < 2 ^ 63 := by omega
    refine Int64.toBitVec_inj.mp (BitVec.eq_of_toNat_eq ?_)
    rw [Int64.toBitVec_xor, BitVec.toNat_xor]
    have b1 : (lI ((n : Int) - 9223372036854775808)).toBitVec.toNat = 2 ^ 63 * 1 + n := by
      show (BitVec.ofInt 64 _).toNat = _
      rw [BitVec.toNat_ofInt]
      show (((n : Int) - 9223372036854775808) % 18446744073709551616).toNat = _
      omega
    have b2 : (lI ((n : Nat) : Int)).toBitVec.toNat = n := by
      show (BitVec.ofInt 64 _).toNat = _
      rw [BitVec.toNat_ofInt]
      show ((n : Int) % 18446744073709551616).toNat = _
      omega
    have b3 : (lI (-9223372036854775808)).toBitVec.toNat = 2 ^ 63 := by decide +kernel
    rw [b1, b2, b3, Nat.two_pow_add_eq_or_of_lt hn 1]
    apply Nat.eq_of_testBit_eq
    intro i
    rw [Nat.testBit_or, Nat.testBit_xor]
    by_cases hi : i < 63
    · have z : (2 ^ 63 * 1).testBit i = false := by
        rw [Nat.mul_one, Nat.testBit_two_pow]
        exact decide_eq_false (by omega)
      have z2 : (2 ^ 63).testBit i = false := by
        rw [Nat.testBit_two_pow]
        exact decide_eq_false (by omega)
      rw [z]
      (try rw [z2])
      simp
    · have z : n.testBit i = false := Nat.testBit_lt_two_pow (Nat.lt_of_lt_of_le hn (Nat.pow_le_pow_right (by decide) (by omega)))
      rw [z, Nat.mul_one]
      simp
  refine ⟨?_, ?_⟩
  · rw [e, ← Int64.xor_assoc, Int64.xor_self, Int64.zero_xor]
  · rw [e, Int64.xor_comm (lI X) (lI (-9223372036854775808)), Int64.xor_assoc, Int64.xor_self, Int64.xor_zero]
theorem rate_mir {E P : Enc} (hM : MirG E P) (hE : InvE E) (hP : InvE P) (h : 0 < E.1 15) (h9 : E.1 9 ≠ 0) : cRateR E ^^^ cRateR P = lI (-9223372036854775808) := by
  have m15 := hM.1.1.2.2.2.2.2.2.2.2.2.2.2.2.2
  have m9 := hM.1.1.2.2.2.2.2.2.2.1
  have ms := hM.1.2
  have p9 := hP.2.2.2.2.2.2.2.1
  obtain ⟨X, hX, e1, e2⟩ := rate_p hE h
  rw [e1, e2 P m15.symm (by rw [ms])]
  obtain h0 | h1 | h2 : P.1 9 = 0 ∨ P.1 9 = 1 ∨ P.1 9 = 2 := by omega
  · exact absurd (by rw [m9, h0]; rfl) h9
  · rw [if_pos h1, if_neg (show ¬ E.1 9 = 1 by rw [m9, h1]; decide)]
    exact (lI_xor hX).2
  · rw [if_neg (show ¬ P.1 9 = 1 by rw [h2]; decide), if_pos (show E.1 9 = 1 by rw [m9, h2]; rfl)]
    exact (lI_xor hX).1
