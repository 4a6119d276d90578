set_option maxRecDepth 20000 in
theorem iX5_rate_X5 : ∀ w ∈ u_ws RX5 TX5 5, w ∈ wsX5_rate := zm_places _ [18, 19, 20, 21, 22] (by decide +kernel)
theorem kX5_rate_1 : Cond.fieldLink RX5 10 "StepPairs" "encoder" "LStepPairs$Encoder;" ∈ wsX5_rate := List.mem_of_getElem? (i := 1) rfl
set_option maxRecDepth 20000 in
theorem iX5_rate_X1 : ∀ w ∈ u_ws RX1 TX1 16, w ∈ wsX5_rate := zm_places _ [23, 24, 25, 26, 27, 28, 29, 30, 31, 32, 33, 34, 35, 36, 37, 38] (by decide +kernel)
theorem kX5_rate_2 : Cond.fieldLink RX5 119 "StepPairs$Encoder" "period" "I" ∈ wsX5_rate := List.mem_of_getElem? (i := 2) rfl
theorem kX5_rate_3 : Cond.fieldLink RX5 89 "StepPairs$Encoder" "direction" "I" ∈ wsX5_rate := List.mem_of_getElem? (i := 3) rfl
theorem kX5_rate_4 : Cond.constantDouble RX5 122 (13830554455654793216) ∈ wsX5_rate := List.mem_of_getElem? (i := 4) rfl
abbrev rmX5_rate : Room := { frames := 1, cells := 0, slots := 0, locals := 29 }
set_option maxHeartbeats 4000000 in
set_option maxRecDepth 100000 in
theorem t_X5_rate (l : Launch) (D : va_G) (J : Nat → ClassId) (h : Nat) (A : Nat → Nat → Nat) (E T : Enc) (F : Nat → Int) (R : Nat → Enc) (G U : Nat → Int) (V : Nat → Enc) (len pos pr ix nm : Int) (C : Nat → Int) (hI : InvE E) (hTg : ∀ j, 0 ≤ T.2.2 j ∧ T.2.2 j ≤ 31) (hF : 0 ≤ F 1 ∧ F 1 < 7) (hG : 0 ≤ F 2 ∧ F 2 ≤ 6) (hU : ∀ j, 0 ≤ U j ∧ U j ≤ 1) (hl : 0 ≤ len ∧ len ≤ 80) (hCh : ∀ j, 0 ≤ C j ∧ C j ≤ 126)  : ZX l yX5_rate wsX5_rate rmX5_rate D J [.ref h] (wSP J h A E T F R G U V len pos pr ix nm C) (some (.long (cRateR E))) (wSP J h A E T F R G U V len pos pr ix nm C) := by
  have hR := hI
  obtain ⟨hE2, hE3, hE4, hE5, hE6, hE7, hE8, hE9, hE10, hE13, hE14, hE15, hs0, hs1, hs2, hs3, hs4, hg⟩ := hR
  have hP := mulr_in (a := E.1 15) (b := E.2.1 0) ⟨by omega, by omega⟩ ⟨by omega, by omega⟩
  refine z_met (cc := cX5_rate) (nL := 4) (ret := (some .long)) (own := RX5) (by decide) rfl rfl (Nat.le_of_ble_eq_true rfl) (fun p e s m args below meth c hC hr hin => ?_)
  refine z_lv0 (lv' := [(0, .ref h)]) rfl ?_
  refine z_aload_n hC dX5_rate_0 rfl 0 rfl ?_
  refine z_getr hC zkX5 iX5_rate_X5 0 rfl 0 (by decide) kX5_rate_1 rfl rfl dX5_rate_1 ?_
  refine z_geti hC zkX1 iX5_rate_X1 1 rfl 15 (by decide) kX5_rate_2 rfl rfl dX5_rate_4 ?_
  refine z_aload_n hC dX5_rate_7 rfl 0 rfl ?_
  refine z_getr hC zkX5 iX5_rate_X5 0 rfl 0 (by decide) kX5_rate_1 rfl rfl dX5_rate_8 ?_
  refine z_iconst hC dX5_rate_11 ?_
  refine z_callV (wr := [cO 4 h [some (A 0 0), some (A 1 0), some (A 2 0), some (A 6 0), some (A 10 0)] (fun _ => 0)] ++ (wE J (A 1 0) (A 1 1) (A 1 2) T ++ ([cO 1 (A 2 0) [some (A 2 1), none, none] F, cQ (J 3) (A 2 1) 7 (fun j => some (A 3 j))] ++ (wE J (A 3 0) (A 4 0) (A 5 0) (R 0) ++ (wE J (A 3 1) (A 4 1) (A 5 1) (R 1) ++ (wE J (A 3 2) (A 4 2) (A 5 2) (R 2) ++ (wE J (A 3 3) (A 4 3) (A 5 3) (R 3) ++ (wE J (A 3 4) (A 4 4) (A 5 4) (R 4) ++ (wE J (A 3 5) (A 4 5) (A 5 5) (R 5) ++ (wE J (A 3 6) (A 4 6) (A 5 6) (R 6) ++ ([cO 3 (A 6 0) [some (A 6 1), some (A 6 2)] G, cQ (J 3) (A 6 1) 2 (fun j => some (A 7 j)), cI (J 2) (A 6 2) 2 U] ++ (wE J (A 7 0) (A 8 0) (A 9 0) (V 0) ++ (wE J (A 7 1) (A 8 1) (A 9 1) (V 1) ++ [cO 2 (A 10 0) [some (A 10 1), none, none, none, none, none] (padK len pos pr ix nm), cI (J 1) (A 10 1) 80 C]))))))))))))) (av := [.int (iI 0)]) (st := [.int (iI (E.1 15))]) hC (t_X1_setting l D J (A 0 0) (A 0 1) (A 0 2) E 0 (by decide)) gX5_rate_X1_setting rfl 1 (by decide +kernel) ⟨Nat.le_of_ble_eq_true rfl, Nat.le_of_ble_eq_true rfl⟩ ⟨Nat.le_of_ble_eq_true rfl, Nat.le_of_ble_eq_true rfl⟩ [1, 2, 3] [0, 4, 5, 6, 7, 8, 9, 10, 11, 12, 13, 14, 15, 16, 17, 18, 19, 20, 21, 22, 23, 24, 25, 26, 27, 28, 29, 30, 31, 32, 33, 34, 35, 36, 37, 38, 39, 40] rfl rfl rfl (by decide) rfl 0 rfl rfl rfl rfl rfl (Nat.le_of_ble_eq_true rfl) dX5_rate_12 (fun _ _ => ?_)
  refine z_perm (ws' := wSP J h A E T F R G U V len pos pr ix nm C) [0, 38, 39, 40, 1, 2, 3, 4, 5, 6, 7, 8, 9, 10, 11, 12, 13, 14, 15, 16, 17, 18, 19, 20, 21, 22, 23, 24, 25, 26, 27, 28, 29, 30, 31, 32, 33, 34, 35, 36, 37] rfl rfl ?_
  refine z_st (st' := [.int (iI (E.2.1 0)), .int (iI (E.1 15))]) rfl ?_
  refine z_imul hC dX5_rate_15 ?_
  refine z_istore_n (lv' := [(1, .int (iI ((E.1 15) * (E.2.1 0)))), (0, .ref h)]) hC dX5_rate_16 rfl (by decide) rfl ?_
  refine z_iload_n hC dX5_rate_17 rfl 0 rfl ?_
  refine z_if_gt (tgt := 23) hC dX5_rate_18 (by decide) (by unfold inR; omega) (fun c_18_1 => ?_) (fun c_18_1 => ?_)
  · refine z_aload_n hC dX5_rate_23 rfl 1 rfl ?_
    refine z_getr hC zkX5 iX5_rate_X5 0 rfl 0 (by decide) kX5_rate_1 rfl rfl dX5_rate_24 ?_
    refine z_geti hC zkX1 iX5_rate_X1 1 rfl 9 (by decide) kX5_rate_3 rfl rfl dX5_rate_27 ?_
    refine z_iconst hC dX5_rate_30 ?_
    refine z_icmp_ne (tgt := 38) hC dX5_rate_31 (by decide) (by unfold inR; omega) ⟨by decide, by decide⟩ (fun c_31_2 => ?_) (fun c_31_2 => ?_)
    · refine z_ldc2d hC kX5_rate_4 dX5_rate_38 ?_
      refine z_dstore_n (lv' := [(2, .double 13830554455654793216), (1, .int (iI ((E.1 15) * (E.2.1 0)))), (0, .ref h)]) hC dX5_rate_41 rfl (by decide) rfl ?_
      refine z_dload_n hC dX5_rate_42 rfl 0 rfl ?_
      refine z_iload_n hC dX5_rate_43 rfl 1 rfl ?_
      refine z_i2d hC dX5_rate_44 ?_
      obtain ⟨Eq, dq, hq1, hq2, hq3, _⟩ : ∃ Eq dq : Nat, Jvm.FP.ddiv 13830554455654793216 (Jvm.FP.i2d (iI (E.1 15 * E.2.1 0))) = D64 true Eq dq ∧ (997 ≤ Eq ∧ Eq ≤ 1023) ∧ dq < 4503599627370496 ∧ (Eq = 1023 → dq = 0) := d64_div (by omega) (by omega) true
      refine z_ddiv hC (D64 true Eq dq) dX5_rate_45 (by rw [hq1]; exact d64_nn ⟨by omega, by omega⟩ hq3) hq1 ?_
      refine z_callS (wr := wSP J h A E T F R G U V len pos pr ix nm C) (av := [.double (D64 true Eq dq)]) (st := []) hC (t_X0_ofDouble l D J true Eq dq ⟨by omega, by omega⟩ hq3) gX5_rate_X0_ofDouble rfl 1 (by decide +kernel) ⟨Nat.le_of_ble_eq_true rfl, Nat.le_of_ble_eq_true rfl⟩ ⟨Nat.le_of_ble_eq_true rfl, Nat.le_of_ble_eq_true rfl⟩ [] [0, 1, 2, 3, 4, 5, 6, 7, 8, 9, 10, 11, 12, 13, 14, 15, 16, 17, 18, 19, 20, 21, 22, 23, 24, 25, 26, 27, 28, 29, 30, 31, 32, 33, 34, 35, 36, 37, 38, 39, 40] rfl rfl rfl (by decide) rfl rfl rfl (Nat.le_of_ble_eq_true rfl) dX5_rate_46 (fun _ _ => ?_)
      refine z_ws (ws' := wSP J h A E T F R G U V len pos pr ix nm C) rfl ?_
      refine z_st (st' := [.long ((D64 true Eq dq).toInt64)]) rfl ?_
      exact z_lret hC hr () trivial (congrArg (fun z => some (Value.long z)) (show cRateR E = (D64 true Eq dq).toInt64 by unfold cRateR cRateX; rw [if_neg (by omega), if_neg (by omega), hq1])) (rfl) dX5_rate_49
    · refine z_dconst1 hC dX5_rate_34 ?_
      refine z_goto (tgt := 41) hC dX5_rate_35 (by decide) ?_
      refine z_dstore_n (lv' := [(2, .double Jvm.FP.dconst1), (1, .int (iI ((E.1 15) * (E.2.1 0)))), (0, .ref h)]) hC dX5_rate_41 rfl (by decide) rfl ?_
      refine z_dload_n hC dX5_rate_42 rfl 0 rfl ?_
      refine z_iload_n hC dX5_rate_43 rfl 1 rfl ?_
      refine z_i2d hC dX5_rate_44 ?_
      obtain ⟨Eq, dq, hq1, hq2, hq3, _⟩ : ∃ Eq dq : Nat, Jvm.FP.ddiv Jvm.FP.dconst1 (Jvm.FP.i2d (iI (E.1 15 * E.2.1 0))) = D64 false Eq dq ∧ (997 ≤ Eq ∧ Eq ≤ 1023) ∧ dq < 4503599627370496 ∧ (Eq = 1023 → dq = 0) := d64_div (by omega) (by omega) false
      refine z_ddiv hC (D64 false Eq dq) dX5_rate_45 (by rw [hq1]; exact d64_nn ⟨by omega, by omega⟩ hq3) hq1 ?_
      refine z_callS (wr := wSP J h A E T F R G U V len pos pr ix nm C) (av := [.double (D64 false Eq dq)]) (st := []) hC (t_X0_ofDouble l D J false Eq dq ⟨by omega, by omega⟩ hq3) gX5_rate_X0_ofDouble rfl 1 (by decide +kernel) ⟨Nat.le_of_ble_eq_true rfl, Nat.le_of_ble_eq_true rfl⟩ ⟨Nat.le_of_ble_eq_true rfl, Nat.le_of_ble_eq_true rfl⟩ [] [0, 1, 2, 3, 4, 5, 6, 7, 8, 9, 10, 11, 12, 13, 14, 15, 16, 17, 18, 19, 20, 21, 22, 23, 24, 25, 26, 27, 28, 29, 30, 31, 32, 33, 34, 35, 36, 37, 38, 39, 40] rfl rfl rfl (by decide) rfl rfl rfl (Nat.le_of_ble_eq_true rfl) dX5_rate_46 (fun _ _ => ?_)
      refine z_ws (ws' := wSP J h A E T F R G U V len pos pr ix nm C) rfl ?_
      refine z_st (st' := [.long ((D64 false Eq dq).toInt64)]) rfl ?_
      exact z_lret hC hr () trivial (congrArg (fun z => some (Value.long z)) (show cRateR E = (D64 false Eq dq).toInt64 by unfold cRateR cRateX; rw [if_neg (by omega), if_pos (by omega), hq1])) (rfl) dX5_rate_49
  · refine z_lconst (v := lI 0) hC dX5_rate_21 (by decide) ?_
    exact z_lret hC hr () trivial (congrArg (fun z => some (Value.long z)) (show cRateR E = lI 0 by unfold cRateR; rw [if_pos (by omega)])) (rfl) dX5_rate_22
set_option maxRecDepth 20000 in
theorem iX5_noise_X5 : ∀ w ∈ u_ws RX5 TX5 5, w ∈ wsX5_noise := zm_places _ [10, 11, 12, 13, 14] (by decide +kernel)
theorem kX5_noise_1 : Cond.fieldLink RX5 10 "StepPairs" "encoder" "LStepPairs$Encoder;" ∈ wsX5_noise := List.mem_of_getElem? (i := 1) rfl
set_option maxRecDepth 20000 in
theorem iX5_noise_X1 : ∀ w ∈ u_ws RX1 TX1 16, w ∈ wsX5_noise := zm_places _ [15, 16, 17, 18, 19, 20, 21, 22, 23, 24, 25, 26, 27, 28, 29, 30] (by decide +kernel)
theorem kX5_noise_2 : Cond.fieldLink RX5 92 "StepPairs$Encoder" "forwards" "I" ∈ wsX5_noise := List.mem_of_getElem? (i := 2) rfl
theorem kX5_noise_3 : Cond.fieldLink RX5 95 "StepPairs$Encoder" "backwards" "I" ∈ wsX5_noise := List.mem_of_getElem? (i := 3) rfl
theorem kX5_noise_4 : Cond.fieldLink RX5 98 "StepPairs$Encoder" "illegal" "I" ∈ wsX5_noise := List.mem_of_getElem? (i := 4) rfl
abbrev rmX5_noise : Room := { frames := 1, cells := 0, slots := 0, locals := 23 }
set_option maxHeartbeats 4000000 in
set_option maxRecDepth 100000 in
theorem t_X5_noise (l : Launch) (D : va_G) (J : Nat → ClassId) (h : Nat) (A : Nat → Nat → Nat) (E T : Enc) (F : Nat → Int) (R : Nat → Enc) (G U : Nat → Int) (V : Nat → Enc) (len pos pr ix nm : Int) (C : Nat → Int) (hI : InvE E) (hTg : ∀ j, 0 ≤ T.2.2 j ∧ T.2.2 j ≤ 31) (hF : 0 ≤ F 1 ∧ F 1 < 7) (hG : 0 ≤ F 2 ∧ F 2 ≤ 6) (hU : ∀ j, 0 ≤ U j ∧ U j ≤ 1) (hl : 0 ≤ len ∧ len ≤ 80) (hCh : ∀ j, 0 ≤ C j ∧ C j ≤ 126)  : ZX l yX5_noise wsX5_noise rmX5_noise D J [.ref h] (wSP J h A E T F R G U V len pos pr ix nm C) (some (.int (iI (cNoiseR E)))) (wSP J h A E T F R G U V len pos pr ix nm C) := by
  have hR := hI
  obtain ⟨hE2, hE3, hE4, hE5, hE6, hE7, hE8, hE9, hE10, hE13, hE14, hE15, hs0, hs1, hs2, hs3, hs4, hg⟩ := hR
  refine z_met (cc := cX5_noise) (nL := 2) (ret := (some .int)) (own := RX5) (by decide) rfl rfl (Nat.le_of_ble_eq_true rfl) (fun p e s m args below meth c hC hr hin => ?_)
  refine z_lv0 (lv' := [(0, .ref h)]) rfl ?_
  refine z_aload_n hC dX5_noise_0 rfl 0 rfl ?_
  refine z_getr hC zkX5 iX5_noise_X5 0 rfl 0 (by decide) kX5_noise_1 rfl rfl dX5_noise_1 ?_
  refine z_geti hC zkX1 iX5_noise_X1 1 rfl 10 (by decide) kX5_noise_2 rfl rfl dX5_noise_4 ?_
  refine z_aload_n hC dX5_noise_7 rfl 0 rfl ?_
  refine z_getr hC zkX5 iX5_noise_X5 0 rfl 0 (by decide) kX5_noise_1 rfl rfl dX5_noise_8 ?_
  refine z_geti hC zkX1 iX5_noise_X1 1 rfl 11 (by decide) kX5_noise_3 rfl rfl dX5_noise_11 ?_
  refine z_iadd hC dX5_noise_14 ?_
  refine z_aload_n hC dX5_noise_15 rfl 0 rfl ?_
  refine z_getr hC zkX5 iX5_noise_X5 0 rfl 0 (by decide) kX5_noise_1 rfl rfl dX5_noise_16 ?_
  refine z_geti hC zkX1 iX5_noise_X1 1 rfl 12 (by decide) kX5_noise_4 rfl rfl dX5_noise_19 ?_
  refine z_iadd hC dX5_noise_22 ?_
  refine z_istore_n (lv' := [(1, .int (iI (((E.1 10) + (E.1 11)) + (E.1 12)))), (0, .ref h)]) hC dX5_noise_23 rfl (by decide) rfl ?_
  refine z_iload_n hC dX5_noise_24 rfl 0 rfl ?_
  refine z_if_gt (tgt := 31) hC dX5_noise_25 (by decide) (by unfold inR; omega) (fun c_25_1 => ?_) (fun c_25_1 => ?_)
  · refine z_aload_n hC dX5_noise_31 rfl 1 rfl ?_
    refine z_getr hC zkX5 iX5_noise_X5 0 rfl 0 (by decide) kX5_noise_1 rfl rfl dX5_noise_32 ?_
    refine z_geti hC zkX1 iX5_noise_X1 1 rfl 12 (by decide) kX5_noise_4 rfl rfl dX5_noise_35 ?_
    refine z_i2f hC dX5_noise_38 ?_
    refine z_iload_n hC dX5_noise_39 rfl 0 rfl ?_
    refine z_i2f hC dX5_noise_40 ?_
    have hf := f32_divX (a := E.1 12) (n := E.1 10 + E.1 11 + E.1 12) (by omega) (by omega) (by omega) (by omega)
    refine z_fdiv hC (Jvm.FP.fdiv (Jvm.FP.i2f (iI (E.1 12))) (Jvm.FP.i2f (iI (E.1 10 + E.1 11 + E.1 12)))) dX5_noise_41 hf.1 rfl ?_
    refine z_callS (wr := wSP J h A E T F R G U V len pos pr ix nm C) (av := [.float (Jvm.FP.fdiv (Jvm.FP.i2f (iI (E.1 12))) (Jvm.FP.i2f (iI (E.1 10 + E.1 11 + E.1 12))))]) (st := []) hC (t_X0_ofFloat l D J (Jvm.FP.fdiv (Jvm.FP.i2f (iI (E.1 12))) (Jvm.FP.i2f (iI (E.1 10 + E.1 11 + E.1 12)))) hf.2) gX5_noise_X0_ofFloat rfl 1 (by decide +kernel) ⟨Nat.le_of_ble_eq_true rfl, Nat.le_of_ble_eq_true rfl⟩ ⟨Nat.le_of_ble_eq_true rfl, Nat.le_of_ble_eq_true rfl⟩ [] [0, 1, 2, 3, 4, 5, 6, 7, 8, 9, 10, 11, 12, 13, 14, 15, 16, 17, 18, 19, 20, 21, 22, 23, 24, 25, 26, 27, 28, 29, 30, 31, 32, 33, 34, 35, 36, 37, 38, 39, 40] rfl rfl rfl (by decide) rfl rfl rfl (Nat.le_of_ble_eq_true rfl) dX5_noise_42 (fun _ _ => ?_)
    refine z_ws (ws' := wSP J h A E T F R G U V len pos pr ix nm C) rfl ?_
    refine z_st (st' := [.int (iI (((Jvm.FP.fdiv (Jvm.FP.i2f (iI (E.1 12))) (Jvm.FP.i2f (iI (E.1 10 + E.1 11 + E.1 12)))).toNat : Nat) : Int))]) rfl ?_
    exact z_iret hC hr rfl () trivial (hvi (show cNoiseR E = _ by unfold cNoiseR cNoiseX; rw [if_neg (by omega)])) (rfl) dX5_noise_45
  · refine z_bipush hC dX5_noise_28 (by decide) ?_
    exact z_iret hC hr rfl () trivial (hvi (show cNoiseR E = -6 by unfold cNoiseR; rw [if_pos (by omega)])) (rfl) dX5_noise_30
