set_option maxRecDepth 20000 in
theorem iX6_period_X6 : ∀ w ∈ u_ws RX6 TX6 13, w ∈ wsX6_period := zm_places _ [2, 3, 4, 5, 6, 7, 8, 9, 10, 11, 12, 13, 14] (by decide +kernel)
theorem kX6_period_1 : Cond.fieldLink RX6 7 "StepPairsModel" "all" "[I" ∈ wsX6_period := List.mem_of_getElem? (i := 1) rfl
abbrev rmX6_period : Room := { frames := 0, cells := 0, slots := 0, locals := 0 }
set_option maxHeartbeats 4000000 in
set_option maxRecDepth 100000 in
theorem t_X6_period (l : Launch) (D : va_G) (J : Nat → ClassId) (h : Nat) (a : Nat → Nat) (L pl sp nb dn er : Int) (A K T H S V P : Nat → Int) (hI : InvM A) : ZX l yX6_period wsX6_period rmX6_period D J [.ref h] (wM J h a L pl sp nb dn er A K T H S V P) (some (.int (iI (mPer A)))) (wM J h a L pl sp nb dn er A K T H S V P) := by
  obtain ⟨m0, m1, m2, m3, m4, m5, m6, m7, m8, m9, m10, m13, m14, m15, m16, m17, m18, m19, m20, mg⟩ := id hI
  refine z_met (cc := cX6_period) (nL := 1) (ret := (some .int)) (own := RX6) (by decide) rfl rfl (Nat.le_of_ble_eq_true rfl) (fun p e s m args below meth c hC hr hin => ?_)
  refine z_lv0 (lv' := [(0, .ref h)]) rfl ?_
  refine z_aload_n hC dX6_period_0 rfl 0 rfl ?_
  refine z_getr hC zkX6 iX6_period_X6 0 rfl 0 (by decide) kX6_period_1 rfl rfl dX6_period_1 ?_
  refine z_bipush hC dX6_period_4 (by decide) ?_
  refine z_iald hC 1 rfl 0 rfl 19 rfl (by decide) (by decide) dX6_period_6 ?_
  refine z_bipush hC dX6_period_7 (by decide) ?_
  refine z_icmp_eq (tgt := 47) hC dX6_period_9 (by decide) (by unfold inR; omega) ⟨by decide, by decide⟩ (fun c_9_1 => ?_) (fun c_9_1 => ?_)
  · refine z_bipush hC dX6_period_47 (by decide) ?_
    exact z_iret hC hr rfl () trivial (hvi (by unfold mPer; (repeat' split) <;> first | rfl | omega)) (rfl) dX6_period_49
  · refine z_aload_n hC dX6_period_12 rfl 0 rfl ?_
    refine z_getr hC zkX6 iX6_period_X6 0 rfl 0 (by decide) kX6_period_1 rfl rfl dX6_period_13 ?_
    refine z_bipush hC dX6_period_16 (by decide) ?_
    refine z_iald hC 1 rfl 0 rfl 20 rfl (by decide) (by decide) dX6_period_18 ?_
    refine z_aload_n hC dX6_period_19 rfl 0 rfl ?_
    refine z_getr hC zkX6 iX6_period_X6 0 rfl 0 (by decide) kX6_period_1 rfl rfl dX6_period_20 ?_
    refine z_bipush hC dX6_period_23 (by decide) ?_
    refine z_iald hC 1 rfl 0 rfl 9 rfl (by decide) (by decide) dX6_period_25 ?_
    refine z_icmp_ne (tgt := 47) hC dX6_period_26 (by decide) (by unfold inR; omega) (by unfold inR; omega) (fun c_26_2 => ?_) (fun c_26_2 => ?_)
    · refine z_bipush hC dX6_period_47 (by decide) ?_
      exact z_iret hC hr rfl () trivial (hvi (by unfold mPer; (repeat' split) <;> first | rfl | omega)) (rfl) dX6_period_49
    · refine z_aload_n hC dX6_period_29 rfl 0 rfl ?_
      refine z_getr hC zkX6 iX6_period_X6 0 rfl 0 (by decide) kX6_period_1 rfl rfl dX6_period_30 ?_
      refine z_bipush hC dX6_period_33 (by decide) ?_
      refine z_iald hC 1 rfl 0 rfl 18 rfl (by decide) (by decide) dX6_period_35 ?_
      refine z_aload_n hC dX6_period_36 rfl 0 rfl ?_
      refine z_getr hC zkX6 iX6_period_X6 0 rfl 0 (by decide) kX6_period_1 rfl rfl dX6_period_37 ?_
      refine z_bipush hC dX6_period_40 (by decide) ?_
      refine z_iald hC 1 rfl 0 rfl 19 rfl (by decide) (by decide) dX6_period_42 ?_
      refine z_isub hC dX6_period_43 ?_
      refine z_goto (tgt := 49) hC dX6_period_44 (by decide) ?_
      exact z_iret hC hr rfl () trivial (hvi (by unfold mPer; (repeat' split) <;> first | rfl | omega)) (rfl) dX6_period_49
set_option maxRecDepth 20000 in
theorem iX6_gated_X6 : ∀ w ∈ u_ws RX6 TX6 13, w ∈ wsX6_gated := zm_places _ [2, 3, 4, 5, 6, 7, 8, 9, 10, 11, 12, 13, 14] (by decide +kernel)
theorem kX6_gated_1 : Cond.fieldLink RX6 7 "StepPairsModel" "all" "[I" ∈ wsX6_gated := List.mem_of_getElem? (i := 1) rfl
abbrev rmX6_gated : Room := { frames := 0, cells := 0, slots := 0, locals := 0 }
set_option maxHeartbeats 4000000 in
set_option maxRecDepth 100000 in
theorem t_X6_gated (l : Launch) (D : va_G) (J : Nat → ClassId) (h : Nat) (a : Nat → Nat) (L pl sp nb dn er : Int) (A K T H S V P : Nat → Int) (hI : InvM A) : ZX l yX6_gated wsX6_gated rmX6_gated D J [.ref h] (wM J h a L pl sp nb dn er A K T H S V P) (some (.int (iI (mGtR A)))) (wM J h a L pl sp nb dn er A K T H S V P) := by
  obtain ⟨m0, m1, m2, m3, m4, m5, m6, m7, m8, m9, m10, m13, m14, m15, m16, m17, m18, m19, m20, mg⟩ := id hI
  refine z_met (cc := cX6_gated) (nL := 4) (ret := (some .int)) (own := RX6) (by decide) rfl rfl (Nat.le_of_ble_eq_true rfl) (fun p e s m args below meth c hC hr hin => ?_)
  refine z_lv0 (lv' := [(0, .ref h)]) rfl ?_
  refine z_iconst hC dX6_gated_0 ?_
  refine z_istore_n (lv' := [(1, .int (iI 0)), (0, .ref h)]) hC dX6_gated_1 rfl (by decide) rfl ?_
  refine z_iconst hC dX6_gated_2 ?_
  refine z_istore_n (lv' := [(2, .int (iI 0)), (1, .int (iI 0)), (0, .ref h)]) hC dX6_gated_3 rfl (by decide) rfl ?_
  refine z_lv (lv' := [(2, .int (iI 0)), (1, .int (iI 0)), (0, .ref h)]) [0, 1, 2] rfl ?_
  refine z_loop (α := Nat) (fun nn k => (k : Int) + (nn : Int) = min (A 3) (A 14)) (fun nn k => wM J h a L pl sp nb dn er A K T H S V P) (fun nn k => [(2, .int (iI (k : Int))), (1, .int (iI (mGt A k))), (0, .ref h)]) 4 [] (fun nn k ih_1 hP_2 => ?_) (fun k hP_2 => ?_) ((min (A 3) (A 14)).toNat) 0 (by show ((0 : Nat) : Int) + _ = _; omega)
  · change Z _ _ _ _ _ _ _ _ _ _ _ _ _ _ _ _ (wM J h a L pl sp nb dn er A K T H S V P) ([(2, .int (iI (k : Int))), (1, .int (iI (mGt A k))), (0, .ref h)]) 4 ([])
    have hlg := mg (21 + k) (by omega)
    refine z_iload_n hC dX6_gated_4 rfl 0 rfl ?_
    refine z_aload_n hC dX6_gated_5 rfl 2 rfl ?_
    refine z_getr hC zkX6 iX6_gated_X6 0 rfl 0 (by decide) kX6_gated_1 rfl rfl dX6_gated_6 ?_
    refine z_iconst hC dX6_gated_9 ?_
    refine z_iald hC 1 rfl 0 rfl 3 rfl (by decide) (by decide) dX6_gated_10 ?_
    refine z_icmp_ge_f (tgt := 65) hC dX6_gated_11 (by decide) (by unfold inR; omega) (by unfold inR; omega) (by omega) ?_
    refine z_iload_n hC dX6_gated_14 rfl 0 rfl ?_
    refine z_aload_n hC dX6_gated_15 rfl 2 rfl ?_
    refine z_getr hC zkX6 iX6_gated_X6 0 rfl 0 (by decide) kX6_gated_1 rfl rfl dX6_gated_16 ?_
    refine z_bipush hC dX6_gated_19 (by decide) ?_
    refine z_iald hC 1 rfl 0 rfl 14 rfl (by decide) (by decide) dX6_gated_21 ?_
    refine z_icmp_ge_f (tgt := 65) hC dX6_gated_22 (by decide) (by unfold inR; omega) (by unfold inR; omega) (by omega) ?_
    refine z_aload_n hC dX6_gated_25 rfl 2 rfl ?_
    refine z_getr hC zkX6 iX6_gated_X6 0 rfl 0 (by decide) kX6_gated_1 rfl rfl dX6_gated_26 ?_
    refine z_bipush hC dX6_gated_29 (by decide) ?_
    refine z_iload_n hC dX6_gated_31 rfl 0 rfl ?_
    refine z_iadd hC dX6_gated_32 ?_
    refine z_iald hC 1 rfl 0 rfl (21 + k) (by omega) (by omega) (by decide) dX6_gated_33 ?_
    refine z_iconst hC dX6_gated_34 ?_
    refine z_irem hC dX6_gated_35 (by omega) (by omega) (by omega) (by omega) ?_
    refine z_istore_n (lv' := [(3, .int (iI ((A (21 + k)) % 4))), (2, .int (iI (k : Int))), (1, .int (iI (mGt A k))), (0, .ref h)]) hC dX6_gated_36 rfl (by decide) rfl ?_
    refine z_iload_n hC dX6_gated_37 rfl 2 rfl ?_
    refine z_iload_n hC dX6_gated_38 rfl 0 rfl ?_
    refine z_iconst hC dX6_gated_39 ?_
    refine z_icmp_ne (tgt := 47) hC dX6_gated_40 (by decide) (by unfold inR; omega) ⟨by decide, by decide⟩ (fun c_40_3 => ?_) (fun c_40_3 => ?_)
    · refine z_iload_n hC dX6_gated_47 rfl 0 rfl ?_
      refine z_iconst hC dX6_gated_48 ?_
      refine z_icmp_ne (tgt := 56) hC dX6_gated_49 (by decide) (by unfold inR; omega) ⟨by decide, by decide⟩ (fun c_49_4 => ?_) (fun c_49_4 => ?_)
      · refine z_iconst hC dX6_gated_56 ?_
        refine z_iadd hC dX6_gated_57 ?_
        refine z_istore_n (lv' := [(1, .int (iI ((mGt A k) + 0))), (3, .int (iI ((A (21 + k)) % 4))), (2, .int (iI (k : Int))), (0, .ref h)]) hC dX6_gated_58 rfl (by decide) rfl ?_
        refine z_iinc (lv' := [(2, .int (iI ((k : Int) + 1))), (1, .int (iI ((mGt A k) + 0))), (3, .int (iI ((A (21 + k)) % 4))), (0, .ref h)]) hC dX6_gated_59 2 rfl (by decide) rfl ?_
        refine z_goto (tgt := 4) hC dX6_gated_62 (by decide) ?_
        have e2 : mGt A (k + 1) = (mGt A k) + 0 := by show mGt A k + (if A (21 + k) % 4 = 1 then 1 else if A (21 + k) % 4 = 2 then -1 else 0) = _; (repeat' split) <;> first | rfl | omega
        refine z_lv0 (lv' := [(2, .int (iI ((k : Int) + 1))), (1, .int (iI (mGt A (k + 1)))), (3, .int (iI ((A (21 + k)) % 4))), (0, .ref h)]) (by rw [e2]) ?_
        refine z_lv (lv' := _) [0, 1, 3] rfl ?_
        exact ih_1 (k + 1) (by omega)
      · refine z_iconst hC dX6_gated_52 ?_
        refine z_goto (tgt := 57) hC dX6_gated_53 (by decide) ?_
        refine z_iadd hC dX6_gated_57 ?_
        refine z_istore_n (lv' := [(1, .int (iI ((mGt A k) + (-1)))), (3, .int (iI ((A (21 + k)) % 4))), (2, .int (iI (k : Int))), (0, .ref h)]) hC dX6_gated_58 rfl (by decide) rfl ?_
        refine z_iinc (lv' := [(2, .int (iI ((k : Int) + 1))), (1, .int (iI ((mGt A k) + (-1)))), (3, .int (iI ((A (21 + k)) % 4))), (0, .ref h)]) hC dX6_gated_59 2 rfl (by decide) rfl ?_
        refine z_goto (tgt := 4) hC dX6_gated_62 (by decide) ?_
        have e2 : mGt A (k + 1) = (mGt A k) + (-1) := by show mGt A k + (if A (21 + k) % 4 = 1 then 1 else if A (21 + k) % 4 = 2 then -1 else 0) = _; (repeat' split) <;> first | rfl | omega
        refine z_lv0 (lv' := [(2, .int (iI ((k : Int) + 1))), (1, .int (iI (mGt A (k + 1)))), (3, .int (iI ((A (21 + k)) % 4))), (0, .ref h)]) (by rw [e2]) ?_
        refine z_lv (lv' := _) [0, 1, 3] rfl ?_
        exact ih_1 (k + 1) (by omega)
    · refine z_iconst hC dX6_gated_43 ?_
      refine z_goto (tgt := 57) hC dX6_gated_44 (by decide) ?_
      refine z_iadd hC dX6_gated_57 ?_
      refine z_istore_n (lv' := [(1, .int (iI ((mGt A k) + 1))), (3, .int (iI ((A (21 + k)) % 4))), (2, .int (iI (k : Int))), (0, .ref h)]) hC dX6_gated_58 rfl (by decide) rfl ?_
      refine z_iinc (lv' := [(2, .int (iI ((k : Int) + 1))), (1, .int (iI ((mGt A k) + 1))), (3, .int (iI ((A (21 + k)) % 4))), (0, .ref h)]) hC dX6_gated_59 2 rfl (by decide) rfl ?_
      refine z_goto (tgt := 4) hC dX6_gated_62 (by decide) ?_
      have e2 : mGt A (k + 1) = (mGt A k) + 1 := by show mGt A k + (if A (21 + k) % 4 = 1 then 1 else if A (21 + k) % 4 = 2 then -1 else 0) = _; (repeat' split) <;> first | rfl | omega
      refine z_lv0 (lv' := [(2, .int (iI ((k : Int) + 1))), (1, .int (iI (mGt A (k + 1)))), (3, .int (iI ((A (21 + k)) % 4))), (0, .ref h)]) (by rw [e2]) ?_
      refine z_lv (lv' := _) [0, 1, 3] rfl ?_
      exact ih_1 (k + 1) (by omega)
  · change Z _ _ _ _ _ _ _ _ _ _ _ _ _ _ _ _ (wM J h a L pl sp nb dn er A K T H S V P) ([(2, .int (iI (k : Int))), (1, .int (iI (mGt A k))), (0, .ref h)]) 4 ([])
    have hkn : k = (min (A 3) (A 14)).toNat := by omega
    refine z_iload_n hC dX6_gated_4 rfl 0 rfl ?_
    refine z_aload_n hC dX6_gated_5 rfl 2 rfl ?_
    refine z_getr hC zkX6 iX6_gated_X6 0 rfl 0 (by decide) kX6_gated_1 rfl rfl dX6_gated_6 ?_
    refine z_iconst hC dX6_gated_9 ?_
    refine z_iald hC 1 rfl 0 rfl 3 rfl (by decide) (by decide) dX6_gated_10 ?_
    refine z_icmp_ge (tgt := 65) hC dX6_gated_11 (by decide) (by unfold inR; omega) (by unfold inR; omega) (fun c_11_5 => ?_) (fun c_11_5 => ?_)
    · refine z_iload_n hC dX6_gated_65 rfl 1 rfl ?_
      exact z_iret hC hr rfl () trivial (hvi (by subst hkn; rfl)) (rfl) dX6_gated_66
    · refine z_iload_n hC dX6_gated_14 rfl 0 rfl ?_
      refine z_aload_n hC dX6_gated_15 rfl 2 rfl ?_
      refine z_getr hC zkX6 iX6_gated_X6 0 rfl 0 (by decide) kX6_gated_1 rfl rfl dX6_gated_16 ?_
      refine z_bipush hC dX6_gated_19 (by decide) ?_
      refine z_iald hC 1 rfl 0 rfl 14 rfl (by decide) (by decide) dX6_gated_21 ?_
      refine z_icmp_ge_t (tgt := 65) hC dX6_gated_22 (by decide) (by unfold inR; omega) (by unfold inR; omega) (by omega) ?_
      refine z_iload_n hC dX6_gated_65 rfl 1 rfl ?_
      exact z_iret hC hr rfl () trivial (hvi (by subst hkn; rfl)) (rfl) dX6_gated_66
abbrev rmX6_speed : Room := { frames := 1, cells := 0, slots := 0, locals := 23 }
set_option maxHeartbeats 4000000 in
set_option maxRecDepth 100000 in
theorem t_X6_speed (l : Launch) (D : va_G) (J : Nat → ClassId) (h : Nat) (a : Nat → Nat) (L pl sp nb dn er : Int) (A K T H S V P : Nat → Int) (x : Int) (hx : inR x) (hI : InvM A) : ZX l yX6_speed wsX6_speed rmX6_speed D J [.ref h, .int (iI x)] (wM J h a L pl sp nb dn er A K T H S V P) (some (.int (iI (mSpeedR A x)))) (wM J h a L pl sp nb dn er A K T H S V P) := by
  unfold inR at hx
  refine z_met (cc := cX6_speed) (nL := 2) (ret := (some .int)) (own := RX6) (by decide) rfl rfl (Nat.le_of_ble_eq_true rfl) (fun p e s m args below meth c hC hr hin => ?_)
  refine z_lv0 (lv' := [(0, .ref h), (1, .int (iI x))]) rfl ?_
  refine z_iload_n hC dX6_speed_0 rfl 1 rfl ?_
  refine z_if_ne (tgt := 15) hC dX6_speed_1 (by decide) (by unfold inR; omega) (fun c_1_1 => ?_) (fun c_1_1 => ?_)
  · refine z_iload_n hC dX6_speed_15 rfl 1 rfl ?_
    refine z_iconst hC dX6_speed_16 ?_
    refine z_icmp_ne (tgt := 27) hC dX6_speed_17 (by decide) (by unfold inR; omega) ⟨by decide, by decide⟩ (fun c_17_2 => ?_) (fun c_17_2 => ?_)
    · refine z_bipush hC dX6_speed_27 (by decide) ?_
      exact z_iret hC hr rfl () trivial (hvi (by unfold mSpeedR; (repeat' split) <;> first | rfl | omega)) (rfl) dX6_speed_29
    · refine z_aload_n hC dX6_speed_20 rfl 0 rfl ?_
      refine z_callV (wr := ([] : va_W)) (av := []) (st := []) hC (t_X6_period l D J h a L pl sp nb dn er A K T H S V P  hI) gX6_speed_X6_period rfl 0 (by decide +kernel) ⟨Nat.le_of_ble_eq_true rfl, Nat.le_of_ble_eq_true rfl⟩ ⟨Nat.le_of_ble_eq_true rfl, Nat.le_of_ble_eq_true rfl⟩ [0, 1, 2, 3, 4, 5, 6, 7] [] rfl rfl rfl (by decide) rfl 0 rfl rfl rfl rfl rfl (Nat.le_of_ble_eq_true rfl) dX6_speed_21 (fun _ _ => ?_)
      refine z_ws (ws' := wM J h a L pl sp nb dn er A K T H S V P) rfl ?_
      refine z_st (st' := [.int (iI (mPer A))]) rfl ?_
      have hpi_3 := mPer_in hI
      refine z_goto (tgt := 29) hC dX6_speed_24 (by decide) ?_
      exact z_iret hC hr rfl () trivial (hvi (by unfold mSpeedR; (repeat' split) <;> first | rfl | omega)) (rfl) dX6_speed_29
  · refine z_aload_n hC dX6_speed_4 rfl 0 rfl ?_
    refine z_callV (wr := ([] : va_W)) (av := []) (st := []) hC (t_X6_gated l D J h a L pl sp nb dn er A K T H S V P  hI) gX6_speed_X6_gated rfl 0 (by decide +kernel) ⟨Nat.le_of_ble_eq_true rfl, Nat.le_of_ble_eq_true rfl⟩ ⟨Nat.le_of_ble_eq_true rfl, Nat.le_of_ble_eq_true rfl⟩ [0, 1, 2, 3, 4, 5, 6, 7] [] rfl rfl rfl (by decide) rfl 0 rfl rfl rfl rfl rfl (Nat.le_of_ble_eq_true rfl) dX6_speed_5 (fun _ _ => ?_)
    refine z_ws (ws' := wM J h a L pl sp nb dn er A K T H S V P) rfl ?_
    refine z_st (st' := [.int (iI (mGtR A))]) rfl ?_
    refine z_sipush hC dX6_speed_8 (by decide) ?_
    refine z_iadd hC dX6_speed_11 ?_
    refine z_goto (tgt := 29) hC dX6_speed_12 (by decide) ?_
    exact z_iret hC hr rfl () trivial (hvi (by unfold mSpeedR; (repeat' split) <;> first | rfl | omega)) (rfl) dX6_speed_29
set_option maxRecDepth 20000 in
theorem iX6_log_X6 : ∀ w ∈ u_ws RX6 TX6 13, w ∈ wsX6_log := zm_places _ [6, 7, 8, 9, 10, 11, 12, 13, 14, 15, 16, 17, 18] (by decide +kernel)
theorem kX6_log_1 : Cond.fieldLink RX6 7 "StepPairsModel" "all" "[I" ∈ wsX6_log := List.mem_of_getElem? (i := 1) rfl
abbrev rmX6_log : Room := { frames := 1, cells := 0, slots := 0, locals := 25 }
set_option maxHeartbeats 4000000 in
set_option maxRecDepth 100000 in
theorem t_X6_log (l : Launch) (D : va_G) (J : Nat → ClassId) (h : Nat) (a : Nat → Nat) (L pl sp nb dn er : Int) (A K T H S V P : Nat → Int) (x y : Int) (hx : inR x) (hy : inR y) (hI : InvM A) : ZX l yX6_log wsX6_log rmX6_log D J [.ref h, .int (iI x), .int (iI y)] (wM J h a L pl sp nb dn er A K T H S V P) (some (.int (iI (mLogR A x y)))) (wM J h a L pl sp nb dn er A K T H S V P) := by
  obtain ⟨m0, m1, m2, m3, m4, m5, m6, m7, m8, m9, m10, m13, m14, m15, m16, m17, m18, m19, m20, mg⟩ := id hI
  unfold inR at hx hy
  refine z_met (cc := cX6_log) (nL := 4) (ret := (some .int)) (own := RX6) (by decide) rfl rfl (Nat.le_of_ble_eq_true rfl) (fun p e s m args below meth c hC hr hin => ?_)
  refine z_lv0 (lv' := [(0, .ref h), (1, .int (iI x)), (2, .int (iI y))]) rfl ?_
  refine z_iload_n hC dX6_log_0 rfl 1 rfl ?_
  refine z_i2l (v := lI x) hC dX6_log_1 (iI_l (by unfold inR; omega)) ?_
  refine z_lconst (v := lI 0) hC dX6_log_2 (by decide) ?_
  refine z_aload_n hC dX6_log_3 rfl 0 rfl ?_
  refine z_getr hC zkX6 iX6_log_X6 0 rfl 0 (by decide) kX6_log_1 rfl rfl dX6_log_4 ?_
  refine z_bipush hC dX6_log_7 (by decide) ?_
  refine z_iald hC 1 rfl 0 rfl 14 rfl (by decide) (by decide) dX6_log_9 ?_
  refine z_i2l (v := lI (A 14)) hC dX6_log_10 (iI_l (by unfold inR; omega)) ?_
  refine z_lconst (v := lI 1) hC dX6_log_11 (by decide) ?_
  refine z_lsub (v := lI ((A 14) - 1)) hC dX6_log_12 (lI_sub _ _) ?_
  refine z_callS (wr := wM J h a L pl sp nb dn er A K T H S V P) (av := [.long (lI x), .long (lI 0), .long (lI ((A 14) - 1))]) (st := []) hC (t_X6_in l D J x 0 ((A 14) - 1) (by unfold inL; omega) (by unfold inL; omega) (by unfold inL; omega)) gX6_log_X6_in rfl 3 (by decide +kernel) ⟨Nat.le_of_ble_eq_true rfl, Nat.le_of_ble_eq_true rfl⟩ ⟨Nat.le_of_ble_eq_true rfl, Nat.le_of_ble_eq_true rfl⟩ [] [0, 1, 2, 3, 4, 5, 6, 7] rfl rfl rfl (by decide) rfl rfl rfl (Nat.le_of_ble_eq_true rfl) dX6_log_13 (fun _ _ => ?_)
  refine z_ws (ws' := wM J h a L pl sp nb dn er A K T H S V P) rfl ?_
  refine z_st (st' := [.int (iI (mIn x 0 ((A 14) - 1)))]) rfl ?_
  have hin_1 := mIn_spec x 0 ((A 14) - 1)
  refine z_if_ne (tgt := 21) hC dX6_log_16 (by decide) (inR_01 (mIn_01 _ _ _)) (fun c_16_2 => ?_) (fun c_16_2 => ?_)
  · refine z_aload_n hC dX6_log_21 rfl 0 rfl ?_
    refine z_getr hC zkX6 iX6_log_X6 0 rfl 0 (by decide) kX6_log_1 rfl rfl dX6_log_22 ?_
    refine z_bipush hC dX6_log_25 (by decide) ?_
    refine z_iload_n hC dX6_log_27 rfl 1 rfl ?_
    refine z_iadd hC dX6_log_28 ?_
    have hlg := mg (21 + x.toNat) (by omega)
    refine z_iald hC 1 rfl 0 rfl (21 + x.toNat) (by omega) (by omega) (by decide) dX6_log_29 ?_
    refine z_istore_n (lv' := [(3, .int (iI (A (21 + x.toNat)))), (0, .ref h), (1, .int (iI x)), (2, .int (iI y))]) hC dX6_log_30 rfl (by decide) rfl ?_
    refine z_iload_n hC dX6_log_31 rfl 3 rfl ?_
    refine z_if_ne (tgt := 42) hC dX6_log_32 (by decide) (by unfold inR; omega) (fun c_32_3 => ?_) (fun c_32_3 => ?_)
    · refine z_iload_n hC dX6_log_42 rfl 3 rfl ?_
      refine z_iconst hC dX6_log_43 ?_
      refine z_icmp_ne (tgt := 55) hC dX6_log_44 (by decide) (by unfold inR; omega) ⟨by decide, by decide⟩ (fun c_44_4 => ?_) (fun c_44_4 => ?_)
      · refine z_iload_n hC dX6_log_55 rfl 3 rfl ?_
        refine z_iconst hC dX6_log_56 ?_
        refine z_icmp_ne (tgt := 66) hC dX6_log_57 (by decide) (by unfold inR; omega) ⟨by decide, by decide⟩ (fun c_57_5 => ?_) (fun c_57_5 => ?_)
        · refine z_bipush hC dX6_log_66 (by decide) ?_
          exact z_iret hC hr rfl () trivial (hvi (by unfold mLogR; (repeat' split) <;> first | rfl | omega)) (rfl) dX6_log_68
        · refine z_iload_n hC dX6_log_60 rfl 0 rfl ?_
          refine z_iconst hC dX6_log_61 ?_
          refine z_irem hC dX6_log_62 (by omega) (by omega) (by omega) (by omega) ?_
          refine z_goto (tgt := 68) hC dX6_log_63 (by decide) ?_
          exact z_iret hC hr rfl () trivial (hvi (by unfold mLogR; (repeat' split) <;> first | rfl | omega)) (rfl) dX6_log_68
      · refine z_iload_n hC dX6_log_47 rfl 0 rfl ?_
        refine z_iconst hC dX6_log_48 ?_
        refine z_idiv hC dX6_log_49 (by omega) (by omega) (by omega) (by omega) ?_
        refine z_iconst hC dX6_log_50 ?_
        refine z_irem hC dX6_log_51 (by omega) (by omega) (by omega) (by omega) ?_
        refine z_goto (tgt := 68) hC dX6_log_52 (by decide) ?_
        exact z_iret hC hr rfl () trivial (hvi (by unfold mLogR; (repeat' split) <;> first | rfl | omega)) (rfl) dX6_log_68
    · refine z_iload_n hC dX6_log_35 rfl 0 rfl ?_
      refine z_bipush hC dX6_log_36 (by decide) ?_
      refine z_idiv hC dX6_log_38 (by omega) (by omega) (by omega) (by omega) ?_
      refine z_goto (tgt := 68) hC dX6_log_39 (by decide) ?_
      exact z_iret hC hr rfl () trivial (hvi (by unfold mLogR; (repeat' split) <;> first | rfl | omega)) (rfl) dX6_log_68
  · refine z_iconst hC dX6_log_19 ?_
    exact z_iret hC hr rfl () trivial (hvi (by unfold mLogR; (repeat' split) <;> first | rfl | omega)) (rfl) dX6_log_20
theorem kX6_count_1 : Cond.constantLong RX6 64 (9) ∈ wsX6_count := List.mem_of_getElem? (i := 1) rfl
theorem kX6_count_3 : Cond.constantLong RX6 60 (10) ∈ wsX6_count := List.mem_of_getElem? (i := 3) rfl
theorem kX6_count_4 : Cond.constantLong RX6 107 (14) ∈ wsX6_count := List.mem_of_getElem? (i := 4) rfl
set_option maxRecDepth 20000 in
theorem iX6_count_X6 : ∀ w ∈ u_ws RX6 TX6 13, w ∈ wsX6_count := zm_places _ [11, 12, 13, 14, 15, 16, 17, 18, 19, 20, 21, 22, 23] (by decide +kernel)
theorem kX6_count_6 : Cond.fieldLink RX6 34 "StepPairsModel" "historyLong" "I" ∈ wsX6_count := List.mem_of_getElem? (i := 6) rfl
theorem kX6_count_5 : Cond.fieldLink RX6 109 "StepPairsModel" "padLong" "I" ∈ wsX6_count := List.mem_of_getElem? (i := 5) rfl
theorem kX6_count_2 : Cond.fieldLink RX6 7 "StepPairsModel" "all" "[I" ∈ wsX6_count := List.mem_of_getElem? (i := 2) rfl
abbrev rmX6_count : Room := { frames := 1, cells := 0, slots := 0, locals := 25 }
set_option maxHeartbeats 4000000 in
set_option maxRecDepth 100000 in
theorem t_X6_count (l : Launch) (D : va_G) (J : Nat → ClassId) (h : Nat) (a : Nat → Nat) (L pl sp nb dn er : Int) (A K T H S V P : Nat → Int) (x : Int) (hx : inR x) : ZX l yX6_count wsX6_count rmX6_count D J [.ref h, .int (iI x)] (wM J h a L pl sp nb dn er A K T H S V P) (some (.int (iI (mCountR A L pl x)))) (wM J h a L pl sp nb dn er A K T H S V P) := by
  unfold inR at hx
  refine z_met (cc := cX6_count) (nL := 2) (ret := (some .int)) (own := RX6) (by decide) rfl rfl (Nat.le_of_ble_eq_true rfl) (fun p e s m args below meth c hC hr hin => ?_)
  refine z_lv0 (lv' := [(0, .ref h), (1, .int (iI x))]) rfl ?_
  refine z_iload_n hC dX6_count_0 rfl 1 rfl ?_
  refine z_i2l (v := lI x) hC dX6_count_1 (iI_l (by unfold inR; omega)) ?_
  refine z_lconst (v := lI 0) hC dX6_count_2 (by decide) ?_
  refine z_ldc2 hC kX6_count_1 dX6_count_3 ?_
  refine z_long (y := lI 9) hC (by decide) ?_
  refine z_callS (wr := wM J h a L pl sp nb dn er A K T H S V P) (av := [.long (lI x), .long (lI 0), .long (lI 9)]) (st := []) hC (t_X6_in l D J x 0 9 (by unfold inL; omega) (by unfold inL; omega) (by unfold inL; omega)) gX6_count_X6_in rfl 3 (by decide +kernel) ⟨Nat.le_of_ble_eq_true rfl, Nat.le_of_ble_eq_true rfl⟩ ⟨Nat.le_of_ble_eq_true rfl, Nat.le_of_ble_eq_true rfl⟩ [] [0, 1, 2, 3, 4, 5, 6, 7] rfl rfl rfl (by decide) rfl rfl rfl (Nat.le_of_ble_eq_true rfl) dX6_count_6 (fun _ _ => ?_)
  refine z_ws (ws' := wM J h a L pl sp nb dn er A K T H S V P) rfl ?_
  refine z_st (st' := [.int (iI (mIn x 0 9))]) rfl ?_
  have hin_1 := mIn_spec x 0 9
  refine z_if_eq (tgt := 21) hC dX6_count_9 (by decide) (inR_01 (mIn_01 _ _ _)) (fun c_9_2 => ?_) (fun c_9_2 => ?_)
  · refine z_iload_n hC dX6_count_21 rfl 1 rfl ?_
    refine z_i2l (v := lI x) hC dX6_count_22 (iI_l (by unfold inR; omega)) ?_
    refine z_ldc2 hC kX6_count_3 dX6_count_23 ?_
    refine z_long (y := lI 10) hC (by decide) ?_
    refine z_ldc2 hC kX6_count_4 dX6_count_26 ?_
    refine z_long (y := lI 14) hC (by decide) ?_
    refine z_callS (wr := wM J h a L pl sp nb dn er A K T H S V P) (av := [.long (lI x), .long (lI 10), .long (lI 14)]) (st := []) hC (t_X6_in l D J x 10 14 (by unfold inL; omega) (by unfold inL; omega) (by unfold inL; omega)) gX6_count_X6_in rfl 3 (by decide +kernel) ⟨Nat.le_of_ble_eq_true rfl, Nat.le_of_ble_eq_true rfl⟩ ⟨Nat.le_of_ble_eq_true rfl, Nat.le_of_ble_eq_true rfl⟩ [] [0, 1, 2, 3, 4, 5, 6, 7] rfl rfl rfl (by decide) rfl rfl rfl (Nat.le_of_ble_eq_true rfl) dX6_count_29 (fun _ _ => ?_)
    refine z_ws (ws' := wM J h a L pl sp nb dn er A K T H S V P) rfl ?_
    refine z_st (st' := [.int (iI (mIn x 10 14))]) rfl ?_
    have hin_3 := mIn_spec x 10 14
    refine z_if_eq (tgt := 45) hC dX6_count_32 (by decide) (inR_01 (mIn_01 _ _ _)) (fun c_32_4 => ?_) (fun c_32_4 => ?_)
    · refine z_iload_n hC dX6_count_45 rfl 1 rfl ?_
      refine z_bipush hC dX6_count_46 (by decide) ?_
      refine z_icmp_ne (tgt := 58) hC dX6_count_48 (by decide) (by unfold inR; omega) ⟨by decide, by decide⟩ (fun c_48_5 => ?_) (fun c_48_5 => ?_)
      · refine z_iload_n hC dX6_count_58 rfl 1 rfl ?_
        refine z_bipush hC dX6_count_59 (by decide) ?_
        refine z_icmp_ne (tgt := 71) hC dX6_count_61 (by decide) (by unfold inR; omega) ⟨by decide, by decide⟩ (fun c_61_6 => ?_) (fun c_61_6 => ?_)
        · refine z_bipush hC dX6_count_71 (by decide) ?_
          exact z_iret hC hr rfl () trivial (hvi (by unfold mCountR; (repeat' split) <;> first | rfl | omega)) (rfl) dX6_count_73
        · refine z_aload_n hC dX6_count_64 rfl 0 rfl ?_
          refine z_geti hC zkX6 iX6_count_X6 0 rfl 4 (by decide) kX6_count_6 rfl rfl dX6_count_65 ?_
          refine z_int (y := iI L) hC (rfl) ?_
          refine z_goto (tgt := 73) hC dX6_count_68 (by decide) ?_
          exact z_iret hC hr rfl () trivial (hvi (by unfold mCountR; (repeat' split) <;> first | rfl | omega)) (rfl) dX6_count_73
      · refine z_aload_n hC dX6_count_51 rfl 0 rfl ?_
        refine z_geti hC zkX6 iX6_count_X6 0 rfl 8 (by decide) kX6_count_5 rfl rfl dX6_count_52 ?_
        refine z_int (y := iI pl) hC (rfl) ?_
        refine z_goto (tgt := 73) hC dX6_count_55 (by decide) ?_
        exact z_iret hC hr rfl () trivial (hvi (by unfold mCountR; (repeat' split) <;> first | rfl | omega)) (rfl) dX6_count_73
    · refine z_aload_n hC dX6_count_35 rfl 0 rfl ?_
      refine z_getr hC zkX6 iX6_count_X6 0 rfl 0 (by decide) kX6_count_2 rfl rfl dX6_count_36 ?_
      refine z_iload_n hC dX6_count_39 rfl 1 rfl ?_
      refine z_bipush hC dX6_count_40 (by decide) ?_
      refine z_isub hC dX6_count_42 ?_
      refine z_iald hC 1 rfl 0 rfl (Int.toNat (x - 10)) (Int.toNat_of_nonneg (by omega)).symm (by omega) (by decide) dX6_count_43 ?_
      exact z_iret hC hr rfl () trivial (hvi (by unfold mCountR; (repeat' split) <;> first | rfl | omega)) (rfl) dX6_count_44
  · refine z_aload_n hC dX6_count_12 rfl 0 rfl ?_
    refine z_getr hC zkX6 iX6_count_X6 0 rfl 0 (by decide) kX6_count_2 rfl rfl dX6_count_13 ?_
    refine z_iconst hC dX6_count_16 ?_
    refine z_iload_n hC dX6_count_17 rfl 1 rfl ?_
    refine z_iadd hC dX6_count_18 ?_
    refine z_iald hC 1 rfl 0 rfl (Int.toNat (5 + x)) (Int.toNat_of_nonneg (by omega)).symm (by omega) (by decide) dX6_count_19 ?_
    exact z_iret hC hr rfl () trivial (hvi (by unfold mCountR; (repeat' split) <;> first | rfl | omega)) (rfl) dX6_count_20
theorem kX6_would_1 : Cond.constantLong RX6 74 (3) ∈ wsX6_would := List.mem_of_getElem? (i := 1) rfl
abbrev rmX6_would : Room := { frames := 2, cells := 0, slots := 0, locals := 43 }
set_option maxHeartbeats 4000000 in
set_option maxRecDepth 100000 in
theorem t_X6_would (l : Launch) (D : va_G) (J : Nat → ClassId) (h : Nat) (a : Nat → Nat) (L pl sp nb dn er : Int) (A K T H S V P : Nat → Int) (x : Int) (hx : inR x) (hI : InvM A) : ZX l yX6_would wsX6_would rmX6_would D J [.ref h, .int (iI x)] (wM J h a L pl sp nb dn er A K T H S V P) (some (.int (iI (mWouldR A x)))) (wM J h a L pl sp nb dn er A K T H S V P) := by
  unfold inR at hx
  refine z_met (cc := cX6_would) (nL := 2) (ret := (some .int)) (own := RX6) (by decide) rfl rfl (Nat.le_of_ble_eq_true rfl) (fun p e s m args below meth c hC hr hin => ?_)
  refine z_lv0 (lv' := [(0, .ref h), (1, .int (iI x))]) rfl ?_
  refine z_iload_n hC dX6_would_0 rfl 1 rfl ?_
  refine z_i2l (v := lI x) hC dX6_would_1 (iI_l (by unfold inR; omega)) ?_
  refine z_lconst (v := lI 0) hC dX6_would_2 (by decide) ?_
  refine z_ldc2 hC kX6_would_1 dX6_would_3 ?_
  refine z_long (y := lI 3) hC (by decide) ?_
  refine z_callS (wr := wM J h a L pl sp nb dn er A K T H S V P) (av := [.long (lI x), .long (lI 0), .long (lI 3)]) (st := []) hC (t_X6_in l D J x 0 3 (by unfold inL; omega) (by unfold inL; omega) (by unfold inL; omega)) gX6_would_X6_in rfl 3 (by decide +kernel) ⟨Nat.le_of_ble_eq_true rfl, Nat.le_of_ble_eq_true rfl⟩ ⟨Nat.le_of_ble_eq_true rfl, Nat.le_of_ble_eq_true rfl⟩ [] [0, 1, 2, 3, 4, 5, 6, 7] rfl rfl rfl (by decide) rfl rfl rfl (Nat.le_of_ble_eq_true rfl) dX6_would_6 (fun _ _ => ?_)
  refine z_ws (ws' := wM J h a L pl sp nb dn er A K T H S V P) rfl ?_
  refine z_st (st' := [.int (iI (mIn x 0 3))]) rfl ?_
  have hin_1 := mIn_spec x 0 3
  refine z_if_eq (tgt := 20) hC dX6_would_9 (by decide) (inR_01 (mIn_01 _ _ _)) (fun c_9_2 => ?_) (fun c_9_2 => ?_)
  · refine z_bipush hC dX6_would_20 (by decide) ?_
    exact z_iret hC hr rfl () trivial (hvi (by unfold mWouldR; (repeat' split) <;> first | rfl | omega)) (rfl) dX6_would_22
  · refine z_aload_n hC dX6_would_12 rfl 0 rfl ?_
    refine z_iload_n hC dX6_would_13 rfl 1 rfl ?_
    refine z_callV (wr := ([] : va_W)) (av := [.int (iI x)]) (st := []) hC (t_X6_deedOf l D J h a L pl sp nb dn er A K T H S V P x ⟨by omega, by omega⟩ hI) gX6_would_X6_deedOf rfl 1 (by decide +kernel) ⟨Nat.le_of_ble_eq_true rfl, Nat.le_of_ble_eq_true rfl⟩ ⟨Nat.le_of_ble_eq_true rfl, Nat.le_of_ble_eq_true rfl⟩ [0, 1, 2, 3, 4, 5, 6, 7] [] rfl rfl rfl (by decide) rfl 0 rfl rfl rfl rfl rfl (Nat.le_of_ble_eq_true rfl) dX6_would_14 (fun _ _ => ?_)
    refine z_ws (ws' := wM J h a L pl sp nb dn er A K T H S V P) rfl ?_
    refine z_st (st' := [.int (iI (mDeed A x))]) rfl ?_
    have hd_3 := mDeed_in A x
    refine z_goto (tgt := 22) hC dX6_would_17 (by decide) ?_
    exact z_iret hC hr rfl () trivial (hvi (by unfold mWouldR; (repeat' split) <;> first | rfl | omega)) (rfl) dX6_would_22
theorem kX6_deeds_1 : Cond.constantLong RX6 74 (3) ∈ wsX6_deeds := List.mem_of_getElem? (i := 1) rfl
set_option maxRecDepth 20000 in
theorem iX6_deeds_X6 : ∀ w ∈ u_ws RX6 TX6 13, w ∈ wsX6_deeds := zm_places _ [7, 8, 9, 10, 11, 12, 13, 14, 15, 16, 17, 18, 19] (by decide +kernel)
theorem kX6_deeds_2 : Cond.fieldLink RX6 7 "StepPairsModel" "all" "[I" ∈ wsX6_deeds := List.mem_of_getElem? (i := 2) rfl
abbrev rmX6_deeds : Room := { frames := 1, cells := 0, slots := 0, locals := 25 }
set_option maxHeartbeats 4000000 in
set_option maxRecDepth 100000 in
theorem t_X6_deeds (l : Launch) (D : va_G) (J : Nat → ClassId) (h : Nat) (a : Nat → Nat) (L pl sp nb dn er : Int) (A K T H S V P : Nat → Int) (x : Int) (hx : inR x) (hI : InvM A) : ZX l yX6_deeds wsX6_deeds rmX6_deeds D J [.ref h, .int (iI x)] (wM J h a L pl sp nb dn er A K T H S V P) (some (.int (iI (mDeedsR A x)))) (wM J h a L pl sp nb dn er A K T H S V P) := by
  obtain ⟨m0, m1, m2, m3, m4, m5, m6, m7, m8, m9, m10, m13, m14, m15, m16, m17, m18, m19, m20, mg⟩ := id hI
  unfold inR at hx
  refine z_met (cc := cX6_deeds) (nL := 4) (ret := (some .int)) (own := RX6) (by decide) rfl rfl (Nat.le_of_ble_eq_true rfl) (fun p e s m args below meth c hC hr hin => ?_)
  refine z_lv0 (lv' := [(0, .ref h), (1, .int (iI x))]) rfl ?_
  refine z_iload_n hC dX6_deeds_0 rfl 1 rfl ?_
  refine z_i2l (v := lI x) hC dX6_deeds_1 (iI_l (by unfold inR; omega)) ?_
  refine z_lconst (v := lI 0) hC dX6_deeds_2 (by decide) ?_
  refine z_ldc2 hC kX6_deeds_1 dX6_deeds_3 ?_
  refine z_long (y := lI 3) hC (by decide) ?_
  refine z_callS (wr := wM J h a L pl sp nb dn er A K T H S V P) (av := [.long (lI x), .long (lI 0), .long (lI 3)]) (st := []) hC (t_X6_in l D J x 0 3 (by unfold inL; omega) (by unfold inL; omega) (by unfold inL; omega)) gX6_deeds_X6_in rfl 3 (by decide +kernel) ⟨Nat.le_of_ble_eq_true rfl, Nat.le_of_ble_eq_true rfl⟩ ⟨Nat.le_of_ble_eq_true rfl, Nat.le_of_ble_eq_true rfl⟩ [] [0, 1, 2, 3, 4, 5, 6, 7] rfl rfl rfl (by decide) rfl rfl rfl (Nat.le_of_ble_eq_true rfl) dX6_deeds_6 (fun _ _ => ?_)
  refine z_ws (ws' := wM J h a L pl sp nb dn er A K T H S V P) rfl ?_
  refine z_st (st' := [.int (iI (mIn x 0 3))]) rfl ?_
  have hin_1 := mIn_spec x 0 3
  refine z_if_ne (tgt := 15) hC dX6_deeds_9 (by decide) (inR_01 (mIn_01 _ _ _)) (fun c_9_2 => ?_) (fun c_9_2 => ?_)
  · refine z_iconst hC dX6_deeds_15 ?_
    refine z_istore_n (lv' := [(2, .int (iI 0)), (0, .ref h), (1, .int (iI x))]) hC dX6_deeds_16 rfl (by decide) rfl ?_
    refine z_iconst hC dX6_deeds_17 ?_
    refine z_istore_n (lv' := [(3, .int (iI 0)), (2, .int (iI 0)), (0, .ref h), (1, .int (iI x))]) hC dX6_deeds_18 rfl (by decide) rfl ?_
    refine z_lv (lv' := [(3, .int (iI 0)), (2, .int (iI 0)), (0, .ref h), (1, .int (iI x))]) [0, 1, 2, 3] rfl ?_
    refine z_loop (α := Nat) (fun nn k => (k : Int) + (nn : Int) = A 14) (fun nn k => wM J h a L pl sp nb dn er A K T H S V P) (fun nn k => [(3, .int (iI (k : Int))), (2, .int (iI (mDs A x k))), (0, .ref h), (1, .int (iI x))]) 19 [] (fun nn k ih_3 hP_4 => ?_) (fun k hP_4 => ?_) ((A 14).toNat) 0 (by show ((0 : Nat) : Int) + _ = _; omega)
    · change Z _ _ _ _ _ _ _ _ _ _ _ _ _ _ _ _ (wM J h a L pl sp nb dn er A K T H S V P) ([(3, .int (iI (k : Int))), (2, .int (iI (mDs A x k))), (0, .ref h), (1, .int (iI x))]) 19 ([])
      have hlg := mg (21 + k) (by omega)
      refine z_iload_n hC dX6_deeds_19 rfl 0 rfl ?_
      refine z_aload_n hC dX6_deeds_20 rfl 2 rfl ?_
      refine z_getr hC zkX6 iX6_deeds_X6 0 rfl 0 (by decide) kX6_deeds_2 rfl rfl dX6_deeds_21 ?_
      refine z_bipush hC dX6_deeds_24 (by decide) ?_
      refine z_iald hC 1 rfl 0 rfl 14 rfl (by decide) (by decide) dX6_deeds_26 ?_
      refine z_icmp_ge_f (tgt := 59) hC dX6_deeds_27 (by decide) (by unfold inR; omega) (by unfold inR; omega) (by omega) ?_
      refine z_iload_n hC dX6_deeds_30 rfl 1 rfl ?_
      refine z_aload_n hC dX6_deeds_31 rfl 2 rfl ?_
      refine z_getr hC zkX6 iX6_deeds_X6 0 rfl 0 (by decide) kX6_deeds_2 rfl rfl dX6_deeds_32 ?_
      refine z_bipush hC dX6_deeds_35 (by decide) ?_
      refine z_iload_n hC dX6_deeds_37 rfl 0 rfl ?_
      refine z_iadd hC dX6_deeds_38 ?_
      refine z_iald hC 1 rfl 0 rfl (21 + k) (by omega) (by omega) (by decide) dX6_deeds_39 ?_
      refine z_iconst hC dX6_deeds_40 ?_
      refine z_irem hC dX6_deeds_41 (by omega) (by omega) (by omega) (by omega) ?_
      refine z_iload_n hC dX6_deeds_42 rfl 3 rfl ?_
      refine z_icmp_ne (tgt := 50) hC dX6_deeds_43 (by decide) (by unfold inR; omega) (by unfold inR; omega) (fun c_43_5 => ?_) (fun c_43_5 => ?_)
      · refine z_iconst hC dX6_deeds_50 ?_
        refine z_iadd hC dX6_deeds_51 ?_
        refine z_istore_n (lv' := [(2, .int (iI ((mDs A x k) + 0))), (3, .int (iI (k : Int))), (0, .ref h), (1, .int (iI x))]) hC dX6_deeds_52 rfl (by decide) rfl ?_
        refine z_iinc (lv' := [(3, .int (iI ((k : Int) + 1))), (2, .int (iI ((mDs A x k) + 0))), (0, .ref h), (1, .int (iI x))]) hC dX6_deeds_53 1 rfl (by decide) rfl ?_
        refine z_goto (tgt := 19) hC dX6_deeds_56 (by decide) ?_
        have e2 : mDs A x (k + 1) = (mDs A x k) + 0 := by show mDs A x k + (if A (21 + k) % 4 = x then 1 else 0) = _; (repeat' split) <;> first | rfl | omega
        refine z_lv0 (lv' := [(3, .int (iI ((k : Int) + 1))), (2, .int (iI (mDs A x (k + 1)))), (0, .ref h), (1, .int (iI x))]) (by rw [e2]) ?_
        refine z_lv (lv' := _) [0, 1, 2, 3] rfl ?_
        exact ih_3 (k + 1) (by omega)
      · refine z_iconst hC dX6_deeds_46 ?_
        refine z_goto (tgt := 51) hC dX6_deeds_47 (by decide) ?_
        refine z_iadd hC dX6_deeds_51 ?_
        refine z_istore_n (lv' := [(2, .int (iI ((mDs A x k) + 1))), (3, .int (iI (k : Int))), (0, .ref h), (1, .int (iI x))]) hC dX6_deeds_52 rfl (by decide) rfl ?_
        refine z_iinc (lv' := [(3, .int (iI ((k : Int) + 1))), (2, .int (iI ((mDs A x k) + 1))), (0, .ref h), (1, .int (iI x))]) hC dX6_deeds_53 1 rfl (by decide) rfl ?_
        refine z_goto (tgt := 19) hC dX6_deeds_56 (by decide) ?_
        have e2 : mDs A x (k + 1) = (mDs A x k) + 1 := by show mDs A x k + (if A (21 + k) % 4 = x then 1 else 0) = _; (repeat' split) <;> first | rfl | omega
        refine z_lv0 (lv' := [(3, .int (iI ((k : Int) + 1))), (2, .int (iI (mDs A x (k + 1)))), (0, .ref h), (1, .int (iI x))]) (by rw [e2]) ?_
        refine z_lv (lv' := _) [0, 1, 2, 3] rfl ?_
        exact ih_3 (k + 1) (by omega)
    · change Z _ _ _ _ _ _ _ _ _ _ _ _ _ _ _ _ (wM J h a L pl sp nb dn er A K T H S V P) ([(3, .int (iI (k : Int))), (2, .int (iI (mDs A x k))), (0, .ref h), (1, .int (iI x))]) 19 ([])
      have hkn : k = (A 14).toNat := by omega
      refine z_iload_n hC dX6_deeds_19 rfl 0 rfl ?_
      refine z_aload_n hC dX6_deeds_20 rfl 2 rfl ?_
      refine z_getr hC zkX6 iX6_deeds_X6 0 rfl 0 (by decide) kX6_deeds_2 rfl rfl dX6_deeds_21 ?_
      refine z_bipush hC dX6_deeds_24 (by decide) ?_
      refine z_iald hC 1 rfl 0 rfl 14 rfl (by decide) (by decide) dX6_deeds_26 ?_
      refine z_icmp_ge_t (tgt := 59) hC dX6_deeds_27 (by decide) (by unfold inR; omega) (by unfold inR; omega) (by omega) ?_
      refine z_iload_n hC dX6_deeds_59 rfl 1 rfl ?_
      exact z_iret hC hr rfl () trivial (hvi (by subst hkn; unfold mDeedsR; (repeat' split) <;> first | rfl | omega)) (rfl) dX6_deeds_60
  · refine z_bipush hC dX6_deeds_12 (by decide) ?_
    exact z_iret hC hr rfl () trivial (hvi (by unfold mDeedsR; (repeat' split) <;> first | rfl | omega)) (rfl) dX6_deeds_14
