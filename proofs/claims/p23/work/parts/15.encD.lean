set_option maxRecDepth 20000 in
theorem iX1_logged_X1 : ∀ w ∈ u_ws RX1 TX1 16, w ∈ wsX1_logged := zm_places _ [6, 7, 8, 9, 10, 11, 12, 13, 14, 15, 16, 17, 18, 19, 20, 21] (by decide +kernel)
theorem kX1_logged_1 : Cond.fieldLink RX1 27 "StepPairs$Encoder" "ticks" "I" ∈ wsX1_logged := List.mem_of_getElem? (i := 1) rfl
theorem kX1_logged_2 : Cond.methodLink RX1 125 Lib.Math.min.name ∈ wsX1_logged := List.mem_of_getElem? (i := 2) rfl
theorem kX1_logged_3 : Cond.static Lib.Math.min.name ∈ wsX1_logged := List.mem_of_getElem? (i := 3) rfl
theorem kX1_logged_4 : Cond.initialized "java/lang/Math" ∈ wsX1_logged := List.mem_of_getElem? (i := 4) rfl
theorem kX1_logged_5 : Cond.code Lib.Math.min.name Lib.Math.min.code 2 (some .int) ∈ wsX1_logged := List.mem_of_getElem? (i := 5) rfl
abbrev rmX1_logged : Room := { frames := 1, cells := 0, slots := 0, locals := 13 }
set_option maxHeartbeats 4000000 in
set_option maxRecDepth 100000 in
theorem t_X1_logged (l : Launch) (D : va_G) (J : Nat → ClassId) (h0 h1 h2 : Nat) (E : Enc) (hE2 : 0 ≤ E.1 2 ∧ E.1 2 ≤ 99999) : ZX l yX1_logged wsX1_logged rmX1_logged D J [.ref h0] (wE J h0 h1 h2 E) (some (.int (iI (min (E.1 2) 200)))) (wE J h0 h1 h2 E) := by
  refine z_met (cc := cX1_logged) (nL := 1) (ret := (some .int)) (own := RX1) (by decide) rfl rfl (Nat.le_of_ble_eq_true rfl) (fun p e s m args below meth c hC hr hin => ?_)
  refine z_lv0 (lv' := [(0, .ref h0)]) rfl ?_
  refine z_aload_n hC dX1_logged_0 rfl 0 rfl ?_
  refine z_geti hC zkX1 iX1_logged_X1 0 rfl 2 (by decide) kX1_logged_1 rfl rfl dX1_logged_1 ?_
  refine z_sipush hC dX1_logged_4 (by decide) ?_
  refine z_min hC kX1_logged_2 kX1_logged_3 kX1_logged_4 kX1_logged_5 (Nat.le_of_ble_eq_true rfl) (Nat.le_of_ble_eq_true rfl) ⟨Nat.le_of_ble_eq_true rfl, Nat.le_of_ble_eq_true rfl⟩ (by unfold inR; omega) ⟨by decide, by decide⟩ dX1_logged_7 ?_
  exact z_iret hC hr rfl () trivial (by rfl) (by rfl) dX1_logged_10
abbrev rmX1_hasTick : Room := { frames := 2, cells := 0, slots := 0, locals := 33 }
set_option maxHeartbeats 4000000 in
set_option maxRecDepth 100000 in
theorem t_X1_hasTick (l : Launch) (D : va_G) (J : Nat → ClassId) (h0 h1 h2 : Nat) (E : Enc) (a : Int) (ha : inR a) (hE2 : 0 ≤ E.1 2 ∧ E.1 2 ≤ 99999) : ZX l yX1_hasTick wsX1_hasTick rmX1_hasTick D J [.ref h0, .int (iI a)] (wE J h0 h1 h2 E) (some (.int (iI (cHas E.1 a)))) (wE J h0 h1 h2 E) := by
  unfold inR at ha
  refine z_met (cc := cX1_hasTick) (nL := 2) (ret := (some .boolean)) (own := RX1) (by decide) rfl rfl (Nat.le_of_ble_eq_true rfl) (fun p e s m args below meth c hC hr hin => ?_)
  refine z_lv0 (lv' := [(0, .ref h0), (1, .int (iI a))]) rfl ?_
  refine z_iload_n hC dX1_hasTick_0 rfl 1 rfl ?_
  refine z_if_lt (tgt := 16) hC dX1_hasTick_1 (by decide) (by unfold inR; omega) (fun c_1_1 => ?_) (fun c_1_1 => ?_)
  · refine z_iconst hC dX1_hasTick_16 ?_
    exact z_iret hC hr rfl () trivial (hvi (by unfold cHas; (repeat' split) <;> first | rfl | omega)) (by rfl) dX1_hasTick_17
  · refine z_iload_n hC dX1_hasTick_4 rfl 1 rfl ?_
    refine z_aload_n hC dX1_hasTick_5 rfl 0 rfl ?_
    refine z_callV (wr := ([] : va_W)) (av := []) (st := [.int (iI a)]) hC (t_X1_logged l D J h0 h1 h2 E  hE2) gX1_hasTick_X1_logged rfl 0 (by decide +kernel) ⟨Nat.le_of_ble_eq_true rfl, Nat.le_of_ble_eq_true rfl⟩ ⟨Nat.le_of_ble_eq_true rfl, Nat.le_of_ble_eq_true rfl⟩ [0, 1, 2] [] rfl rfl rfl (by decide) rfl 0 rfl rfl rfl rfl rfl (Nat.le_of_ble_eq_true rfl) dX1_hasTick_6 (fun _ _ => ?_)
    refine z_ws (ws' := wE J h0 h1 h2 E) rfl ?_
    refine z_st (st' := [.int (iI (min (E.1 2) 200)), .int (iI a)]) rfl ?_
    refine z_icmp_ge (tgt := 16) hC dX1_hasTick_9 (by decide) (by unfold inR; omega) (by unfold inR; omega) (fun c_9_2 => ?_) (fun c_9_2 => ?_)
    · refine z_iconst hC dX1_hasTick_16 ?_
      exact z_iret hC hr rfl () trivial (hvi (by unfold cHas; (repeat' split) <;> first | rfl | omega)) (by rfl) dX1_hasTick_17
    · refine z_iconst hC dX1_hasTick_12 ?_
      refine z_goto (tgt := 17) hC dX1_hasTick_13 (by decide) ?_
      exact z_iret hC hr rfl () trivial (hvi (by unfold cHas; (repeat' split) <;> first | rfl | omega)) (by rfl) dX1_hasTick_17
set_option maxRecDepth 20000 in
theorem iX1_entry_X1 : ∀ w ∈ u_ws RX1 TX1 16, w ∈ wsX1_entry := zm_places _ [16, 17, 18, 19, 20, 21, 22, 23, 24, 25, 26, 27, 28, 29, 30, 31] (by decide +kernel)
theorem kX1_entry_1 : Cond.fieldLink RX1 27 "StepPairs$Encoder" "ticks" "I" ∈ wsX1_entry := List.mem_of_getElem? (i := 1) rfl
theorem kX1_entry_2 : Cond.fieldLink RX1 15 "StepPairs$Encoder" "log" "[I" ∈ wsX1_entry := List.mem_of_getElem? (i := 2) rfl
abbrev rmX1_entry : Room := { frames := 3, cells := 0, slots := 0, locals := 54 }
set_option maxHeartbeats 4000000 in
set_option maxRecDepth 100000 in
theorem t_X1_entry (l : Launch) (D : va_G) (J : Nat → ClassId) (h0 h1 h2 : Nat) (E : Enc) (a : Int) (ha : 0 ≤ a ∧ a < min (E.1 2) 200) (hE2 : 0 ≤ E.1 2 ∧ E.1 2 ≤ 99999) : ZX l yX1_entry wsX1_entry rmX1_entry D J [.ref h0, .int (iI a)] (wE J h0 h1 h2 E) (some (.int (iI (cEnt E.1 E.2.2 a)))) (wE J h0 h1 h2 E) := by
  refine z_met (cc := cX1_entry) (nL := 3) (ret := (some .int)) (own := RX1) (by decide) rfl rfl (Nat.le_of_ble_eq_true rfl) (fun p e s m args below meth c hC hr hin => ?_)
  refine z_lv0 (lv' := [(0, .ref h0), (1, .int (iI a))]) rfl ?_
  refine z_aload_n hC dX1_entry_0 rfl 0 rfl ?_
  refine z_iload_n hC dX1_entry_1 rfl 1 rfl ?_
  refine z_callV (wr := ([] : va_W)) (av := [.int (iI a)]) (st := []) hC (t_X1_hasTick l D J h0 h1 h2 E a (by unfold inR; omega) hE2) gX1_entry_X1_hasTick rfl 1 (by decide +kernel) ⟨Nat.le_of_ble_eq_true rfl, Nat.le_of_ble_eq_true rfl⟩ ⟨Nat.le_of_ble_eq_true rfl, Nat.le_of_ble_eq_true rfl⟩ [0, 1, 2] [] rfl rfl rfl (by decide) rfl 0 rfl rfl rfl rfl rfl (Nat.le_of_ble_eq_true rfl) dX1_entry_2 (fun _ _ => ?_)
  refine z_ws (ws' := wE J h0 h1 h2 E) rfl ?_
  refine z_st (st' := [.int (iI (cHas E.1 a))]) rfl ?_
  refine z_if_ne_t (tgt := 10) hC dX1_entry_5 (by decide) (by rw [cHas_1 ha]; exact ⟨by decide, by decide⟩) (by rw [cHas_1 ha]; decide) ?_
  refine z_aload_n hC dX1_entry_10 rfl 0 rfl ?_
  refine z_geti hC zkX1 iX1_entry_X1 0 rfl 2 (by decide) kX1_entry_1 rfl rfl dX1_entry_11 ?_
  refine z_iconst hC dX1_entry_14 ?_
  refine z_isub hC dX1_entry_15 ?_
  refine z_iload_n hC dX1_entry_16 rfl 1 rfl ?_
  refine z_isub hC dX1_entry_17 ?_
  refine z_sipush hC dX1_entry_18 (by decide) ?_
  refine z_irem hC dX1_entry_21 (by omega) (by omega) (by omega) (by omega) ?_
  refine z_istore_n (lv' := [(2, .int (iI ((((E.1 2) - 1) - a) % 200))), (0, .ref h0), (1, .int (iI a))]) hC dX1_entry_22 rfl (by decide) rfl ?_
  refine z_iload_n hC dX1_entry_23 rfl 0 rfl ?_
  refine z_if_lt_f (tgt := 43) hC dX1_entry_24 (by decide) (by unfold inR; omega) (by omega) ?_
  refine z_iload_n hC dX1_entry_27 rfl 0 rfl ?_
  refine z_sipush hC dX1_entry_28 (by decide) ?_
  refine z_icmp_ge_f (tgt := 43) hC dX1_entry_31 (by decide) (by unfold inR; omega) ⟨by decide, by decide⟩ (by omega) ?_
  refine z_aload_n hC dX1_entry_34 rfl 1 rfl ?_
  refine z_getr hC zkX1 iX1_entry_X1 0 rfl 1 (by decide) kX1_entry_2 rfl rfl dX1_entry_35 ?_
  refine z_iload_n hC dX1_entry_38 rfl 0 rfl ?_
  refine z_iald hC 2 rfl 0 rfl (Int.toNat ((((E.1 2) - 1) - a) % 200)) (Int.toNat_of_nonneg (by omega)).symm (by omega) (by decide) dX1_entry_39 ?_
  refine z_goto (tgt := 44) hC dX1_entry_40 (by decide) ?_
  exact z_iret hC hr rfl () trivial (rfl) (by rfl) dX1_entry_44
abbrev rmX1_pairAt : Room := { frames := 4, cells := 0, slots := 0, locals := 76 }
set_option maxHeartbeats 4000000 in
set_option maxRecDepth 100000 in
theorem t_X1_pairAt (l : Launch) (D : va_G) (J : Nat → ClassId) (h0 h1 h2 : Nat) (E : Enc) (a : Int) (ha : 0 ≤ a ∧ a < min (E.1 2) 200) (hE2 : 0 ≤ E.1 2 ∧ E.1 2 ≤ 99999) (hg : ∀ j, 0 ≤ E.2.2 j ∧ E.2.2 j ≤ 31) : ZX l yX1_pairAt wsX1_pairAt rmX1_pairAt D J [.ref h0, .int (iI a)] (wE J h0 h1 h2 E) (some (.int (iI ((cEnt E.1 E.2.2 a) % 4)))) (wE J h0 h1 h2 E) := by
  refine z_met (cc := cX1_pairAt) (nL := 2) (ret := (some .int)) (own := RX1) (by decide) rfl rfl (Nat.le_of_ble_eq_true rfl) (fun p e s m args below meth c hC hr hin => ?_)
  refine z_lv0 (lv' := [(0, .ref h0), (1, .int (iI a))]) rfl ?_
  refine z_aload_n hC dX1_pairAt_0 rfl 0 rfl ?_
  refine z_iload_n hC dX1_pairAt_1 rfl 1 rfl ?_
  refine z_callV (wr := ([] : va_W)) (av := [.int (iI a)]) (st := []) hC (t_X1_entry l D J h0 h1 h2 E a ha hE2) gX1_pairAt_X1_entry rfl 1 (by decide +kernel) ⟨Nat.le_of_ble_eq_true rfl, Nat.le_of_ble_eq_true rfl⟩ ⟨Nat.le_of_ble_eq_true rfl, Nat.le_of_ble_eq_true rfl⟩ [0, 1, 2] [] rfl rfl rfl (by decide) rfl 0 rfl rfl rfl rfl rfl (Nat.le_of_ble_eq_true rfl) dX1_pairAt_2 (fun _ _ => ?_)
  refine z_ws (ws' := wE J h0 h1 h2 E) rfl ?_
  refine z_st (st' := [.int (iI (cEnt E.1 E.2.2 a))]) rfl ?_
  have hent : 0 ≤ cEnt E.1 E.2.2 a ∧ cEnt E.1 E.2.2 a ≤ 31 := hg _
  refine z_iconst hC dX1_pairAt_5 ?_
  refine z_and3 hC dX1_pairAt_6 ?_
  exact z_iret hC hr rfl () trivial (rfl) (by rfl) dX1_pairAt_7
abbrev rmX1_indexAt : Room := { frames := 4, cells := 0, slots := 0, locals := 76 }
set_option maxHeartbeats 4000000 in
set_option maxRecDepth 100000 in
theorem t_X1_indexAt (l : Launch) (D : va_G) (J : Nat → ClassId) (h0 h1 h2 : Nat) (E : Enc) (a : Int) (ha : 0 ≤ a ∧ a < min (E.1 2) 200) (hE2 : 0 ≤ E.1 2 ∧ E.1 2 ≤ 99999) (hg : ∀ j, 0 ≤ E.2.2 j ∧ E.2.2 j ≤ 31) : ZX l yX1_indexAt wsX1_indexAt rmX1_indexAt D J [.ref h0, .int (iI a)] (wE J h0 h1 h2 E) (some (.int (iI ((cEnt E.1 E.2.2 a) / 2 ^ 2 % 2)))) (wE J h0 h1 h2 E) := by
  refine z_met (cc := cX1_indexAt) (nL := 2) (ret := (some .int)) (own := RX1) (by decide) rfl rfl (Nat.le_of_ble_eq_true rfl) (fun p e s m args below meth c hC hr hin => ?_)
  refine z_lv0 (lv' := [(0, .ref h0), (1, .int (iI a))]) rfl ?_
  refine z_aload_n hC dX1_indexAt_0 rfl 0 rfl ?_
  refine z_iload_n hC dX1_indexAt_1 rfl 1 rfl ?_
  refine z_callV (wr := ([] : va_W)) (av := [.int (iI a)]) (st := []) hC (t_X1_entry l D J h0 h1 h2 E a ha hE2) gX1_indexAt_X1_entry rfl 1 (by decide +kernel) ⟨Nat.le_of_ble_eq_true rfl, Nat.le_of_ble_eq_true rfl⟩ ⟨Nat.le_of_ble_eq_true rfl, Nat.le_of_ble_eq_true rfl⟩ [0, 1, 2] [] rfl rfl rfl (by decide) rfl 0 rfl rfl rfl rfl rfl (Nat.le_of_ble_eq_true rfl) dX1_indexAt_2 (fun _ _ => ?_)
  refine z_ws (ws' := wE J h0 h1 h2 E) rfl ?_
  refine z_st (st' := [.int (iI (cEnt E.1 E.2.2 a))]) rfl ?_
  have hent : 0 ≤ cEnt E.1 E.2.2 a ∧ cEnt E.1 E.2.2 a ≤ 31 := hg _
  refine z_iconst hC dX1_indexAt_5 ?_
  refine z_shr hC 2 (by decide) dX1_indexAt_6 (by omega) (by omega) ?_
  refine z_iconst hC dX1_indexAt_7 ?_
  refine z_and1 hC dX1_indexAt_8 ?_
  exact z_iret hC hr rfl () trivial (rfl) (by rfl) dX1_indexAt_9
abbrev rmX1_deedAt : Room := { frames := 4, cells := 0, slots := 0, locals := 76 }
set_option maxHeartbeats 4000000 in
set_option maxRecDepth 100000 in
theorem t_X1_deedAt (l : Launch) (D : va_G) (J : Nat → ClassId) (h0 h1 h2 : Nat) (E : Enc) (a : Int) (ha : 0 ≤ a ∧ a < min (E.1 2) 200) (hE2 : 0 ≤ E.1 2 ∧ E.1 2 ≤ 99999) (hg : ∀ j, 0 ≤ E.2.2 j ∧ E.2.2 j ≤ 31) : ZX l yX1_deedAt wsX1_deedAt rmX1_deedAt D J [.ref h0, .int (iI a)] (wE J h0 h1 h2 E) (some (.int (iI ((cEnt E.1 E.2.2 a) / 2 ^ 3)))) (wE J h0 h1 h2 E) := by
  refine z_met (cc := cX1_deedAt) (nL := 2) (ret := (some .int)) (own := RX1) (by decide) rfl rfl (Nat.le_of_ble_eq_true rfl) (fun p e s m args below meth c hC hr hin => ?_)
  refine z_lv0 (lv' := [(0, .ref h0), (1, .int (iI a))]) rfl ?_
  refine z_aload_n hC dX1_deedAt_0 rfl 0 rfl ?_
  refine z_iload_n hC dX1_deedAt_1 rfl 1 rfl ?_
  refine z_callV (wr := ([] : va_W)) (av := [.int (iI a)]) (st := []) hC (t_X1_entry l D J h0 h1 h2 E a ha hE2) gX1_deedAt_X1_entry rfl 1 (by decide +kernel) ⟨Nat.le_of_ble_eq_true rfl, Nat.le_of_ble_eq_true rfl⟩ ⟨Nat.le_of_ble_eq_true rfl, Nat.le_of_ble_eq_true rfl⟩ [0, 1, 2] [] rfl rfl rfl (by decide) rfl 0 rfl rfl rfl rfl rfl (Nat.le_of_ble_eq_true rfl) dX1_deedAt_2 (fun _ _ => ?_)
  refine z_ws (ws' := wE J h0 h1 h2 E) rfl ?_
  refine z_st (st' := [.int (iI (cEnt E.1 E.2.2 a))]) rfl ?_
  have hent : 0 ≤ cEnt E.1 E.2.2 a ∧ cEnt E.1 E.2.2 a ≤ 31 := hg _
  refine z_iconst hC dX1_deedAt_5 ?_
  refine z_shr hC 3 (by decide) dX1_deedAt_6 (by omega) (by omega) ?_
  exact z_iret hC hr rfl () trivial (rfl) (by rfl) dX1_deedAt_7
theorem kX1_stepsOfGate_1 : Cond.methodLink RX1 125 Lib.Math.min.name ∈ wsX1_stepsOfGate := List.mem_of_getElem? (i := 1) rfl
theorem kX1_stepsOfGate_2 : Cond.static Lib.Math.min.name ∈ wsX1_stepsOfGate := List.mem_of_getElem? (i := 2) rfl
theorem kX1_stepsOfGate_3 : Cond.initialized "java/lang/Math" ∈ wsX1_stepsOfGate := List.mem_of_getElem? (i := 3) rfl
theorem kX1_stepsOfGate_4 : Cond.code Lib.Math.min.name Lib.Math.min.code 2 (some .int) ∈ wsX1_stepsOfGate := List.mem_of_getElem? (i := 4) rfl
abbrev rmX1_stepsOfGate : Room := { frames := 5, cells := 0, slots := 0, locals := 97 }
set_option maxHeartbeats 4000000 in
set_option maxRecDepth 100000 in
theorem t_X1_stepsOfGate (l : Launch) (D : va_G) (J : Nat → ClassId) (h0 h1 h2 : Nat) (E : Enc) (hI : InvE E) : ZX l yX1_stepsOfGate wsX1_stepsOfGate rmX1_stepsOfGate D J [.ref h0] (wE J h0 h1 h2 E) (some (.int (iI (cGate (E) (Int.toNat (min (E.2.1 3) (min (E.1 2) 200))))))) (wE J h0 h1 h2 E) := by
  obtain ⟨hE2, hE3, hE4, hE5, hE6, hE7, hE8, hE9, hE10, hE13, hE14, hE15, hs0, hs1, hs2, hs3, hs4, hg⟩ := id hI
  refine z_met (cc := cX1_stepsOfGate) (nL := 5) (ret := (some .int)) (own := RX1) (by decide) rfl rfl (Nat.le_of_ble_eq_true rfl) (fun p e s m args below meth c hC hr hin => ?_)
  refine z_lv0 (lv' := [(0, .ref h0)]) rfl ?_
  refine z_aload_n hC dX1_stepsOfGate_0 rfl 0 rfl ?_
  refine z_iconst hC dX1_stepsOfGate_1 ?_
  refine z_callV (wr := ([] : va_W)) (av := [.int (iI 3)]) (st := []) hC (t_X1_setting l D J h0 h1 h2 E 3 (by decide)) gX1_stepsOfGate_X1_setting rfl 1 (by decide +kernel) ⟨Nat.le_of_ble_eq_true rfl, Nat.le_of_ble_eq_true rfl⟩ ⟨Nat.le_of_ble_eq_true rfl, Nat.le_of_ble_eq_true rfl⟩ [0, 1, 2] [] rfl rfl rfl (by decide) rfl 0 rfl rfl rfl rfl rfl (Nat.le_of_ble_eq_true rfl) dX1_stepsOfGate_2 (fun _ _ => ?_)
  refine z_ws (ws' := wE J h0 h1 h2 E) rfl ?_
  refine z_st (st' := [.int (iI (E.2.1 3))]) rfl ?_
  refine z_aload_n hC dX1_stepsOfGate_5 rfl 0 rfl ?_
  refine z_callV (wr := ([] : va_W)) (av := []) (st := [.int (iI (E.2.1 3))]) hC (t_X1_logged l D J h0 h1 h2 E  hE2) gX1_stepsOfGate_X1_logged rfl 0 (by decide +kernel) ⟨Nat.le_of_ble_eq_true rfl, Nat.le_of_ble_eq_true rfl⟩ ⟨Nat.le_of_ble_eq_true rfl, Nat.le_of_ble_eq_true rfl⟩ [0, 1, 2] [] rfl rfl rfl (by decide) rfl 0 rfl rfl rfl rfl rfl (Nat.le_of_ble_eq_true rfl) dX1_stepsOfGate_6 (fun _ _ => ?_)
  refine z_ws (ws' := wE J h0 h1 h2 E) rfl ?_
  refine z_st (st' := [.int (iI (min (E.1 2) 200)), .int (iI (E.2.1 3))]) rfl ?_
  refine z_min hC kX1_stepsOfGate_1 kX1_stepsOfGate_2 kX1_stepsOfGate_3 kX1_stepsOfGate_4 (Nat.le_of_ble_eq_true rfl) (Nat.le_of_ble_eq_true rfl) ⟨Nat.le_of_ble_eq_true rfl, Nat.le_of_ble_eq_true rfl⟩ (by unfold inR; omega) (by unfold inR; omega) dX1_stepsOfGate_9 ?_
  generalize hL0 : min (E.2.1 3) (min (E.1 2) 200) = L0
  refine z_istore_n (lv' := [(1, .int (iI L0)), (0, .ref h0)]) hC dX1_stepsOfGate_12 rfl (by decide) rfl ?_
  refine z_iconst hC dX1_stepsOfGate_13 ?_
  refine z_istore_n (lv' := [(2, .int (iI 0)), (1, .int (iI L0)), (0, .ref h0)]) hC dX1_stepsOfGate_14 rfl (by decide) rfl ?_
  refine z_iconst hC dX1_stepsOfGate_15 ?_
  refine z_istore_n (lv' := [(3, .int (iI 0)), (2, .int (iI 0)), (1, .int (iI L0)), (0, .ref h0)]) hC dX1_stepsOfGate_16 rfl (by decide) rfl ?_
  refine z_lv (lv' := [(3, .int (iI 0)), (2, .int (iI 0)), (1, .int (iI L0)), (0, .ref h0)]) [0, 1, 2, 3] rfl ?_
  refine z_loop (α := Nat) (fun nn i => (i : Int) + (nn : Int) = L0) (fun nn i => wE J h0 h1 h2 E) (fun nn i => [(3, .int (iI (i : Int))), (2, .int (iI (cGate E i))), (1, .int (iI L0)), (0, .ref h0)]) 17 [] (fun nn i ih_1 hP_2 => ?_) (fun i hP_2 => ?_) L0.toNat 0 (by show ((0 : Nat) : Int) + _ = _; omega)
  · change Z _ _ _ _ _ _ _ _ _ _ _ _ _ _ _ _ (wE J h0 h1 h2 E) ([(3, .int (iI (i : Int))), (2, .int (iI (cGate E i))), (1, .int (iI L0)), (0, .ref h0)]) 17 ([])
    refine z_iload_n hC dX1_stepsOfGate_17 rfl 0 rfl ?_
    refine z_iload_n hC dX1_stepsOfGate_18 rfl 2 rfl ?_
    refine z_icmp_ge_f (tgt := 53) hC dX1_stepsOfGate_19 (by decide) (by unfold inR; omega) (by unfold inR; omega) (by omega) ?_
    refine z_aload_n hC dX1_stepsOfGate_22 rfl 3 rfl ?_
    refine z_iload_n hC dX1_stepsOfGate_23 rfl 0 rfl ?_
    refine z_callV (wr := ([] : va_W)) (av := [.int (iI (i : Int))]) (st := []) hC (t_X1_deedAt l D J h0 h1 h2 E (i : Int) ⟨by omega, by omega⟩ hE2 hg) gX1_stepsOfGate_X1_deedAt rfl 1 (by decide +kernel) ⟨Nat.le_of_ble_eq_true rfl, Nat.le_of_ble_eq_true rfl⟩ ⟨Nat.le_of_ble_eq_true rfl, Nat.le_of_ble_eq_true rfl⟩ [0, 1, 2] [] rfl rfl rfl (by decide) rfl 0 rfl rfl rfl rfl rfl (Nat.le_of_ble_eq_true rfl) dX1_stepsOfGate_24 (fun _ _ => ?_)
    refine z_ws (ws' := wE J h0 h1 h2 E) rfl ?_
    refine z_st (st' := [.int (iI ((cEnt E.1 E.2.2 (i : Int)) / 2 ^ 3))]) rfl ?_
    have hdat : 0 ≤ cDat E.1 E.2.2 (i : Int) ∧ cDat E.1 E.2.2 (i : Int) ≤ 3 := cDat_in hg _
    refine z_st (st' := [.int (iI (cDat E.1 E.2.2 (i : Int)))]) rfl ?_
    refine z_istore (lv' := [(4, .int (iI (cDat E.1 E.2.2 (i : Int)))), (3, .int (iI (i : Int))), (2, .int (iI (cGate E i))), (1, .int (iI L0)), (0, .ref h0)]) hC dX1_stepsOfGate_27 (by decide) rfl ?_
    refine z_iload hC dX1_stepsOfGate_29 0 rfl ?_
    refine z_iconst hC dX1_stepsOfGate_31 ?_
    refine z_icmp_ne (tgt := 38) hC dX1_stepsOfGate_32 (by decide) ⟨by omega, by omega⟩ ⟨by decide, by decide⟩ (fun c_32_3 => ?_) (fun c_32_3 => ?_)
    · refine z_iload hC dX1_stepsOfGate_38 0 rfl ?_
      refine z_iconst hC dX1_stepsOfGate_40 ?_
      refine z_icmp_ne (tgt := 47) hC dX1_stepsOfGate_41 (by decide) ⟨by omega, by omega⟩ ⟨by decide, by decide⟩ (fun c_41_4 => ?_) (fun c_41_4 => ?_)
      · refine z_iinc (lv' := [(3, .int (iI ((i : Int) + 1))), (4, .int (iI (cDat E.1 E.2.2 (i : Int)))), (2, .int (iI (cGate E i))), (1, .int (iI L0)), (0, .ref h0)]) hC dX1_stepsOfGate_47 1 rfl (by decide) rfl ?_
        refine z_goto (tgt := 17) hC dX1_stepsOfGate_50 (by decide) ?_
        have e2 : cGate E (i + 1) = cGate E i := by show (if _ then _ else if _ then _ else _) = _; (repeat' split) <;> first | rfl | omega
        refine z_lv0 (lv' := [(3, .int (iI ((i : Int) + 1))), (4, .int (iI (cDat E.1 E.2.2 (i : Int)))), (2, .int (iI (cGate E (i + 1)))), (1, .int (iI L0)), (0, .ref h0)]) (by rw [e2]) ?_
        refine z_lv (lv' := _) [0, 2, 3, 4] rfl ?_
        exact ih_1 (i + 1) (by omega)
      · refine z_iinc (lv' := [(2, .int (iI ((cGate E i) + (-1)))), (4, .int (iI (cDat E.1 E.2.2 (i : Int)))), (3, .int (iI (i : Int))), (1, .int (iI L0)), (0, .ref h0)]) hC dX1_stepsOfGate_44 2 rfl (by decide) rfl ?_
        refine z_iinc (lv' := [(3, .int (iI ((i : Int) + 1))), (2, .int (iI ((cGate E i) + (-1)))), (4, .int (iI (cDat E.1 E.2.2 (i : Int)))), (1, .int (iI L0)), (0, .ref h0)]) hC dX1_stepsOfGate_47 2 rfl (by decide) rfl ?_
        refine z_goto (tgt := 17) hC dX1_stepsOfGate_50 (by decide) ?_
        have e2 : cGate E (i + 1) = (cGate E i) + (-1) := by show (if _ then _ else if _ then _ else _) = _; (repeat' split) <;> first | rfl | omega
        refine z_lv0 (lv' := [(3, .int (iI ((i : Int) + 1))), (2, .int (iI (cGate E (i + 1)))), (4, .int (iI (cDat E.1 E.2.2 (i : Int)))), (1, .int (iI L0)), (0, .ref h0)]) (by rw [e2]) ?_
        refine z_lv (lv' := _) [0, 1, 3, 4] rfl ?_
        exact ih_1 (i + 1) (by omega)
    · refine z_iinc (lv' := [(2, .int (iI ((cGate E i) + 1))), (4, .int (iI (cDat E.1 E.2.2 (i : Int)))), (3, .int (iI (i : Int))), (1, .int (iI L0)), (0, .ref h0)]) hC dX1_stepsOfGate_35 2 rfl (by decide) rfl ?_
      refine z_iload hC dX1_stepsOfGate_38 1 rfl ?_
      refine z_iconst hC dX1_stepsOfGate_40 ?_
      refine z_icmp_ne_t (tgt := 47) hC dX1_stepsOfGate_41 (by decide) ⟨by omega, by omega⟩ ⟨by decide, by decide⟩ (by omega) ?_
      refine z_iinc (lv' := [(3, .int (iI ((i : Int) + 1))), (2, .int (iI ((cGate E i) + 1))), (4, .int (iI (cDat E.1 E.2.2 (i : Int)))), (1, .int (iI L0)), (0, .ref h0)]) hC dX1_stepsOfGate_47 2 rfl (by decide) rfl ?_
      refine z_goto (tgt := 17) hC dX1_stepsOfGate_50 (by decide) ?_
      have e2 : cGate E (i + 1) = (cGate E i) + 1 := by show (if _ then _ else if _ then _ else _) = _; (repeat' split) <;> first | rfl | omega
      refine z_lv0 (lv' := [(3, .int (iI ((i : Int) + 1))), (2, .int (iI (cGate E (i + 1)))), (4, .int (iI (cDat E.1 E.2.2 (i : Int)))), (1, .int (iI L0)), (0, .ref h0)]) (by rw [e2]) ?_
      refine z_lv (lv' := _) [0, 1, 3, 4] rfl ?_
      exact ih_1 (i + 1) (by omega)
  · change Z _ _ _ _ _ _ _ _ _ _ _ _ _ _ _ _ (wE J h0 h1 h2 E) ([(3, .int (iI (i : Int))), (2, .int (iI (cGate E i))), (1, .int (iI L0)), (0, .ref h0)]) 17 ([])
    refine z_iload_n hC dX1_stepsOfGate_17 rfl 0 rfl ?_
    refine z_iload_n hC dX1_stepsOfGate_18 rfl 2 rfl ?_
    refine z_icmp_ge_t (tgt := 53) hC dX1_stepsOfGate_19 (by decide) (by unfold inR; omega) (by unfold inR; omega) (by omega) ?_
    refine z_iload_n hC dX1_stepsOfGate_53 rfl 1 rfl ?_
    exact z_iret hC hr rfl () trivial (hvi (by congr 1; omega)) (by rfl) dX1_stepsOfGate_54
