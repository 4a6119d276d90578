set_option maxRecDepth 20000 in
theorem iX1_deedBy_X1 : ∀ w ∈ u_ws RX1 TX1 16, w ∈ wsX1_deedBy := zm_places _ [17, 18, 19, 20, 21, 22, 23, 24, 25, 26, 27, 28, 29, 30, 31, 32] (by decide +kernel)
theorem kX1_deedBy_1 : Cond.fieldLink RX1 37 "StepPairs$Encoder" "seen" "I" ∈ wsX1_deedBy := List.mem_of_getElem? (i := 1) rfl
abbrev rmX1_deedBy : Room := { frames := 1, cells := 0, slots := 0, locals := 21 }
set_option maxHeartbeats 4000000 in
set_option maxRecDepth 100000 in
theorem t_X1_deedBy (l : Launch) (D : va_G) (J : Nat → ClassId) (h0 h1 h2 : Nat) (E : Enc) (q : Int) (hq : 0 ≤ q ∧ q ≤ 3) (hE5 : 0 ≤ E.1 5 ∧ E.1 5 ≤ 3) (hE6 : 0 ≤ E.1 6 ∧ E.1 6 ≤ 3) (hE8 : 0 ≤ E.1 8 ∧ E.1 8 ≤ 99999) (hs2 : 1 ≤ E.2.1 2 ∧ E.2.1 2 ≤ 9) : ZX l yX1_deedBy wsX1_deedBy rmX1_deedBy D J [.ref h0, .int (iI q)] (wE J h0 h1 h2 E) (some (.int (iI (cDeed E.1 E.2.1 q)))) (wE J h0 h1 h2 E) := by
  refine z_met (cc := cX1_deedBy) (nL := 3) (ret := (some .int)) (own := RX1) (by decide) rfl rfl (Nat.le_of_ble_eq_true rfl) (fun p e s m args below meth c hC hr hin => ?_)
  refine z_lv0 (lv' := [(0, .ref h0), (1, .int (iI q))]) rfl ?_
  refine z_iload_n hC dX1_deedBy_0 rfl 1 rfl ?_
  refine z_aload_n hC dX1_deedBy_1 rfl 0 rfl ?_
  refine z_geti hC zkX1 iX1_deedBy_X1 0 rfl 5 (by decide) kX1_deedBy_1 rfl rfl dX1_deedBy_2 ?_
  refine z_icmp_eq (tgt := 21) hC dX1_deedBy_5 (by decide) (by unfold inR; omega) (by unfold inR; omega) (fun c_5_1 => ?_) (fun c_5_1 => ?_)
  · refine z_iconst hC dX1_deedBy_21 ?_
    exact z_iret hC hr rfl () trivial (hvi (by unfold cDeed; (repeat' split) <;> first | rfl | omega)) (by rfl) dX1_deedBy_22
  · refine z_aload_n hC dX1_deedBy_8 rfl 0 rfl ?_
    refine z_iload_n hC dX1_deedBy_9 rfl 1 rfl ?_
    refine z_callV (wr := ([] : va_W)) (av := [.int (iI q)]) (st := []) hC (t_X1_runWith l D J h0 h1 h2 E q hq hE6) gX1_deedBy_X1_runWith rfl 1 (by decide +kernel) ⟨Nat.le_of_ble_eq_true rfl, Nat.le_of_ble_eq_true rfl⟩ ⟨Nat.le_of_ble_eq_true rfl, Nat.le_of_ble_eq_true rfl⟩ [0, 1, 2] [] rfl rfl rfl (by decide) rfl 0 rfl rfl rfl rfl rfl (Nat.le_of_ble_eq_true rfl) dX1_deedBy_10 (fun _ _ => ?_)
    refine z_ws (ws' := wE J h0 h1 h2 E) rfl ?_
    refine z_st (st' := [.int (iI (cRun E.1 q))]) rfl ?_
    refine z_aload_n hC dX1_deedBy_13 rfl 0 rfl ?_
    refine z_iconst hC dX1_deedBy_14 ?_
    refine z_callV (wr := ([] : va_W)) (av := [.int (iI 2)]) (st := [.int (iI (cRun E.1 q))]) hC (t_X1_setting l D J h0 h1 h2 E 2 (by decide)) gX1_deedBy_X1_setting rfl 1 (by decide +kernel) ⟨Nat.le_of_ble_eq_true rfl, Nat.le_of_ble_eq_true rfl⟩ ⟨Nat.le_of_ble_eq_true rfl, Nat.le_of_ble_eq_true rfl⟩ [0, 1, 2] [] rfl rfl rfl (by decide) rfl 0 rfl rfl rfl rfl rfl (Nat.le_of_ble_eq_true rfl) dX1_deedBy_15 (fun _ _ => ?_)
    refine z_ws (ws' := wE J h0 h1 h2 E) rfl ?_
    refine z_st (st' := [.int (iI (E.2.1 2)), .int (iI (cRun E.1 q))]) rfl ?_
    refine z_icmp_ge (tgt := 23) hC dX1_deedBy_18 (by decide) (cRun_in hE8) (by unfold inR; omega) (fun c_18_2 => ?_) (fun c_18_2 => ?_)
    · refine z_iload_n hC dX1_deedBy_23 rfl 1 rfl ?_
      refine z_callS (wr := wE J h0 h1 h2 E) (av := [.int (iI q)]) (st := []) hC (t_X1_orderOf l D J q hq) gX1_deedBy_X1_orderOf rfl 1 (by decide +kernel) ⟨Nat.le_of_ble_eq_true rfl, Nat.le_of_ble_eq_true rfl⟩ ⟨Nat.le_of_ble_eq_true rfl, Nat.le_of_ble_eq_true rfl⟩ [] [0, 1, 2] rfl rfl rfl (by decide) rfl rfl rfl (Nat.le_of_ble_eq_true rfl) dX1_deedBy_24 (fun _ _ => ?_)
      refine z_ws (ws' := wE J h0 h1 h2 E) rfl ?_
      refine z_st (st' := [.int (iI (ordP q))]) rfl ?_
      refine z_aload_n hC dX1_deedBy_27 rfl 0 rfl ?_
      refine z_geti hC zkX1 iX1_deedBy_X1 0 rfl 5 (by decide) kX1_deedBy_1 rfl rfl dX1_deedBy_28 ?_
      refine z_callS (wr := wE J h0 h1 h2 E) (av := [.int (iI (E.1 5))]) (st := [.int (iI (ordP q))]) hC (t_X1_orderOf l D J (E.1 5) hE5) gX1_deedBy_X1_orderOf rfl 1 (by decide +kernel) ⟨Nat.le_of_ble_eq_true rfl, Nat.le_of_ble_eq_true rfl⟩ ⟨Nat.le_of_ble_eq_true rfl, Nat.le_of_ble_eq_true rfl⟩ [] [0, 1, 2] rfl rfl rfl (by decide) rfl rfl rfl (Nat.le_of_ble_eq_true rfl) dX1_deedBy_31 (fun _ _ => ?_)
      refine z_ws (ws' := wE J h0 h1 h2 E) rfl ?_
      refine z_st (st' := [.int (iI (ordP (E.1 5))), .int (iI (ordP q))]) rfl ?_
      refine z_isub hC dX1_deedBy_34 ?_
      refine z_iconst hC dX1_deedBy_35 ?_
      refine z_and3 hC dX1_deedBy_36 ?_
      refine z_istore_n (lv' := [(2, .int (iI (((ordP q) - (ordP (E.1 5))) % 4))), (0, .ref h0), (1, .int (iI q))]) hC dX1_deedBy_37 rfl (by decide) rfl ?_
      refine z_iload_n hC dX1_deedBy_38 rfl 0 rfl ?_
      refine z_iconst hC dX1_deedBy_39 ?_
      refine z_icmp_ne (tgt := 45) hC dX1_deedBy_40 (by decide) (by unfold inR; omega) ⟨by decide, by decide⟩ (fun c_40_3 => ?_) (fun c_40_3 => ?_)
      · refine z_iload_n hC dX1_deedBy_45 rfl 0 rfl ?_
        refine z_iconst hC dX1_deedBy_46 ?_
        refine z_icmp_ne (tgt := 54) hC dX1_deedBy_47 (by decide) (by unfold inR; omega) ⟨by decide, by decide⟩ (fun c_47_4 => ?_) (fun c_47_4 => ?_)
        · refine z_iconst hC dX1_deedBy_54 ?_
          exact z_iret hC hr rfl () trivial (hvi (by unfold cDeed; (repeat' split) <;> first | rfl | omega)) (by rfl) dX1_deedBy_55
        · refine z_iconst hC dX1_deedBy_50 ?_
          refine z_goto (tgt := 55) hC dX1_deedBy_51 (by decide) ?_
          exact z_iret hC hr rfl () trivial (hvi (by unfold cDeed; (repeat' split) <;> first | rfl | omega)) (by rfl) dX1_deedBy_55
      · refine z_iconst hC dX1_deedBy_43 ?_
        exact z_iret hC hr rfl () trivial (hvi (by unfold cDeed; (repeat' split) <;> first | rfl | omega)) (by rfl) dX1_deedBy_44
    · refine z_iconst hC dX1_deedBy_21 ?_
      exact z_iret hC hr rfl () trivial (hvi (by unfold cDeed; (repeat' split) <;> first | rfl | omega)) (by rfl) dX1_deedBy_22
set_option maxRecDepth 20000 in
theorem iX1_step_X1 : ∀ w ∈ u_ws RX1 TX1 16, w ∈ wsX1_step := zm_places _ [18, 19, 20, 21, 22, 23, 24, 25, 26, 27, 28, 29, 30, 31, 32, 33] (by decide +kernel)
theorem kX1_step_2 : Cond.fieldLink RX1 55 "StepPairs$Encoder" "backwards" "I" ∈ wsX1_step := List.mem_of_getElem? (i := 2) rfl
theorem kX1_step_3 : Cond.fieldLink RX1 31 "StepPairs$Encoder" "count" "I" ∈ wsX1_step := List.mem_of_getElem? (i := 3) rfl
theorem kX1_step_4 : Cond.fieldLink RX1 34 "StepPairs$Encoder" "place" "I" ∈ wsX1_step := List.mem_of_getElem? (i := 4) rfl
theorem kX1_step_5 : Cond.fieldLink RX1 49 "StepPairs$Encoder" "direction" "I" ∈ wsX1_step := List.mem_of_getElem? (i := 5) rfl
theorem kX1_step_8 : Cond.fieldLink RX1 67 "StepPairs$Encoder" "period" "I" ∈ wsX1_step := List.mem_of_getElem? (i := 8) rfl
theorem kX1_step_6 : Cond.fieldLink RX1 27 "StepPairs$Encoder" "ticks" "I" ∈ wsX1_step := List.mem_of_getElem? (i := 6) rfl
theorem kX1_step_7 : Cond.fieldLink RX1 64 "StepPairs$Encoder" "tickOfLatestStep" "I" ∈ wsX1_step := List.mem_of_getElem? (i := 7) rfl
theorem kX1_step_1 : Cond.fieldLink RX1 52 "StepPairs$Encoder" "forwards" "I" ∈ wsX1_step := List.mem_of_getElem? (i := 1) rfl
abbrev rmX1_step : Room := { frames := 1, cells := 0, slots := 0, locals := 21 }
set_option maxHeartbeats 4000000 in
set_option maxRecDepth 100000 in
theorem t_X1_step (l : Launch) (D : va_G) (J : Nat → ClassId) (h0 h1 h2 : Nat) (E : Enc) (w0 : Int) (hw : w0 = 1 ∨ w0 = 2) (hE2 : 0 ≤ E.1 2 ∧ E.1 2 ≤ 99999) (hE3 : 0 ≤ E.1 3 ∧ E.1 3 < E.2.1 1) (hE4 : 0 ≤ E.1 4 ∧ E.1 4 < E.2.1 0) (hE9 : 0 ≤ E.1 9 ∧ E.1 9 ≤ 2) (hs0 : 4 ≤ E.2.1 0 ∧ E.2.1 0 ≤ 400) (hs1 : 10 ≤ E.2.1 1 ∧ E.2.1 1 ≤ 9999) : ZX l yX1_step wsX1_step rmX1_step D J [.ref h0, .int (iI w0)] (wE J h0 h1 h2 E) none (wE J h0 h1 h2 (cStep E.1 E.2.1 w0, E.2.1, E.2.2)) := by
  refine z_met (cc := cX1_step) (nL := 3) (ret := none) (own := RX1) (by decide) rfl rfl (Nat.le_of_ble_eq_true rfl) (fun p e s m args below meth c hC hr hin => ?_)
  refine z_lv0 (lv' := [(0, .ref h0), (1, .int (iI w0))]) rfl ?_
  refine z_iload_n hC dX1_step_0 rfl 1 rfl ?_
  refine z_iconst hC dX1_step_1 ?_
  refine z_icmp_ne (tgt := 9) hC dX1_step_2 (by decide) (by unfold inR; omega) ⟨by decide, by decide⟩ (fun c_2_1 => ?_) (fun c_2_1 => ?_)
  · refine z_iconst hC dX1_step_9 ?_
    refine z_istore_n (lv' := [(2, .int (iI (-1))), (0, .ref h0), (1, .int (iI w0))]) hC dX1_step_10 rfl (by decide) rfl ?_
    refine z_iload_n hC dX1_step_11 rfl 2 rfl ?_
    refine z_iconst hC dX1_step_12 ?_
    refine z_icmp_ne_t (tgt := 29) hC dX1_step_13 (by decide) (by unfold inR; omega) ⟨by decide, by decide⟩ (by omega) ?_
    refine z_aload_n hC dX1_step_29 rfl 1 rfl ?_
    refine z_dup hC dX1_step_30 rfl ?_
    refine z_geti hC zkX1 iX1_step_X1 0 rfl 11 (by decide) kX1_step_2 rfl rfl dX1_step_31 ?_
    refine z_iconst hC dX1_step_34 ?_
    refine z_iadd hC dX1_step_35 ?_
    refine z_puti (ws' := wE J h0 h1 h2 (updZ E.1 11 ((E.1 11) + 1), E.2.1, E.2.2)) hC zkX1 iX1_step_X1 0 rfl 11 (by decide) kX1_step_2 rfl rfl rfl rfl rfl rfl dX1_step_36 rfl ?_
    refine z_aload_n hC dX1_step_39 rfl 1 rfl ?_
    refine z_aload_n hC dX1_step_40 rfl 1 rfl ?_
    refine z_geti hC zkX1 iX1_step_X1 0 rfl 3 (by decide) kX1_step_3 rfl rfl dX1_step_41 ?_
    refine z_int (y := iI (E.1 3)) hC (rfl) ?_
    refine z_iload_n hC dX1_step_44 rfl 0 rfl ?_
    refine z_iadd hC dX1_step_45 ?_
    refine z_aload_n hC dX1_step_46 rfl 1 rfl ?_
    refine z_iconst hC dX1_step_47 ?_
    refine z_callV (wr := ([] : va_W)) (av := [.int (iI 1)]) (st := [.int (iI ((E.1 3) + (-1))), .ref h0]) hC (t_X1_setting l D J h0 h1 h2 (updZ E.1 11 ((E.1 11) + 1), E.2.1, E.2.2) 1 (by decide)) gX1_step_X1_setting rfl 1 (by decide +kernel) ⟨Nat.le_of_ble_eq_true rfl, Nat.le_of_ble_eq_true rfl⟩ ⟨Nat.le_of_ble_eq_true rfl, Nat.le_of_ble_eq_true rfl⟩ [0, 1, 2] [] rfl rfl rfl (by decide) rfl 0 rfl rfl rfl rfl rfl (Nat.le_of_ble_eq_true rfl) dX1_step_48 (fun _ _ => ?_)
    refine z_ws (ws' := wE J h0 h1 h2 (updZ E.1 11 ((E.1 11) + 1), E.2.1, E.2.2)) rfl ?_
    refine z_st (st' := [.int (iI (E.2.1 1)), .int (iI ((E.1 3) + (-1))), .ref h0]) rfl ?_
    refine z_callS (wr := wE J h0 h1 h2 (updZ E.1 11 ((E.1 11) + 1), E.2.1, E.2.2)) (av := [.int (iI ((E.1 3) + (-1))), .int (iI (E.2.1 1))]) (st := [.ref h0]) hC (t_X1_leftOver l D J ((E.1 3) + (-1)) (E.2.1 1) ⟨by omega, by omega⟩ ⟨by omega, by omega⟩) gX1_step_X1_leftOver rfl 2 (by decide +kernel) ⟨Nat.le_of_ble_eq_true rfl, Nat.le_of_ble_eq_true rfl⟩ ⟨Nat.le_of_ble_eq_true rfl, Nat.le_of_ble_eq_true rfl⟩ [] [0, 1, 2] rfl rfl rfl (by decide) rfl rfl rfl (Nat.le_of_ble_eq_true rfl) dX1_step_51 (fun _ _ => ?_)
    refine z_ws (ws' := wE J h0 h1 h2 (updZ E.1 11 ((E.1 11) + 1), E.2.1, E.2.2)) rfl ?_
    refine z_st (st' := [.int (iI (leftO ((E.1 3) + (-1)) (E.2.1 1))), .ref h0]) rfl ?_
    refine z_puti (ws' := wE J h0 h1 h2 (updZ (updZ E.1 11 ((E.1 11) + 1)) 3 (leftO ((E.1 3) + (-1)) (E.2.1 1)), E.2.1, E.2.2)) hC zkX1 iX1_step_X1 0 rfl 3 (by decide) kX1_step_3 rfl rfl rfl rfl rfl rfl dX1_step_54 rfl ?_
    refine z_aload_n hC dX1_step_57 rfl 1 rfl ?_
    refine z_aload_n hC dX1_step_58 rfl 1 rfl ?_
    refine z_geti hC zkX1 iX1_step_X1 0 rfl 4 (by decide) kX1_step_4 rfl rfl dX1_step_59 ?_
    refine z_int (y := iI (E.1 4)) hC (rfl) ?_
    refine z_iload_n hC dX1_step_62 rfl 0 rfl ?_
    refine z_iadd hC dX1_step_63 ?_
    refine z_aload_n hC dX1_step_64 rfl 1 rfl ?_
    refine z_iconst hC dX1_step_65 ?_
    refine z_callV (wr := ([] : va_W)) (av := [.int (iI 0)]) (st := [.int (iI ((E.1 4) + (-1))), .ref h0]) hC (t_X1_setting l D J h0 h1 h2 (updZ (updZ E.1 11 ((E.1 11) + 1)) 3 (leftO ((E.1 3) + (-1)) (E.2.1 1)), E.2.1, E.2.2) 0 (by decide)) gX1_step_X1_setting rfl 1 (by decide +kernel) ⟨Nat.le_of_ble_eq_true rfl, Nat.le_of_ble_eq_true rfl⟩ ⟨Nat.le_of_ble_eq_true rfl, Nat.le_of_ble_eq_true rfl⟩ [0, 1, 2] [] rfl rfl rfl (by decide) rfl 0 rfl rfl rfl rfl rfl (Nat.le_of_ble_eq_true rfl) dX1_step_66 (fun _ _ => ?_)
    refine z_ws (ws' := wE J h0 h1 h2 (updZ (updZ E.1 11 ((E.1 11) + 1)) 3 (leftO ((E.1 3) + (-1)) (E.2.1 1)), E.2.1, E.2.2)) rfl ?_
    refine z_st (st' := [.int (iI (E.2.1 0)), .int (iI ((E.1 4) + (-1))), .ref h0]) rfl ?_
    refine z_callS (wr := wE J h0 h1 h2 (updZ (updZ E.1 11 ((E.1 11) + 1)) 3 (leftO ((E.1 3) + (-1)) (E.2.1 1)), E.2.1, E.2.2)) (av := [.int (iI ((E.1 4) + (-1))), .int (iI (E.2.1 0))]) (st := [.ref h0]) hC (t_X1_leftOver l D J ((E.1 4) + (-1)) (E.2.1 0) ⟨by omega, by omega⟩ ⟨by omega, by omega⟩) gX1_step_X1_leftOver rfl 2 (by decide +kernel) ⟨Nat.le_of_ble_eq_true rfl, Nat.le_of_ble_eq_true rfl⟩ ⟨Nat.le_of_ble_eq_true rfl, Nat.le_of_ble_eq_true rfl⟩ [] [0, 1, 2] rfl rfl rfl (by decide) rfl rfl rfl (Nat.le_of_ble_eq_true rfl) dX1_step_69 (fun _ _ => ?_)
    refine z_ws (ws' := wE J h0 h1 h2 (updZ (updZ E.1 11 ((E.1 11) + 1)) 3 (leftO ((E.1 3) + (-1)) (E.2.1 1)), E.2.1, E.2.2)) rfl ?_
    refine z_st (st' := [.int (iI (leftO ((E.1 4) + (-1)) (E.2.1 0))), .ref h0]) rfl ?_
    refine z_puti (ws' := wE J h0 h1 h2 (updZ (updZ (updZ E.1 11 ((E.1 11) + 1)) 3 (leftO ((E.1 3) + (-1)) (E.2.1 1))) 4 (leftO ((E.1 4) + (-1)) (E.2.1 0)), E.2.1, E.2.2)) hC zkX1 iX1_step_X1 0 rfl 4 (by decide) kX1_step_4 rfl rfl rfl rfl rfl rfl dX1_step_72 rfl ?_
    refine z_aload_n hC dX1_step_75 rfl 1 rfl ?_
    refine z_iload_n hC dX1_step_76 rfl 2 rfl ?_
    refine z_aload_n hC dX1_step_77 rfl 1 rfl ?_
    refine z_geti hC zkX1 iX1_step_X1 0 rfl 9 (by decide) kX1_step_5 rfl rfl dX1_step_78 ?_
    refine z_int (y := iI (E.1 9)) hC (rfl) ?_
    refine z_icmp_ne (tgt := 96) hC dX1_step_81 (by decide) (by unfold inR; omega) (by unfold inR; omega) (fun c_81_2 => ?_) (fun c_81_2 => ?_)
    · refine z_iconst hC dX1_step_96 ?_
      refine z_puti (ws' := wE J h0 h1 h2 (updZ (updZ (updZ (updZ E.1 11 ((E.1 11) + 1)) 3 (leftO ((E.1 3) + (-1)) (E.2.1 1))) 4 (leftO ((E.1 4) + (-1)) (E.2.1 0))) 15 0, E.2.1, E.2.2)) hC zkX1 iX1_step_X1 0 rfl 15 (by decide) kX1_step_8 rfl rfl rfl rfl rfl rfl dX1_step_97 rfl ?_
      refine z_aload_n hC dX1_step_100 rfl 1 rfl ?_
      refine z_iload_n hC dX1_step_101 rfl 2 rfl ?_
      refine z_puti (ws' := wE J h0 h1 h2 (updZ (updZ (updZ (updZ (updZ E.1 11 ((E.1 11) + 1)) 3 (leftO ((E.1 3) + (-1)) (E.2.1 1))) 4 (leftO ((E.1 4) + (-1)) (E.2.1 0))) 15 0) 9 w0, E.2.1, E.2.2)) hC zkX1 iX1_step_X1 0 rfl 9 (by decide) kX1_step_5 rfl rfl rfl rfl rfl rfl dX1_step_102 rfl ?_
      refine z_aload_n hC dX1_step_105 rfl 1 rfl ?_
      refine z_aload_n hC dX1_step_106 rfl 1 rfl ?_
      refine z_geti hC zkX1 iX1_step_X1 0 rfl 2 (by decide) kX1_step_6 rfl rfl dX1_step_107 ?_
      refine z_int (y := iI (E.1 2)) hC (rfl) ?_
      refine z_puti (ws' := wE J h0 h1 h2 (updZ (updZ (updZ (updZ (updZ (updZ E.1 11 ((E.1 11) + 1)) 3 (leftO ((E.1 3) + (-1)) (E.2.1 1))) 4 (leftO ((E.1 4) + (-1)) (E.2.1 0))) 15 0) 9 w0) 14 (E.1 2), E.2.1, E.2.2)) hC zkX1 iX1_step_X1 0 rfl 14 (by decide) kX1_step_7 rfl rfl rfl rfl rfl rfl dX1_step_110 rfl ?_
      exact z_vret hC hr () trivial rfl (congrArg (wE J h0 h1 h2) (by unfold cStep; (repeat' split) <;> first | rfl | omega)) dX1_step_113
    · refine z_aload_n hC dX1_step_84 rfl 1 rfl ?_
      refine z_geti hC zkX1 iX1_step_X1 0 rfl 2 (by decide) kX1_step_6 rfl rfl dX1_step_85 ?_
      refine z_int (y := iI (E.1 2)) hC (rfl) ?_
      refine z_aload_n hC dX1_step_88 rfl 1 rfl ?_
      refine z_geti hC zkX1 iX1_step_X1 0 rfl 14 (by decide) kX1_step_7 rfl rfl dX1_step_89 ?_
      refine z_int (y := iI (E.1 14)) hC (rfl) ?_
      refine z_isub hC dX1_step_92 ?_
      refine z_goto (tgt := 97) hC dX1_step_93 (by decide) ?_
      refine z_puti (ws' := wE J h0 h1 h2 (updZ (updZ (updZ (updZ E.1 11 ((E.1 11) + 1)) 3 (leftO ((E.1 3) + (-1)) (E.2.1 1))) 4 (leftO ((E.1 4) + (-1)) (E.2.1 0))) 15 ((E.1 2) - (E.1 14)), E.2.1, E.2.2)) hC zkX1 iX1_step_X1 0 rfl 15 (by decide) kX1_step_8 rfl rfl rfl rfl rfl rfl dX1_step_97 rfl ?_
      refine z_aload_n hC dX1_step_100 rfl 1 rfl ?_
      refine z_iload_n hC dX1_step_101 rfl 2 rfl ?_
      refine z_puti (ws' := wE J h0 h1 h2 (updZ (updZ (updZ (updZ (updZ E.1 11 ((E.1 11) + 1)) 3 (leftO ((E.1 3) + (-1)) (E.2.1 1))) 4 (leftO ((E.1 4) + (-1)) (E.2.1 0))) 15 ((E.1 2) - (E.1 14))) 9 w0, E.2.1, E.2.2)) hC zkX1 iX1_step_X1 0 rfl 9 (by decide) kX1_step_5 rfl rfl rfl rfl rfl rfl dX1_step_102 rfl ?_
      refine z_aload_n hC dX1_step_105 rfl 1 rfl ?_
      refine z_aload_n hC dX1_step_106 rfl 1 rfl ?_
      refine z_geti hC zkX1 iX1_step_X1 0 rfl 2 (by decide) kX1_step_6 rfl rfl dX1_step_107 ?_
      refine z_int (y := iI (E.1 2)) hC (rfl) ?_
      refine z_puti (ws' := wE J h0 h1 h2 (updZ (updZ (updZ (updZ (updZ (updZ E.1 11 ((E.1 11) + 1)) 3 (leftO ((E.1 3) + (-1)) (E.2.1 1))) 4 (leftO ((E.1 4) + (-1)) (E.2.1 0))) 15 ((E.1 2) - (E.1 14))) 9 w0) 14 (E.1 2), E.2.1, E.2.2)) hC zkX1 iX1_step_X1 0 rfl 14 (by decide) kX1_step_7 rfl rfl rfl rfl rfl rfl dX1_step_110 rfl ?_
      exact z_vret hC hr () trivial rfl (congrArg (wE J h0 h1 h2) (by unfold cStep; (repeat' split) <;> first | rfl | omega)) dX1_step_113
  · refine z_iconst hC dX1_step_5 ?_
    refine z_goto (tgt := 10) hC dX1_step_6 (by decide) ?_
    refine z_istore_n (lv' := [(2, .int (iI 1)), (0, .ref h0), (1, .int (iI w0))]) hC dX1_step_10 rfl (by decide) rfl ?_
    refine z_iload_n hC dX1_step_11 rfl 2 rfl ?_
    refine z_iconst hC dX1_step_12 ?_
    refine z_icmp_ne_f (tgt := 29) hC dX1_step_13 (by decide) (by unfold inR; omega) ⟨by decide, by decide⟩ (by omega) ?_
    refine z_aload_n hC dX1_step_16 rfl 1 rfl ?_
    refine z_dup hC dX1_step_17 rfl ?_
    refine z_geti hC zkX1 iX1_step_X1 0 rfl 10 (by decide) kX1_step_1 rfl rfl dX1_step_18 ?_
    refine z_iconst hC dX1_step_21 ?_
    refine z_iadd hC dX1_step_22 ?_
    refine z_puti (ws' := wE J h0 h1 h2 (updZ E.1 10 ((E.1 10) + 1), E.2.1, E.2.2)) hC zkX1 iX1_step_X1 0 rfl 10 (by decide) kX1_step_1 rfl rfl rfl rfl rfl rfl dX1_step_23 rfl ?_
    refine z_goto (tgt := 39) hC dX1_step_26 (by decide) ?_
    refine z_aload_n hC dX1_step_39 rfl 1 rfl ?_
    refine z_aload_n hC dX1_step_40 rfl 1 rfl ?_
    refine z_geti hC zkX1 iX1_step_X1 0 rfl 3 (by decide) kX1_step_3 rfl rfl dX1_step_41 ?_
    refine z_int (y := iI (E.1 3)) hC (rfl) ?_
    refine z_iload_n hC dX1_step_44 rfl 0 rfl ?_
    refine z_iadd hC dX1_step_45 ?_
    refine z_aload_n hC dX1_step_46 rfl 1 rfl ?_
    refine z_iconst hC dX1_step_47 ?_
    refine z_callV (wr := ([] : va_W)) (av := [.int (iI 1)]) (st := [.int (iI ((E.1 3) + 1)), .ref h0]) hC (t_X1_setting l D J h0 h1 h2 (updZ E.1 10 ((E.1 10) + 1), E.2.1, E.2.2) 1 (by decide)) gX1_step_X1_setting rfl 1 (by decide +kernel) ⟨Nat.le_of_ble_eq_true rfl, Nat.le_of_ble_eq_true rfl⟩ ⟨Nat.le_of_ble_eq_true rfl, Nat.le_of_ble_eq_true rfl⟩ [0, 1, 2] [] rfl rfl rfl (by decide) rfl 0 rfl rfl rfl rfl rfl (Nat.le_of_ble_eq_true rfl) dX1_step_48 (fun _ _ => ?_)
    refine z_ws (ws' := wE J h0 h1 h2 (updZ E.1 10 ((E.1 10) + 1), E.2.1, E.2.2)) rfl ?_
    refine z_st (st' := [.int (iI (E.2.1 1)), .int (iI ((E.1 3) + 1)), .ref h0]) rfl ?_
    refine z_callS (wr := wE J h0 h1 h2 (updZ E.1 10 ((E.1 10) + 1), E.2.1, E.2.2)) (av := [.int (iI ((E.1 3) + 1)), .int (iI (E.2.1 1))]) (st := [.ref h0]) hC (t_X1_leftOver l D J ((E.1 3) + 1) (E.2.1 1) ⟨by omega, by omega⟩ ⟨by omega, by omega⟩) gX1_step_X1_leftOver rfl 2 (by decide +kernel) ⟨Nat.le_of_ble_eq_true rfl, Nat.le_of_ble_eq_true rfl⟩ ⟨Nat.le_of_ble_eq_true rfl, Nat.le_of_ble_eq_true rfl⟩ [] [0, 1, 2] rfl rfl rfl (by decide) rfl rfl rfl (Nat.le_of_ble_eq_true rfl) dX1_step_51 (fun _ _ => ?_)
    refine z_ws (ws' := wE J h0 h1 h2 (updZ E.1 10 ((E.1 10) + 1), E.2.1, E.2.2)) rfl ?_
    refine z_st (st' := [.int (iI (leftO ((E.1 3) + 1) (E.2.1 1))), .ref h0]) rfl ?_
    refine z_puti (ws' := wE J h0 h1 h2 (updZ (updZ E.1 10 ((E.1 10) + 1)) 3 (leftO ((E.1 3) + 1) (E.2.1 1)), E.2.1, E.2.2)) hC zkX1 iX1_step_X1 0 rfl 3 (by decide) kX1_step_3 rfl rfl rfl rfl rfl rfl dX1_step_54 rfl ?_
    refine z_aload_n hC dX1_step_57 rfl 1 rfl ?_
    refine z_aload_n hC dX1_step_58 rfl 1 rfl ?_
    refine z_geti hC zkX1 iX1_step_X1 0 rfl 4 (by decide) kX1_step_4 rfl rfl dX1_step_59 ?_
    refine z_int (y := iI (E.1 4)) hC (rfl) ?_
    refine z_iload_n hC dX1_step_62 rfl 0 rfl ?_
    refine z_iadd hC dX1_step_63 ?_
    refine z_aload_n hC dX1_step_64 rfl 1 rfl ?_
    refine z_iconst hC dX1_step_65 ?_
    refine z_callV (wr := ([] : va_W)) (av := [.int (iI 0)]) (st := [.int (iI ((E.1 4) + 1)), .ref h0]) hC (t_X1_setting l D J h0 h1 h2 (updZ (updZ E.1 10 ((E.1 10) + 1)) 3 (leftO ((E.1 3) + 1) (E.2.1 1)), E.2.1, E.2.2) 0 (by decide)) gX1_step_X1_setting rfl 1 (by decide +kernel) ⟨Nat.le_of_ble_eq_true rfl, Nat.le_of_ble_eq_true rfl⟩ ⟨Nat.le_of_ble_eq_true rfl, Nat.le_of_ble_eq_true rfl⟩ [0, 1, 2] [] rfl rfl rfl (by decide) rfl 0 rfl rfl rfl rfl rfl (Nat.le_of_ble_eq_true rfl) dX1_step_66 (fun _ _ => ?_)
    refine z_ws (ws' := wE J h0 h1 h2 (updZ (updZ E.1 10 ((E.1 10) + 1)) 3 (leftO ((E.1 3) + 1) (E.2.1 1)), E.2.1, E.2.2)) rfl ?_
    refine z_st (st' := [.int (iI (E.2.1 0)), .int (iI ((E.1 4) + 1)), .ref h0]) rfl ?_
    refine z_callS (wr := wE J h0 h1 h2 (updZ (updZ E.1 10 ((E.1 10) + 1)) 3 (leftO ((E.1 3) + 1) (E.2.1 1)), E.2.1, E.2.2)) (av := [.int (iI ((E.1 4) + 1)), .int (iI (E.2.1 0))]) (st := [.ref h0]) hC (t_X1_leftOver l D J ((E.1 4) + 1) (E.2.1 0) ⟨by omega, by omega⟩ ⟨by omega, by omega⟩) gX1_step_X1_leftOver rfl 2 (by decide +kernel) ⟨Nat.le_of_ble_eq_true rfl, Nat.le_of_ble_eq_true rfl⟩ ⟨Nat.le_of_ble_eq_true rfl, Nat.le_of_ble_eq_true rfl⟩ [] [0, 1, 2] rfl rfl rfl (by decide) rfl rfl rfl (Nat.le_of_ble_eq_true rfl) dX1_step_69 (fun _ _ => ?_)
    refine z_ws (ws' := wE J h0 h1 h2 (updZ (updZ E.1 10 ((E.1 10) + 1)) 3 (leftO ((E.1 3) + 1) (E.2.1 1)), E.2.1, E.2.2)) rfl ?_
    refine z_st (st' := [.int (iI (leftO ((E.1 4) + 1) (E.2.1 0))), .ref h0]) rfl ?_
    refine z_puti (ws' := wE J h0 h1 h2 (updZ (updZ (updZ E.1 10 ((E.1 10) + 1)) 3 (leftO ((E.1 3) + 1) (E.2.1 1))) 4 (leftO ((E.1 4) + 1) (E.2.1 0)), E.2.1, E.2.2)) hC zkX1 iX1_step_X1 0 rfl 4 (by decide) kX1_step_4 rfl rfl rfl rfl rfl rfl dX1_step_72 rfl ?_
    refine z_aload_n hC dX1_step_75 rfl 1 rfl ?_
    refine z_iload_n hC dX1_step_76 rfl 2 rfl ?_
    refine z_aload_n hC dX1_step_77 rfl 1 rfl ?_
    refine z_geti hC zkX1 iX1_step_X1 0 rfl 9 (by decide) kX1_step_5 rfl rfl dX1_step_78 ?_
    refine z_int (y := iI (E.1 9)) hC (rfl) ?_
    refine z_icmp_ne (tgt := 96) hC dX1_step_81 (by decide) (by unfold inR; omega) (by unfold inR; omega) (fun c_81_3 => ?_) (fun c_81_3 => ?_)
    · refine z_iconst hC dX1_step_96 ?_
      refine z_puti (ws' := wE J h0 h1 h2 (updZ (updZ (updZ (updZ E.1 10 ((E.1 10) + 1)) 3 (leftO ((E.1 3) + 1) (E.2.1 1))) 4 (leftO ((E.1 4) + 1) (E.2.1 0))) 15 0, E.2.1, E.2.2)) hC zkX1 iX1_step_X1 0 rfl 15 (by decide) kX1_step_8 rfl rfl rfl rfl rfl rfl dX1_step_97 rfl ?_
      refine z_aload_n hC dX1_step_100 rfl 1 rfl ?_
      refine z_iload_n hC dX1_step_101 rfl 2 rfl ?_
      refine z_puti (ws' := wE J h0 h1 h2 (updZ (updZ (updZ (updZ (updZ E.1 10 ((E.1 10) + 1)) 3 (leftO ((E.1 3) + 1) (E.2.1 1))) 4 (leftO ((E.1 4) + 1) (E.2.1 0))) 15 0) 9 w0, E.2.1, E.2.2)) hC zkX1 iX1_step_X1 0 rfl 9 (by decide) kX1_step_5 rfl rfl rfl rfl rfl rfl dX1_step_102 rfl ?_
      refine z_aload_n hC dX1_step_105 rfl 1 rfl ?_
      refine z_aload_n hC dX1_step_106 rfl 1 rfl ?_
      refine z_geti hC zkX1 iX1_step_X1 0 rfl 2 (by decide) kX1_step_6 rfl rfl dX1_step_107 ?_
      refine z_int (y := iI (E.1 2)) hC (rfl) ?_
      refine z_puti (ws' := wE J h0 h1 h2 (updZ (updZ (updZ (updZ (updZ (updZ E.1 10 ((E.1 10) + 1)) 3 (leftO ((E.1 3) + 1) (E.2.1 1))) 4 (leftO ((E.1 4) + 1) (E.2.1 0))) 15 0) 9 w0) 14 (E.1 2), E.2.1, E.2.2)) hC zkX1 iX1_step_X1 0 rfl 14 (by decide) kX1_step_7 rfl rfl rfl rfl rfl rfl dX1_step_110 rfl ?_
      exact z_vret hC hr () trivial rfl (congrArg (wE J h0 h1 h2) (by unfold cStep; (repeat' split) <;> first | rfl | omega)) dX1_step_113
    · refine z_aload_n hC dX1_step_84 rfl 1 rfl ?_
      refine z_geti hC zkX1 iX1_step_X1 0 rfl 2 (by decide) kX1_step_6 rfl rfl dX1_step_85 ?_
      refine z_int (y := iI (E.1 2)) hC (rfl) ?_
      refine z_aload_n hC dX1_step_88 rfl 1 rfl ?_
      refine z_geti hC zkX1 iX1_step_X1 0 rfl 14 (by decide) kX1_step_7 rfl rfl dX1_step_89 ?_
      refine z_int (y := iI (E.1 14)) hC (rfl) ?_
      refine z_isub hC dX1_step_92 ?_
      refine z_goto (tgt := 97) hC dX1_step_93 (by decide) ?_
      refine z_puti (ws' := wE J h0 h1 h2 (updZ (updZ (updZ (updZ E.1 10 ((E.1 10) + 1)) 3 (leftO ((E.1 3) + 1) (E.2.1 1))) 4 (leftO ((E.1 4) + 1) (E.2.1 0))) 15 ((E.1 2) - (E.1 14)), E.2.1, E.2.2)) hC zkX1 iX1_step_X1 0 rfl 15 (by decide) kX1_step_8 rfl rfl rfl rfl rfl rfl dX1_step_97 rfl ?_
      refine z_aload_n hC dX1_step_100 rfl 1 rfl ?_
      refine z_iload_n hC dX1_step_101 rfl 2 rfl ?_
      refine z_puti (ws' := wE J h0 h1 h2 (updZ (updZ (updZ (updZ (updZ E.1 10 ((E.1 10) + 1)) 3 (leftO ((E.1 3) + 1) (E.2.1 1))) 4 (leftO ((E.1 4) + 1) (E.2.1 0))) 15 ((E.1 2) - (E.1 14))) 9 w0, E.2.1, E.2.2)) hC zkX1 iX1_step_X1 0 rfl 9 (by decide) kX1_step_5 rfl rfl rfl rfl rfl rfl dX1_step_102 rfl ?_
      refine z_aload_n hC dX1_step_105 rfl 1 rfl ?_
      refine z_aload_n hC dX1_step_106 rfl 1 rfl ?_
      refine z_geti hC zkX1 iX1_step_X1 0 rfl 2 (by decide) kX1_step_6 rfl rfl dX1_step_107 ?_
      refine z_int (y := iI (E.1 2)) hC (rfl) ?_
      refine z_puti (ws' := wE J h0 h1 h2 (updZ (updZ (updZ (updZ (updZ (updZ E.1 10 ((E.1 10) + 1)) 3 (leftO ((E.1 3) + 1) (E.2.1 1))) 4 (leftO ((E.1 4) + 1) (E.2.1 0))) 15 ((E.1 2) - (E.1 14))) 9 w0) 14 (E.1 2), E.2.1, E.2.2)) hC zkX1 iX1_step_X1 0 rfl 14 (by decide) kX1_step_7 rfl rfl rfl rfl rfl rfl dX1_step_110 rfl ?_
      exact z_vret hC hr () trivial rfl (congrArg (wE J h0 h1 h2) (by unfold cStep; (repeat' split) <;> first | rfl | omega)) dX1_step_113
set_option maxRecDepth 20000 in
theorem iX1_meetIndex_X1 : ∀ w ∈ u_ws RX1 TX1 16, w ∈ wsX1_meetIndex := zm_places _ [10, 11, 12, 13, 14, 15, 16, 17, 18, 19, 20, 21, 22, 23, 24, 25] (by decide +kernel)
theorem kX1_meetIndex_1 : Cond.fieldLink RX1 34 "StepPairs$Encoder" "place" "I" ∈ wsX1_meetIndex := List.mem_of_getElem? (i := 1) rfl
theorem kX1_meetIndex_3 : Cond.fieldLink RX1 31 "StepPairs$Encoder" "count" "I" ∈ wsX1_meetIndex := List.mem_of_getElem? (i := 3) rfl
theorem kX1_meetIndex_2 : Cond.fieldLink RX1 61 "StepPairs$Encoder" "slips" "I" ∈ wsX1_meetIndex := List.mem_of_getElem? (i := 2) rfl
abbrev rmX1_meetIndex : Room := { frames := 1, cells := 0, slots := 0, locals := 21 }
set_option maxHeartbeats 4000000 in
set_option maxRecDepth 100000 in
theorem t_X1_meetIndex (l : Launch) (D : va_G) (J : Nat → ClassId) (h0 h1 h2 : Nat) (E : Enc) (hE4 : 0 ≤ E.1 4 ∧ E.1 4 < E.2.1 0) (hs0 : E.2.1 0 ≤ 400) (hs4 : 0 ≤ E.2.1 4 ∧ E.2.1 4 ≤ 2) : ZX l yX1_meetIndex wsX1_meetIndex rmX1_meetIndex D J [.ref h0] (wE J h0 h1 h2 E) none (wE J h0 h1 h2 (cMeet E.1 E.2.1, E.2.1, E.2.2)) := by
  refine z_met (cc := cX1_meetIndex) (nL := 2) (ret := none) (own := RX1) (by decide) rfl rfl (Nat.le_of_ble_eq_true rfl) (fun p e s m args below meth c hC hr hin => ?_)
  refine z_lv0 (lv' := [(0, .ref h0)]) rfl ?_
  refine z_aload_n hC dX1_meetIndex_0 rfl 0 rfl ?_
  refine z_iconst hC dX1_meetIndex_1 ?_
  refine z_callV (wr := ([] : va_W)) (av := [.int (iI 4)]) (st := []) hC (t_X1_setting l D J h0 h1 h2 E 4 (by decide)) gX1_meetIndex_X1_setting rfl 1 (by decide +kernel) ⟨Nat.le_of_ble_eq_true rfl, Nat.le_of_ble_eq_true rfl⟩ ⟨Nat.le_of_ble_eq_true rfl, Nat.le_of_ble_eq_true rfl⟩ [0, 1, 2] [] rfl rfl rfl (by decide) rfl 0 rfl rfl rfl rfl rfl (Nat.le_of_ble_eq_true rfl) dX1_meetIndex_2 (fun _ _ => ?_)
  refine z_ws (ws' := wE J h0 h1 h2 E) rfl ?_
  refine z_st (st' := [.int (iI (E.2.1 4))]) rfl ?_
  refine z_istore_n (lv' := [(1, .int (iI (E.2.1 4))), (0, .ref h0)]) hC dX1_meetIndex_5 rfl (by decide) rfl ?_
  refine z_iload_n hC dX1_meetIndex_6 rfl 0 rfl ?_
  refine z_iconst hC dX1_meetIndex_7 ?_
  refine z_icmp_ne (tgt := 33) hC dX1_meetIndex_8 (by decide) (by unfold inR; omega) ⟨by decide, by decide⟩ (fun c_8_1 => ?_) (fun c_8_1 => ?_)
  · refine z_iload_n hC dX1_meetIndex_33 rfl 0 rfl ?_
    refine z_iconst hC dX1_meetIndex_34 ?_
    refine z_icmp_ne (tgt := 48) hC dX1_meetIndex_35 (by decide) (by unfold inR; omega) ⟨by decide, by decide⟩ (fun c_35_2 => ?_) (fun c_35_2 => ?_)
    · exact z_vret hC hr () trivial rfl (congrArg (wE J h0 h1 h2) (by unfold cMeet; (repeat' split) <;> first | rfl | omega)) dX1_meetIndex_48
    · refine z_aload_n hC dX1_meetIndex_38 rfl 1 rfl ?_
      refine z_iconst hC dX1_meetIndex_39 ?_
      refine z_puti (ws' := wE J h0 h1 h2 (updZ E.1 4 0, E.2.1, E.2.2)) hC zkX1 iX1_meetIndex_X1 0 rfl 4 (by decide) kX1_meetIndex_1 rfl rfl rfl rfl rfl rfl dX1_meetIndex_40 rfl ?_
      refine z_aload_n hC dX1_meetIndex_43 rfl 1 rfl ?_
      refine z_iconst hC dX1_meetIndex_44 ?_
      refine z_puti (ws' := wE J h0 h1 h2 (updZ (updZ E.1 4 0) 3 0, E.2.1, E.2.2)) hC zkX1 iX1_meetIndex_X1 0 rfl 3 (by decide) kX1_meetIndex_3 rfl rfl rfl rfl rfl rfl dX1_meetIndex_45 rfl ?_
      exact z_vret hC hr () trivial rfl (congrArg (wE J h0 h1 h2) (by unfold cMeet; (repeat' split) <;> first | rfl | omega)) dX1_meetIndex_48
  · refine z_aload_n hC dX1_meetIndex_11 rfl 1 rfl ?_
    refine z_geti hC zkX1 iX1_meetIndex_X1 0 rfl 4 (by decide) kX1_meetIndex_1 rfl rfl dX1_meetIndex_12 ?_
    refine z_if_eq (tgt := 33) hC dX1_meetIndex_15 (by decide) (by unfold inR; omega) (fun c_15_3 => ?_) (fun c_15_3 => ?_)
    · refine z_iload_n hC dX1_meetIndex_33 rfl 0 rfl ?_
      refine z_iconst hC dX1_meetIndex_34 ?_
      refine z_icmp_ne_t (tgt := 48) hC dX1_meetIndex_35 (by decide) (by unfold inR; omega) ⟨by decide, by decide⟩ (by omega) ?_
      exact z_vret hC hr () trivial rfl (congrArg (wE J h0 h1 h2) (by unfold cMeet; (repeat' split) <;> first | rfl | omega)) dX1_meetIndex_48
    · refine z_aload_n hC dX1_meetIndex_18 rfl 1 rfl ?_
      refine z_dup hC dX1_meetIndex_19 rfl ?_
      refine z_geti hC zkX1 iX1_meetIndex_X1 0 rfl 13 (by decide) kX1_meetIndex_2 rfl rfl dX1_meetIndex_20 ?_
      refine z_iconst hC dX1_meetIndex_23 ?_
      refine z_iadd hC dX1_meetIndex_24 ?_
      refine z_puti (ws' := wE J h0 h1 h2 (updZ E.1 13 ((E.1 13) + 1), E.2.1, E.2.2)) hC zkX1 iX1_meetIndex_X1 0 rfl 13 (by decide) kX1_meetIndex_2 rfl rfl rfl rfl rfl rfl dX1_meetIndex_25 rfl ?_
      refine z_aload_n hC dX1_meetIndex_28 rfl 1 rfl ?_
      refine z_iconst hC dX1_meetIndex_29 ?_
      refine z_puti (ws' := wE J h0 h1 h2 (updZ (updZ E.1 13 ((E.1 13) + 1)) 4 0, E.2.1, E.2.2)) hC zkX1 iX1_meetIndex_X1 0 rfl 4 (by decide) kX1_meetIndex_1 rfl rfl rfl rfl rfl rfl dX1_meetIndex_30 rfl ?_
      refine z_iload_n hC dX1_meetIndex_33 rfl 0 rfl ?_
      refine z_iconst hC dX1_meetIndex_34 ?_
      refine z_icmp_ne_t (tgt := 48) hC dX1_meetIndex_35 (by decide) (by unfold inR; omega) ⟨by decide, by decide⟩ (by omega) ?_
      exact z_vret hC hr () trivial rfl (congrArg (wE J h0 h1 h2) (by unfold cMeet; (repeat' split) <;> first | rfl | omega)) dX1_meetIndex_48
