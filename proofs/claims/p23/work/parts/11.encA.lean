abbrev rmX1_orderOf : Room := { frames := 0, cells := 0, slots := 0, locals := 0 }
set_option maxHeartbeats 4000000 in
set_option maxRecDepth 100000 in
theorem t_X1_orderOf (l : Launch) (D : va_G) (J : Nat → ClassId) (q : Int) (hq : 0 ≤ q ∧ q ≤ 3) : ZX l yX1_orderOf wsX1_orderOf rmX1_orderOf D J [.int (iI q)] ([]) (some (.int (iI (ordP q)))) ([] : va_W) := by
  refine z_met (cc := cX1_orderOf) (nL := 1) (ret := (some .int)) (own := RX1) (by decide) rfl rfl (Nat.le_of_ble_eq_true rfl) (fun p e s m args below meth c hC hr hin => ?_)
  refine z_lv0 (lv' := [(0, .int (iI q))]) rfl ?_
  refine z_iload_n hC dX1_orderOf_0 rfl 0 rfl ?_
  refine z_iload_n hC dX1_orderOf_1 rfl 0 rfl ?_
  refine z_iconst hC dX1_orderOf_2 ?_
  refine z_shr hC 1 (by decide) dX1_orderOf_3 (by omega) (by omega) ?_
  refine z_ixorR (v := iI (ordP q)) hC dX1_orderOf_4 (ordP_xor (by omega)) ?_
  exact z_iret hC hr rfl () trivial (by rfl) (by rfl) dX1_orderOf_5
abbrev rmX1_pairAlong : Room := { frames := 0, cells := 0, slots := 0, locals := 0 }
set_option maxHeartbeats 4000000 in
set_option maxRecDepth 100000 in
theorem t_X1_pairAlong (l : Launch) (D : va_G) (J : Nat → ClassId) (q : Int) : ZX l yX1_pairAlong wsX1_pairAlong rmX1_pairAlong D J [.int (iI q)] ([]) (some (.int (iI (ordP (q % 4))))) ([] : va_W) := by
  refine z_met (cc := cX1_pairAlong) (nL := 2) (ret := (some .int)) (own := RX1) (by decide) rfl rfl (Nat.le_of_ble_eq_true rfl) (fun p e s m args below meth c hC hr hin => ?_)
  refine z_lv0 (lv' := [(0, .int (iI q))]) rfl ?_
  refine z_iload_n hC dX1_pairAlong_0 rfl 0 rfl ?_
  refine z_iconst hC dX1_pairAlong_1 ?_
  refine z_and3 hC dX1_pairAlong_2 ?_
  refine z_istore_n (lv' := [(1, .int (iI (q % 4))), (0, .int (iI q))]) hC dX1_pairAlong_3 rfl (by decide) rfl ?_
  refine z_iload_n hC dX1_pairAlong_4 rfl 0 rfl ?_
  refine z_iload_n hC dX1_pairAlong_5 rfl 0 rfl ?_
  refine z_iconst hC dX1_pairAlong_6 ?_
  refine z_shr hC 1 (by decide) dX1_pairAlong_7 (by omega) (by omega) ?_
  refine z_ixorR (v := iI (ordP (q % 4))) hC dX1_pairAlong_8 (ordP_xor (by omega)) ?_
  exact z_iret hC hr rfl () trivial (by rfl) (by rfl) dX1_pairAlong_9
abbrev rmX1_leftOver : Room := { frames := 0, cells := 0, slots := 0, locals := 0 }
set_option maxHeartbeats 4000000 in
set_option maxRecDepth 100000 in
theorem t_X1_leftOver (l : Launch) (D : va_G) (J : Nat → ClassId) (x b : Int) (hx : -1 ≤ x ∧ x ≤ 20000) (hb : 0 < b ∧ b ≤ 9999) : ZX l yX1_leftOver wsX1_leftOver rmX1_leftOver D J [.int (iI x), .int (iI b)] ([]) (some (.int (iI (leftO x b)))) ([] : va_W) := by
  refine z_met (cc := cX1_leftOver) (nL := 2) (ret := (some .int)) (own := RX1) (by decide) rfl rfl (Nat.le_of_ble_eq_true rfl) (fun p e s m args below meth c hC hr hin => ?_)
  refine z_lv0 (lv' := [(0, .int (iI x)), (1, .int (iI b))]) rfl ?_
  refine z_iload_n hC dX1_leftOver_0 rfl 1 rfl ?_
  refine z_if_le_f (tgt := 12) hC dX1_leftOver_1 (by decide) (by unfold inR; omega) (by omega) ?_
  refine z_iload_n hC dX1_leftOver_4 rfl 0 rfl ?_
  refine z_iload_n hC dX1_leftOver_5 rfl 1 rfl ?_
  refine z_iadd hC dX1_leftOver_6 ?_
  refine z_iload_n hC dX1_leftOver_7 rfl 1 rfl ?_
  refine z_irem hC dX1_leftOver_8 (by omega) (by omega) (by omega) (by omega) ?_
  refine z_goto (tgt := 13) hC dX1_leftOver_9 (by decide) ?_
  exact z_iret hC hr rfl () trivial (by rfl) (by rfl) dX1_leftOver_13
set_option maxRecDepth 20000 in
theorem iX1_setting_X1 : ∀ w ∈ u_ws RX1 TX1 16, w ∈ wsX1_setting := zm_places _ [2, 3, 4, 5, 6, 7, 8, 9, 10, 11, 12, 13, 14, 15, 16, 17] (by decide +kernel)
theorem kX1_setting_1 : Cond.fieldLink RX1 9 "StepPairs$Encoder" "settings" "[I" ∈ wsX1_setting := List.mem_of_getElem? (i := 1) rfl
abbrev rmX1_setting : Room := { frames := 0, cells := 0, slots := 0, locals := 0 }
set_option maxHeartbeats 4000000 in
set_option maxRecDepth 100000 in
theorem t_X1_setting (l : Launch) (D : va_G) (J : Nat → ClassId) (h0 h1 h2 : Nat) (E : Enc) (k : Nat) (hk : k < 5) : ZX l yX1_setting wsX1_setting rmX1_setting D J [.ref h0, .int (iI (k : Int))] (wE J h0 h1 h2 E) (some (.int (iI (E.2.1 k)))) (wE J h0 h1 h2 E) := by
  refine z_met (cc := cX1_setting) (nL := 2) (ret := (some .int)) (own := RX1) (by decide) rfl rfl (Nat.le_of_ble_eq_true rfl) (fun p e s m args below meth c hC hr hin => ?_)
  refine z_lv0 (lv' := [(0, .ref h0), (1, .int (iI (k : Int)))]) rfl ?_
  refine z_iload_n hC dX1_setting_0 rfl 1 rfl ?_
  refine z_if_lt_f (tgt := 18) hC dX1_setting_1 (by decide) (by unfold inR; omega) (by omega) ?_
  refine z_iload_n hC dX1_setting_4 rfl 1 rfl ?_
  refine z_iconst hC dX1_setting_5 ?_
  refine z_icmp_ge_f (tgt := 18) hC dX1_setting_6 (by decide) (by unfold inR; omega) ⟨by decide, by decide⟩ (by omega) ?_
  refine z_aload_n hC dX1_setting_9 rfl 0 rfl ?_
  refine z_getr hC zkX1 iX1_setting_X1 0 rfl 0 (by decide) kX1_setting_1 rfl rfl dX1_setting_10 ?_
  refine z_iload_n hC dX1_setting_13 rfl 1 rfl ?_
  refine z_iald hC 1 rfl 0 rfl k rfl hk (by decide) dX1_setting_14 ?_
  refine z_goto (tgt := 19) hC dX1_setting_15 (by decide) ?_
  exact z_iret hC hr rfl () trivial (by rfl) (by rfl) dX1_setting_19
set_option maxRecDepth 20000 in
theorem iX1_runWith_X1 : ∀ w ∈ u_ws RX1 TX1 16, w ∈ wsX1_runWith := zm_places _ [3, 4, 5, 6, 7, 8, 9, 10, 11, 12, 13, 14, 15, 16, 17, 18] (by decide +kernel)
theorem kX1_runWith_1 : Cond.fieldLink RX1 40 "StepPairs$Encoder" "latestPair" "I" ∈ wsX1_runWith := List.mem_of_getElem? (i := 1) rfl
theorem kX1_runWith_2 : Cond.fieldLink RX1 46 "StepPairs$Encoder" "run" "I" ∈ wsX1_runWith := List.mem_of_getElem? (i := 2) rfl
abbrev rmX1_runWith : Room := { frames := 0, cells := 0, slots := 0, locals := 0 }
set_option maxHeartbeats 4000000 in
set_option maxRecDepth 100000 in
theorem t_X1_runWith (l : Launch) (D : va_G) (J : Nat → ClassId) (h0 h1 h2 : Nat) (E : Enc) (q : Int) (hq : 0 ≤ q ∧ q ≤ 3) (hE6 : 0 ≤ E.1 6 ∧ E.1 6 ≤ 3) : ZX l yX1_runWith wsX1_runWith rmX1_runWith D J [.ref h0, .int (iI q)] (wE J h0 h1 h2 E) (some (.int (iI (cRun E.1 q)))) (wE J h0 h1 h2 E) := by
  refine z_met (cc := cX1_runWith) (nL := 2) (ret := (some .int)) (own := RX1) (by decide) rfl rfl (Nat.le_of_ble_eq_true rfl) (fun p e s m args below meth c hC hr hin => ?_)
  refine z_lv0 (lv' := [(0, .ref h0), (1, .int (iI q))]) rfl ?_
  refine z_iload_n hC dX1_runWith_0 rfl 1 rfl ?_
  refine z_aload_n hC dX1_runWith_1 rfl 0 rfl ?_
  refine z_geti hC zkX1 iX1_runWith_X1 0 rfl 6 (by decide) kX1_runWith_1 rfl rfl dX1_runWith_2 ?_
  refine z_icmp_ne (tgt := 17) hC dX1_runWith_5 (by decide) (by unfold inR; omega) (by unfold inR; omega) (fun c_5_1 => ?_) (fun c_5_1 => ?_)
  · refine z_iconst hC dX1_runWith_17 ?_
    exact z_iret hC hr rfl () trivial (hvi (by unfold cRun; (repeat' split) <;> first | rfl | omega)) (by rfl) dX1_runWith_18
  · refine z_aload_n hC dX1_runWith_8 rfl 0 rfl ?_
    refine z_geti hC zkX1 iX1_runWith_X1 0 rfl 8 (by decide) kX1_runWith_2 rfl rfl dX1_runWith_9 ?_
    refine z_iconst hC dX1_runWith_12 ?_
    refine z_iadd hC dX1_runWith_13 ?_
    refine z_goto (tgt := 18) hC dX1_runWith_14 (by decide) ?_
    exact z_iret hC hr rfl () trivial (hvi (by unfold cRun; (repeat' split) <;> first | rfl | omega)) (by rfl) dX1_runWith_18
set_option maxRecDepth 20000 in
theorem iX1_clear_X1 : ∀ w ∈ u_ws RX1 TX1 16, w ∈ wsX1_clear := zm_places _ [3, 4, 5, 6, 7, 8, 9, 10, 11, 12, 13, 14, 15, 16, 17, 18] (by decide +kernel)
theorem kX1_clear_1 : Cond.fieldLink RX1 31 "StepPairs$Encoder" "count" "I" ∈ wsX1_clear := List.mem_of_getElem? (i := 1) rfl
theorem kX1_clear_2 : Cond.fieldLink RX1 34 "StepPairs$Encoder" "place" "I" ∈ wsX1_clear := List.mem_of_getElem? (i := 2) rfl
abbrev rmX1_clear : Room := { frames := 0, cells := 0, slots := 0, locals := 0 }
set_option maxHeartbeats 4000000 in
set_option maxRecDepth 100000 in
theorem t_X1_clear (l : Launch) (D : va_G) (J : Nat → ClassId) (h0 h1 h2 : Nat) (E : Enc)  : ZX l yX1_clear wsX1_clear rmX1_clear D J [.ref h0] (wE J h0 h1 h2 E) (some (.int (iI (E.1 3)))) (wE J h0 h1 h2 (updZ (updZ E.1 3 0) 4 0, E.2.1, E.2.2)) := by
  refine z_met (cc := cX1_clear) (nL := 2) (ret := (some .int)) (own := RX1) (by decide) rfl rfl (Nat.le_of_ble_eq_true rfl) (fun p e s m args below meth c hC hr hin => ?_)
  refine z_lv0 (lv' := [(0, .ref h0)]) rfl ?_
  refine z_aload_n hC dX1_clear_0 rfl 0 rfl ?_
  refine z_geti hC zkX1 iX1_clear_X1 0 rfl 3 (by decide) kX1_clear_1 rfl rfl dX1_clear_1 ?_
  refine z_istore_n (lv' := [(1, .int (iI (E.1 3))), (0, .ref h0)]) hC dX1_clear_4 rfl (by decide) rfl ?_
  refine z_aload_n hC dX1_clear_5 rfl 1 rfl ?_
  refine z_iconst hC dX1_clear_6 ?_
  refine z_puti (ws' := wE J h0 h1 h2 (updZ E.1 3 0, E.2.1, E.2.2)) hC zkX1 iX1_clear_X1 0 rfl 3 (by decide) kX1_clear_1 rfl rfl rfl rfl rfl rfl dX1_clear_7 rfl ?_
  refine z_aload_n hC dX1_clear_10 rfl 1 rfl ?_
  refine z_iconst hC dX1_clear_11 ?_
  refine z_puti (ws' := wE J h0 h1 h2 (updZ (updZ E.1 3 0) 4 0, E.2.1, E.2.2)) hC zkX1 iX1_clear_X1 0 rfl 4 (by decide) kX1_clear_2 rfl rfl rfl rfl rfl rfl dX1_clear_12 rfl ?_
  refine z_iload_n hC dX1_clear_15 rfl 0 rfl ?_
  exact z_iret hC hr rfl () trivial (by rfl) (by rfl) dX1_clear_16
