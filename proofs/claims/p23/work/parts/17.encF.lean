set_option maxRecDepth 20000 in
theorem iX1_restart_X1 : ∀ w ∈ u_ws RX1 TX1 16, w ∈ wsX1_restart := zm_places _ [15, 16, 17, 18, 19, 20, 21, 22, 23, 24, 25, 26, 27, 28, 29, 30] (by decide +kernel)
theorem kX1_restart_1 : Cond.fieldLink RX1 27 "StepPairs$Encoder" "ticks" "I" ∈ wsX1_restart := List.mem_of_getElem? (i := 1) rfl
theorem kX1_restart_2 : Cond.fieldLink RX1 31 "StepPairs$Encoder" "count" "I" ∈ wsX1_restart := List.mem_of_getElem? (i := 2) rfl
theorem kX1_restart_3 : Cond.fieldLink RX1 34 "StepPairs$Encoder" "place" "I" ∈ wsX1_restart := List.mem_of_getElem? (i := 3) rfl
theorem kX1_restart_4 : Cond.fieldLink RX1 37 "StepPairs$Encoder" "seen" "I" ∈ wsX1_restart := List.mem_of_getElem? (i := 4) rfl
theorem kX1_restart_5 : Cond.fieldLink RX1 40 "StepPairs$Encoder" "latestPair" "I" ∈ wsX1_restart := List.mem_of_getElem? (i := 5) rfl
theorem kX1_restart_6 : Cond.fieldLink RX1 43 "StepPairs$Encoder" "latestIndex" "I" ∈ wsX1_restart := List.mem_of_getElem? (i := 6) rfl
theorem kX1_restart_7 : Cond.fieldLink RX1 46 "StepPairs$Encoder" "run" "I" ∈ wsX1_restart := List.mem_of_getElem? (i := 7) rfl
theorem kX1_restart_8 : Cond.fieldLink RX1 49 "StepPairs$Encoder" "direction" "I" ∈ wsX1_restart := List.mem_of_getElem? (i := 8) rfl
theorem kX1_restart_9 : Cond.fieldLink RX1 52 "StepPairs$Encoder" "forwards" "I" ∈ wsX1_restart := List.mem_of_getElem? (i := 9) rfl
theorem kX1_restart_10 : Cond.fieldLink RX1 55 "StepPairs$Encoder" "backwards" "I" ∈ wsX1_restart := List.mem_of_getElem? (i := 10) rfl
theorem kX1_restart_11 : Cond.fieldLink RX1 58 "StepPairs$Encoder" "illegal" "I" ∈ wsX1_restart := List.mem_of_getElem? (i := 11) rfl
theorem kX1_restart_12 : Cond.fieldLink RX1 61 "StepPairs$Encoder" "slips" "I" ∈ wsX1_restart := List.mem_of_getElem? (i := 12) rfl
theorem kX1_restart_13 : Cond.fieldLink RX1 64 "StepPairs$Encoder" "tickOfLatestStep" "I" ∈ wsX1_restart := List.mem_of_getElem? (i := 13) rfl
theorem kX1_restart_14 : Cond.fieldLink RX1 67 "StepPairs$Encoder" "period" "I" ∈ wsX1_restart := List.mem_of_getElem? (i := 14) rfl
abbrev rmX1_restart : Room := { frames := 0, cells := 0, slots := 0, locals := 0 }
set_option maxHeartbeats 4000000 in
set_option maxRecDepth 100000 in
theorem t_X1_restart (l : Launch) (D : va_G) (J : Nat → ClassId) (h0 h1 h2 : Nat) (E : Enc)  : ZX l yX1_restart wsX1_restart rmX1_restart D J [.ref h0] (wE J h0 h1 h2 E) none (wE J h0 h1 h2 ((fun _ => 0), E.2.1, E.2.2)) := by
  refine z_met (cc := cX1_restart) (nL := 1) (ret := none) (own := RX1) (by decide) rfl rfl (Nat.le_of_ble_eq_true rfl) (fun p e s m args below meth c hC hr hin => ?_)
  refine z_lv0 (lv' := [(0, .ref h0)]) rfl ?_
  refine z_aload_n hC dX1_restart_0 rfl 0 rfl ?_
  refine z_iconst hC dX1_restart_1 ?_
  refine z_puti (ws' := wE J h0 h1 h2 (updZ E.1 2 0, E.2.1, E.2.2)) hC zkX1 iX1_restart_X1 0 rfl 2 (by decide) kX1_restart_1 rfl rfl rfl rfl rfl rfl dX1_restart_2 rfl ?_
  refine z_aload_n hC dX1_restart_5 rfl 0 rfl ?_
  refine z_iconst hC dX1_restart_6 ?_
  refine z_puti (ws' := wE J h0 h1 h2 (updZ (updZ E.1 2 0) 3 0, E.2.1, E.2.2)) hC zkX1 iX1_restart_X1 0 rfl 3 (by decide) kX1_restart_2 rfl rfl rfl rfl rfl rfl dX1_restart_7 rfl ?_
  refine z_aload_n hC dX1_restart_10 rfl 0 rfl ?_
  refine z_iconst hC dX1_restart_11 ?_
  refine z_puti (ws' := wE J h0 h1 h2 (updZ (updZ (updZ E.1 2 0) 3 0) 4 0, E.2.1, E.2.2)) hC zkX1 iX1_restart_X1 0 rfl 4 (by decide) kX1_restart_3 rfl rfl rfl rfl rfl rfl dX1_restart_12 rfl ?_
  refine z_aload_n hC dX1_restart_15 rfl 0 rfl ?_
  refine z_iconst hC dX1_restart_16 ?_
  refine z_puti (ws' := wE J h0 h1 h2 (updZ (updZ (updZ (updZ E.1 2 0) 3 0) 4 0) 5 0, E.2.1, E.2.2)) hC zkX1 iX1_restart_X1 0 rfl 5 (by decide) kX1_restart_4 rfl rfl rfl rfl rfl rfl dX1_restart_17 rfl ?_
  refine z_aload_n hC dX1_restart_20 rfl 0 rfl ?_
  refine z_iconst hC dX1_restart_21 ?_
  refine z_puti (ws' := wE J h0 h1 h2 (updZ (updZ (updZ (updZ (updZ E.1 2 0) 3 0) 4 0) 5 0) 6 0, E.2.1, E.2.2)) hC zkX1 iX1_restart_X1 0 rfl 6 (by decide) kX1_restart_5 rfl rfl rfl rfl rfl rfl dX1_restart_22 rfl ?_
  refine z_aload_n hC dX1_restart_25 rfl 0 rfl ?_
  refine z_iconst hC dX1_restart_26 ?_
  refine z_puti (ws' := wE J h0 h1 h2 (updZ (updZ (updZ (updZ (updZ (updZ E.1 2 0) 3 0) 4 0) 5 0) 6 0) 7 0, E.2.1, E.2.2)) hC zkX1 iX1_restart_X1 0 rfl 7 (by decide) kX1_restart_6 rfl rfl rfl rfl rfl rfl dX1_restart_27 rfl ?_
  refine z_aload_n hC dX1_restart_30 rfl 0 rfl ?_
  refine z_iconst hC dX1_restart_31 ?_
  refine z_puti (ws' := wE J h0 h1 h2 (updZ (updZ (updZ (updZ (updZ (updZ (updZ E.1 2 0) 3 0) 4 0) 5 0) 6 0) 7 0) 8 0, E.2.1, E.2.2)) hC zkX1 iX1_restart_X1 0 rfl 8 (by decide) kX1_restart_7 rfl rfl rfl rfl rfl rfl dX1_restart_32 rfl ?_
  refine z_aload_n hC dX1_restart_35 rfl 0 rfl ?_
  refine z_iconst hC dX1_restart_36 ?_
  refine z_puti (ws' := wE J h0 h1 h2 (updZ (updZ (updZ (updZ (updZ (updZ (updZ (updZ E.1 2 0) 3 0) 4 0) 5 0) 6 0) 7 0) 8 0) 9 0, E.2.1, E.2.2)) hC zkX1 iX1_restart_X1 0 rfl 9 (by decide) kX1_restart_8 rfl rfl rfl rfl rfl rfl dX1_restart_37 rfl ?_
  refine z_aload_n hC dX1_restart_40 rfl 0 rfl ?_
  refine z_iconst hC dX1_restart_41 ?_
  refine z_puti (ws' := wE J h0 h1 h2 (updZ (updZ (updZ (updZ (updZ (updZ (updZ (updZ (updZ E.1 2 0) 3 0) 4 0) 5 0) 6 0) 7 0) 8 0) 9 0) 10 0, E.2.1, E.2.2)) hC zkX1 iX1_restart_X1 0 rfl 10 (by decide) kX1_restart_9 rfl rfl rfl rfl rfl rfl dX1_restart_42 rfl ?_
  refine z_aload_n hC dX1_restart_45 rfl 0 rfl ?_
  refine z_iconst hC dX1_restart_46 ?_
  refine z_puti (ws' := wE J h0 h1 h2 (updZ (updZ (updZ (updZ (updZ (updZ (updZ (updZ (updZ (updZ E.1 2 0) 3 0) 4 0) 5 0) 6 0) 7 0) 8 0) 9 0) 10 0) 11 0, E.2.1, E.2.2)) hC zkX1 iX1_restart_X1 0 rfl 11 (by decide) kX1_restart_10 rfl rfl rfl rfl rfl rfl dX1_restart_47 rfl ?_
  refine z_aload_n hC dX1_restart_50 rfl 0 rfl ?_
  refine z_iconst hC dX1_restart_51 ?_
  refine z_puti (ws' := wE J h0 h1 h2 (updZ (updZ (updZ (updZ (updZ (updZ (updZ (updZ (updZ (updZ (updZ E.1 2 0) 3 0) 4 0) 5 0) 6 0) 7 0) 8 0) 9 0) 10 0) 11 0) 12 0, E.2.1, E.2.2)) hC zkX1 iX1_restart_X1 0 rfl 12 (by decide) kX1_restart_11 rfl rfl rfl rfl rfl rfl dX1_restart_52 rfl ?_
  refine z_aload_n hC dX1_restart_55 rfl 0 rfl ?_
  refine z_iconst hC dX1_restart_56 ?_
  refine z_puti (ws' := wE J h0 h1 h2 (updZ (updZ (updZ (updZ (updZ (updZ (updZ (updZ (updZ (updZ (updZ (updZ E.1 2 0) 3 0) 4 0) 5 0) 6 0) 7 0) 8 0) 9 0) 10 0) 11 0) 12 0) 13 0, E.2.1, E.2.2)) hC zkX1 iX1_restart_X1 0 rfl 13 (by decide) kX1_restart_12 rfl rfl rfl rfl rfl rfl dX1_restart_57 rfl ?_
  refine z_aload_n hC dX1_restart_60 rfl 0 rfl ?_
  refine z_iconst hC dX1_restart_61 ?_
  refine z_puti (ws' := wE J h0 h1 h2 (updZ (updZ (updZ (updZ (updZ (updZ (updZ (updZ (updZ (updZ (updZ (updZ (updZ E.1 2 0) 3 0) 4 0) 5 0) 6 0) 7 0) 8 0) 9 0) 10 0) 11 0) 12 0) 13 0) 14 0, E.2.1, E.2.2)) hC zkX1 iX1_restart_X1 0 rfl 14 (by decide) kX1_restart_13 rfl rfl rfl rfl rfl rfl dX1_restart_62 rfl ?_
  refine z_aload_n hC dX1_restart_65 rfl 0 rfl ?_
  refine z_iconst hC dX1_restart_66 ?_
  refine z_puti (ws' := wE J h0 h1 h2 (updZ (updZ (updZ (updZ (updZ (updZ (updZ (updZ (updZ (updZ (updZ (updZ (updZ (updZ E.1 2 0) 3 0) 4 0) 5 0) 6 0) 7 0) 8 0) 9 0) 10 0) 11 0) 12 0) 13 0) 14 0) 15 0, E.2.1, E.2.2)) hC zkX1 iX1_restart_X1 0 rfl 15 (by decide) kX1_restart_14 rfl rfl rfl rfl rfl rfl dX1_restart_67 rfl ?_
  exact z_vret hC hr () trivial rfl (rfl) dX1_restart_70
set_option maxRecDepth 20000 in
theorem iX1_copy_X1 : ∀ w ∈ u_ws RX1 TX1 16, w ∈ wsX1_copy := zm_places _ [21, 22, 23, 24, 25, 26, 27, 28, 29, 30, 31, 32, 33, 34, 35, 36] (by decide +kernel)
theorem kX1_copy_1 : Cond.fieldLink RX1 9 "StepPairs$Encoder" "settings" "[I" ∈ wsX1_copy := List.mem_of_getElem? (i := 1) rfl
theorem kX1_copy_2 : Cond.methodLink RX1 21 arraycopyName ∈ wsX1_copy := List.mem_of_getElem? (i := 2) rfl
theorem kX1_copy_3 : Cond.native arraycopyName ∈ wsX1_copy := List.mem_of_getElem? (i := 3) rfl
theorem kX1_copy_4 : Cond.static arraycopyName ∈ wsX1_copy := List.mem_of_getElem? (i := 4) rfl
theorem kX1_copy_5 : Cond.initialized "java/lang/System" ∈ wsX1_copy := List.mem_of_getElem? (i := 5) rfl
theorem kX1_copy_6 : Cond.fieldLink RX1 15 "StepPairs$Encoder" "log" "[I" ∈ wsX1_copy := List.mem_of_getElem? (i := 6) rfl
theorem kX1_copy_7 : Cond.fieldLink RX1 27 "StepPairs$Encoder" "ticks" "I" ∈ wsX1_copy := List.mem_of_getElem? (i := 7) rfl
theorem kX1_copy_8 : Cond.fieldLink RX1 31 "StepPairs$Encoder" "count" "I" ∈ wsX1_copy := List.mem_of_getElem? (i := 8) rfl
theorem kX1_copy_9 : Cond.fieldLink RX1 34 "StepPairs$Encoder" "place" "I" ∈ wsX1_copy := List.mem_of_getElem? (i := 9) rfl
theorem kX1_copy_10 : Cond.fieldLink RX1 37 "StepPairs$Encoder" "seen" "I" ∈ wsX1_copy := List.mem_of_getElem? (i := 10) rfl
theorem kX1_copy_11 : Cond.fieldLink RX1 40 "StepPairs$Encoder" "latestPair" "I" ∈ wsX1_copy := List.mem_of_getElem? (i := 11) rfl
theorem kX1_copy_12 : Cond.fieldLink RX1 43 "StepPairs$Encoder" "latestIndex" "I" ∈ wsX1_copy := List.mem_of_getElem? (i := 12) rfl
theorem kX1_copy_13 : Cond.fieldLink RX1 46 "StepPairs$Encoder" "run" "I" ∈ wsX1_copy := List.mem_of_getElem? (i := 13) rfl
theorem kX1_copy_14 : Cond.fieldLink RX1 49 "StepPairs$Encoder" "direction" "I" ∈ wsX1_copy := List.mem_of_getElem? (i := 14) rfl
theorem kX1_copy_15 : Cond.fieldLink RX1 52 "StepPairs$Encoder" "forwards" "I" ∈ wsX1_copy := List.mem_of_getElem? (i := 15) rfl
theorem kX1_copy_16 : Cond.fieldLink RX1 55 "StepPairs$Encoder" "backwards" "I" ∈ wsX1_copy := List.mem_of_getElem? (i := 16) rfl
theorem kX1_copy_17 : Cond.fieldLink RX1 58 "StepPairs$Encoder" "illegal" "I" ∈ wsX1_copy := List.mem_of_getElem? (i := 17) rfl
theorem kX1_copy_18 : Cond.fieldLink RX1 61 "StepPairs$Encoder" "slips" "I" ∈ wsX1_copy := List.mem_of_getElem? (i := 18) rfl
theorem kX1_copy_19 : Cond.fieldLink RX1 64 "StepPairs$Encoder" "tickOfLatestStep" "I" ∈ wsX1_copy := List.mem_of_getElem? (i := 19) rfl
theorem kX1_copy_20 : Cond.fieldLink RX1 67 "StepPairs$Encoder" "period" "I" ∈ wsX1_copy := List.mem_of_getElem? (i := 20) rfl
abbrev rmX1_copy : Room := { frames := 1, cells := 0, slots := 0, locals := 40 }
set_option maxHeartbeats 4000000 in
set_option maxRecDepth 100000 in
theorem t_X1_copy (l : Launch) (D : va_G) (J : Nat → ClassId) (h0 h1 h2 k0 k1 k2 : Nat) (E F : Enc) : ZX l yX1_copy wsX1_copy rmX1_copy D J [.ref h0, .ref k0] (wE J h0 h1 h2 E ++ wE J k0 k1 k2 F) none (wE J h0 h1 h2 E ++ wE J k0 k1 k2 E) := by
  refine z_met (cc := cX1_copy) (nL := 2) (ret := none) (own := RX1) (by decide) rfl rfl (Nat.le_of_ble_eq_true rfl) (fun p e s m args below meth c hC hr hin => ?_)
  refine z_lv0 (lv' := [(0, .ref h0), (1, .ref k0)]) rfl ?_
  refine z_aload_n hC dX1_copy_0 rfl 0 rfl ?_
  refine z_ifnull hC dX1_copy_1 ?_
  refine z_aload_n hC dX1_copy_4 rfl 1 rfl ?_
  refine z_ifnonnull (tgt := 9) hC dX1_copy_5 (by decide) ?_
  refine z_aload_n hC dX1_copy_9 rfl 0 rfl ?_
  refine z_getr hC zkX1 iX1_copy_X1 0 rfl 0 (by decide) kX1_copy_1 rfl rfl dX1_copy_10 ?_
  refine z_iconst hC dX1_copy_13 ?_
  refine z_aload_n hC dX1_copy_14 rfl 1 rfl ?_
  refine z_getr hC zkX1 iX1_copy_X1 3 rfl 0 (by decide) kX1_copy_1 rfl rfl dX1_copy_15 ?_
  refine z_iconst hC dX1_copy_18 ?_
  refine z_iconst hC dX1_copy_19 ?_
  refine z_copy (ws' := wE J h0 h1 h2 E ++ wE J k0 k1 k2 (F.1, cpyZ E.2.1 F.2.1 0 0 5, F.2.2)) hC kX1_copy_2 kX1_copy_3 kX1_copy_4 kX1_copy_5 1 4 rfl rfl rfl rfl 0 0 5 rfl rfl rfl (by decide) (by decide) (by decide) (by decide) (Nat.le_of_ble_eq_true rfl) (Nat.le_of_ble_eq_true rfl) dX1_copy_20 rfl ?_
  refine z_arrg (g := E.2.1) (ws' := wE J h0 h1 h2 E ++ wE J k0 k1 k2 (F.1, E.2.1, F.2.2)) 4 rfl cpyZ_full rfl ?_
  refine z_aload_n hC dX1_copy_23 rfl 0 rfl ?_
  refine z_getr hC zkX1 iX1_copy_X1 0 rfl 1 (by decide) kX1_copy_6 rfl rfl dX1_copy_24 ?_
  refine z_iconst hC dX1_copy_27 ?_
  refine z_aload_n hC dX1_copy_28 rfl 1 rfl ?_
  refine z_getr hC zkX1 iX1_copy_X1 3 rfl 1 (by decide) kX1_copy_6 rfl rfl dX1_copy_29 ?_
  refine z_iconst hC dX1_copy_32 ?_
  refine z_sipush hC dX1_copy_33 (by decide) ?_
  refine z_copy (ws' := wE J h0 h1 h2 E ++ wE J k0 k1 k2 (F.1, E.2.1, cpyZ E.2.2 F.2.2 0 0 200)) hC kX1_copy_2 kX1_copy_3 kX1_copy_4 kX1_copy_5 2 5 rfl rfl rfl rfl 0 0 200 rfl rfl rfl (by decide) (by decide) (by decide) (by decide) (Nat.le_of_ble_eq_true rfl) (Nat.le_of_ble_eq_true rfl) dX1_copy_36 rfl ?_
  refine z_arrg (g := E.2.2) (ws' := wE J h0 h1 h2 E ++ wE J k0 k1 k2 (F.1, E.2.1, E.2.2)) 5 rfl cpyZ_full rfl ?_
  refine z_aload_n hC dX1_copy_39 rfl 1 rfl ?_
  refine z_aload_n hC dX1_copy_40 rfl 0 rfl ?_
  refine z_geti hC zkX1 iX1_copy_X1 0 rfl 2 (by decide) kX1_copy_7 rfl rfl dX1_copy_41 ?_
  refine z_puti (ws' := wE J h0 h1 h2 E ++ wE J k0 k1 k2 (updZ F.1 2 (E.1 2), E.2.1, E.2.2)) hC zkX1 iX1_copy_X1 3 rfl 2 (by decide) kX1_copy_7 rfl rfl rfl rfl rfl rfl dX1_copy_44 rfl ?_
  refine z_aload_n hC dX1_copy_47 rfl 1 rfl ?_
  refine z_aload_n hC dX1_copy_48 rfl 0 rfl ?_
  refine z_geti hC zkX1 iX1_copy_X1 0 rfl 3 (by decide) kX1_copy_8 rfl rfl dX1_copy_49 ?_
  refine z_puti (ws' := wE J h0 h1 h2 E ++ wE J k0 k1 k2 (updZ (updZ F.1 2 (E.1 2)) 3 (E.1 3), E.2.1, E.2.2)) hC zkX1 iX1_copy_X1 3 rfl 3 (by decide) kX1_copy_8 rfl rfl rfl rfl rfl rfl dX1_copy_52 rfl ?_
  refine z_aload_n hC dX1_copy_55 rfl 1 rfl ?_
  refine z_aload_n hC dX1_copy_56 rfl 0 rfl ?_
  refine z_geti hC zkX1 iX1_copy_X1 0 rfl 4 (by decide) kX1_copy_9 rfl rfl dX1_copy_57 ?_
  refine z_puti (ws' := wE J h0 h1 h2 E ++ wE J k0 k1 k2 (updZ (updZ (updZ F.1 2 (E.1 2)) 3 (E.1 3)) 4 (E.1 4), E.2.1, E.2.2)) hC zkX1 iX1_copy_X1 3 rfl 4 (by decide) kX1_copy_9 rfl rfl rfl rfl rfl rfl dX1_copy_60 rfl ?_
  refine z_aload_n hC dX1_copy_63 rfl 1 rfl ?_
  refine z_aload_n hC dX1_copy_64 rfl 0 rfl ?_
  refine z_geti hC zkX1 iX1_copy_X1 0 rfl 5 (by decide) kX1_copy_10 rfl rfl dX1_copy_65 ?_
  refine z_puti (ws' := wE J h0 h1 h2 E ++ wE J k0 k1 k2 (updZ (updZ (updZ (updZ F.1 2 (E.1 2)) 3 (E.1 3)) 4 (E.1 4)) 5 (E.1 5), E.2.1, E.2.2)) hC zkX1 iX1_copy_X1 3 rfl 5 (by decide) kX1_copy_10 rfl rfl rfl rfl rfl rfl dX1_copy_68 rfl ?_
  refine z_aload_n hC dX1_copy_71 rfl 1 rfl ?_
  refine z_aload_n hC dX1_copy_72 rfl 0 rfl ?_
  refine z_geti hC zkX1 iX1_copy_X1 0 rfl 6 (by decide) kX1_copy_11 rfl rfl dX1_copy_73 ?_
  refine z_puti (ws' := wE J h0 h1 h2 E ++ wE J k0 k1 k2 (updZ (updZ (updZ (updZ (updZ F.1 2 (E.1 2)) 3 (E.1 3)) 4 (E.1 4)) 5 (E.1 5)) 6 (E.1 6), E.2.1, E.2.2)) hC zkX1 iX1_copy_X1 3 rfl 6 (by decide) kX1_copy_11 rfl rfl rfl rfl rfl rfl dX1_copy_76 rfl ?_
  refine z_aload_n hC dX1_copy_79 rfl 1 rfl ?_
  refine z_aload_n hC dX1_copy_80 rfl 0 rfl ?_
  refine z_geti hC zkX1 iX1_copy_X1 0 rfl 7 (by decide) kX1_copy_12 rfl rfl dX1_copy_81 ?_
  refine z_puti (ws' := wE J h0 h1 h2 E ++ wE J k0 k1 k2 (updZ (updZ (updZ (updZ (updZ (updZ F.1 2 (E.1 2)) 3 (E.1 3)) 4 (E.1 4)) 5 (E.1 5)) 6 (E.1 6)) 7 (E.1 7), E.2.1, E.2.2)) hC zkX1 iX1_copy_X1 3 rfl 7 (by decide) kX1_copy_12 rfl rfl rfl rfl rfl rfl dX1_copy_84 rfl ?_
  refine z_aload_n hC dX1_copy_87 rfl 1 rfl ?_
  refine z_aload_n hC dX1_copy_88 rfl 0 rfl ?_
  refine z_geti hC zkX1 iX1_copy_X1 0 rfl 8 (by decide) kX1_copy_13 rfl rfl dX1_copy_89 ?_
  refine z_puti (ws' := wE J h0 h1 h2 E ++ wE J k0 k1 k2 (updZ (updZ (updZ (updZ (updZ (updZ (updZ F.1 2 (E.1 2)) 3 (E.1 3)) 4 (E.1 4)) 5 (E.1 5)) 6 (E.1 6)) 7 (E.1 7)) 8 (E.1 8), E.2.1, E.2.2)) hC zkX1 iX1_copy_X1 3 rfl 8 (by decide) kX1_copy_13 rfl rfl rfl rfl rfl rfl dX1_copy_92 rfl ?_
  refine z_aload_n hC dX1_copy_95 rfl 1 rfl ?_
  refine z_aload_n hC dX1_copy_96 rfl 0 rfl ?_
  refine z_geti hC zkX1 iX1_copy_X1 0 rfl 9 (by decide) kX1_copy_14 rfl rfl dX1_copy_97 ?_
  refine z_puti (ws' := wE J h0 h1 h2 E ++ wE J k0 k1 k2 (updZ (updZ (updZ (updZ (updZ (updZ (updZ (updZ F.1 2 (E.1 2)) 3 (E.1 3)) 4 (E.1 4)) 5 (E.1 5)) 6 (E.1 6)) 7 (E.1 7)) 8 (E.1 8)) 9 (E.1 9), E.2.1, E.2.2)) hC zkX1 iX1_copy_X1 3 rfl 9 (by decide) kX1_copy_14 rfl rfl rfl rfl rfl rfl dX1_copy_100 rfl ?_
  refine z_aload_n hC dX1_copy_103 rfl 1 rfl ?_
  refine z_aload_n hC dX1_copy_104 rfl 0 rfl ?_
  refine z_geti hC zkX1 iX1_copy_X1 0 rfl 10 (by decide) kX1_copy_15 rfl rfl dX1_copy_105 ?_
  refine z_puti (ws' := wE J h0 h1 h2 E ++ wE J k0 k1 k2 (updZ (updZ (updZ (updZ (updZ (updZ (updZ (updZ (updZ F.1 2 (E.1 2)) 3 (E.1 3)) 4 (E.1 4)) 5 (E.1 5)) 6 (E.1 6)) 7 (E.1 7)) 8 (E.1 8)) 9 (E.1 9)) 10 (E.1 10), E.2.1, E.2.2)) hC zkX1 iX1_copy_X1 3 rfl 10 (by decide) kX1_copy_15 rfl rfl rfl rfl rfl rfl dX1_copy_108 rfl ?_
  refine z_aload_n hC dX1_copy_111 rfl 1 rfl ?_
  refine z_aload_n hC dX1_copy_112 rfl 0 rfl ?_
  refine z_geti hC zkX1 iX1_copy_X1 0 rfl 11 (by decide) kX1_copy_16 rfl rfl dX1_copy_113 ?_
  refine z_puti (ws' := wE J h0 h1 h2 E ++ wE J k0 k1 k2 (updZ (updZ (updZ (updZ (updZ (updZ (updZ (updZ (updZ (updZ F.1 2 (E.1 2)) 3 (E.1 3)) 4 (E.1 4)) 5 (E.1 5)) 6 (E.1 6)) 7 (E.1 7)) 8 (E.1 8)) 9 (E.1 9)) 10 (E.1 10)) 11 (E.1 11), E.2.1, E.2.2)) hC zkX1 iX1_copy_X1 3 rfl 11 (by decide) kX1_copy_16 rfl rfl rfl rfl rfl rfl dX1_copy_116 rfl ?_
  refine z_aload_n hC dX1_copy_119 rfl 1 rfl ?_
  refine z_aload_n hC dX1_copy_120 rfl 0 rfl ?_
  refine z_geti hC zkX1 iX1_copy_X1 0 rfl 12 (by decide) kX1_copy_17 rfl rfl dX1_copy_121 ?_
  refine z_puti (ws' := wE J h0 h1 h2 E ++ wE J k0 k1 k2 (updZ (updZ (updZ (updZ (updZ (updZ (updZ (updZ (updZ (updZ (updZ F.1 2 (E.1 2)) 3 (E.1 3)) 4 (E.1 4)) 5 (E.1 5)) 6 (E.1 6)) 7 (E.1 7)) 8 (E.1 8)) 9 (E.1 9)) 10 (E.1 10)) 11 (E.1 11)) 12 (E.1 12), E.2.1, E.2.2)) hC zkX1 iX1_copy_X1 3 rfl 12 (by decide) kX1_copy_17 rfl rfl rfl rfl rfl rfl dX1_copy_124 rfl ?_
  refine z_aload_n hC dX1_copy_127 rfl 1 rfl ?_
  refine z_aload_n hC dX1_copy_128 rfl 0 rfl ?_
  refine z_geti hC zkX1 iX1_copy_X1 0 rfl 13 (by decide) kX1_copy_18 rfl rfl dX1_copy_129 ?_
  refine z_puti (ws' := wE J h0 h1 h2 E ++ wE J k0 k1 k2 (updZ (updZ (updZ (updZ (updZ (updZ (updZ (updZ (updZ (updZ (updZ (updZ F.1 2 (E.1 2)) 3 (E.1 3)) 4 (E.1 4)) 5 (E.1 5)) 6 (E.1 6)) 7 (E.1 7)) 8 (E.1 8)) 9 (E.1 9)) 10 (E.1 10)) 11 (E.1 11)) 12 (E.1 12)) 13 (E.1 13), E.2.1, E.2.2)) hC zkX1 iX1_copy_X1 3 rfl 13 (by decide) kX1_copy_18 rfl rfl rfl rfl rfl rfl dX1_copy_132 rfl ?_
  refine z_aload_n hC dX1_copy_135 rfl 1 rfl ?_
  refine z_aload_n hC dX1_copy_136 rfl 0 rfl ?_
  refine z_geti hC zkX1 iX1_copy_X1 0 rfl 14 (by decide) kX1_copy_19 rfl rfl dX1_copy_137 ?_
  refine z_puti (ws' := wE J h0 h1 h2 E ++ wE J k0 k1 k2 (updZ (updZ (updZ (updZ (updZ (updZ (updZ (updZ (updZ (updZ (updZ (updZ (updZ F.1 2 (E.1 2)) 3 (E.1 3)) 4 (E.1 4)) 5 (E.1 5)) 6 (E.1 6)) 7 (E.1 7)) 8 (E.1 8)) 9 (E.1 9)) 10 (E.1 10)) 11 (E.1 11)) 12 (E.1 12)) 13 (E.1 13)) 14 (E.1 14), E.2.1, E.2.2)) hC zkX1 iX1_copy_X1 3 rfl 14 (by decide) kX1_copy_19 rfl rfl rfl rfl rfl rfl dX1_copy_140 rfl ?_
  refine z_aload_n hC dX1_copy_143 rfl 1 rfl ?_
  refine z_aload_n hC dX1_copy_144 rfl 0 rfl ?_
  refine z_geti hC zkX1 iX1_copy_X1 0 rfl 15 (by decide) kX1_copy_20 rfl rfl dX1_copy_145 ?_
  refine z_puti (ws' := wE J h0 h1 h2 E ++ wE J k0 k1 k2 (updZ (updZ (updZ (updZ (updZ (updZ (updZ (updZ (updZ (updZ (updZ (updZ (updZ (updZ F.1 2 (E.1 2)) 3 (E.1 3)) 4 (E.1 4)) 5 (E.1 5)) 6 (E.1 6)) 7 (E.1 7)) 8 (E.1 8)) 9 (E.1 9)) 10 (E.1 10)) 11 (E.1 11)) 12 (E.1 12)) 13 (E.1 13)) 14 (E.1 14)) 15 (E.1 15), E.2.1, E.2.2)) hC zkX1 iX1_copy_X1 3 rfl 15 (by decide) kX1_copy_20 rfl rfl rfl rfl rfl rfl dX1_copy_148 rfl ?_
  exact z_vret hC hr () trivial rfl (rfl) dX1_copy_151
set_option maxRecDepth 20000 in
theorem iX1_follow_X1 : ∀ w ∈ u_ws RX1 TX1 16, w ∈ wsX1_follow := zm_places _ [80, 81, 82, 83, 84, 85, 86, 87, 88, 89, 90, 91, 92, 93, 94, 95] (by decide +kernel)
theorem kX1_follow_1 : Cond.fieldLink RX1 9 "StepPairs$Encoder" "settings" "[I" ∈ wsX1_follow := List.mem_of_getElem? (i := 1) rfl
theorem kX1_follow_2 : Cond.methodLink RX1 21 arraycopyName ∈ wsX1_follow := List.mem_of_getElem? (i := 2) rfl
theorem kX1_follow_3 : Cond.native arraycopyName ∈ wsX1_follow := List.mem_of_getElem? (i := 3) rfl
theorem kX1_follow_4 : Cond.static arraycopyName ∈ wsX1_follow := List.mem_of_getElem? (i := 4) rfl
theorem kX1_follow_5 : Cond.initialized "java/lang/System" ∈ wsX1_follow := List.mem_of_getElem? (i := 5) rfl
abbrev rmX1_follow : Room := { frames := 5, cells := 0, slots := 0, locals := 97 }
set_option maxHeartbeats 4000000 in
set_option maxRecDepth 100000 in
theorem t_X1_follow (l : Launch) (D : va_G) (J : Nat → ClassId) (h0 h1 h2 o0 o1 o2 : Nat) (T E : Enc) (F : Int) (hF : 1 ≤ F ∧ F ≤ 9) (hI : InvE E) (hTg : ∀ j, 0 ≤ T.2.2 j ∧ T.2.2 j ≤ 31) : ZX l yX1_follow wsX1_follow rmX1_follow D J [.ref h0, .ref o0, .int (iI F)] (wE J h0 h1 h2 T ++ wE J o0 o1 o2 E) none (wE J h0 h1 h2 (cFollow E T F) ++ wE J o0 o1 o2 E) := by
  obtain ⟨hE2, hE3, hE4, hE5, hE6, hE7, hE8, hE9, hE10, hE13, hE14, hE15, hs0, hs1, hs2, hs3, hs4, hg⟩ := id hI
  have hT0 : InvE (((fun _ => 0), updZ E.2.1 2 F, T.2.2) : Enc) := fresh_inv hI hF hTg
  refine z_met (cc := cX1_follow) (nL := 4) (ret := none) (own := RX1) (by decide) rfl rfl (Nat.le_of_ble_eq_true rfl) (fun p e s m args below meth c hC hr hin => ?_)
  refine z_lv0 (lv' := [(0, .ref h0), (1, .ref o0), (2, .int (iI F))]) rfl ?_
  refine z_aload_n hC dX1_follow_0 rfl 1 rfl ?_
  refine z_ifnonnull (tgt := 5) hC dX1_follow_1 (by decide) ?_
  refine z_aload_n hC dX1_follow_5 rfl 0 rfl ?_
  refine z_callV (wr := wE J o0 o1 o2 E) (av := []) (st := []) hC (t_X1_restart l D J h0 h1 h2 T  ) gX1_follow_X1_restart rfl 0 (by decide +kernel) ⟨Nat.le_of_ble_eq_true rfl, Nat.le_of_ble_eq_true rfl⟩ ⟨Nat.le_of_ble_eq_true rfl, Nat.le_of_ble_eq_true rfl⟩ [0, 1, 2] [3, 4, 5] rfl rfl rfl (by decide) rfl 0 rfl rfl rfl rfl rfl (Nat.le_of_ble_eq_true rfl) dX1_follow_6 (fun _ _ => ?_)
  refine z_perm (ws' := wE J h0 h1 h2 ((fun _ => 0), T.2.1, T.2.2) ++ wE J o0 o1 o2 E) [3, 4, 5, 0, 1, 2] rfl rfl ?_
  refine z_st (st' := []) rfl ?_
  refine z_aload_n hC dX1_follow_9 rfl 1 rfl ?_
  refine z_getr hC zkX1 iX1_follow_X1 3 rfl 0 (by decide) kX1_follow_1 rfl rfl dX1_follow_10 ?_
  refine z_iconst hC dX1_follow_13 ?_
  refine z_aload_n hC dX1_follow_14 rfl 0 rfl ?_
  refine z_getr hC zkX1 iX1_follow_X1 0 rfl 0 (by decide) kX1_follow_1 rfl rfl dX1_follow_15 ?_
  refine z_iconst hC dX1_follow_18 ?_
  refine z_iconst hC dX1_follow_19 ?_
  refine z_copy (ws' := wE J h0 h1 h2 ((fun _ => 0), cpyZ E.2.1 T.2.1 0 0 5, T.2.2) ++ wE J o0 o1 o2 E) hC kX1_follow_2 kX1_follow_3 kX1_follow_4 kX1_follow_5 4 1 rfl rfl rfl rfl 0 0 5 rfl rfl rfl (by decide) (by decide) (by decide) (by decide) (Nat.le_of_ble_eq_true rfl) (Nat.le_of_ble_eq_true rfl) dX1_follow_20 rfl ?_
  refine z_arrg (g := E.2.1) (ws' := wE J h0 h1 h2 ((fun _ => 0), E.2.1, T.2.2) ++ wE J o0 o1 o2 E) 1 rfl cpyZ_full rfl ?_
  refine z_aload_n hC dX1_follow_23 rfl 0 rfl ?_
  refine z_getr hC zkX1 iX1_follow_X1 0 rfl 0 (by decide) kX1_follow_1 rfl rfl dX1_follow_24 ?_
  refine z_iconst hC dX1_follow_27 ?_
  refine z_iload_n hC dX1_follow_28 rfl 2 rfl ?_
  refine z_iast (ws' := wE J h0 h1 h2 ((fun _ => 0), updZ E.2.1 2 F, T.2.2) ++ wE J o0 o1 o2 E) hC 1 rfl 0 rfl 2 rfl (by decide) (by decide) dX1_follow_29 rfl ?_
  refine z_aload_n hC dX1_follow_30 rfl 1 rfl ?_
  refine z_callV (wr := wE J h0 h1 h2 ((fun _ => 0), updZ E.2.1 2 F, T.2.2)) (av := []) (st := []) hC (t_X1_logged l D J o0 o1 o2 E  hE2) gX1_follow_X1_logged rfl 0 (by decide +kernel) ⟨Nat.le_of_ble_eq_true rfl, Nat.le_of_ble_eq_true rfl⟩ ⟨Nat.le_of_ble_eq_true rfl, Nat.le_of_ble_eq_true rfl⟩ [3, 4, 5] [0, 1, 2] rfl rfl rfl (by decide) rfl 0 rfl rfl rfl rfl rfl (Nat.le_of_ble_eq_true rfl) dX1_follow_31 (fun _ _ => ?_)
  refine z_ws (ws' := wE J h0 h1 h2 ((fun _ => 0), updZ E.2.1 2 F, T.2.2) ++ wE J o0 o1 o2 E) rfl ?_
  refine z_st (st' := [.int (iI (min (E.1 2) 200))]) rfl ?_
  refine z_iconst hC dX1_follow_34 ?_
  refine z_isub hC dX1_follow_35 ?_
  refine z_istore_n (lv' := [(3, .int (iI ((min (E.1 2) 200) - 1))), (0, .ref h0), (1, .ref o0), (2, .int (iI F))]) hC dX1_follow_36 rfl (by decide) rfl ?_
  refine z_lv (lv' := [(3, .int (iI ((min (E.1 2) 200) - 1))), (0, .ref h0), (1, .ref o0), (2, .int (iI F))]) [0, 1, 2, 3] rfl ?_
  refine z_lv0 (lv' := [(3, .int (iI (min (E.1 2) 200 - 1 - ((0 : Nat) : Int)))), (0, .ref h0), (1, .ref o0), (2, .int (iI F))]) (congrArg (fun z : Int => ([(3, .int (iI z)), (0, .ref h0), (1, .ref o0), (2, .int (iI F))] : List (Nat × Value))) (show min (E.1 2) 200 - 1 = min (E.1 2) 200 - 1 - ((0 : Nat) : Int) by omega)) ?_
  refine z_loop (α := Nat) (fun nn k => (k : Int) + (nn : Int) = min (E.1 2) 200) (fun nn k => wE J h0 h1 h2 (cRep E ((fun _ => 0), updZ E.2.1 2 F, T.2.2) k) ++ wE J o0 o1 o2 E) (fun nn k => [(3, .int (iI (min (E.1 2) 200 - 1 - (k : Int)))), (0, .ref h0), (1, .ref o0), (2, .int (iI F))]) 37 [] (fun nn k ih_1 hP_2 => ?_) (fun k hP_2 => ?_) (Int.toNat (min (E.1 2) 200)) 0 (by show ((0 : Nat) : Int) + _ = _; omega)
  · change Z _ _ _ _ _ _ _ _ _ _ _ _ _ _ _ _ (wE J h0 h1 h2 (cRep E ((fun _ => 0), updZ E.2.1 2 F, T.2.2) k) ++ wE J o0 o1 o2 E) ([(3, .int (iI (min (E.1 2) 200 - 1 - (k : Int)))), (0, .ref h0), (1, .ref o0), (2, .int (iI F))]) 37 ([])
    have hk := rep_inv hI hT0 rfl k (by omega)
    refine z_iload_n hC dX1_follow_37 rfl 0 rfl ?_
    refine z_if_lt_f (tgt := 62) hC dX1_follow_38 (by decide) (by unfold inR; omega) (by omega) ?_
    refine z_aload_n hC dX1_follow_41 rfl 1 rfl ?_
    refine z_aload_n hC dX1_follow_42 rfl 2 rfl ?_
    refine z_iload_n hC dX1_follow_43 rfl 0 rfl ?_
    refine z_callV (wr := wE J h0 h1 h2 (cRep E ((fun _ => 0), updZ E.2.1 2 F, T.2.2) k)) (av := [.int (iI (min (E.1 2) 200 - 1 - (k : Int)))]) (st := [.ref h0]) hC (t_X1_pairAt l D J o0 o1 o2 E (min (E.1 2) 200 - 1 - (k : Int)) ⟨by omega, by omega⟩ hE2 hg) gX1_follow_X1_pairAt rfl 1 (by decide +kernel) ⟨Nat.le_of_ble_eq_true rfl, Nat.le_of_ble_eq_true rfl⟩ ⟨Nat.le_of_ble_eq_true rfl, Nat.le_of_ble_eq_true rfl⟩ [3, 4, 5] [0, 1, 2] rfl rfl rfl (by decide) rfl 0 rfl rfl rfl rfl rfl (Nat.le_of_ble_eq_true rfl) dX1_follow_44 (fun _ _ => ?_)
    refine z_ws (ws' := wE J h0 h1 h2 (cRep E ((fun _ => 0), updZ E.2.1 2 F, T.2.2) k) ++ wE J o0 o1 o2 E) rfl ?_
    refine z_st (st' := [.int (iI ((cEnt E.1 E.2.2 (min (E.1 2) 200 - 1 - (k : Int))) % 4)), .ref h0]) rfl ?_
    refine z_aload_n hC dX1_follow_47 rfl 2 rfl ?_
    refine z_iload_n hC dX1_follow_48 rfl 0 rfl ?_
    refine z_callV (wr := wE J h0 h1 h2 (cRep E ((fun _ => 0), updZ E.2.1 2 F, T.2.2) k)) (av := [.int (iI (min (E.1 2) 200 - 1 - (k : Int)))]) (st := [.int (iI ((cEnt E.1 E.2.2 (min (E.1 2) 200 - 1 - (k : Int))) % 4)), .ref h0]) hC (t_X1_indexAt l D J o0 o1 o2 E (min (E.1 2) 200 - 1 - (k : Int)) ⟨by omega, by omega⟩ hE2 hg) gX1_follow_X1_indexAt rfl 1 (by decide +kernel) ⟨Nat.le_of_ble_eq_true rfl, Nat.le_of_ble_eq_true rfl⟩ ⟨Nat.le_of_ble_eq_true rfl, Nat.le_of_ble_eq_true rfl⟩ [3, 4, 5] [0, 1, 2] rfl rfl rfl (by decide) rfl 0 rfl rfl rfl rfl rfl (Nat.le_of_ble_eq_true rfl) dX1_follow_49 (fun _ _ => ?_)
    refine z_ws (ws' := wE J h0 h1 h2 (cRep E ((fun _ => 0), updZ E.2.1 2 F, T.2.2) k) ++ wE J o0 o1 o2 E) rfl ?_
    refine z_st (st' := [.int (iI ((cEnt E.1 E.2.2 (min (E.1 2) 200 - 1 - (k : Int))) / 2 ^ 2 % 2)), .int (iI ((cEnt E.1 E.2.2 (min (E.1 2) 200 - 1 - (k : Int))) % 4)), .ref h0]) rfl ?_
    refine z_callV (wr := wE J o0 o1 o2 E) (av := [.int (iI ((cEnt E.1 E.2.2 (min (E.1 2) 200 - 1 - (k : Int))) % 4)), .int (iI ((cEnt E.1 E.2.2 (min (E.1 2) 200 - 1 - (k : Int))) / 2 ^ 2 % 2))]) (st := []) hC (t_X1_tick l D J h0 h1 h2 (cRep E ((fun _ => 0), updZ E.2.1 2 F, T.2.2) k) ((cEnt E.1 E.2.2 (min (E.1 2) 200 - 1 - (k : Int))) % 4) ((cEnt E.1 E.2.2 (min (E.1 2) 200 - 1 - (k : Int))) / 2 ^ 2 % 2) hk.1 ⟨by omega, by omega⟩ ⟨by omega, by omega⟩) gX1_follow_X1_tick rfl 2 (by decide +kernel) ⟨Nat.le_of_ble_eq_true rfl, Nat.le_of_ble_eq_true rfl⟩ ⟨Nat.le_of_ble_eq_true rfl, Nat.le_of_ble_eq_true rfl⟩ [0, 1, 2] [3, 4, 5] rfl rfl rfl (by decide) rfl 0 rfl rfl rfl rfl rfl (Nat.le_of_ble_eq_true rfl) dX1_follow_52 (fun _ _ => ?_)
    refine z_perm (ws' := wE J h0 h1 h2 (cTick (cRep E ((fun _ => 0), updZ E.2.1 2 F, T.2.2) k) ((cEnt E.1 E.2.2 (min (E.1 2) 200 - 1 - (k : Int))) % 4) ((cEnt E.1 E.2.2 (min (E.1 2) 200 - 1 - (k : Int))) / 2 ^ 2 % 2)) ++ wE J o0 o1 o2 E) [3, 4, 5, 0, 1, 2] rfl rfl ?_
    refine z_st (st' := [.int (iI (cDeed ((cRep E ((fun _ => 0), updZ E.2.1 2 F, T.2.2) k).1) ((cRep E ((fun _ => 0), updZ E.2.1 2 F, T.2.2) k).2.1) ((cEnt E.1 E.2.2 (min (E.1 2) 200 - 1 - (k : Int))) % 4)))]) rfl ?_
    refine z_pop hC dX1_follow_55 rfl ?_
    refine z_iinc (lv' := [(3, .int (iI ((min (E.1 2) 200 - 1 - (k : Int)) + (-1)))), (0, .ref h0), (1, .ref o0), (2, .int (iI F))]) hC dX1_follow_56 0 rfl (by decide) rfl ?_
    refine z_goto (tgt := 37) hC dX1_follow_59 (by decide) ?_
    refine z_lv0 (lv' := [(3, .int (iI (min (E.1 2) 200 - 1 - ((k + 1 : Nat) : Int)))), (0, .ref h0), (1, .ref o0), (2, .int (iI F))]) (congrArg (fun z : Int => ([(3, .int (iI z)), (0, .ref h0), (1, .ref o0), (2, .int (iI F))] : List (Nat × Value))) (show (min (E.1 2) 200 - 1 - (k : Int)) + (-1) = min (E.1 2) 200 - 1 - ((k + 1 : Nat) : Int) by omega)) ?_
    refine z_lv (lv' := _) [0, 1, 2, 3] rfl ?_
    exact ih_1 (k + 1) (by omega)
  · change Z _ _ _ _ _ _ _ _ _ _ _ _ _ _ _ _ (wE J h0 h1 h2 (cRep E ((fun _ => 0), updZ E.2.1 2 F, T.2.2) k) ++ wE J o0 o1 o2 E) ([(3, .int (iI (min (E.1 2) 200 - 1 - (k : Int)))), (0, .ref h0), (1, .ref o0), (2, .int (iI F))]) 37 ([])
    have hin : k = Int.toNat (min (E.1 2) 200) := by omega
    refine z_iload_n hC dX1_follow_37 rfl 0 rfl ?_
    refine z_if_lt_t (tgt := 62) hC dX1_follow_38 (by decide) (by unfold inR; omega) (by omega) ?_
    exact z_vret hC hr () trivial rfl (by subst hin; rfl) dX1_follow_62
theorem kX1_init_1 : Cond.methodLink RX1 3 objectInit ∈ wsX1_init := List.mem_of_getElem? (i := 1) rfl
theorem kX1_init_2 : Cond.instanceMethod objectInit ∈ wsX1_init := List.mem_of_getElem? (i := 2) rfl
theorem kX1_init_3 : Cond.code objectInit ⟨#[0xb1]⟩ 1 none ∈ wsX1_init := List.mem_of_getElem? (i := 3) rfl
theorem kX1_init_4 : Cond.arrayClass .int ∈ wsX1_init := List.mem_of_getElem? (i := 4) rfl
set_option maxRecDepth 20000 in
theorem iX1_init_X1 : ∀ w ∈ u_ws RX1 TX1 16, w ∈ wsX1_init := zm_places _ [11, 12, 13, 14, 15, 16, 17, 18, 19, 20, 21, 22, 23, 24, 25, 26] (by decide +kernel)
theorem kX1_init_5 : Cond.fieldLink RX1 9 "StepPairs$Encoder" "settings" "[I" ∈ wsX1_init := List.mem_of_getElem? (i := 5) rfl
theorem kX1_init_6 : Cond.fieldLink RX1 15 "StepPairs$Encoder" "log" "[I" ∈ wsX1_init := List.mem_of_getElem? (i := 6) rfl
theorem kX1_init_7 : Cond.methodLink RX1 21 arraycopyName ∈ wsX1_init := List.mem_of_getElem? (i := 7) rfl
theorem kX1_init_8 : Cond.native arraycopyName ∈ wsX1_init := List.mem_of_getElem? (i := 8) rfl
theorem kX1_init_9 : Cond.static arraycopyName ∈ wsX1_init := List.mem_of_getElem? (i := 9) rfl
theorem kX1_init_10 : Cond.initialized "java/lang/System" ∈ wsX1_init := List.mem_of_getElem? (i := 10) rfl
abbrev rmX1_init : Room := { frames := 1, cells := 2, slots := 205, locals := 40 }
set_option maxHeartbeats 4000000 in
set_option maxRecDepth 100000 in
theorem t_X1_init (l : Launch) (D : va_G) (J : Nat → ClassId) (h0 : Nat) : ZM (S := Nat × Nat) l yX1_init wsX1_init rmX1_init D J [.ref h0] ([(h0, .inr (0, [.null, .null, .int (iI 0), .int (iI 0), .int (iI 0), .int (iI 0), .int (iI 0), .int (iI 0), .int (iI 0), .int (iI 0), .int (iI 0), .int (iI 0), .int (iI 0), .int (iI 0), .int (iI 0), .int (iI 0)]))]) (fun _ => True) (fun _ => none) (fun u => wE J h0 u.1 u.2 freshE) := by
  refine z_met (cc := cX1_init) (nL := 1) (ret := none) (own := RX1) (by decide) rfl rfl (Nat.le_of_ble_eq_true rfl) (fun p e s m args below meth c hC hr hin => ?_)
  refine z_lv0 (lv' := [(0, .ref h0)]) rfl ?_
  refine z_aload_n hC dX1_init_0 rfl 0 rfl ?_
  refine z_objInit hC kX1_init_1 kX1_init_2 kX1_init_3 (Nat.le_of_ble_eq_true rfl) (Nat.le_of_ble_eq_true rfl) dX1_init_1 ?_
  refine z_aload_n hC dX1_init_4 rfl 0 rfl ?_
  refine z_iconst hC dX1_init_5 ?_
  refine z_newarr (atype := .int) (ty := .int) (N' := 5) (t0 := 0) (cA0 := J 0) hC kX1_init_4 rfl rfl rfl (fun _ h => h) rfl (by decide) (Nat.le_of_ble_eq_true rfl) (Nat.le_of_ble_eq_true rfl) (Nat.le_of_ble_eq_true rfl) dX1_init_6 (fun q_1 => ?_)
  refine z_ws (ws' := [(h0, .inr (0, [.null, .null, .int (iI 0), .int (iI 0), .int (iI 0), .int (iI 0), .int (iI 0), .int (iI 0), .int (iI 0), .int (iI 0), .int (iI 0), .int (iI 0), .int (iI 0), .int (iI 0), .int (iI 0), .int (iI 0)])), cI (J 0) q_1 5 (fun _ => 0)]) rfl ?_
  refine z_putF (ws' := [(h0, .inr (0, [.ref q_1, .null, .int (iI 0), .int (iI 0), .int (iI 0), .int (iI 0), .int (iI 0), .int (iI 0), .int (iI 0), .int (iI 0), .int (iI 0), .int (iI 0), .int (iI 0), .int (iI 0), .int (iI 0), .int (iI 0)])), cI (J 0) q_1 5 (fun _ => 0)]) hC zkX1 iX1_init_X1 0 rfl 0 (by decide) kX1_init_5 rfl rfl rfl hin rfl rfl rfl (Nat.le_of_ble_eq_true rfl) dX1_init_8 rfl ?_
  refine z_aload_n hC dX1_init_11 rfl 0 rfl ?_
  refine z_sipush hC dX1_init_12 (by decide) ?_
  refine z_newarr (atype := .int) (ty := .int) (N' := 200) (t0 := 0) (cA0 := J 0) hC kX1_init_4 rfl rfl rfl (fun _ h => h) rfl (by decide) (Nat.le_of_ble_eq_true rfl) (Nat.le_of_ble_eq_true rfl) (Nat.le_of_ble_eq_true rfl) dX1_init_15 (fun q_2 => ?_)
  refine z_ws (ws' := [(h0, .inr (0, [.ref q_1, .null, .int (iI 0), .int (iI 0), .int (iI 0), .int (iI 0), .int (iI 0), .int (iI 0), .int (iI 0), .int (iI 0), .int (iI 0), .int (iI 0), .int (iI 0), .int (iI 0), .int (iI 0), .int (iI 0)])), cI (J 0) q_1 5 (fun _ => 0), cI (J 0) q_2 200 (fun _ => 0)]) rfl ?_
  refine z_putF (ws' := wE J h0 q_1 q_2 ((fun _ => 0), (fun _ => 0), (fun _ => 0))) hC zkX1 iX1_init_X1 0 rfl 1 (by decide) kX1_init_6 rfl rfl rfl hin rfl rfl rfl (Nat.le_of_ble_eq_true rfl) dX1_init_17 rfl ?_
  refine z_getTN hC hC.2.2.2.1.2.2.1 hC.2.2.2.1.2.2.2.1 dX1_init_20 (fun t_3 ht_4 => ?_)
  refine z_iconst hC dX1_init_23 ?_
  refine z_aload_n hC dX1_init_24 rfl 0 rfl ?_
  refine z_getr hC zkX1 iX1_init_X1 0 rfl 0 (by decide) kX1_init_5 rfl rfl dX1_init_25 ?_
  refine z_iconst hC dX1_init_28 ?_
  refine z_iconst hC dX1_init_29 ?_
  refine z_copyT (ws' := wE J h0 q_1 q_2 ((fun _ => 0), cpyZ firstS (fun _ => 0) 0 0 5, (fun _ => 0))) hC kX1_init_7 kX1_init_8 kX1_init_9 kX1_init_10 ht_4 1 rfl rfl rfl rfl rfl (by decide) (by decide) (Nat.le_of_ble_eq_true rfl) (Nat.le_of_ble_eq_true rfl) dX1_init_30 rfl ?_
  refine z_arrg (g := firstS) (ws' := wE J h0 q_1 q_2 ((fun _ => 0), firstS, (fun _ => 0))) 1 rfl cpyZ_full rfl ?_
  exact z_vret hC hr (q_1, q_2) trivial rfl rfl dX1_init_33
