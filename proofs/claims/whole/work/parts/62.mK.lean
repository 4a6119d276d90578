theorem kX6_init_1 : Cond.methodLink RX6 1 objectInit ∈ wsX6_init := List.mem_of_getElem? (i := 1) rfl
theorem kX6_init_2 : Cond.instanceMethod objectInit ∈ wsX6_init := List.mem_of_getElem? (i := 2) rfl
theorem kX6_init_3 : Cond.code objectInit ⟨#[0xb1]⟩ 1 none ∈ wsX6_init := List.mem_of_getElem? (i := 3) rfl
theorem kX6_init_4 : Cond.arrayClass .int ∈ wsX6_init := List.mem_of_getElem? (i := 4) rfl
set_option maxRecDepth 20000 in
theorem iX6_init_X6 : ∀ w ∈ u_ws RX6 TX6 13, w ∈ wsX6_init := zm_places _ [17, 18, 19, 20, 21, 22, 23, 24, 25, 26, 27, 28, 29] (by decide +kernel)
theorem kX6_init_5 : Cond.fieldLink RX6 7 "StepPairsModel" "all" "[I" ∈ wsX6_init := List.mem_of_getElem? (i := 5) rfl
theorem kX6_init_6 : Cond.fieldLink RX6 13 "StepPairsModel" "kept" "[I" ∈ wsX6_init := List.mem_of_getElem? (i := 6) rfl
theorem kX6_init_7 : Cond.fieldLink RX6 16 "StepPairsModel" "tried" "[I" ∈ wsX6_init := List.mem_of_getElem? (i := 7) rfl
theorem kX6_init_8 : Cond.fieldLink RX6 19 "StepPairsModel" "history" "[I" ∈ wsX6_init := List.mem_of_getElem? (i := 8) rfl
theorem kX6_init_9 : Cond.fieldLink RX6 22 "StepPairsModel" "slots" "[I" ∈ wsX6_init := List.mem_of_getElem? (i := 9) rfl
theorem kX6_init_10 : Cond.fieldLink RX6 25 "StepPairsModel" "isSaved" "[I" ∈ wsX6_init := List.mem_of_getElem? (i := 10) rfl
theorem kX6_init_11 : Cond.fieldLink RX6 28 "StepPairsModel" "pad" "[I" ∈ wsX6_init := List.mem_of_getElem? (i := 11) rfl
abbrev rmX6_init : Room := { frames := 1, cells := 7, slots := 2524, locals := 21 }
set_option maxHeartbeats 4000000 in
set_option maxRecDepth 100000 in
theorem t_X6_init (l : Launch) (D : va_G) (J : Nat → ClassId) (h : Nat) : ZM (S := Nat → Nat) l yX6_init wsX6_init rmX6_init D J [.ref h] ([(h, .inr (5, [.null, .null, .null, .null, .int (iI 0), .null, .null, .null, .int (iI 0), .int (iI 0), .int (iI 0), .int (iI 0), .int (iI 0)]))]) (fun _ => True) (fun _ => none) (fun u => wM J h u 0 0 0 0 0 0 mNew (fun _ => 0) (fun _ => 0) (fun _ => 0) (fun _ => 0) (fun _ => 0) (fun _ => 0)) := by
  refine z_met (cc := cX6_init) (nL := 1) (ret := none) (own := RX6) (by decide) rfl rfl (Nat.le_of_ble_eq_true rfl) (fun p e s m args below meth c hC hr hin => ?_)
  refine z_lv0 (lv' := [(0, .ref h)]) rfl ?_
  refine z_aload_n hC dX6_init_0 rfl 0 rfl ?_
  refine z_objInit hC kX6_init_1 kX6_init_2 kX6_init_3 (Nat.le_of_ble_eq_true rfl) (Nat.le_of_ble_eq_true rfl) dX6_init_1 ?_
  refine z_aload_n hC dX6_init_4 rfl 0 rfl ?_
  refine z_sipush hC dX6_init_5 (by decide) ?_
  refine z_newarr (atype := .int) (ty := .int) (N' := 222) (t0 := 0) (cA0 := J 0) hC kX6_init_4 rfl rfl rfl (fun _ h => h) rfl (by decide) (Nat.le_of_ble_eq_true rfl) (Nat.le_of_ble_eq_true rfl) (Nat.le_of_ble_eq_true rfl) dX6_init_8 (fun q_1 => ?_)
  refine z_ws (ws' := [(h, .inr (5, [.null, .null, .null, .null, .int (iI 0), .null, .null, .null, .int (iI 0), .int (iI 0), .int (iI 0), .int (iI 0), .int (iI 0)])), cI (J 0) q_1 222 (fun _ => 0)]) rfl ?_
  refine z_putF (ws' := [(h, .inr (5, [.ref q_1, .null, .null, .null, .int (iI 0), .null, .null, .null, .int (iI 0), .int (iI 0), .int (iI 0), .int (iI 0), .int (iI 0)])), cI (J 0) q_1 222 (fun _ => 0)]) hC zkX6 iX6_init_X6 0 rfl 0 (by decide) kX6_init_5 rfl rfl rfl hin rfl rfl rfl (Nat.le_of_ble_eq_true rfl) dX6_init_10 rfl ?_
  refine z_aload_n hC dX6_init_13 rfl 0 rfl ?_
  refine z_sipush hC dX6_init_14 (by decide) ?_
  refine z_newarr (atype := .int) (ty := .int) (N' := 222) (t0 := 0) (cA0 := J 0) hC kX6_init_4 rfl rfl rfl (fun _ h => h) rfl (by decide) (Nat.le_of_ble_eq_true rfl) (Nat.le_of_ble_eq_true rfl) (Nat.le_of_ble_eq_true rfl) dX6_init_17 (fun q_2 => ?_)
  refine z_ws (ws' := [(h, .inr (5, [.ref q_1, .null, .null, .null, .int (iI 0), .null, .null, .null, .int (iI 0), .int (iI 0), .int (iI 0), .int (iI 0), .int (iI 0)])), cI (J 0) q_1 222 (fun _ => 0), cI (J 0) q_2 222 (fun _ => 0)]) rfl ?_
  refine z_putF (ws' := [(h, .inr (5, [.ref q_1, .ref q_2, .null, .null, .int (iI 0), .null, .null, .null, .int (iI 0), .int (iI 0), .int (iI 0), .int (iI 0), .int (iI 0)])), cI (J 0) q_1 222 (fun _ => 0), cI (J 0) q_2 222 (fun _ => 0)]) hC zkX6 iX6_init_X6 0 rfl 1 (by decide) kX6_init_6 rfl rfl rfl hin rfl rfl rfl (Nat.le_of_ble_eq_true rfl) dX6_init_19 rfl ?_
  refine z_aload_n hC dX6_init_22 rfl 0 rfl ?_
  refine z_sipush hC dX6_init_23 (by decide) ?_
  refine z_newarr (atype := .int) (ty := .int) (N' := 222) (t0 := 0) (cA0 := J 0) hC kX6_init_4 rfl rfl rfl (fun _ h => h) rfl (by decide) (Nat.le_of_ble_eq_true rfl) (Nat.le_of_ble_eq_true rfl) (Nat.le_of_ble_eq_true rfl) dX6_init_26 (fun q_3 => ?_)
  refine z_ws (ws' := [(h, .inr (5, [.ref q_1, .ref q_2, .null, .null, .int (iI 0), .null, .null, .null, .int (iI 0), .int (iI 0), .int (iI 0), .int (iI 0), .int (iI 0)])), cI (J 0) q_1 222 (fun _ => 0), cI (J 0) q_2 222 (fun _ => 0), cI (J 0) q_3 222 (fun _ => 0)]) rfl ?_
  refine z_putF (ws' := [(h, .inr (5, [.ref q_1, .ref q_2, .ref q_3, .null, .int (iI 0), .null, .null, .null, .int (iI 0), .int (iI 0), .int (iI 0), .int (iI 0), .int (iI 0)])), cI (J 0) q_1 222 (fun _ => 0), cI (J 0) q_2 222 (fun _ => 0), cI (J 0) q_3 222 (fun _ => 0)]) hC zkX6 iX6_init_X6 0 rfl 2 (by decide) kX6_init_7 rfl rfl rfl hin rfl rfl rfl (Nat.le_of_ble_eq_true rfl) dX6_init_28 rfl ?_
  refine z_aload_n hC dX6_init_31 rfl 0 rfl ?_
  refine z_sipush hC dX6_init_32 (by decide) ?_
  refine z_newarr (atype := .int) (ty := .int) (N' := 1332) (t0 := 0) (cA0 := J 0) hC kX6_init_4 rfl rfl rfl (fun _ h => h) rfl (by decide) (Nat.le_of_ble_eq_true rfl) (Nat.le_of_ble_eq_true rfl) (Nat.le_of_ble_eq_true rfl) dX6_init_35 (fun q_4 => ?_)
  refine z_ws (ws' := [(h, .inr (5, [.ref q_1, .ref q_2, .ref q_3, .null, .int (iI 0), .null, .null, .null, .int (iI 0), .int (iI 0), .int (iI 0), .int (iI 0), .int (iI 0)])), cI (J 0) q_1 222 (fun _ => 0), cI (J 0) q_2 222 (fun _ => 0), cI (J 0) q_3 222 (fun _ => 0), cI (J 0) q_4 1332 (fun _ => 0)]) rfl ?_
  refine z_putF (ws' := [(h, .inr (5, [.ref q_1, .ref q_2, .ref q_3, .ref q_4, .int (iI 0), .null, .null, .null, .int (iI 0), .int (iI 0), .int (iI 0), .int (iI 0), .int (iI 0)])), cI (J 0) q_1 222 (fun _ => 0), cI (J 0) q_2 222 (fun _ => 0), cI (J 0) q_3 222 (fun _ => 0), cI (J 0) q_4 1332 (fun _ => 0)]) hC zkX6 iX6_init_X6 0 rfl 3 (by decide) kX6_init_8 rfl rfl rfl hin rfl rfl rfl (Nat.le_of_ble_eq_true rfl) dX6_init_37 rfl ?_
  refine z_aload_n hC dX6_init_40 rfl 0 rfl ?_
  refine z_sipush hC dX6_init_41 (by decide) ?_
  refine z_newarr (atype := .int) (ty := .int) (N' := 444) (t0 := 0) (cA0 := J 0) hC kX6_init_4 rfl rfl rfl (fun _ h => h) rfl (by decide) (Nat.le_of_ble_eq_true rfl) (Nat.le_of_ble_eq_true rfl) (Nat.le_of_ble_eq_true rfl) dX6_init_44 (fun q_5 => ?_)
  refine z_ws (ws' := [(h, .inr (5, [.ref q_1, .ref q_2, .ref q_3, .ref q_4, .int (iI 0), .null, .null, .null, .int (iI 0), .int (iI 0), .int (iI 0), .int (iI 0), .int (iI 0)])), cI (J 0) q_1 222 (fun _ => 0), cI (J 0) q_2 222 (fun _ => 0), cI (J 0) q_3 222 (fun _ => 0), cI (J 0) q_4 1332 (fun _ => 0), cI (J 0) q_5 444 (fun _ => 0)]) rfl ?_
  refine z_putF (ws' := [(h, .inr (5, [.ref q_1, .ref q_2, .ref q_3, .ref q_4, .int (iI 0), .ref q_5, .null, .null, .int (iI 0), .int (iI 0), .int (iI 0), .int (iI 0), .int (iI 0)])), cI (J 0) q_1 222 (fun _ => 0), cI (J 0) q_2 222 (fun _ => 0), cI (J 0) q_3 222 (fun _ => 0), cI (J 0) q_4 1332 (fun _ => 0), cI (J 0) q_5 444 (fun _ => 0)]) hC zkX6 iX6_init_X6 0 rfl 5 (by decide) kX6_init_9 rfl rfl rfl hin rfl rfl rfl (Nat.le_of_ble_eq_true rfl) dX6_init_46 rfl ?_
  refine z_aload_n hC dX6_init_49 rfl 0 rfl ?_
  refine z_iconst hC dX6_init_50 ?_
  refine z_newarr (atype := .int) (ty := .int) (N' := 2) (t0 := 0) (cA0 := J 0) hC kX6_init_4 rfl rfl rfl (fun _ h => h) rfl (by decide) (Nat.le_of_ble_eq_true rfl) (Nat.le_of_ble_eq_true rfl) (Nat.le_of_ble_eq_true rfl) dX6_init_51 (fun q_6 => ?_)
  refine z_ws (ws' := [(h, .inr (5, [.ref q_1, .ref q_2, .ref q_3, .ref q_4, .int (iI 0), .ref q_5, .null, .null, .int (iI 0), .int (iI 0), .int (iI 0), .int (iI 0), .int (iI 0)])), cI (J 0) q_1 222 (fun _ => 0), cI (J 0) q_2 222 (fun _ => 0), cI (J 0) q_3 222 (fun _ => 0), cI (J 0) q_4 1332 (fun _ => 0), cI (J 0) q_5 444 (fun _ => 0), cI (J 0) q_6 2 (fun _ => 0)]) rfl ?_
  refine z_putF (ws' := [(h, .inr (5, [.ref q_1, .ref q_2, .ref q_3, .ref q_4, .int (iI 0), .ref q_5, .ref q_6, .null, .int (iI 0), .int (iI 0), .int (iI 0), .int (iI 0), .int (iI 0)])), cI (J 0) q_1 222 (fun _ => 0), cI (J 0) q_2 222 (fun _ => 0), cI (J 0) q_3 222 (fun _ => 0), cI (J 0) q_4 1332 (fun _ => 0), cI (J 0) q_5 444 (fun _ => 0), cI (J 0) q_6 2 (fun _ => 0)]) hC zkX6 iX6_init_X6 0 rfl 6 (by decide) kX6_init_10 rfl rfl rfl hin rfl rfl rfl (Nat.le_of_ble_eq_true rfl) dX6_init_53 rfl ?_
  refine z_aload_n hC dX6_init_56 rfl 0 rfl ?_
  refine z_bipush hC dX6_init_57 (by decide) ?_
  refine z_newarr (atype := .int) (ty := .int) (N' := 80) (t0 := 0) (cA0 := J 0) hC kX6_init_4 rfl rfl rfl (fun _ h => h) rfl (by decide) (Nat.le_of_ble_eq_true rfl) (Nat.le_of_ble_eq_true rfl) (Nat.le_of_ble_eq_true rfl) dX6_init_59 (fun q_7 => ?_)
  refine z_ws (ws' := [(h, .inr (5, [.ref q_1, .ref q_2, .ref q_3, .ref q_4, .int (iI 0), .ref q_5, .ref q_6, .null, .int (iI 0), .int (iI 0), .int (iI 0), .int (iI 0), .int (iI 0)])), cI (J 0) q_1 222 (fun _ => 0), cI (J 0) q_2 222 (fun _ => 0), cI (J 0) q_3 222 (fun _ => 0), cI (J 0) q_4 1332 (fun _ => 0), cI (J 0) q_5 444 (fun _ => 0), cI (J 0) q_6 2 (fun _ => 0), cI (J 0) q_7 80 (fun _ => 0)]) rfl ?_
  refine z_putF (ws' := [cO 5 h [some q_1, some q_2, some q_3, some q_4, none, some q_5, some q_6, some q_7, none, none, none, none, none] (mK 0 0 0 0 0 0), cI (J 0) q_1 222 (fun _ => 0), cI (J 0) q_2 222 (fun _ => 0), cI (J 0) q_3 222 (fun _ => 0), cI (J 0) q_4 1332 (fun _ => 0), cI (J 0) q_5 444 (fun _ => 0), cI (J 0) q_6 2 (fun _ => 0), cI (J 0) q_7 80 (fun _ => 0)]) hC zkX6 iX6_init_X6 0 rfl 7 (by decide) kX6_init_11 rfl rfl rfl hin rfl rfl rfl (Nat.le_of_ble_eq_true rfl) dX6_init_61 rfl ?_
  refine z_aload_n hC dX6_init_64 rfl 0 rfl ?_
  refine z_getr hC zkX6 iX6_init_X6 0 rfl 0 (by decide) kX6_init_5 rfl rfl dX6_init_65 ?_
  refine z_iconst hC dX6_init_68 ?_
  refine z_bipush hC dX6_init_69 (by decide) ?_
  refine z_iast (ws' := [cO 5 h [some q_1, some q_2, some q_3, some q_4, none, some q_5, some q_6, some q_7, none, none, none, none, none] (mK 0 0 0 0 0 0), cI (J 0) q_1 222 (updZ (fun _ => 0) 0 40), cI (J 0) q_2 222 (fun _ => 0), cI (J 0) q_3 222 (fun _ => 0), cI (J 0) q_4 1332 (fun _ => 0), cI (J 0) q_5 444 (fun _ => 0), cI (J 0) q_6 2 (fun _ => 0), cI (J 0) q_7 80 (fun _ => 0)]) hC 1 rfl 0 rfl 0 rfl (by decide) (by decide) dX6_init_71 rfl ?_
  refine z_aload_n hC dX6_init_72 rfl 0 rfl ?_
  refine z_getr hC zkX6 iX6_init_X6 0 rfl 0 (by decide) kX6_init_5 rfl rfl dX6_init_73 ?_
  refine z_iconst hC dX6_init_76 ?_
  refine z_sipush hC dX6_init_77 (by decide) ?_
  refine z_iast (ws' := [cO 5 h [some q_1, some q_2, some q_3, some q_4, none, some q_5, some q_6, some q_7, none, none, none, none, none] (mK 0 0 0 0 0 0), cI (J 0) q_1 222 (updZ (updZ (fun _ => 0) 0 40) 1 1000), cI (J 0) q_2 222 (fun _ => 0), cI (J 0) q_3 222 (fun _ => 0), cI (J 0) q_4 1332 (fun _ => 0), cI (J 0) q_5 444 (fun _ => 0), cI (J 0) q_6 2 (fun _ => 0), cI (J 0) q_7 80 (fun _ => 0)]) hC 1 rfl 0 rfl 1 rfl (by decide) (by decide) dX6_init_80 rfl ?_
  refine z_aload_n hC dX6_init_81 rfl 0 rfl ?_
  refine z_getr hC zkX6 iX6_init_X6 0 rfl 0 (by decide) kX6_init_5 rfl rfl dX6_init_82 ?_
  refine z_iconst hC dX6_init_85 ?_
  refine z_iconst hC dX6_init_86 ?_
  refine z_iast (ws' := [cO 5 h [some q_1, some q_2, some q_3, some q_4, none, some q_5, some q_6, some q_7, none, none, none, none, none] (mK 0 0 0 0 0 0), cI (J 0) q_1 222 (updZ (updZ (updZ (fun _ => 0) 0 40) 1 1000) 2 1), cI (J 0) q_2 222 (fun _ => 0), cI (J 0) q_3 222 (fun _ => 0), cI (J 0) q_4 1332 (fun _ => 0), cI (J 0) q_5 444 (fun _ => 0), cI (J 0) q_6 2 (fun _ => 0), cI (J 0) q_7 80 (fun _ => 0)]) hC 1 rfl 0 rfl 2 rfl (by decide) (by decide) dX6_init_87 rfl ?_
  refine z_aload_n hC dX6_init_88 rfl 0 rfl ?_
  refine z_getr hC zkX6 iX6_init_X6 0 rfl 0 (by decide) kX6_init_5 rfl rfl dX6_init_89 ?_
  refine z_iconst hC dX6_init_92 ?_
  refine z_bipush hC dX6_init_93 (by decide) ?_
  refine z_iast (ws' := [cO 5 h [some q_1, some q_2, some q_3, some q_4, none, some q_5, some q_6, some q_7, none, none, none, none, none] (mK 0 0 0 0 0 0), cI (J 0) q_1 222 (updZ (updZ (updZ (updZ (fun _ => 0) 0 40) 1 1000) 2 1) 3 10), cI (J 0) q_2 222 (fun _ => 0), cI (J 0) q_3 222 (fun _ => 0), cI (J 0) q_4 1332 (fun _ => 0), cI (J 0) q_5 444 (fun _ => 0), cI (J 0) q_6 2 (fun _ => 0), cI (J 0) q_7 80 (fun _ => 0)]) hC 1 rfl 0 rfl 3 rfl (by decide) (by decide) dX6_init_95 rfl ?_
  refine z_aload_n hC dX6_init_96 rfl 0 rfl ?_
  refine z_getr hC zkX6 iX6_init_X6 0 rfl 0 (by decide) kX6_init_5 rfl rfl dX6_init_97 ?_
  refine z_iconst hC dX6_init_100 ?_
  refine z_iconst hC dX6_init_101 ?_
  refine z_iast (ws' := [cO 5 h [some q_1, some q_2, some q_3, some q_4, none, some q_5, some q_6, some q_7, none, none, none, none, none] (mK 0 0 0 0 0 0), cI (J 0) q_1 222 (updZ (updZ (updZ (updZ (updZ (fun _ => 0) 0 40) 1 1000) 2 1) 3 10) 4 1), cI (J 0) q_2 222 (fun _ => 0), cI (J 0) q_3 222 (fun _ => 0), cI (J 0) q_4 1332 (fun _ => 0), cI (J 0) q_5 444 (fun _ => 0), cI (J 0) q_6 2 (fun _ => 0), cI (J 0) q_7 80 (fun _ => 0)]) hC 1 rfl 0 rfl 4 rfl (by decide) (by decide) dX6_init_102 rfl ?_
  refine z_aload_n hC dX6_init_103 rfl 0 rfl ?_
  refine z_callV (wr := ([] : va_W)) (av := []) (st := []) hC (t_X6_beginsAnew l D J h (mkU q_1 q_2 q_3 q_4 q_5 q_6 q_7) 0 0 0 0 0 0 (updZ (updZ (updZ (updZ (updZ (fun _ => 0) 0 40) 1 1000) 2 1) 3 10) 4 1) (fun _ => 0) (fun _ => 0) (fun _ => 0) (fun _ => 0) (fun _ => 0) (fun _ => 0)  ) gX6_init_X6_beginsAnew rfl 0 (by decide +kernel) ⟨Nat.le_of_ble_eq_true rfl, Nat.le_of_ble_eq_true rfl⟩ ⟨Nat.le_of_ble_eq_true rfl, Nat.le_of_ble_eq_true rfl⟩ [0, 1, 2, 3, 4, 5, 6, 7] [] rfl rfl rfl (by decide) rfl 0 rfl rfl rfl rfl rfl (Nat.le_of_ble_eq_true rfl) dX6_init_104 (fun _ _ => ?_)
  refine z_ws (ws' := [cO 5 h [some q_1, some q_2, some q_3, some q_4, none, some q_5, some q_6, some q_7, none, none, none, none, none] (mK 0 0 0 0 0 0), cI (J 0) q_1 222 (mFresh (updZ (updZ (updZ (updZ (updZ (fun _ => 0) 0 40) 1 1000) 2 1) 3 10) 4 1)), cI (J 0) q_2 222 (fun _ => 0), cI (J 0) q_3 222 (fun _ => 0), cI (J 0) q_4 1332 (fun _ => 0), cI (J 0) q_5 444 (fun _ => 0), cI (J 0) q_6 2 (fun _ => 0), cI (J 0) q_7 80 (fun _ => 0)]) rfl ?_
  refine z_st (st' := []) rfl ?_
  exact z_vret hC hr (mkU q_1 q_2 q_3 q_4 q_5 q_6 q_7) trivial rfl rfl dX6_init_107
