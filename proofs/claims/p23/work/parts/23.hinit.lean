theorem kX2_init_1 : Cond.methodLink RX2 3 objectInit ∈ wsX2_init := List.mem_of_getElem? (i := 1) rfl
theorem kX2_init_2 : Cond.instanceMethod objectInit ∈ wsX2_init := List.mem_of_getElem? (i := 2) rfl
theorem kX2_init_3 : Cond.code objectInit ⟨#[0xb1]⟩ 1 none ∈ wsX2_init := List.mem_of_getElem? (i := 3) rfl
theorem kX2_init_4 : Cond.classLink RX2 11 RX1 ∈ wsX2_init := List.mem_of_getElem? (i := 4) rfl
set_option maxRecDepth 20000 in
theorem iX2_init_X2 : ∀ w ∈ u_ws RX2 TX2 3, w ∈ wsX2_init := zm_places _ [19, 20, 21] (by decide +kernel)
theorem kX2_init_5 : Cond.fieldLink RX2 13 "StepPairs$History" "rows" "[LStepPairs$Encoder;" ∈ wsX2_init := List.mem_of_getElem? (i := 5) rfl
set_option maxRecDepth 20000 in
theorem iX2_init_X1 : ∀ w ∈ u_ws RX1 TX1 16, w ∈ wsX2_init := zm_places _ [22, 23, 24, 25, 26, 27, 28, 29, 30, 31, 32, 33, 34, 35, 36, 37] (by decide +kernel)
theorem kX2_init_6 : Cond.instantiable RX1 16 ∈ wsX2_init := List.mem_of_getElem? (i := 6) rfl
theorem kX2_init_7 : Cond.initialized RX1 ∈ wsX2_init := List.mem_of_getElem? (i := 7) rfl
theorem kX2_init_8 : Cond.methodLink RX2 17 yX1_init ∈ wsX2_init := List.mem_of_getElem? (i := 8) rfl
theorem kX2_init_9 : Cond.instanceMethod yX1_init ∈ wsX2_init := List.mem_of_getElem? (i := 9) rfl
abbrev rmX2_init : Room := { frames := 2, cells := 22, slots := 1554, locals := 60 }
set_option maxHeartbeats 4000000 in
set_option maxRecDepth 100000 in
theorem t_X2_init (l : Launch) (D : va_G) (J : Nat → ClassId) (h : Nat) : ZM (S := Nat × (Nat → Nat) × (Nat → Nat) × (Nat → Nat)) l yX2_init wsX2_init rmX2_init D J [.ref h] ([(h, .inr (1, [.null, .int (iI 0), .int (iI 0)]))]) (fun _ => True) (fun _ => none) (fun u => wH J h u.1 u.2.1 u.2.2.1 u.2.2.2 (fun _ => 0) (fun _ => freshE)) := by
  refine z_met (cc := cX2_init) (nL := 2) (ret := none) (own := RX2) (by decide) rfl rfl (Nat.le_of_ble_eq_true rfl) (fun p e s m args below meth c hC hr hin => ?_)
  refine z_lv0 (lv' := [(0, .ref h)]) rfl ?_
  refine z_aload_n hC dX2_init_0 rfl 0 rfl ?_
  refine z_objInit hC kX2_init_1 kX2_init_2 kX2_init_3 (Nat.le_of_ble_eq_true rfl) (Nat.le_of_ble_eq_true rfl) dX2_init_1 ?_
  refine z_aload_n hC dX2_init_4 rfl 0 rfl ?_
  refine z_bipush hC dX2_init_5 (by decide) ?_
  refine z_anew (N' := 7) hC kX2_init_4 rfl (by decide) (Nat.le_of_ble_eq_true rfl) (Nat.le_of_ble_eq_true rfl) dX2_init_7 (fun q_1 => ?_)
  refine z_ws (ws' := [(h, .inr (1, [.null, .int (iI 0), .int (iI 0)])), cQ (J 3) q_1 7 (fun _ => none)]) rfl ?_
  refine z_putF (ws' := [cO 1 h [some q_1, none, none] (fun _ => 0), cQ (J 3) q_1 7 (fun _ => none)]) hC zkX2 iX2_init_X2 0 rfl 0 (by decide) kX2_init_5 rfl rfl rfl hin rfl rfl rfl (Nat.le_of_ble_eq_true rfl) dX2_init_10 rfl ?_
  refine z_iconst hC dX2_init_13 ?_
  refine z_istore_n (lv' := [(1, .int (iI 0)), (0, .ref h)]) hC dX2_init_14 rfl (by decide) rfl ?_
  refine z_iload_n hC dX2_init_15 rfl 0 rfl ?_
  refine z_bipush hC dX2_init_16 (by decide) ?_
  refine z_icmp_ge_f (tgt := 40) hC dX2_init_18 (by decide) ⟨by decide, by decide⟩ ⟨by decide, by decide⟩ (by decide) ?_
  refine z_aload_n hC dX2_init_21 rfl 1 rfl ?_
  refine z_getr hC zkX2 iX2_init_X2 0 rfl 0 (by decide) kX2_init_5 rfl rfl dX2_init_22 ?_
  refine z_iload_n hC dX2_init_25 rfl 0 rfl ?_
  refine z_new (fs := [.null, .null, .int (iI 0), .int (iI 0), .int (iI 0), .int (iI 0), .int (iI 0), .int (iI 0), .int (iI 0), .int (iI 0), .int (iI 0), .int (iI 0), .int (iI 0), .int (iI 0), .int (iI 0), .int (iI 0)]) hC zkX1 iX2_init_X1 kX2_init_4 kX2_init_6 kX2_init_7 (fun j hj => by rcases (show j = 0 ∨ j = 1 ∨ j = 2 ∨ j = 3 ∨ j = 4 ∨ j = 5 ∨ j = 6 ∨ j = 7 ∨ j = 8 ∨ j = 9 ∨ j = 10 ∨ j = 11 ∨ j = 12 ∨ j = 13 ∨ j = 14 ∨ j = 15 by omega) with rfl | rfl | rfl | rfl | rfl | rfl | rfl | rfl | rfl | rfl | rfl | rfl | rfl | rfl | rfl | rfl <;> rfl) (Nat.le_of_ble_eq_true rfl) (Nat.le_of_ble_eq_true rfl) dX2_init_26 (fun q_2 => ?_)
  refine z_ws (ws' := [cO 1 h [some q_1, none, none] (fun _ => 0), cQ (J 3) q_1 7 (fun _ => none), (q_2, .inr (0, [.null, .null, .int (iI 0), .int (iI 0), .int (iI 0), .int (iI 0), .int (iI 0), .int (iI 0), .int (iI 0), .int (iI 0), .int (iI 0), .int (iI 0), .int (iI 0), .int (iI 0), .int (iI 0), .int (iI 0)]))]) rfl ?_
  refine z_dup hC dX2_init_29 rfl ?_
  refine z_callI (wr := [cO 1 h [some q_1, none, none] (fun _ => 0), cQ (J 3) q_1 7 (fun _ => none)]) (av := []) (st := [.ref q_2, .int (iI 0), .ref q_1]) hC (t_X1_init l D J q_2) gX2_init_X1_init rfl 0 kX2_init_7 kX2_init_8 kX2_init_9 rfl (by decide +kernel) ⟨Nat.le_of_ble_eq_true rfl, Nat.le_of_ble_eq_true rfl⟩ ⟨Nat.le_of_ble_eq_true rfl, Nat.le_of_ble_eq_true rfl⟩ [2] [0, 1] rfl rfl rfl (by decide) rfl rfl rfl (Nat.le_of_ble_eq_true rfl) dX2_init_30 (fun u_3 _ => ?_)
  refine z_ws (ws' := [cO 1 h [some q_1, none, none] (fun _ => 0), cQ (J 3) q_1 7 (fun _ => none)] ++ wE J q_2 u_3.1 u_3.2 freshE) rfl ?_
  refine z_st (st' := [.ref q_2, .int (iI 0), .ref q_1]) rfl ?_
  refine z_aast (ws' := [cO 1 h [some q_1, none, none] (fun _ => 0), cQ (J 3) q_1 7 (va_up (fun _ => none) 0 (some q_2))] ++ wE J q_2 u_3.1 u_3.2 freshE) hC 1 rfl rfl 2 rfl 0 rfl (by decide) (by decide) dX2_init_33 rfl ?_
  refine z_iinc (lv' := [(1, .int (iI 1)), (0, .ref h)]) hC dX2_init_34 0 rfl (by decide) rfl ?_
  refine z_goto (tgt := 15) hC dX2_init_37 (by decide) ?_
  refine z_iload_n hC dX2_init_15 rfl 0 rfl ?_
  refine z_bipush hC dX2_init_16 (by decide) ?_
  refine z_icmp_ge_f (tgt := 40) hC dX2_init_18 (by decide) ⟨by decide, by decide⟩ ⟨by decide, by decide⟩ (by decide) ?_
  refine z_aload_n hC dX2_init_21 rfl 1 rfl ?_
  refine z_getr hC zkX2 iX2_init_X2 0 rfl 0 (by decide) kX2_init_5 rfl rfl dX2_init_22 ?_
  refine z_iload_n hC dX2_init_25 rfl 0 rfl ?_
  refine z_new (fs := [.null, .null, .int (iI 0), .int (iI 0), .int (iI 0), .int (iI 0), .int (iI 0), .int (iI 0), .int (iI 0), .int (iI 0), .int (iI 0), .int (iI 0), .int (iI 0), .int (iI 0), .int (iI 0), .int (iI 0)]) hC zkX1 iX2_init_X1 kX2_init_4 kX2_init_6 kX2_init_7 (fun j hj => by rcases (show j = 0 ∨ j = 1 ∨ j = 2 ∨ j = 3 ∨ j = 4 ∨ j = 5 ∨ j = 6 ∨ j = 7 ∨ j = 8 ∨ j = 9 ∨ j = 10 ∨ j = 11 ∨ j = 12 ∨ j = 13 ∨ j = 14 ∨ j = 15 by omega) with rfl | rfl | rfl | rfl | rfl | rfl | rfl | rfl | rfl | rfl | rfl | rfl | rfl | rfl | rfl | rfl <;> rfl) (Nat.le_of_ble_eq_true rfl) (Nat.le_of_ble_eq_true rfl) dX2_init_26 (fun q_4 => ?_)
  refine z_ws (ws' := [cO 1 h [some q_1, none, none] (fun _ => 0), cQ (J 3) q_1 7 (va_up (fun _ => none) 0 (some q_2))] ++ (wE J q_2 u_3.1 u_3.2 freshE ++ [(q_4, .inr (0, [.null, .null, .int (iI 0), .int (iI 0), .int (iI 0), .int (iI 0), .int (iI 0), .int (iI 0), .int (iI 0), .int (iI 0), .int (iI 0), .int (iI 0), .int (iI 0), .int (iI 0), .int (iI 0), .int (iI 0)]))])) rfl ?_
  refine z_dup hC dX2_init_29 rfl ?_
  refine z_callI (wr := [cO 1 h [some q_1, none, none] (fun _ => 0), cQ (J 3) q_1 7 (va_up (fun _ => none) 0 (some q_2))] ++ wE J q_2 u_3.1 u_3.2 freshE) (av := []) (st := [.ref q_4, .int (iI 1), .ref q_1]) hC (t_X1_init l D J q_4) gX2_init_X1_init rfl 0 kX2_init_7 kX2_init_8 kX2_init_9 rfl (by decide +kernel) ⟨Nat.le_of_ble_eq_true rfl, Nat.le_of_ble_eq_true rfl⟩ ⟨Nat.le_of_ble_eq_true rfl, Nat.le_of_ble_eq_true rfl⟩ [5] [0, 1, 2, 3, 4] rfl rfl rfl (by decide) rfl rfl rfl (Nat.le_of_ble_eq_true rfl) dX2_init_30 (fun u_5 _ => ?_)
  refine z_ws (ws' := [cO 1 h [some q_1, none, none] (fun _ => 0), cQ (J 3) q_1 7 (va_up (fun _ => none) 0 (some q_2))] ++ (wE J q_2 u_3.1 u_3.2 freshE ++ wE J q_4 u_5.1 u_5.2 freshE)) rfl ?_
  refine z_st (st' := [.ref q_4, .int (iI 1), .ref q_1]) rfl ?_
  refine z_aast (ws' := [cO 1 h [some q_1, none, none] (fun _ => 0), cQ (J 3) q_1 7 (va_up (va_up (fun _ => none) 0 (some q_2)) 1 (some q_4))] ++ (wE J q_2 u_3.1 u_3.2 freshE ++ wE J q_4 u_5.1 u_5.2 freshE)) hC 1 rfl rfl 5 rfl 1 rfl (by decide) (by decide) dX2_init_33 rfl ?_
  refine z_iinc (lv' := [(1, .int (iI 2)), (0, .ref h)]) hC dX2_init_34 0 rfl (by decide) rfl ?_
  refine z_goto (tgt := 15) hC dX2_init_37 (by decide) ?_
  refine z_iload_n hC dX2_init_15 rfl 0 rfl ?_
  refine z_bipush hC dX2_init_16 (by decide) ?_
  refine z_icmp_ge_f (tgt := 40) hC dX2_init_18 (by decide) ⟨by decide, by decide⟩ ⟨by decide, by decide⟩ (by decide) ?_
  refine z_aload_n hC dX2_init_21 rfl 1 rfl ?_
  refine z_getr hC zkX2 iX2_init_X2 0 rfl 0 (by decide) kX2_init_5 rfl rfl dX2_init_22 ?_
  refine z_iload_n hC dX2_init_25 rfl 0 rfl ?_
  refine z_new (fs := [.null, .null, .int (iI 0), .int (iI 0), .int (iI 0), .int (iI 0), .int (iI 0), .int (iI 0), .int (iI 0), .int (iI 0), .int (iI 0), .int (iI 0), .int (iI 0), .int (iI 0), .int (iI 0), .int (iI 0)]) hC zkX1 iX2_init_X1 kX2_init_4 kX2_init_6 kX2_init_7 (fun j hj => by rcases (show j = 0 ∨ j = 1 ∨ j = 2 ∨ j = 3 ∨ j = 4 ∨ j = 5 ∨ j = 6 ∨ j = 7 ∨ j = 8 ∨ j = 9 ∨ j = 10 ∨ j = 11 ∨ j = 12 ∨ j = 13 ∨ j = 14 ∨ j = 15 by omega) with rfl | rfl | rfl | rfl | rfl | rfl | rfl | rfl | rfl | rfl | rfl | rfl | rfl | rfl | rfl | rfl <;> rfl) (Nat.le_of_ble_eq_true rfl) (Nat.le_of_ble_eq_true rfl) dX2_init_26 (fun q_6 => ?_)
  refine z_ws (ws' := [cO 1 h [some q_1, none, none] (fun _ => 0), cQ (J 3) q_1 7 (va_up (va_up (fun _ => none) 0 (some q_2)) 1 (some q_4))] ++ (wE J q_2 u_3.1 u_3.2 freshE ++ (wE J q_4 u_5.1 u_5.2 freshE ++ [(q_6, .inr (0, [.null, .null, .int (iI 0), .int (iI 0), .int (iI 0), .int (iI 0), .int (iI 0), .int (iI 0), .int (iI 0), .int (iI 0), .int (iI 0), .int (iI 0), .int (iI 0), .int (iI 0), .int (iI 0), .int (iI 0)]))]))) rfl ?_
  refine z_dup hC dX2_init_29 rfl ?_
  refine z_callI (wr := [cO 1 h [some q_1, none, none] (fun _ => 0), cQ (J 3) q_1 7 (va_up (va_up (fun _ => none) 0 (some q_2)) 1 (some q_4))] ++ (wE J q_2 u_3.1 u_3.2 freshE ++ wE J q_4 u_5.1 u_5.2 freshE)) (av := []) (st := [.ref q_6, .int (iI 2), .ref q_1]) hC (t_X1_init l D J q_6) gX2_init_X1_init rfl 0 kX2_init_7 kX2_init_8 kX2_init_9 rfl (by decide +kernel) ⟨Nat.le_of_ble_eq_true rfl, Nat.le_of_ble_eq_true rfl⟩ ⟨Nat.le_of_ble_eq_true rfl, Nat.le_of_ble_eq_true rfl⟩ [8] [0, 1, 2, 3, 4, 5, 6, 7] rfl rfl rfl (by decide) rfl rfl rfl (Nat.le_of_ble_eq_true rfl) dX2_init_30 (fun u_7 _ => ?_)
  refine z_ws (ws' := [cO 1 h [some q_1, none, none] (fun _ => 0), cQ (J 3) q_1 7 (va_up (va_up (fun _ => none) 0 (some q_2)) 1 (some q_4))] ++ (wE J q_2 u_3.1 u_3.2 freshE ++ (wE J q_4 u_5.1 u_5.2 freshE ++ wE J q_6 u_7.1 u_7.2 freshE))) rfl ?_
  refine z_st (st' := [.ref q_6, .int (iI 2), .ref q_1]) rfl ?_
  refine z_aast (ws' := [cO 1 h [some q_1, none, none] (fun _ => 0), cQ (J 3) q_1 7 (va_up (va_up (va_up (fun _ => none) 0 (some q_2)) 1 (some q_4)) 2 (some q_6))] ++ (wE J q_2 u_3.1 u_3.2 freshE ++ (wE J q_4 u_5.1 u_5.2 freshE ++ wE J q_6 u_7.1 u_7.2 freshE))) hC 1 rfl rfl 8 rfl 2 rfl (by decide) (by decide) dX2_init_33 rfl ?_
  refine z_iinc (lv' := [(1, .int (iI 3)), (0, .ref h)]) hC dX2_init_34 0 rfl (by decide) rfl ?_
  refine z_goto (tgt := 15) hC dX2_init_37 (by decide) ?_
  refine z_iload_n hC dX2_init_15 rfl 0 rfl ?_
  refine z_bipush hC dX2_init_16 (by decide) ?_
  refine z_icmp_ge_f (tgt := 40) hC dX2_init_18 (by decide) ⟨by decide, by decide⟩ ⟨by decide, by decide⟩ (by decide) ?_
  refine z_aload_n hC dX2_init_21 rfl 1 rfl ?_
  refine z_getr hC zkX2 iX2_init_X2 0 rfl 0 (by decide) kX2_init_5 rfl rfl dX2_init_22 ?_
  refine z_iload_n hC dX2_init_25 rfl 0 rfl ?_
  refine z_new (fs := [.null, .null, .int (iI 0), .int (iI 0), .int (iI 0), .int (iI 0), .int (iI 0), .int (iI 0), .int (iI 0), .int (iI 0), .int (iI 0), .int (iI 0), .int (iI 0), .int (iI 0), .int (iI 0), .int (iI 0)]) hC zkX1 iX2_init_X1 kX2_init_4 kX2_init_6 kX2_init_7 (fun j hj => by rcases (show j = 0 ∨ j = 1 ∨ j = 2 ∨ j = 3 ∨ j = 4 ∨ j = 5 ∨ j = 6 ∨ j = 7 ∨ j = 8 ∨ j = 9 ∨ j = 10 ∨ j = 11 ∨ j = 12 ∨ j = 13 ∨ j = 14 ∨ j = 15 by omega) with rfl | rfl | rfl | rfl | rfl | rfl | rfl | rfl | rfl | rfl | rfl | rfl | rfl | rfl | rfl | rfl <;> rfl) (Nat.le_of_ble_eq_true rfl) (Nat.le_of_ble_eq_true rfl) dX2_init_26 (fun q_8 => ?_)
  refine z_ws (ws' := [cO 1 h [some q_1, none, none] (fun _ => 0), cQ (J 3) q_1 7 (va_up (va_up (va_up (fun _ => none) 0 (some q_2)) 1 (some q_4)) 2 (some q_6))] ++ (wE J q_2 u_3.1 u_3.2 freshE ++ (wE J q_4 u_5.1 u_5.2 freshE ++ (wE J q_6 u_7.1 u_7.2 freshE ++ [(q_8, .inr (0, [.null, .null, .int (iI 0), .int (iI 0), .int (iI 0), .int (iI 0), .int (iI 0), .int (iI 0), .int (iI 0), .int (iI 0), .int (iI 0), .int (iI 0), .int (iI 0), .int (iI 0), .int (iI 0), .int (iI 0)]))])))) rfl ?_
  refine z_dup hC dX2_init_29 rfl ?_
  refine z_callI (wr := [cO 1 h [some q_1, none, none] (fun _ => 0), cQ (J 3) q_1 7 (va_up (va_up (va_up (fun _ => none) 0 (some q_2)) 1 (some q_4)) 2 (some q_6))] ++ (wE J q_2 u_3.1 u_3.2 freshE ++ (wE J q_4 u_5.1 u_5.2 freshE ++ wE J q_6 u_7.1 u_7.2 freshE))) (av := []) (st := [.ref q_8, .int (iI 3), .ref q_1]) hC (t_X1_init l D J q_8) gX2_init_X1_init rfl 0 kX2_init_7 kX2_init_8 kX2_init_9 rfl (by decide +kernel) ⟨Nat.le_of_ble_eq_true rfl, Nat.le_of_ble_eq_true rfl⟩ ⟨Nat.le_of_ble_eq_true rfl, Nat.le_of_ble_eq_true rfl⟩ [11] [0, 1, 2, 3, 4, 5, 6, 7, 8, 9, 10] rfl rfl rfl (by decide) rfl rfl rfl (Nat.le_of_ble_eq_true rfl) dX2_init_30 (fun u_9 _ => ?_)
  refine z_ws (ws' := [cO 1 h [some q_1, none, none] (fun _ => 0), cQ (J 3) q_1 7 (va_up (va_up (va_up (fun _ => none) 0 (some q_2)) 1 (some q_4)) 2 (some q_6))] ++ (wE J q_2 u_3.1 u_3.2 freshE ++ (wE J q_4 u_5.1 u_5.2 freshE ++ (wE J q_6 u_7.1 u_7.2 freshE ++ wE J q_8 u_9.1 u_9.2 freshE)))) rfl ?_
  refine z_st (st' := [.ref q_8, .int (iI 3), .ref q_1]) rfl ?_
  refine z_aast (ws' := [cO 1 h [some q_1, none, none] (fun _ => 0), cQ (J 3) q_1 7 (va_up (va_up (va_up (va_up (fun _ => none) 0 (some q_2)) 1 (some q_4)) 2 (some q_6)) 3 (some q_8))] ++ (wE J q_2 u_3.1 u_3.2 freshE ++ (wE J q_4 u_5.1 u_5.2 freshE ++ (wE J q_6 u_7.1 u_7.2 freshE ++ wE J q_8 u_9.1 u_9.2 freshE)))) hC 1 rfl rfl 11 rfl 3 rfl (by decide) (by decide) dX2_init_33 rfl ?_
  refine z_iinc (lv' := [(1, .int (iI 4)), (0, .ref h)]) hC dX2_init_34 0 rfl (by decide) rfl ?_
  refine z_goto (tgt := 15) hC dX2_init_37 (by decide) ?_
  refine z_iload_n hC dX2_init_15 rfl 0 rfl ?_
  refine z_bipush hC dX2_init_16 (by decide) ?_
  refine z_icmp_ge_f (tgt := 40) hC dX2_init_18 (by decide) ⟨by decide, by decide⟩ ⟨by decide, by decide⟩ (by decide) ?_
  refine z_aload_n hC dX2_init_21 rfl 1 rfl ?_
  refine z_getr hC zkX2 iX2_init_X2 0 rfl 0 (by decide) kX2_init_5 rfl rfl dX2_init_22 ?_
  refine z_iload_n hC dX2_init_25 rfl 0 rfl ?_
  refine z_new (fs := [.null, .null, .int (iI 0), .int (iI 0), .int (iI 0), .int (iI 0), .int (iI 0), .int (iI 0), .int (iI 0), .int (iI 0), .int (iI 0), .int (iI 0), .int (iI 0), .int (iI 0), .int (iI 0), .int (iI 0)]) hC zkX1 iX2_init_X1 kX2_init_4 kX2_init_6 kX2_init_7 (fun j hj => by rcases (show j = 0 ∨ j = 1 ∨ j = 2 ∨ j = 3 ∨ j = 4 ∨ j = 5 ∨ j = 6 ∨ j = 7 ∨ j = 8 ∨ j = 9 ∨ j = 10 ∨ j = 11 ∨ j = 12 ∨ j = 13 ∨ j = 14 ∨ j = 15 by omega) with rfl | rfl | rfl | rfl | rfl | rfl | rfl | rfl | rfl | rfl | rfl | rfl | rfl | rfl | rfl | rfl <;> rfl) (Nat.le_of_ble_eq_true rfl) (Nat.le_of_ble_eq_true rfl) dX2_init_26 (fun q_10 => ?_)
  refine z_ws (ws' := [cO 1 h [some q_1, none, none] (fun _ => 0), cQ (J 3) q_1 7 (va_up (va_up (va_up (va_up (fun _ => none) 0 (some q_2)) 1 (some q_4)) 2 (some q_6)) 3 (some q_8))] ++ (wE J q_2 u_3.1 u_3.2 freshE ++ (wE J q_4 u_5.1 u_5.2 freshE ++ (wE J q_6 u_7.1 u_7.2 freshE ++ (wE J q_8 u_9.1 u_9.2 freshE ++ [(q_10, .inr (0, [.null, .null, .int (iI 0), .int (iI 0), .int (iI 0), .int (iI 0), .int (iI 0), .int (iI 0), .int (iI 0), .int (iI 0), .int (iI 0), .int (iI 0), .int (iI 0), .int (iI 0), .int (iI 0), .int (iI 0)]))]))))) rfl ?_
  refine z_dup hC dX2_init_29 rfl ?_
  refine z_callI (wr := [cO 1 h [some q_1, none, none] (fun _ => 0), cQ (J 3) q_1 7 (va_up (va_up (va_up (va_up (fun _ => none) 0 (some q_2)) 1 (some q_4)) 2 (some q_6)) 3 (some q_8))] ++ (wE J q_2 u_3.1 u_3.2 freshE ++ (wE J q_4 u_5.1 u_5.2 freshE ++ (wE J q_6 u_7.1 u_7.2 freshE ++ wE J q_8 u_9.1 u_9.2 freshE)))) (av := []) (st := [.ref q_10, .int (iI 4), .ref q_1]) hC (t_X1_init l D J q_10) gX2_init_X1_init rfl 0 kX2_init_7 kX2_init_8 kX2_init_9 rfl (by decide +kernel) ⟨Nat.le_of_ble_eq_true rfl, Nat.le_of_ble_eq_true rfl⟩ ⟨Nat.le_of_ble_eq_true rfl, Nat.le_of_ble_eq_true rfl⟩ [14] [0, 1, 2, 3, 4, 5, 6, 7, 8, 9, 10, 11, 12, 13] rfl rfl rfl (by decide) rfl rfl rfl (Nat.le_of_ble_eq_true rfl) dX2_init_30 (fun u_11 _ => ?_)
  refine z_ws (ws' := [cO 1 h [some q_1, none, none] (fun _ => 0), cQ (J 3) q_1 7 (va_up (va_up (va_up (va_up (fun _ => none) 0 (some q_2)) 1 (some q_4)) 2 (some q_6)) 3 (some q_8))] ++ (wE J q_2 u_3.1 u_3.2 freshE ++ (wE J q_4 u_5.1 u_5.2 freshE ++ (wE J q_6 u_7.1 u_7.2 freshE ++ (wE J q_8 u_9.1 u_9.2 freshE ++ wE J q_10 u_11.1 u_11.2 freshE))))) rfl ?_
  refine z_st (st' := [.ref q_10, .int (iI 4), .ref q_1]) rfl ?_
  refine z_aast (ws' := [cO 1 h [some q_1, none, none] (fun _ => 0), cQ (J 3) q_1 7 (va_up (va_up (va_up (va_up (va_up (fun _ => none) 0 (some q_2)) 1 (some q_4)) 2 (some q_6)) 3 (some q_8)) 4 (some q_10))] ++ (wE J q_2 u_3.1 u_3.2 freshE ++ (wE J q_4 u_5.1 u_5.2 freshE ++ (wE J q_6 u_7.1 u_7.2 freshE ++ (wE J q_8 u_9.1 u_9.2 freshE ++ wE J q_10 u_11.1 u_11.2 freshE))))) hC 1 rfl rfl 14 rfl 4 rfl (by decide) (by decide) dX2_init_33 rfl ?_
  refine z_iinc (lv' := [(1, .int (iI 5)), (0, .ref h)]) hC dX2_init_34 0 rfl (by decide) rfl ?_
  refine z_goto (tgt := 15) hC dX2_init_37 (by decide) ?_
  refine z_iload_n hC dX2_init_15 rfl 0 rfl ?_
  refine z_bipush hC dX2_init_16 (by decide) ?_
  refine z_icmp_ge_f (tgt := 40) hC dX2_init_18 (by decide) ⟨by decide, by decide⟩ ⟨by decide, by decide⟩ (by decide) ?_
  refine z_aload_n hC dX2_init_21 rfl 1 rfl ?_
  refine z_getr hC zkX2 iX2_init_X2 0 rfl 0 (by decide) kX2_init_5 rfl rfl dX2_init_22 ?_
  refine z_iload_n hC dX2_init_25 rfl 0 rfl ?_
  refine z_new (fs := [.null, .null, .int (iI 0), .int (iI 0), .int (iI 0), .int (iI 0), .int (iI 0), .int (iI 0), .int (iI 0), .int (iI 0), .int (iI 0), .int (iI 0), .int (iI 0), .int (iI 0), .int (iI 0), .int (iI 0)]) hC zkX1 iX2_init_X1 kX2_init_4 kX2_init_6 kX2_init_7 (fun j hj => by rcases (show j = 0 ∨ j = 1 ∨ j = 2 ∨ j = 3 ∨ j = 4 ∨ j = 5 ∨ j = 6 ∨ j = 7 ∨ j = 8 ∨ j = 9 ∨ j = 10 ∨ j = 11 ∨ j = 12 ∨ j = 13 ∨ j = 14 ∨ j = 15 by omega) with rfl | rfl | rfl | rfl | rfl | rfl | rfl | rfl | rfl | rfl | rfl | rfl | rfl | rfl | rfl | rfl <;> rfl) (Nat.le_of_ble_eq_true rfl) (Nat.le_of_ble_eq_true rfl) dX2_init_26 (fun q_12 => ?_)
  refine z_ws (ws' := [cO 1 h [some q_1, none, none] (fun _ => 0), cQ (J 3) q_1 7 (va_up (va_up (va_up (va_up (va_up (fun _ => none) 0 (some q_2)) 1 (some q_4)) 2 (some q_6)) 3 (some q_8)) 4 (some q_10))] ++ (wE J q_2 u_3.1 u_3.2 freshE ++ (wE J q_4 u_5.1 u_5.2 freshE ++ (wE J q_6 u_7.1 u_7.2 freshE ++ (wE J q_8 u_9.1 u_9.2 freshE ++ (wE J q_10 u_11.1 u_11.2 freshE ++ [(q_12, .inr (0, [.null, .null, .int (iI 0), .int (iI 0), .int (iI 0), .int (iI 0), .int (iI 0), .int (iI 0), .int (iI 0), .int (iI 0), .int (iI 0), .int (iI 0), .int (iI 0), .int (iI 0), .int (iI 0), .int (iI 0)]))])))))) rfl ?_
  refine z_dup hC dX2_init_29 rfl ?_
  refine z_callI (wr := [cO 1 h [some q_1, none, none] (fun _ => 0), cQ (J 3) q_1 7 (va_up (va_up (va_up (va_up (va_up (fun _ => none) 0 (some q_2)) 1 (some q_4)) 2 (some q_6)) 3 (some q_8)) 4 (some q_10))] ++ (wE J q_2 u_3.1 u_3.2 freshE ++ (wE J q_4 u_5.1 u_5.2 freshE ++ (wE J q_6 u_7.1 u_7.2 freshE ++ (wE J q_8 u_9.1 u_9.2 freshE ++ wE J q_10 u_11.1 u_11.2 freshE))))) (av := []) (st := [.ref q_12, .int (iI 5), .ref q_1]) hC (t_X1_init l D J q_12) gX2_init_X1_init rfl 0 kX2_init_7 kX2_init_8 kX2_init_9 rfl (by decide +kernel) ⟨Nat.le_of_ble_eq_true rfl, Nat.le_of_ble_eq_true rfl⟩ ⟨Nat.le_of_ble_eq_true rfl, Nat.le_of_ble_eq_true rfl⟩ [17] [0, 1, 2, 3, 4, 5, 6, 7, 8, 9, 10, 11, 12, 13, 14, 15, 16] rfl rfl rfl (by decide) rfl rfl rfl (Nat.le_of_ble_eq_true rfl) dX2_init_30 (fun u_13 _ => ?_)
  refine z_ws (ws' := [cO 1 h [some q_1, none, none] (fun _ => 0), cQ (J 3) q_1 7 (va_up (va_up (va_up (va_up (va_up (fun _ => none) 0 (some q_2)) 1 (some q_4)) 2 (some q_6)) 3 (some q_8)) 4 (some q_10))] ++ (wE J q_2 u_3.1 u_3.2 freshE ++ (wE J q_4 u_5.1 u_5.2 freshE ++ (wE J q_6 u_7.1 u_7.2 freshE ++ (wE J q_8 u_9.1 u_9.2 freshE ++ (wE J q_10 u_11.1 u_11.2 freshE ++ wE J q_12 u_13.1 u_13.2 freshE)))))) rfl ?_
  refine z_st (st' := [.ref q_12, .int (iI 5), .ref q_1]) rfl ?_
  refine z_aast (ws' := [cO 1 h [some q_1, none, none] (fun _ => 0), cQ (J 3) q_1 7 (va_up (va_up (va_up (va_up (va_up (va_up (fun _ => none) 0 (some q_2)) 1 (some q_4)) 2 (some q_6)) 3 (some q_8)) 4 (some q_10)) 5 (some q_12))] ++ (wE J q_2 u_3.1 u_3.2 freshE ++ (wE J q_4 u_5.1 u_5.2 freshE ++ (wE J q_6 u_7.1 u_7.2 freshE ++ (wE J q_8 u_9.1 u_9.2 freshE ++ (wE J q_10 u_11.1 u_11.2 freshE ++ wE J q_12 u_13.1 u_13.2 freshE)))))) hC 1 rfl rfl 17 rfl 5 rfl (by decide) (by decide) dX2_init_33 rfl ?_
  refine z_iinc (lv' := [(1, .int (iI 6)), (0, .ref h)]) hC dX2_init_34 0 rfl (by decide) rfl ?_
  refine z_goto (tgt := 15) hC dX2_init_37 (by decide) ?_
  refine z_iload_n hC dX2_init_15 rfl 0 rfl ?_
  refine z_bipush hC dX2_init_16 (by decide) ?_
  refine z_icmp_ge_f (tgt := 40) hC dX2_init_18 (by decide) ⟨by decide, by decide⟩ ⟨by decide, by decide⟩ (by decide) ?_
  refine z_aload_n hC dX2_init_21 rfl 1 rfl ?_
  refine z_getr hC zkX2 iX2_init_X2 0 rfl 0 (by decide) kX2_init_5 rfl rfl dX2_init_22 ?_
  refine z_iload_n hC dX2_init_25 rfl 0 rfl ?_
  refine z_new (fs := [.null, .null, .int (iI 0), .int (iI 0), .int (iI 0), .int (iI 0), .int (iI 0), .int (iI 0), .int (iI 0), .int (iI 0), .int (iI 0), .int (iI 0), .int (iI 0), .int (iI 0), .int (iI 0), .int (iI 0)]) hC zkX1 iX2_init_X1 kX2_init_4 kX2_init_6 kX2_init_7 (fun j hj => by rcases (show j = 0 ∨ j = 1 ∨ j = 2 ∨ j = 3 ∨ j = 4 ∨ j = 5 ∨ j = 6 ∨ j = 7 ∨ j = 8 ∨ j = 9 ∨ j = 10 ∨ j = 11 ∨ j = 12 ∨ j = 13 ∨ j = 14 ∨ j = 15 by omega) with rfl | rfl | rfl | rfl | rfl | rfl | rfl | rfl | rfl | rfl | rfl | rfl | rfl | rfl | rfl | rfl <;> rfl) (Nat.le_of_ble_eq_true rfl) (Nat.le_of_ble_eq_true rfl) dX2_init_26 (fun q_14 => ?_)
  refine z_ws (ws' := [cO 1 h [some q_1, none, none] (fun _ => 0), cQ (J 3) q_1 7 (va_up (va_up (va_up (va_up (va_up (va_up (fun _ => none) 0 (some q_2)) 1 (some q_4)) 2 (some q_6)) 3 (some q_8)) 4 (some q_10)) 5 (some q_12))] ++ (wE J q_2 u_3.1 u_3.2 freshE ++ (wE J q_4 u_5.1 u_5.2 freshE ++ (wE J q_6 u_7.1 u_7.2 freshE ++ (wE J q_8 u_9.1 u_9.2 freshE ++ (wE J q_10 u_11.1 u_11.2 freshE ++ (wE J q_12 u_13.1 u_13.2 freshE ++ [(q_14, .inr (0, [.null, .null, .int (iI 0), .int (iI 0), .int (iI 0), .int (iI 0), .int (iI 0), .int (iI 0), .int (iI 0), .int (iI 0), .int (iI 0), .int (iI 0), .int (iI 0), .int (iI 0), .int (iI 0), .int (iI 0)]))]))))))) rfl ?_
  refine z_dup hC dX2_init_29 rfl ?_
  refine z_callI (wr := [cO 1 h [some q_1, none, none] (fun _ => 0), cQ (J 3) q_1 7 (va_up (va_up (va_up (va_up (va_up (va_up (fun _ => none) 0 (some q_2)) 1 (some q_4)) 2 (some q_6)) 3 (some q_8)) 4 (some q_10)) 5 (some q_12))] ++ (wE J q_2 u_3.1 u_3.2 freshE ++ (wE J q_4 u_5.1 u_5.2 freshE ++ (wE J q_6 u_7.1 u_7.2 freshE ++ (wE J q_8 u_9.1 u_9.2 freshE ++ (wE J q_10 u_11.1 u_11.2 freshE ++ wE J q_12 u_13.1 u_13.2 freshE)))))) (av := []) (st := [.ref q_14, .int (iI 6), .ref q_1]) hC (t_X1_init l D J q_14) gX2_init_X1_init rfl 0 kX2_init_7 kX2_init_8 kX2_init_9 rfl (by decide +kernel) ⟨Nat.le_of_ble_eq_true rfl, Nat.le_of_ble_eq_true rfl⟩ ⟨Nat.le_of_ble_eq_true rfl, Nat.le_of_ble_eq_true rfl⟩ [20] [0, 1, 2, 3, 4, 5, 6, 7, 8, 9, 10, 11, 12, 13, 14, 15, 16, 17, 18, 19] rfl rfl rfl (by decide) rfl rfl rfl (Nat.le_of_ble_eq_true rfl) dX2_init_30 (fun u_15 _ => ?_)
  refine z_ws (ws' := [cO 1 h [some q_1, none, none] (fun _ => 0), cQ (J 3) q_1 7 (va_up (va_up (va_up (va_up (va_up (va_up (fun _ => none) 0 (some q_2)) 1 (some q_4)) 2 (some q_6)) 3 (some q_8)) 4 (some q_10)) 5 (some q_12))] ++ (wE J q_2 u_3.1 u_3.2 freshE ++ (wE J q_4 u_5.1 u_5.2 freshE ++ (wE J q_6 u_7.1 u_7.2 freshE ++ (wE J q_8 u_9.1 u_9.2 freshE ++ (wE J q_10 u_11.1 u_11.2 freshE ++ (wE J q_12 u_13.1 u_13.2 freshE ++ wE J q_14 u_15.1 u_15.2 freshE))))))) rfl ?_
  refine z_st (st' := [.ref q_14, .int (iI 6), .ref q_1]) rfl ?_
  refine z_aast (ws' := [cO 1 h [some q_1, none, none] (fun _ => 0), cQ (J 3) q_1 7 (va_up (va_up (va_up (va_up (va_up (va_up (va_up (fun _ => none) 0 (some q_2)) 1 (some q_4)) 2 (some q_6)) 3 (some q_8)) 4 (some q_10)) 5 (some q_12)) 6 (some q_14))] ++ (wE J q_2 u_3.1 u_3.2 freshE ++ (wE J q_4 u_5.1 u_5.2 freshE ++ (wE J q_6 u_7.1 u_7.2 freshE ++ (wE J q_8 u_9.1 u_9.2 freshE ++ (wE J q_10 u_11.1 u_11.2 freshE ++ (wE J q_12 u_13.1 u_13.2 freshE ++ wE J q_14 u_15.1 u_15.2 freshE))))))) hC 1 rfl rfl 20 rfl 6 rfl (by decide) (by decide) dX2_init_33 rfl ?_
  refine z_iinc (lv' := [(1, .int (iI 7)), (0, .ref h)]) hC dX2_init_34 0 rfl (by decide) rfl ?_
  refine z_goto (tgt := 15) hC dX2_init_37 (by decide) ?_
  refine z_iload_n hC dX2_init_15 rfl 0 rfl ?_
  refine z_bipush hC dX2_init_16 (by decide) ?_
  refine z_icmp_ge_t (tgt := 40) hC dX2_init_18 (by decide) ⟨by decide, by decide⟩ ⟨by decide, by decide⟩ (by decide) ?_
  refine z_arrq (g := fun j => some ((fn7 q_2 q_4 q_6 q_8 q_10 q_12 q_14) j)) (ws' := _) 1 rfl (fun j hj => by rcases (show j = 0 ∨ j = 1 ∨ j = 2 ∨ j = 3 ∨ j = 4 ∨ j = 5 ∨ j = 6 by omega) with rfl | rfl | rfl | rfl | rfl | rfl | rfl <;> rfl) rfl ?_
  exact z_vret hC hr (q_1, (fn7 q_2 q_4 q_6 q_8 q_10 q_12 q_14), (fn7 u_3.1 u_5.1 u_7.1 u_9.1 u_11.1 u_13.1 u_15.1), (fn7 u_3.2 u_5.2 u_7.2 u_9.2 u_11.2 u_13.2 u_15.2)) trivial rfl rfl dX2_init_40
theorem kX4_init_1 : Cond.methodLink RX4 3 objectInit ∈ wsX4_init := List.mem_of_getElem? (i := 1) rfl
theorem kX4_init_2 : Cond.instanceMethod objectInit ∈ wsX4_init := List.mem_of_getElem? (i := 2) rfl
theorem kX4_init_3 : Cond.code objectInit ⟨#[0xb1]⟩ 1 none ∈ wsX4_init := List.mem_of_getElem? (i := 3) rfl
theorem kX4_init_4 : Cond.classLink RX4 9 RX1 ∈ wsX4_init := List.mem_of_getElem? (i := 4) rfl
set_option maxRecDepth 20000 in
theorem iX4_init_X4 : ∀ w ∈ u_ws RX4 TX4 2, w ∈ wsX4_init := zm_places _ [21, 22] (by decide +kernel)
theorem kX4_init_5 : Cond.fieldLink RX4 11 "StepPairs$Slots" "rows" "[LStepPairs$Encoder;" ∈ wsX4_init := List.mem_of_getElem? (i := 5) rfl
theorem kX4_init_6 : Cond.arrayClass .boolean ∈ wsX4_init := List.mem_of_getElem? (i := 6) rfl
theorem kX4_init_7 : Cond.fieldLink RX4 17 "StepPairs$Slots" "used" "[Z" ∈ wsX4_init := List.mem_of_getElem? (i := 7) rfl
set_option maxRecDepth 20000 in
theorem iX4_init_X1 : ∀ w ∈ u_ws RX1 TX1 16, w ∈ wsX4_init := zm_places _ [23, 24, 25, 26, 27, 28, 29, 30, 31, 32, 33, 34, 35, 36, 37, 38] (by decide +kernel)
theorem kX4_init_8 : Cond.instantiable RX1 16 ∈ wsX4_init := List.mem_of_getElem? (i := 8) rfl
theorem kX4_init_9 : Cond.initialized RX1 ∈ wsX4_init := List.mem_of_getElem? (i := 9) rfl
theorem kX4_init_10 : Cond.methodLink RX4 21 yX1_init ∈ wsX4_init := List.mem_of_getElem? (i := 10) rfl
theorem kX4_init_11 : Cond.instanceMethod yX1_init ∈ wsX4_init := List.mem_of_getElem? (i := 11) rfl
abbrev rmX4_init : Room := { frames := 2, cells := 8, slots := 446, locals := 60 }
set_option maxHeartbeats 4000000 in
set_option maxRecDepth 100000 in
theorem t_X4_init (l : Launch) (D : va_G) (J : Nat → ClassId) (h : Nat) : ZM (S := Nat × Nat × (Nat → Nat) × (Nat → Nat) × (Nat → Nat)) l yX4_init wsX4_init rmX4_init D J [.ref h] ([(h, .inr (3, [.null, .null]))]) (fun _ => True) (fun _ => none) (fun u => wS J h u.1 u.2.1 u.2.2.1 u.2.2.2.1 u.2.2.2.2 (fun _ => 0) (fun _ => 0) (fun _ => freshE)) := by
  refine z_met (cc := cX4_init) (nL := 2) (ret := none) (own := RX4) (by decide) rfl rfl (Nat.le_of_ble_eq_true rfl) (fun p e s m args below meth c hC hr hin => ?_)
  refine z_lv0 (lv' := [(0, .ref h)]) rfl ?_
  refine z_aload_n hC dX4_init_0 rfl 0 rfl ?_
  refine z_objInit hC kX4_init_1 kX4_init_2 kX4_init_3 (Nat.le_of_ble_eq_true rfl) (Nat.le_of_ble_eq_true rfl) dX4_init_1 ?_
  refine z_aload_n hC dX4_init_4 rfl 0 rfl ?_
  refine z_iconst hC dX4_init_5 ?_
  refine z_anew (N' := 2) hC kX4_init_4 rfl (by decide) (Nat.le_of_ble_eq_true rfl) (Nat.le_of_ble_eq_true rfl) dX4_init_6 (fun q_1 => ?_)
  refine z_ws (ws' := [(h, .inr (3, [.null, .null])), cQ (J 3) q_1 2 (fun _ => none)]) rfl ?_
  refine z_putF (ws' := [(h, .inr (3, [.ref q_1, .null])), cQ (J 3) q_1 2 (fun _ => none)]) hC zkX4 iX4_init_X4 0 rfl 0 (by decide) kX4_init_5 rfl rfl rfl hin rfl rfl rfl (Nat.le_of_ble_eq_true rfl) dX4_init_9 rfl ?_
  refine z_aload_n hC dX4_init_12 rfl 0 rfl ?_
  refine z_iconst hC dX4_init_13 ?_
  refine z_newarr (atype := .boolean) (ty := .boolean) (N' := 2) (t0 := 2) (cA0 := J 2) hC kX4_init_6 rfl rfl rfl (fun _ h => h) rfl (by decide) (Nat.le_of_ble_eq_true rfl) (Nat.le_of_ble_eq_true rfl) (Nat.le_of_ble_eq_true rfl) dX4_init_14 (fun q_2 => ?_)
  refine z_ws (ws' := [(h, .inr (3, [.ref q_1, .null])), cQ (J 3) q_1 2 (fun _ => none), cI (J 2) q_2 2 (fun _ => 0)]) rfl ?_
  refine z_putF (ws' := [cO 3 h [some q_1, some q_2] (fun _ => 0), cQ (J 3) q_1 2 (fun _ => none), cI (J 2) q_2 2 (fun _ => 0)]) hC zkX4 iX4_init_X4 0 rfl 1 (by decide) kX4_init_7 rfl rfl rfl hin rfl rfl rfl (Nat.le_of_ble_eq_true rfl) dX4_init_16 rfl ?_
  refine z_iconst hC dX4_init_19 ?_
  refine z_istore_n (lv' := [(1, .int (iI 0)), (0, .ref h)]) hC dX4_init_20 rfl (by decide) rfl ?_
  refine z_iload_n hC dX4_init_21 rfl 0 rfl ?_
  refine z_iconst hC dX4_init_22 ?_
  refine z_icmp_ge_f (tgt := 45) hC dX4_init_23 (by decide) ⟨by decide, by decide⟩ ⟨by decide, by decide⟩ (by decide) ?_
  refine z_aload_n hC dX4_init_26 rfl 1 rfl ?_
  refine z_getr hC zkX4 iX4_init_X4 0 rfl 0 (by decide) kX4_init_5 rfl rfl dX4_init_27 ?_
  refine z_iload_n hC dX4_init_30 rfl 0 rfl ?_
  refine z_new (fs := [.null, .null, .int (iI 0), .int (iI 0), .int (iI 0), .int (iI 0), .int (iI 0), .int (iI 0), .int (iI 0), .int (iI 0), .int (iI 0), .int (iI 0), .int (iI 0), .int (iI 0), .int (iI 0), .int (iI 0)]) hC zkX1 iX4_init_X1 kX4_init_4 kX4_init_8 kX4_init_9 (fun j hj => by rcases (show j = 0 ∨ j = 1 ∨ j = 2 ∨ j = 3 ∨ j = 4 ∨ j = 5 ∨ j = 6 ∨ j = 7 ∨ j = 8 ∨ j = 9 ∨ j = 10 ∨ j = 11 ∨ j = 12 ∨ j = 13 ∨ j = 14 ∨ j = 15 by omega) with rfl | rfl | rfl | rfl | rfl | rfl | rfl | rfl | rfl | rfl | rfl | rfl | rfl | rfl | rfl | rfl <;> rfl) (Nat.le_of_ble_eq_true rfl) (Nat.le_of_ble_eq_true rfl) dX4_init_31 (fun q_3 => ?_)
  refine z_ws (ws' := [cO 3 h [some q_1, some q_2] (fun _ => 0), cQ (J 3) q_1 2 (fun _ => none), cI (J 2) q_2 2 (fun _ => 0), (q_3, .inr (0, [.null, .null, .int (iI 0), .int (iI 0), .int (iI 0), .int (iI 0), .int (iI 0), .int (iI 0), .int (iI 0), .int (iI 0), .int (iI 0), .int (iI 0), .int (iI 0), .int (iI 0), .int (iI 0), .int (iI 0)]))]) rfl ?_
  refine z_dup hC dX4_init_34 rfl ?_
  refine z_callI (wr := [cO 3 h [some q_1, some q_2] (fun _ => 0), cQ (J 3) q_1 2 (fun _ => none), cI (J 2) q_2 2 (fun _ => 0)]) (av := []) (st := [.ref q_3, .int (iI 0), .ref q_1]) hC (t_X1_init l D J q_3) gX4_init_X1_init rfl 0 kX4_init_9 kX4_init_10 kX4_init_11 rfl (by decide +kernel) ⟨Nat.le_of_ble_eq_true rfl, Nat.le_of_ble_eq_true rfl⟩ ⟨Nat.le_of_ble_eq_true rfl, Nat.le_of_ble_eq_true rfl⟩ [3] [0, 1, 2] rfl rfl rfl (by decide) rfl rfl rfl (Nat.le_of_ble_eq_true rfl) dX4_init_35 (fun u_4 _ => ?_)
  refine z_ws (ws' := [cO 3 h [some q_1, some q_2] (fun _ => 0), cQ (J 3) q_1 2 (fun _ => none), cI (J 2) q_2 2 (fun _ => 0)] ++ wE J q_3 u_4.1 u_4.2 freshE) rfl ?_
  refine z_st (st' := [.ref q_3, .int (iI 0), .ref q_1]) rfl ?_
  refine z_aast (ws' := [cO 3 h [some q_1, some q_2] (fun _ => 0), cQ (J 3) q_1 2 (va_up (fun _ => none) 0 (some q_3)), cI (J 2) q_2 2 (fun _ => 0)] ++ wE J q_3 u_4.1 u_4.2 freshE) hC 1 rfl rfl 3 rfl 0 rfl (by decide) (by decide) dX4_init_38 rfl ?_
  refine z_iinc (lv' := [(1, .int (iI 1)), (0, .ref h)]) hC dX4_init_39 0 rfl (by decide) rfl ?_
  refine z_goto (tgt := 21) hC dX4_init_42 (by decide) ?_
  refine z_iload_n hC dX4_init_21 rfl 0 rfl ?_
  refine z_iconst hC dX4_init_22 ?_
  refine z_icmp_ge_f (tgt := 45) hC dX4_init_23 (by decide) ⟨by decide, by decide⟩ ⟨by decide, by decide⟩ (by decide) ?_
  refine z_aload_n hC dX4_init_26 rfl 1 rfl ?_
  refine z_getr hC zkX4 iX4_init_X4 0 rfl 0 (by decide) kX4_init_5 rfl rfl dX4_init_27 ?_
  refine z_iload_n hC dX4_init_30 rfl 0 rfl ?_
  refine z_new (fs := [.null, .null, .int (iI 0), .int (iI 0), .int (iI 0), .int (iI 0), .int (iI 0), .int (iI 0), .int (iI 0), .int (iI 0), .int (iI 0), .int (iI 0), .int (iI 0), .int (iI 0), .int (iI 0), .int (iI 0)]) hC zkX1 iX4_init_X1 kX4_init_4 kX4_init_8 kX4_init_9 (fun j hj => by rcases (show j = 0 ∨ j = 1 ∨ j = 2 ∨ j = 3 ∨ j = 4 ∨ j = 5 ∨ j = 6 ∨ j = 7 ∨ j = 8 ∨ j = 9 ∨ j = 10 ∨ j = 11 ∨ j = 12 ∨ j = 13 ∨ j = 14 ∨ j = 15 by omega) with rfl | rfl | rfl | rfl | rfl | rfl | rfl | rfl | rfl | rfl | rfl | rfl | rfl | rfl | rfl | rfl <;> rfl) (Nat.le_of_ble_eq_true rfl) (Nat.le_of_ble_eq_true rfl) dX4_init_31 (fun q_5 => ?_)
  refine z_ws (ws' := [cO 3 h [some q_1, some q_2] (fun _ => 0), cQ (J 3) q_1 2 (va_up (fun _ => none) 0 (some q_3)), cI (J 2) q_2 2 (fun _ => 0)] ++ (wE J q_3 u_4.1 u_4.2 freshE ++ [(q_5, .inr (0, [.null, .null, .int (iI 0), .int (iI 0), .int (iI 0), .int (iI 0), .int (iI 0), .int (iI 0), .int (iI 0), .int (iI 0), .int (iI 0), .int (iI 0), .int (iI 0), .int (iI 0), .int (iI 0), .int (iI 0)]))])) rfl ?_
  refine z_dup hC dX4_init_34 rfl ?_
  refine z_callI (wr := [cO 3 h [some q_1, some q_2] (fun _ => 0), cQ (J 3) q_1 2 (va_up (fun _ => none) 0 (some q_3)), cI (J 2) q_2 2 (fun _ => 0)] ++ wE J q_3 u_4.1 u_4.2 freshE) (av := []) (st := [.ref q_5, .int (iI 1), .ref q_1]) hC (t_X1_init l D J q_5) gX4_init_X1_init rfl 0 kX4_init_9 kX4_init_10 kX4_init_11 rfl (by decide +kernel) ⟨Nat.le_of_ble_eq_true rfl, Nat.le_of_ble_eq_true rfl⟩ ⟨Nat.le_of_ble_eq_true rfl, Nat.le_of_ble_eq_true rfl⟩ [6] [0, 1, 2, 3, 4, 5] rfl rfl rfl (by decide) rfl rfl rfl (Nat.le_of_ble_eq_true rfl) dX4_init_35 (fun u_6 _ => ?_)
  refine z_ws (ws' := [cO 3 h [some q_1, some q_2] (fun _ => 0), cQ (J 3) q_1 2 (va_up (fun _ => none) 0 (some q_3)), cI (J 2) q_2 2 (fun _ => 0)] ++ (wE J q_3 u_4.1 u_4.2 freshE ++ wE J q_5 u_6.1 u_6.2 freshE)) rfl ?_
  refine z_st (st' := [.ref q_5, .int (iI 1), .ref q_1]) rfl ?_
  refine z_aast (ws' := [cO 3 h [some q_1, some q_2] (fun _ => 0), cQ (J 3) q_1 2 (va_up (va_up (fun _ => none) 0 (some q_3)) 1 (some q_5)), cI (J 2) q_2 2 (fun _ => 0)] ++ (wE J q_3 u_4.1 u_4.2 freshE ++ wE J q_5 u_6.1 u_6.2 freshE)) hC 1 rfl rfl 6 rfl 1 rfl (by decide) (by decide) dX4_init_38 rfl ?_
  refine z_iinc (lv' := [(1, .int (iI 2)), (0, .ref h)]) hC dX4_init_39 0 rfl (by decide) rfl ?_
  refine z_goto (tgt := 21) hC dX4_init_42 (by decide) ?_
  refine z_iload_n hC dX4_init_21 rfl 0 rfl ?_
  refine z_iconst hC dX4_init_22 ?_
  refine z_icmp_ge_t (tgt := 45) hC dX4_init_23 (by decide) ⟨by decide, by decide⟩ ⟨by decide, by decide⟩ (by decide) ?_
  refine z_arrq (g := fun j => some ((fn2 q_3 q_5) j)) (ws' := _) 1 rfl (fun j hj => by rcases (show j = 0 ∨ j = 1 by omega) with rfl | rfl <;> rfl) rfl ?_
  exact z_vret hC hr (q_1, q_2, (fn2 q_3 q_5), (fn2 u_4.1 u_6.1), (fn2 u_4.2 u_6.2)) trivial rfl rfl dX4_init_45
