set_option maxRecDepth 20000 in
theorem iX4_store_X4 : ∀ w ∈ u_ws RX4 TX4 2, w ∈ wsX4_store := zm_places _ [28, 29] (by decide +kernel)
theorem kX4_store_1 : Cond.fieldLink RX4 11 "StepPairs$Slots" "rows" "[LStepPairs$Encoder;" ∈ wsX4_store := List.mem_of_getElem? (i := 1) rfl
theorem kX4_store_2 : Cond.fieldLink RX4 17 "StepPairs$Slots" "used" "[Z" ∈ wsX4_store := List.mem_of_getElem? (i := 2) rfl
set_option maxRecDepth 20000 in
theorem iX4_store_X1 : ∀ w ∈ u_ws RX1 TX1 16, w ∈ wsX4_store := zm_places _ [30, 31, 32, 33, 34, 35, 36, 37, 38, 39, 40, 41, 42, 43, 44, 45] (by decide +kernel)
theorem kX4_store_3 : Cond.fieldLink RX4 26 "StepPairs$Encoder" "count" "I" ∈ wsX4_store := List.mem_of_getElem? (i := 3) rfl
abbrev rmX4_store : Room := { frames := 2, cells := 0, slots := 0, locals := 61 }
set_option maxHeartbeats 4000000 in
set_option maxRecDepth 100000 in
theorem t_X4_store (l : Launch) (D : va_G) (J : Nat → ClassId) (h r u h0 h1 h2 : Nat) (sa sb sc : Nat → Nat) (F U : Nat → Int) (V : Nat → Enc) (E : Enc) (x : Int) (hx : inR x) : ZX l yX4_store wsX4_store rmX4_store D J [.ref h, .int (iI x), .ref h0] ([cO 3 h [some r, some u] F, cQ (J 3) r 2 (fun j => some (sa j)), cI (J 2) u 2 U] ++ (wE J (sa 0) (sb 0) (sc 0) (V 0) ++ (wE J (sa 1) (sb 1) (sc 1) (V 1) ++ wE J h0 h1 h2 E))) (some (.int (iI (sR x E)))) (wS J h r u sa sb sc F (sU U x) (sV V x E) ++ wE J h0 h1 h2 E) := by
  unfold inR at hx
  refine z_met (cc := cX4_store) (nL := 3) (ret := (some .int)) (own := RX4) (by decide) rfl rfl (Nat.le_of_ble_eq_true rfl) (fun p e s m args below meth c hC hr hin => ?_)
  refine z_lv0 (lv' := [(0, .ref h), (1, .int (iI x)), (2, .ref h0)]) rfl ?_
  rcases (show x = 0 ∨ x = 1 ∨ (x < 0 ∨ 2 ≤ x) by omega) with rfl | rfl | hk
  · skip
    refine z_iload_n hC dX4_store_0 rfl 1 rfl ?_
    refine z_if_lt_f (tgt := 13) hC dX4_store_1 (by decide) ⟨by decide, by decide⟩ (by decide) ?_
    refine z_iload_n hC dX4_store_4 rfl 1 rfl ?_
    refine z_iconst hC dX4_store_5 ?_
    refine z_icmp_ge_f (tgt := 13) hC dX4_store_6 (by decide) ⟨by decide, by decide⟩ ⟨by decide, by decide⟩ (by decide) ?_
    refine z_aload_n hC dX4_store_9 rfl 2 rfl ?_
    refine z_ifnonnull (tgt := 16) hC dX4_store_10 (by decide) ?_
    refine z_aload_n hC dX4_store_16 rfl 2 rfl ?_
    refine z_aload_n hC dX4_store_17 rfl 0 rfl ?_
    refine z_getr hC zkX4 iX4_store_X4 0 rfl 0 (by decide) kX4_store_1 rfl rfl dX4_store_18 ?_
    refine z_iload_n hC dX4_store_21 rfl 1 rfl ?_
    refine z_aald hC 1 rfl rfl 0 rfl (by decide) (by decide) (r := sa 0) rfl dX4_store_22 ?_
    refine z_callS (wr := [cO 3 h [some r, some u] F, cQ (J 3) r 2 (fun j => some (sa j)), cI (J 2) u 2 U, cO 0 (sa 1) [some (sb 1), some (sc 1), none, none, none, none, none, none, none, none, none, none, none, none, none, none] ((V 1).1), cI (J 0) (sb 1) 5 ((V 1).2.1), cI (J 0) (sc 1) 200 ((V 1).2.2)]) (av := [.ref h0, .ref (sa 0)]) (st := []) hC (t_X1_copy l D J h0 h1 h2 (sa 0) (sb 0) (sc 0) E (V 0)) gX4_store_X1_copy rfl 2 (by decide +kernel) ⟨Nat.le_of_ble_eq_true rfl, Nat.le_of_ble_eq_true rfl⟩ ⟨Nat.le_of_ble_eq_true rfl, Nat.le_of_ble_eq_true rfl⟩ [9, 10, 11, 3, 4, 5] [0, 1, 2, 6, 7, 8] rfl rfl rfl (by decide) rfl rfl rfl (Nat.le_of_ble_eq_true rfl) dX4_store_23 (fun _ _ => ?_)
    refine z_perm (ws' := [cO 3 h [some r, some u] F, cQ (J 3) r 2 (fun j => some (sa j)), cI (J 2) u 2 U] ++ (wE J (sa 0) (sb 0) (sc 0) E ++ (wE J (sa 1) (sb 1) (sc 1) (V 1) ++ wE J h0 h1 h2 E))) [0, 1, 2, 9, 10, 11, 3, 4, 5, 6, 7, 8] rfl rfl ?_
    refine z_st (st' := []) rfl ?_
    refine z_aload_n hC dX4_store_26 rfl 0 rfl ?_
    refine z_getr hC zkX4 iX4_store_X4 0 rfl 1 (by decide) kX4_store_2 rfl rfl dX4_store_27 ?_
    refine z_iload_n hC dX4_store_30 rfl 1 rfl ?_
    refine z_iconst hC dX4_store_31 ?_
    refine z_zast (ws' := [cO 3 h [some r, some u] F, cQ (J 3) r 2 (fun j => some (sa j)), cI (J 2) u 2 (updZ U 0 1)] ++ (wE J (sa 0) (sb 0) (sc 0) E ++ (wE J (sa 1) (sb 1) (sc 1) (V 1) ++ wE J h0 h1 h2 E))) hC 2 rfl 2 rfl 0 rfl (by decide) (by decide) (by decide) dX4_store_32 rfl ?_
    refine z_aload_n hC dX4_store_33 rfl 2 rfl ?_
    refine z_geti hC zkX1 iX4_store_X1 9 rfl 3 (by decide) kX4_store_3 rfl rfl dX4_store_34 ?_
    exact z_iret hC hr rfl () trivial (rfl) (rfl) dX4_store_37
  · skip
    refine z_iload_n hC dX4_store_0 rfl 1 rfl ?_
    refine z_if_lt_f (tgt := 13) hC dX4_store_1 (by decide) ⟨by decide, by decide⟩ (by decide) ?_
    refine z_iload_n hC dX4_store_4 rfl 1 rfl ?_
    refine z_iconst hC dX4_store_5 ?_
    refine z_icmp_ge_f (tgt := 13) hC dX4_store_6 (by decide) ⟨by decide, by decide⟩ ⟨by decide, by decide⟩ (by decide) ?_
    refine z_aload_n hC dX4_store_9 rfl 2 rfl ?_
    refine z_ifnonnull (tgt := 16) hC dX4_store_10 (by decide) ?_
    refine z_aload_n hC dX4_store_16 rfl 2 rfl ?_
    refine z_aload_n hC dX4_store_17 rfl 0 rfl ?_
    refine z_getr hC zkX4 iX4_store_X4 0 rfl 0 (by decide) kX4_store_1 rfl rfl dX4_store_18 ?_
    refine z_iload_n hC dX4_store_21 rfl 1 rfl ?_
    refine z_aald hC 1 rfl rfl 1 rfl (by decide) (by decide) (r := sa 1) rfl dX4_store_22 ?_
    refine z_callS (wr := [cO 3 h [some r, some u] F, cQ (J 3) r 2 (fun j => some (sa j)), cI (J 2) u 2 U, cO 0 (sa 0) [some (sb 0), some (sc 0), none, none, none, none, none, none, none, none, none, none, none, none, none, none] ((V 0).1), cI (J 0) (sb 0) 5 ((V 0).2.1), cI (J 0) (sc 0) 200 ((V 0).2.2)]) (av := [.ref h0, .ref (sa 1)]) (st := []) hC (t_X1_copy l D J h0 h1 h2 (sa 1) (sb 1) (sc 1) E (V 1)) gX4_store_X1_copy rfl 2 (by decide +kernel) ⟨Nat.le_of_ble_eq_true rfl, Nat.le_of_ble_eq_true rfl⟩ ⟨Nat.le_of_ble_eq_true rfl, Nat.le_of_ble_eq_true rfl⟩ [9, 10, 11, 6, 7, 8] [0, 1, 2, 3, 4, 5] rfl rfl rfl (by decide) rfl rfl rfl (Nat.le_of_ble_eq_true rfl) dX4_store_23 (fun _ _ => ?_)
    refine z_perm (ws' := [cO 3 h [some r, some u] F, cQ (J 3) r 2 (fun j => some (sa j)), cI (J 2) u 2 U] ++ (wE J (sa 0) (sb 0) (sc 0) (V 0) ++ (wE J (sa 1) (sb 1) (sc 1) E ++ wE J h0 h1 h2 E))) [0, 1, 2, 3, 4, 5, 9, 10, 11, 6, 7, 8] rfl rfl ?_
    refine z_st (st' := []) rfl ?_
    refine z_aload_n hC dX4_store_26 rfl 0 rfl ?_
    refine z_getr hC zkX4 iX4_store_X4 0 rfl 1 (by decide) kX4_store_2 rfl rfl dX4_store_27 ?_
    refine z_iload_n hC dX4_store_30 rfl 1 rfl ?_
    refine z_iconst hC dX4_store_31 ?_
    refine z_zast (ws' := [cO 3 h [some r, some u] F, cQ (J 3) r 2 (fun j => some (sa j)), cI (J 2) u 2 (updZ U 1 1)] ++ (wE J (sa 0) (sb 0) (sc 0) (V 0) ++ (wE J (sa 1) (sb 1) (sc 1) E ++ wE J h0 h1 h2 E))) hC 2 rfl 2 rfl 1 rfl (by decide) (by decide) (by decide) dX4_store_32 rfl ?_
    refine z_aload_n hC dX4_store_33 rfl 2 rfl ?_
    refine z_geti hC zkX1 iX4_store_X1 9 rfl 3 (by decide) kX4_store_3 rfl rfl dX4_store_34 ?_
    exact z_iret hC hr rfl () trivial (rfl) (rfl) dX4_store_37
  · skip
    refine z_iload_n hC dX4_store_0 rfl 1 rfl ?_
    refine z_if_lt (tgt := 13) hC dX4_store_1 (by decide) (by unfold inR; omega) (fun c_1_1 => ?_) (fun c_1_1 => ?_)
    · refine z_bipush hC dX4_store_13 (by decide) ?_
      exact z_iret hC hr rfl () trivial (hvi (by unfold sR; rw [if_neg (by omega)])) (by unfold sU sV; rw [if_neg (by omega), if_neg (by omega)]; rfl) dX4_store_15
    · refine z_iload_n hC dX4_store_4 rfl 1 rfl ?_
      refine z_iconst hC dX4_store_5 ?_
      refine z_icmp_ge_t (tgt := 13) hC dX4_store_6 (by decide) (by unfold inR; omega) ⟨by decide, by decide⟩ (by omega) ?_
      refine z_bipush hC dX4_store_13 (by decide) ?_
      exact z_iret hC hr rfl () trivial (hvi (by unfold sR; rw [if_neg (by omega)])) (by unfold sU sV; rw [if_neg (by omega), if_neg (by omega)]; rfl) dX4_store_15
set_option maxRecDepth 20000 in
theorem iX4_fetch_X4 : ∀ w ∈ u_ws RX4 TX4 2, w ∈ wsX4_fetch := zm_places _ [28, 29] (by decide +kernel)
theorem kX4_fetch_1 : Cond.fieldLink RX4 17 "StepPairs$Slots" "used" "[Z" ∈ wsX4_fetch := List.mem_of_getElem? (i := 1) rfl
theorem kX4_fetch_2 : Cond.fieldLink RX4 11 "StepPairs$Slots" "rows" "[LStepPairs$Encoder;" ∈ wsX4_fetch := List.mem_of_getElem? (i := 2) rfl
set_option maxRecDepth 20000 in
theorem iX4_fetch_X1 : ∀ w ∈ u_ws RX1 TX1 16, w ∈ wsX4_fetch := zm_places _ [30, 31, 32, 33, 34, 35, 36, 37, 38, 39, 40, 41, 42, 43, 44, 45] (by decide +kernel)
theorem kX4_fetch_3 : Cond.fieldLink RX4 26 "StepPairs$Encoder" "count" "I" ∈ wsX4_fetch := List.mem_of_getElem? (i := 3) rfl
abbrev rmX4_fetch : Room := { frames := 2, cells := 0, slots := 0, locals := 61 }
set_option maxHeartbeats 4000000 in
set_option maxRecDepth 100000 in
theorem t_X4_fetch (l : Launch) (D : va_G) (J : Nat → ClassId) (h r u h0 h1 h2 : Nat) (sa sb sc : Nat → Nat) (F U : Nat → Int) (V : Nat → Enc) (E : Enc) (x : Int) (hx : inR x) (hU : ∀ j, 0 ≤ U j ∧ U j ≤ 1) : ZX l yX4_fetch wsX4_fetch rmX4_fetch D J [.ref h, .int (iI x), .ref h0] ([cO 3 h [some r, some u] F, cQ (J 3) r 2 (fun j => some (sa j)), cI (J 2) u 2 U] ++ (wE J (sa 0) (sb 0) (sc 0) (V 0) ++ (wE J (sa 1) (sb 1) (sc 1) (V 1) ++ wE J h0 h1 h2 E))) (some (.int (iI (fR U V x)))) (wS J h r u sa sb sc F U V ++ wE J h0 h1 h2 (fE U V x E)) := by
  unfold inR at hx
  have hu0 := hU 0
  have hu1 := hU 1
  refine z_met (cc := cX4_fetch) (nL := 3) (ret := (some .int)) (own := RX4) (by decide) rfl rfl (Nat.le_of_ble_eq_true rfl) (fun p e s m args below meth c hC hr hin => ?_)
  refine z_lv0 (lv' := [(0, .ref h), (1, .int (iI x)), (2, .ref h0)]) rfl ?_
  rcases (show x = 0 ∨ x = 1 ∨ (x < 0 ∨ 2 ≤ x) by omega) with rfl | rfl | hk
  · skip
    refine z_iload_n hC dX4_fetch_0 rfl 1 rfl ?_
    refine z_if_lt_f (tgt := 13) hC dX4_fetch_1 (by decide) ⟨by decide, by decide⟩ (by decide) ?_
    refine z_iload_n hC dX4_fetch_4 rfl 1 rfl ?_
    refine z_iconst hC dX4_fetch_5 ?_
    refine z_icmp_ge_f (tgt := 13) hC dX4_fetch_6 (by decide) ⟨by decide, by decide⟩ ⟨by decide, by decide⟩ (by decide) ?_
    refine z_aload_n hC dX4_fetch_9 rfl 2 rfl ?_
    refine z_ifnonnull (tgt := 16) hC dX4_fetch_10 (by decide) ?_
    refine z_aload_n hC dX4_fetch_16 rfl 0 rfl ?_
    refine z_getr hC zkX4 iX4_fetch_X4 0 rfl 1 (by decide) kX4_fetch_1 rfl rfl dX4_fetch_17 ?_
    refine z_iload_n hC dX4_fetch_20 rfl 1 rfl ?_
    refine z_zald hC 2 rfl 2 rfl 0 rfl (by decide) (by decide) dX4_fetch_21 ?_
    refine z_if_ne (tgt := 28) hC dX4_fetch_22 (by decide) (by unfold inR; omega) (fun c_22_1 => ?_) (fun c_22_1 => ?_)
    · refine z_aload_n hC dX4_fetch_28 rfl 0 rfl ?_
      refine z_getr hC zkX4 iX4_fetch_X4 0 rfl 0 (by decide) kX4_fetch_2 rfl rfl dX4_fetch_29 ?_
      refine z_iload_n hC dX4_fetch_32 rfl 1 rfl ?_
      refine z_aald hC 1 rfl rfl 0 rfl (by decide) (by decide) (r := sa 0) rfl dX4_fetch_33 ?_
      refine z_aload_n hC dX4_fetch_34 rfl 2 rfl ?_
      refine z_callS (wr := [cO 3 h [some r, some u] F, cQ (J 3) r 2 (fun j => some (sa j)), cI (J 2) u 2 U, cO 0 (sa 1) [some (sb 1), some (sc 1), none, none, none, none, none, none, none, none, none, none, none, none, none, none] ((V 1).1), cI (J 0) (sb 1) 5 ((V 1).2.1), cI (J 0) (sc 1) 200 ((V 1).2.2)]) (av := [.ref (sa 0), .ref h0]) (st := []) hC (t_X1_copy l D J (sa 0) (sb 0) (sc 0) h0 h1 h2 (V 0) E) gX4_fetch_X1_copy rfl 2 (by decide +kernel) ⟨Nat.le_of_ble_eq_true rfl, Nat.le_of_ble_eq_true rfl⟩ ⟨Nat.le_of_ble_eq_true rfl, Nat.le_of_ble_eq_true rfl⟩ [3, 4, 5, 9, 10, 11] [0, 1, 2, 6, 7, 8] rfl rfl rfl (by decide) rfl rfl rfl (Nat.le_of_ble_eq_true rfl) dX4_fetch_35 (fun _ _ => ?_)
      refine z_perm (ws' := [cO 3 h [some r, some u] F, cQ (J 3) r 2 (fun j => some (sa j)), cI (J 2) u 2 U] ++ (wE J (sa 0) (sb 0) (sc 0) (V 0) ++ (wE J (sa 1) (sb 1) (sc 1) (V 1) ++ wE J h0 h1 h2 (V 0)))) [0, 1, 2, 6, 7, 8, 3, 4, 5, 9, 10, 11] rfl rfl ?_
      refine z_st (st' := []) rfl ?_
      refine z_aload_n hC dX4_fetch_38 rfl 2 rfl ?_
      refine z_geti hC zkX1 iX4_fetch_X1 9 rfl 3 (by decide) kX4_fetch_3 rfl rfl dX4_fetch_39 ?_
      exact z_iret hC hr rfl () trivial (hvi (by unfold fR; rw [if_pos (by decide), if_neg (show ¬ U (Int.toNat 0) = 0 from (show ¬ U 0 = 0 by omega))] <;> rfl)) (congrArg (fun z => wS J h r u sa sb sc F U V ++ wE J h0 h1 h2 z) (by unfold fE; rw [if_pos (by decide), if_neg (show ¬ U (Int.toNat 0) = 0 from (show ¬ U 0 = 0 by omega))] <;> rfl)) dX4_fetch_42
    · refine z_bipush hC dX4_fetch_25 (by decide) ?_
      exact z_iret hC hr rfl () trivial (hvi (by unfold fR; rw [if_pos (by decide), if_pos (show U (Int.toNat 0) = 0 from (show U 0 = 0 by omega))] <;> rfl)) (congrArg (fun z => wS J h r u sa sb sc F U V ++ wE J h0 h1 h2 z) (by unfold fE; rw [if_pos (by decide), if_pos (show U (Int.toNat 0) = 0 from (show U 0 = 0 by omega))] <;> rfl)) dX4_fetch_27
  · skip
    refine z_iload_n hC dX4_fetch_0 rfl 1 rfl ?_
    refine z_if_lt_f (tgt := 13) hC dX4_fetch_1 (by decide) ⟨by decide, by decide⟩ (by decide) ?_
    refine z_iload_n hC dX4_fetch_4 rfl 1 rfl ?_
    refine z_iconst hC dX4_fetch_5 ?_
    refine z_icmp_ge_f (tgt := 13) hC dX4_fetch_6 (by decide) ⟨by decide, by decide⟩ ⟨by decide, by decide⟩ (by decide) ?_
    refine z_aload_n hC dX4_fetch_9 rfl 2 rfl ?_
    refine z_ifnonnull (tgt := 16) hC dX4_fetch_10 (by decide) ?_
    refine z_aload_n hC dX4_fetch_16 rfl 0 rfl ?_
    refine z_getr hC zkX4 iX4_fetch_X4 0 rfl 1 (by decide) kX4_fetch_1 rfl rfl dX4_fetch_17 ?_
    refine z_iload_n hC dX4_fetch_20 rfl 1 rfl ?_
    refine z_zald hC 2 rfl 2 rfl 1 rfl (by decide) (by decide) dX4_fetch_21 ?_
    refine z_if_ne (tgt := 28) hC dX4_fetch_22 (by decide) (by unfold inR; omega) (fun c_22_2 => ?_) (fun c_22_2 => ?_)
    · refine z_aload_n hC dX4_fetch_28 rfl 0 rfl ?_
      refine z_getr hC zkX4 iX4_fetch_X4 0 rfl 0 (by decide) kX4_fetch_2 rfl rfl dX4_fetch_29 ?_
      refine z_iload_n hC dX4_fetch_32 rfl 1 rfl ?_
      refine z_aald hC 1 rfl rfl 1 rfl (by decide) (by decide) (r := sa 1) rfl dX4_fetch_33 ?_
      refine z_aload_n hC dX4_fetch_34 rfl 2 rfl ?_
      refine z_callS (wr := [cO 3 h [some r, some u] F, cQ (J 3) r 2 (fun j => some (sa j)), cI (J 2) u 2 U, cO 0 (sa 0) [some (sb 0), some (sc 0), none, none, none, none, none, none, none, none, none, none, none, none, none, none] ((V 0).1), cI (J 0) (sb 0) 5 ((V 0).2.1), cI (J 0) (sc 0) 200 ((V 0).2.2)]) (av := [.ref (sa 1), .ref h0]) (st := []) hC (t_X1_copy l D J (sa 1) (sb 1) (sc 1) h0 h1 h2 (V 1) E) gX4_fetch_X1_copy rfl 2 (by decide +kernel) ⟨Nat.le_of_ble_eq_true rfl, Nat.le_of_ble_eq_true rfl⟩ ⟨Nat.le_of_ble_eq_true rfl, Nat.le_of_ble_eq_true rfl⟩ [6, 7, 8, 9, 10, 11] [0, 1, 2, 3, 4, 5] rfl rfl rfl (by decide) rfl rfl rfl (Nat.le_of_ble_eq_true rfl) dX4_fetch_35 (fun _ _ => ?_)
      refine z_ws (ws' := [cO 3 h [some r, some u] F, cQ (J 3) r 2 (fun j => some (sa j)), cI (J 2) u 2 U] ++ (wE J (sa 0) (sb 0) (sc 0) (V 0) ++ (wE J (sa 1) (sb 1) (sc 1) (V 1) ++ wE J h0 h1 h2 (V 1)))) rfl ?_
      refine z_st (st' := []) rfl ?_
      refine z_aload_n hC dX4_fetch_38 rfl 2 rfl ?_
      refine z_geti hC zkX1 iX4_fetch_X1 9 rfl 3 (by decide) kX4_fetch_3 rfl rfl dX4_fetch_39 ?_
      exact z_iret hC hr rfl () trivial (hvi (by unfold fR; rw [if_pos (by decide), if_neg (show ¬ U (Int.toNat 1) = 0 from (show ¬ U 1 = 0 by omega))] <;> rfl)) (congrArg (fun z => wS J h r u sa sb sc F U V ++ wE J h0 h1 h2 z) (by unfold fE; rw [if_pos (by decide), if_neg (show ¬ U (Int.toNat 1) = 0 from (show ¬ U 1 = 0 by omega))] <;> rfl)) dX4_fetch_42
    · refine z_bipush hC dX4_fetch_25 (by decide) ?_
      exact z_iret hC hr rfl () trivial (hvi (by unfold fR; rw [if_pos (by decide), if_pos (show U (Int.toNat 1) = 0 from (show U 1 = 0 by omega))] <;> rfl)) (congrArg (fun z => wS J h r u sa sb sc F U V ++ wE J h0 h1 h2 z) (by unfold fE; rw [if_pos (by decide), if_pos (show U (Int.toNat 1) = 0 from (show U 1 = 0 by omega))] <;> rfl)) dX4_fetch_27
  · skip
    refine z_iload_n hC dX4_fetch_0 rfl 1 rfl ?_
    refine z_if_lt (tgt := 13) hC dX4_fetch_1 (by decide) (by unfold inR; omega) (fun c_1_3 => ?_) (fun c_1_3 => ?_)
    · refine z_bipush hC dX4_fetch_13 (by decide) ?_
      exact z_iret hC hr rfl () trivial (hvi (by unfold fR; rw [if_neg (by omega)])) (congrArg (fun z => wS J h r u sa sb sc F U V ++ wE J h0 h1 h2 z) (by unfold fE; rw [if_neg (by omega)])) dX4_fetch_15
    · refine z_iload_n hC dX4_fetch_4 rfl 1 rfl ?_
      refine z_iconst hC dX4_fetch_5 ?_
      refine z_icmp_ge_t (tgt := 13) hC dX4_fetch_6 (by decide) (by unfold inR; omega) ⟨by decide, by decide⟩ (by omega) ?_
      refine z_bipush hC dX4_fetch_13 (by decide) ?_
      exact z_iret hC hr rfl () trivial (hvi (by unfold fR; rw [if_neg (by omega)])) (congrArg (fun z => wS J h r u sa sb sc F U V ++ wE J h0 h1 h2 z) (by unfold fE; rw [if_neg (by omega)])) dX4_fetch_15
