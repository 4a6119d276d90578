set_option maxRecDepth 20000 in
theorem iX5_log_X5 : ∀ w ∈ u_ws RX5 TX5 5, w ∈ wsX5_log := zm_places _ [34, 35, 36, 37, 38] (by decide +kernel)
theorem kX5_log_1 : Cond.fieldLink RX5 10 "StepPairs" "encoder" "LStepPairs$Encoder;" ∈ wsX5_log := List.mem_of_getElem? (i := 1) rfl
abbrev rmX5_log : Room := { frames := 5, cells := 0, slots := 0, locals := 97 }
set_option maxHeartbeats 4000000 in
set_option maxRecDepth 100000 in
theorem t_X5_log (l : Launch) (D : va_G) (J : Nat → ClassId) (h : Nat) (A : Nat → Nat → Nat) (E T : Enc) (F : Nat → Int) (R : Nat → Enc) (G U : Nat → Int) (V : Nat → Enc) (len pos pr ix nm : Int) (C : Nat → Int) (hI : InvE E) (hTg : ∀ j, 0 ≤ T.2.2 j ∧ T.2.2 j ≤ 31) (hF : 0 ≤ F 1 ∧ F 1 < 7) (hG : 0 ≤ F 2 ∧ F 2 ≤ 6) (hU : ∀ j, 0 ≤ U j ∧ U j ≤ 1) (hl : 0 ≤ len ∧ len ≤ 80) (hCh : ∀ j, 0 ≤ C j ∧ C j ≤ 126) (x y : Int) (hx : inR x) (hy : inR y) : ZX l yX5_log wsX5_log rmX5_log D J [.ref h, .int (iI x), .int (iI y)] (wSP J h A E T F R G U V len pos pr ix nm C) (some (.int (iI (cLogR E x y)))) (wSP J h A E T F R G U V len pos pr ix nm C) := by
  have hR := hI
  obtain ⟨hE2, hE3, hE4, hE5, hE6, hE7, hE8, hE9, hE10, hE13, hE14, hE15, hs0, hs1, hs2, hs3, hs4, hg⟩ := hR
  unfold inR at hy
  refine z_met (cc := cX5_log) (nL := 3) (ret := (some .int)) (own := RX5) (by decide) rfl rfl (Nat.le_of_ble_eq_true rfl) (fun p e s m args below meth c hC hr hin => ?_)
  refine z_lv0 (lv' := [(0, .ref h), (1, .int (iI x)), (2, .int (iI y))]) rfl ?_
  refine z_aload_n hC dX5_log_0 rfl 0 rfl ?_
  refine z_getr hC zkX5 iX5_log_X5 0 rfl 0 (by decide) kX5_log_1 rfl rfl dX5_log_1 ?_
  refine z_iload_n hC dX5_log_4 rfl 1 rfl ?_
  refine z_callV (wr := [cO 4 h [some (A 0 0), some (A 1 0), some (A 2 0), some (A 6 0), some (A 10 0)] (fun _ => 0)] ++ (wE J (A 1 0) (A 1 1) (A 1 2) T ++ ([cO 1 (A 2 0) [some (A 2 1), none, none] F, cQ (J 3) (A 2 1) 7 (fun j => some (A 3 j))] ++ (wE J (A 3 0) (A 4 0) (A 5 0) (R 0) ++ (wE J (A 3 1) (A 4 1) (A 5 1) (R 1) ++ (wE J (A 3 2) (A 4 2) (A 5 2) (R 2) ++ (wE J (A 3 3) (A 4 3) (A 5 3) (R 3) ++ (wE J (A 3 4) (A 4 4) (A 5 4) (R 4) ++ (wE J (A 3 5) (A 4 5) (A 5 5) (R 5) ++ (wE J (A 3 6) (A 4 6) (A 5 6) (R 6) ++ ([cO 3 (A 6 0) [some (A 6 1), some (A 6 2)] G, cQ (J 3) (A 6 1) 2 (fun j => some (A 7 j)), cI (J 2) (A 6 2) 2 U] ++ (wE J (A 7 0) (A 8 0) (A 9 0) (V 0) ++ (wE J (A 7 1) (A 8 1) (A 9 1) (V 1) ++ [cO 2 (A 10 0) [some (A 10 1), none, none, none, none, none] (padK len pos pr ix nm), cI (J 1) (A 10 1) 80 C]))))))))))))) (av := [.int (iI x)]) (st := []) hC (t_X1_hasTick l D J (A 0 0) (A 0 1) (A 0 2) E x hx hE2) gX5_log_X1_hasTick rfl 1 (by decide +kernel) ⟨Nat.le_of_ble_eq_true rfl, Nat.le_of_ble_eq_true rfl⟩ ⟨Nat.le_of_ble_eq_true rfl, Nat.le_of_ble_eq_true rfl⟩ [1, 2, 3] [0, 4, 5, 6, 7, 8, 9, 10, 11, 12, 13, 14, 15, 16, 17, 18, 19, 20, 21, 22, 23, 24, 25, 26, 27, 28, 29, 30, 31, 32, 33, 34, 35, 36, 37, 38, 39, 40] rfl rfl rfl (by decide) rfl 0 rfl rfl rfl rfl rfl (Nat.le_of_ble_eq_true rfl) dX5_log_5 (fun _ _ => ?_)
  refine z_perm (ws' := wSP J h A E T F R G U V len pos pr ix nm C) [0, 38, 39, 40, 1, 2, 3, 4, 5, 6, 7, 8, 9, 10, 11, 12, 13, 14, 15, 16, 17, 18, 19, 20, 21, 22, 23, 24, 25, 26, 27, 28, 29, 30, 31, 32, 33, 34, 35, 36, 37] rfl rfl ?_
  refine z_st (st' := [.int (iI (cHas E.1 x))]) rfl ?_
  have hh := cHas_01 E.1 x
  refine z_if_ne (tgt := 13) hC dX5_log_8 (by decide) (inR_01 (cHas_01 _ _)) (fun c_8_1 => ?_) (fun c_8_1 => ?_)
  · have hago : 0 ≤ x ∧ x < min (E.1 2) 200 := has_of (by assumption)
    refine z_iload_n hC dX5_log_13 rfl 2 rfl ?_
    rcases (show y = 0 ∨ y = 1 ∨ y = 2 ∨ (y < 0 ∨ 2 < y) by omega) with sw2 | sw2 | sw2 | sw2
    · refine z_tableIn (tgt := 40) (off := 26) hC dX5_log_14 (by unfold inR; omega) (by omega) (by omega) (by rw [sw2]; rfl) (by decide) ?_
      refine z_aload_n hC dX5_log_40 rfl 0 rfl ?_
      refine z_getr hC zkX5 iX5_log_X5 0 rfl 0 (by decide) kX5_log_1 rfl rfl dX5_log_41 ?_
      refine z_iload_n hC dX5_log_44 rfl 1 rfl ?_
      refine z_callV (wr := [cO 4 h [some (A 0 0), some (A 1 0), some (A 2 0), some (A 6 0), some (A 10 0)] (fun _ => 0)] ++ (wE J (A 1 0) (A 1 1) (A 1 2) T ++ ([cO 1 (A 2 0) [some (A 2 1), none, none] F, cQ (J 3) (A 2 1) 7 (fun j => some (A 3 j))] ++ (wE J (A 3 0) (A 4 0) (A 5 0) (R 0) ++ (wE J (A 3 1) (A 4 1) (A 5 1) (R 1) ++ (wE J (A 3 2) (A 4 2) (A 5 2) (R 2) ++ (wE J (A 3 3) (A 4 3) (A 5 3) (R 3) ++ (wE J (A 3 4) (A 4 4) (A 5 4) (R 4) ++ (wE J (A 3 5) (A 4 5) (A 5 5) (R 5) ++ (wE J (A 3 6) (A 4 6) (A 5 6) (R 6) ++ ([cO 3 (A 6 0) [some (A 6 1), some (A 6 2)] G, cQ (J 3) (A 6 1) 2 (fun j => some (A 7 j)), cI (J 2) (A 6 2) 2 U] ++ (wE J (A 7 0) (A 8 0) (A 9 0) (V 0) ++ (wE J (A 7 1) (A 8 1) (A 9 1) (V 1) ++ [cO 2 (A 10 0) [some (A 10 1), none, none, none, none, none] (padK len pos pr ix nm), cI (J 1) (A 10 1) 80 C]))))))))))))) (av := [.int (iI x)]) (st := []) hC (t_X1_pairAt l D J (A 0 0) (A 0 1) (A 0 2) E x hago hE2 hg) gX5_log_X1_pairAt rfl 1 (by decide +kernel) ⟨Nat.le_of_ble_eq_true rfl, Nat.le_of_ble_eq_true rfl⟩ ⟨Nat.le_of_ble_eq_true rfl, Nat.le_of_ble_eq_true rfl⟩ [1, 2, 3] [0, 4, 5, 6, 7, 8, 9, 10, 11, 12, 13, 14, 15, 16, 17, 18, 19, 20, 21, 22, 23, 24, 25, 26, 27, 28, 29, 30, 31, 32, 33, 34, 35, 36, 37, 38, 39, 40] rfl rfl rfl (by decide) rfl 0 rfl rfl rfl rfl rfl (Nat.le_of_ble_eq_true rfl) dX5_log_45 (fun _ _ => ?_)
      refine z_perm (ws' := wSP J h A E T F R G U V len pos pr ix nm C) [0, 38, 39, 40, 1, 2, 3, 4, 5, 6, 7, 8, 9, 10, 11, 12, 13, 14, 15, 16, 17, 18, 19, 20, 21, 22, 23, 24, 25, 26, 27, 28, 29, 30, 31, 32, 33, 34, 35, 36, 37] rfl rfl ?_
      refine z_st (st' := [.int (iI ((cEnt E.1 E.2.2 x) % 4))]) rfl ?_
      exact z_iret hC hr rfl () trivial (hvi (by unfold cLogR; (repeat' split) <;> first | rfl | omega)) (rfl) dX5_log_48
    · refine z_tableIn (tgt := 49) (off := 35) hC dX5_log_14 (by unfold inR; omega) (by omega) (by omega) (by rw [sw2]; rfl) (by decide) ?_
      refine z_aload_n hC dX5_log_49 rfl 0 rfl ?_
      refine z_getr hC zkX5 iX5_log_X5 0 rfl 0 (by decide) kX5_log_1 rfl rfl dX5_log_50 ?_
      refine z_iload_n hC dX5_log_53 rfl 1 rfl ?_
      refine z_callV (wr := [cO 4 h [some (A 0 0), some (A 1 0), some (A 2 0), some (A 6 0), some (A 10 0)] (fun _ => 0)] ++ (wE J (A 1 0) (A 1 1) (A 1 2) T ++ ([cO 1 (A 2 0) [some (A 2 1), none, none] F, cQ (J 3) (A 2 1) 7 (fun j => some (A 3 j))] ++ (wE J (A 3 0) (A 4 0) (A 5 0) (R 0) ++ (wE J (A 3 1) (A 4 1) (A 5 1) (R 1) ++ (wE J (A 3 2) (A 4 2) (A 5 2) (R 2) ++ (wE J (A 3 3) (A 4 3) (A 5 3) (R 3) ++ (wE J (A 3 4) (A 4 4) (A 5 4) (R 4) ++ (wE J (A 3 5) (A 4 5) (A 5 5) (R 5) ++ (wE J (A 3 6) (A 4 6) (A 5 6) (R 6) ++ ([cO 3 (A 6 0) [some (A 6 1), some (A 6 2)] G, cQ (J 3) (A 6 1) 2 (fun j => some (A 7 j)), cI (J 2) (A 6 2) 2 U] ++ (wE J (A 7 0) (A 8 0) (A 9 0) (V 0) ++ (wE J (A 7 1) (A 8 1) (A 9 1) (V 1) ++ [cO 2 (A 10 0) [some (A 10 1), none, none, none, none, none] (padK len pos pr ix nm), cI (J 1) (A 10 1) 80 C]))))))))))))) (av := [.int (iI x)]) (st := []) hC (t_X1_indexAt l D J (A 0 0) (A 0 1) (A 0 2) E x hago hE2 hg) gX5_log_X1_indexAt rfl 1 (by decide +kernel) ⟨Nat.le_of_ble_eq_true rfl, Nat.le_of_ble_eq_true rfl⟩ ⟨Nat.le_of_ble_eq_true rfl, Nat.le_of_ble_eq_true rfl⟩ [1, 2, 3] [0, 4, 5, 6, 7, 8, 9, 10, 11, 12, 13, 14, 15, 16, 17, 18, 19, 20, 21, 22, 23, 24, 25, 26, 27, 28, 29, 30, 31, 32, 33, 34, 35, 36, 37, 38, 39, 40] rfl rfl rfl (by decide) rfl 0 rfl rfl rfl rfl rfl (Nat.le_of_ble_eq_true rfl) dX5_log_54 (fun _ _ => ?_)
      refine z_perm (ws' := wSP J h A E T F R G U V len pos pr ix nm C) [0, 38, 39, 40, 1, 2, 3, 4, 5, 6, 7, 8, 9, 10, 11, 12, 13, 14, 15, 16, 17, 18, 19, 20, 21, 22, 23, 24, 25, 26, 27, 28, 29, 30, 31, 32, 33, 34, 35, 36, 37] rfl rfl ?_
      refine z_st (st' := [.int (iI ((cEnt E.1 E.2.2 x) / 2 ^ 2 % 2))]) rfl ?_
      exact z_iret hC hr rfl () trivial (hvi (by unfold cLogR; (repeat' split) <;> first | rfl | omega)) (rfl) dX5_log_57
    · refine z_tableIn (tgt := 58) (off := 44) hC dX5_log_14 (by unfold inR; omega) (by omega) (by omega) (by rw [sw2]; rfl) (by decide) ?_
      refine z_aload_n hC dX5_log_58 rfl 0 rfl ?_
      refine z_getr hC zkX5 iX5_log_X5 0 rfl 0 (by decide) kX5_log_1 rfl rfl dX5_log_59 ?_
      refine z_iload_n hC dX5_log_62 rfl 1 rfl ?_
      refine z_callV (wr := [cO 4 h [some (A 0 0), some (A 1 0), some (A 2 0), some (A 6 0), some (A 10 0)] (fun _ => 0)] ++ (wE J (A 1 0) (A 1 1) (A 1 2) T ++ ([cO 1 (A 2 0) [some (A 2 1), none, none] F, cQ (J 3) (A 2 1) 7 (fun j => some (A 3 j))] ++ (wE J (A 3 0) (A 4 0) (A 5 0) (R 0) ++ (wE J (A 3 1) (A 4 1) (A 5 1) (R 1) ++ (wE J (A 3 2) (A 4 2) (A 5 2) (R 2) ++ (wE J (A 3 3) (A 4 3) (A 5 3) (R 3) ++ (wE J (A 3 4) (A 4 4) (A 5 4) (R 4) ++ (wE J (A 3 5) (A 4 5) (A 5 5) (R 5) ++ (wE J (A 3 6) (A 4 6) (A 5 6) (R 6) ++ ([cO 3 (A 6 0) [some (A 6 1), some (A 6 2)] G, cQ (J 3) (A 6 1) 2 (fun j => some (A 7 j)), cI (J 2) (A 6 2) 2 U] ++ (wE J (A 7 0) (A 8 0) (A 9 0) (V 0) ++ (wE J (A 7 1) (A 8 1) (A 9 1) (V 1) ++ [cO 2 (A 10 0) [some (A 10 1), none, none, none, none, none] (padK len pos pr ix nm), cI (J 1) (A 10 1) 80 C]))))))))))))) (av := [.int (iI x)]) (st := []) hC (t_X1_deedAt l D J (A 0 0) (A 0 1) (A 0 2) E x hago hE2 hg) gX5_log_X1_deedAt rfl 1 (by decide +kernel) ⟨Nat.le_of_ble_eq_true rfl, Nat.le_of_ble_eq_true rfl⟩ ⟨Nat.le_of_ble_eq_true rfl, Nat.le_of_ble_eq_true rfl⟩ [1, 2, 3] [0, 4, 5, 6, 7, 8, 9, 10, 11, 12, 13, 14, 15, 16, 17, 18, 19, 20, 21, 22, 23, 24, 25, 26, 27, 28, 29, 30, 31, 32, 33, 34, 35, 36, 37, 38, 39, 40] rfl rfl rfl (by decide) rfl 0 rfl rfl rfl rfl rfl (Nat.le_of_ble_eq_true rfl) dX5_log_63 (fun _ _ => ?_)
      refine z_perm (ws' := wSP J h A E T F R G U V len pos pr ix nm C) [0, 38, 39, 40, 1, 2, 3, 4, 5, 6, 7, 8, 9, 10, 11, 12, 13, 14, 15, 16, 17, 18, 19, 20, 21, 22, 23, 24, 25, 26, 27, 28, 29, 30, 31, 32, 33, 34, 35, 36, 37] rfl rfl ?_
      refine z_st (st' := [.int (iI ((cEnt E.1 E.2.2 x) / 2 ^ 3))]) rfl ?_
      exact z_iret hC hr rfl () trivial (hvi (by unfold cLogR; (repeat' split) <;> first | rfl | omega)) (rfl) dX5_log_66
    · refine z_tableOut (tgt := 67) hC dX5_log_14 (by unfold inR; omega) sw2 (by decide) ?_
      refine z_bipush hC dX5_log_67 (by decide) ?_
      exact z_iret hC hr rfl () trivial (hvi (by unfold cLogR; (repeat' split) <;> first | rfl | omega)) (rfl) dX5_log_69
  · refine z_iconst hC dX5_log_11 ?_
    exact z_iret hC hr rfl () trivial (hvi (by unfold cLogR; (repeat' split) <;> first | rfl | omega)) (rfl) dX5_log_12
set_option maxRecDepth 20000 in
theorem iX5_speed_X5 : ∀ w ∈ u_ws RX5 TX5 5, w ∈ wsX5_speed := zm_places _ [35, 36, 37, 38, 39] (by decide +kernel)
theorem kX5_speed_1 : Cond.fieldLink RX5 10 "StepPairs" "encoder" "LStepPairs$Encoder;" ∈ wsX5_speed := List.mem_of_getElem? (i := 1) rfl
set_option maxRecDepth 20000 in
theorem iX5_speed_X1 : ∀ w ∈ u_ws RX1 TX1 16, w ∈ wsX5_speed := zm_places _ [40, 41, 42, 43, 44, 45, 46, 47, 48, 49, 50, 51, 52, 53, 54, 55] (by decide +kernel)
theorem kX5_speed_2 : Cond.fieldLink RX5 119 "StepPairs$Encoder" "period" "I" ∈ wsX5_speed := List.mem_of_getElem? (i := 2) rfl
abbrev rmX5_speed : Room := { frames := 6, cells := 0, slots := 0, locals := 121 }
set_option maxHeartbeats 4000000 in
set_option maxRecDepth 100000 in
theorem t_X5_speed (l : Launch) (D : va_G) (J : Nat → ClassId) (h : Nat) (A : Nat → Nat → Nat) (E T : Enc) (F : Nat → Int) (R : Nat → Enc) (G U : Nat → Int) (V : Nat → Enc) (len pos pr ix nm : Int) (C : Nat → Int) (hI : InvE E) (hTg : ∀ j, 0 ≤ T.2.2 j ∧ T.2.2 j ≤ 31) (hF : 0 ≤ F 1 ∧ F 1 < 7) (hG : 0 ≤ F 2 ∧ F 2 ≤ 6) (hU : ∀ j, 0 ≤ U j ∧ U j ≤ 1) (hl : 0 ≤ len ∧ len ≤ 80) (hCh : ∀ j, 0 ≤ C j ∧ C j ≤ 126) (x : Int) (hx : inR x) : ZX l yX5_speed wsX5_speed rmX5_speed D J [.ref h, .int (iI x)] (wSP J h A E T F R G U V len pos pr ix nm C) (some (.int (iI (cSpeedR E x)))) (wSP J h A E T F R G U V len pos pr ix nm C) := by
  have hR := hI
  obtain ⟨hE2, hE3, hE4, hE5, hE6, hE7, hE8, hE9, hE10, hE13, hE14, hE15, hs0, hs1, hs2, hs3, hs4, hg⟩ := hR
  unfold inR at hx
  refine z_met (cc := cX5_speed) (nL := 2) (ret := (some .int)) (own := RX5) (by decide) rfl rfl (Nat.le_of_ble_eq_true rfl) (fun p e s m args below meth c hC hr hin => ?_)
  refine z_lv0 (lv' := [(0, .ref h), (1, .int (iI x))]) rfl ?_
  refine z_iload_n hC dX5_speed_0 rfl 1 rfl ?_
  rcases (show x = 0 ∨ x = 1 ∨ (x ≠ 0 ∧ x ≠ 1) by omega) with sw1 | sw1 | sw1
  · refine z_lookup (tgt := 28) (off := 27) hC dX5_speed_1 (by unfold inR; omega) (by decide) (by rw [sw1]; rfl) (by decide) ?_
    refine z_sipush hC dX5_speed_28 (by decide) ?_
    refine z_aload_n hC dX5_speed_31 rfl 0 rfl ?_
    refine z_getr hC zkX5 iX5_speed_X5 0 rfl 0 (by decide) kX5_speed_1 rfl rfl dX5_speed_32 ?_
    refine z_callV (wr := [cO 4 h [some (A 0 0), some (A 1 0), some (A 2 0), some (A 6 0), some (A 10 0)] (fun _ => 0)] ++ (wE J (A 1 0) (A 1 1) (A 1 2) T ++ ([cO 1 (A 2 0) [some (A 2 1), none, none] F, cQ (J 3) (A 2 1) 7 (fun j => some (A 3 j))] ++ (wE J (A 3 0) (A 4 0) (A 5 0) (R 0) ++ (wE J (A 3 1) (A 4 1) (A 5 1) (R 1) ++ (wE J (A 3 2) (A 4 2) (A 5 2) (R 2) ++ (wE J (A 3 3) (A 4 3) (A 5 3) (R 3) ++ (wE J (A 3 4) (A 4 4) (A 5 4) (R 4) ++ (wE J (A 3 5) (A 4 5) (A 5 5) (R 5) ++ (wE J (A 3 6) (A 4 6) (A 5 6) (R 6) ++ ([cO 3 (A 6 0) [some (A 6 1), some (A 6 2)] G, cQ (J 3) (A 6 1) 2 (fun j => some (A 7 j)), cI (J 2) (A 6 2) 2 U] ++ (wE J (A 7 0) (A 8 0) (A 9 0) (V 0) ++ (wE J (A 7 1) (A 8 1) (A 9 1) (V 1) ++ [cO 2 (A 10 0) [some (A 10 1), none, none, none, none, none] (padK len pos pr ix nm), cI (J 1) (A 10 1) 80 C]))))))))))))) (av := []) (st := [.int (iI 1000)]) hC (t_X1_stepsOfGate l D J (A 0 0) (A 0 1) (A 0 2) E  hI) gX5_speed_X1_stepsOfGate rfl 0 (by decide +kernel) ⟨Nat.le_of_ble_eq_true rfl, Nat.le_of_ble_eq_true rfl⟩ ⟨Nat.le_of_ble_eq_true rfl, Nat.le_of_ble_eq_true rfl⟩ [1, 2, 3] [0, 4, 5, 6, 7, 8, 9, 10, 11, 12, 13, 14, 15, 16, 17, 18, 19, 20, 21, 22, 23, 24, 25, 26, 27, 28, 29, 30, 31, 32, 33, 34, 35, 36, 37, 38, 39, 40] rfl rfl rfl (by decide) rfl 0 rfl rfl rfl rfl rfl (Nat.le_of_ble_eq_true rfl) dX5_speed_35 (fun _ _ => ?_)
    refine z_perm (ws' := wSP J h A E T F R G U V len pos pr ix nm C) [0, 38, 39, 40, 1, 2, 3, 4, 5, 6, 7, 8, 9, 10, 11, 12, 13, 14, 15, 16, 17, 18, 19, 20, 21, 22, 23, 24, 25, 26, 27, 28, 29, 30, 31, 32, 33, 34, 35, 36, 37] rfl rfl ?_
    refine z_st (st' := [.int (iI (cGate (E) (Int.toNat (min (E.2.1 3) (min (E.1 2) 200))))), .int (iI 1000)]) rfl ?_
    refine z_iadd hC dX5_speed_38 ?_
    exact z_iret hC hr rfl () trivial (hvi (by unfold cSpeedR; (repeat' split) <;> first | rfl | omega)) (rfl) dX5_speed_39
  · refine z_lookup (tgt := 40) (off := 39) hC dX5_speed_1 (by unfold inR; omega) (by decide) (by rw [sw1]; rfl) (by decide) ?_
    refine z_aload_n hC dX5_speed_40 rfl 0 rfl ?_
    refine z_getr hC zkX5 iX5_speed_X5 0 rfl 0 (by decide) kX5_speed_1 rfl rfl dX5_speed_41 ?_
    refine z_geti hC zkX1 iX5_speed_X1 1 rfl 15 (by decide) kX5_speed_2 rfl rfl dX5_speed_44 ?_
    refine z_if_le (tgt := 60) hC dX5_speed_47 (by decide) (by unfold inR; omega) (fun c_47_2 => ?_) (fun c_47_2 => ?_)
    · refine z_bipush hC dX5_speed_60 (by decide) ?_
      exact z_iret hC hr rfl () trivial (hvi (by unfold cSpeedR; (repeat' split) <;> first | rfl | omega)) (rfl) dX5_speed_62
    · refine z_aload_n hC dX5_speed_50 rfl 0 rfl ?_
      refine z_getr hC zkX5 iX5_speed_X5 0 rfl 0 (by decide) kX5_speed_1 rfl rfl dX5_speed_51 ?_
      refine z_geti hC zkX1 iX5_speed_X1 1 rfl 15 (by decide) kX5_speed_2 rfl rfl dX5_speed_54 ?_
      refine z_goto (tgt := 62) hC dX5_speed_57 (by decide) ?_
      exact z_iret hC hr rfl () trivial (hvi (by unfold cSpeedR; (repeat' split) <;> first | rfl | omega)) (rfl) dX5_speed_62
  · refine z_lookup (tgt := 63) (off := 62) hC dX5_speed_1 (by unfold inR; omega) (by decide) (by have sw1s := sw1; simp [Op.lookupswitch.offset]; (repeat' split) <;> omega) (by decide) ?_
    refine z_bipush hC dX5_speed_63 (by decide) ?_
    exact z_iret hC hr rfl () trivial (hvi (by unfold cSpeedR; (repeat' split) <;> first | rfl | omega)) (rfl) dX5_speed_65
set_option maxRecDepth 20000 in
theorem iX5_would_X5 : ∀ w ∈ u_ws RX5 TX5 5, w ∈ wsX5_would := zm_places _ [22, 23, 24, 25, 26] (by decide +kernel)
theorem kX5_would_1 : Cond.fieldLink RX5 10 "StepPairs" "encoder" "LStepPairs$Encoder;" ∈ wsX5_would := List.mem_of_getElem? (i := 1) rfl
abbrev rmX5_would : Room := { frames := 2, cells := 0, slots := 0, locals := 43 }
set_option maxHeartbeats 4000000 in
set_option maxRecDepth 100000 in
theorem t_X5_would (l : Launch) (D : va_G) (J : Nat → ClassId) (h : Nat) (A : Nat → Nat → Nat) (E T : Enc) (F : Nat → Int) (R : Nat → Enc) (G U : Nat → Int) (V : Nat → Enc) (len pos pr ix nm : Int) (C : Nat → Int) (hI : InvE E) (hTg : ∀ j, 0 ≤ T.2.2 j ∧ T.2.2 j ≤ 31) (hF : 0 ≤ F 1 ∧ F 1 < 7) (hG : 0 ≤ F 2 ∧ F 2 ≤ 6) (hU : ∀ j, 0 ≤ U j ∧ U j ≤ 1) (hl : 0 ≤ len ∧ len ≤ 80) (hCh : ∀ j, 0 ≤ C j ∧ C j ≤ 126) (x : Int) (hx : inR x) : ZX l yX5_would wsX5_would rmX5_would D J [.ref h, .int (iI x)] (wSP J h A E T F R G U V len pos pr ix nm C) (some (.int (iI (cWouldR E x)))) (wSP J h A E T F R G U V len pos pr ix nm C) := by
  have hR := hI
  obtain ⟨hE2, hE3, hE4, hE5, hE6, hE7, hE8, hE9, hE10, hE13, hE14, hE15, hs0, hs1, hs2, hs3, hs4, hg⟩ := hR
  unfold inR at hx
  refine z_met (cc := cX5_would) (nL := 2) (ret := (some .int)) (own := RX5) (by decide) rfl rfl (Nat.le_of_ble_eq_true rfl) (fun p e s m args below meth c hC hr hin => ?_)
  refine z_lv0 (lv' := [(0, .ref h), (1, .int (iI x))]) rfl ?_
  refine z_iload_n hC dX5_would_0 rfl 1 rfl ?_
  refine z_if_lt (tgt := 9) hC dX5_would_1 (by decide) (by unfold inR; omega) (fun c_1_1 => ?_) (fun c_1_1 => ?_)
  · refine z_bipush hC dX5_would_9 (by decide) ?_
    refine z_goto (tgt := 22) hC dX5_would_11 (by decide) ?_
    exact z_iret hC hr rfl () trivial (hvi (by unfold cWouldR; (repeat' split) <;> first | rfl | omega)) (rfl) dX5_would_22
  · refine z_iload_n hC dX5_would_4 rfl 1 rfl ?_
    refine z_iconst hC dX5_would_5 ?_
    refine z_icmp_le (tgt := 14) hC dX5_would_6 (by decide) (by unfold inR; omega) ⟨by decide, by decide⟩ (fun c_6_2 => ?_) (fun c_6_2 => ?_)
    · have hq : 0 ≤ x ∧ x ≤ 3 := ⟨by omega, by omega⟩
      refine z_aload_n hC dX5_would_14 rfl 0 rfl ?_
      refine z_getr hC zkX5 iX5_would_X5 0 rfl 0 (by decide) kX5_would_1 rfl rfl dX5_would_15 ?_
      refine z_iload_n hC dX5_would_18 rfl 1 rfl ?_
      refine z_callV (wr := [cO 4 h [some (A 0 0), some (A 1 0), some (A 2 0), some (A 6 0), some (A 10 0)] (fun _ => 0)] ++ (wE J (A 1 0) (A 1 1) (A 1 2) T ++ ([cO 1 (A 2 0) [some (A 2 1), none, none] F, cQ (J 3) (A 2 1) 7 (fun j => some (A 3 j))] ++ (wE J (A 3 0) (A 4 0) (A 5 0) (R 0) ++ (wE J (A 3 1) (A 4 1) (A 5 1) (R 1) ++ (wE J (A 3 2) (A 4 2) (A 5 2) (R 2) ++ (wE J (A 3 3) (A 4 3) (A 5 3) (R 3) ++ (wE J (A 3 4) (A 4 4) (A 5 4) (R 4) ++ (wE J (A 3 5) (A 4 5) (A 5 5) (R 5) ++ (wE J (A 3 6) (A 4 6) (A 5 6) (R 6) ++ ([cO 3 (A 6 0) [some (A 6 1), some (A 6 2)] G, cQ (J 3) (A 6 1) 2 (fun j => some (A 7 j)), cI (J 2) (A 6 2) 2 U] ++ (wE J (A 7 0) (A 8 0) (A 9 0) (V 0) ++ (wE J (A 7 1) (A 8 1) (A 9 1) (V 1) ++ [cO 2 (A 10 0) [some (A 10 1), none, none, none, none, none] (padK len pos pr ix nm), cI (J 1) (A 10 1) 80 C]))))))))))))) (av := [.int (iI x)]) (st := []) hC (t_X1_deedBy l D J (A 0 0) (A 0 1) (A 0 2) E x hq hE5 hE6 ⟨by omega, by omega⟩ hs2) gX5_would_X1_deedBy rfl 1 (by decide +kernel) ⟨Nat.le_of_ble_eq_true rfl, Nat.le_of_ble_eq_true rfl⟩ ⟨Nat.le_of_ble_eq_true rfl, Nat.le_of_ble_eq_true rfl⟩ [1, 2, 3] [0, 4, 5, 6, 7, 8, 9, 10, 11, 12, 13, 14, 15, 16, 17, 18, 19, 20, 21, 22, 23, 24, 25, 26, 27, 28, 29, 30, 31, 32, 33, 34, 35, 36, 37, 38, 39, 40] rfl rfl rfl (by decide) rfl 0 rfl rfl rfl rfl rfl (Nat.le_of_ble_eq_true rfl) dX5_would_19 (fun _ _ => ?_)
      refine z_perm (ws' := wSP J h A E T F R G U V len pos pr ix nm C) [0, 38, 39, 40, 1, 2, 3, 4, 5, 6, 7, 8, 9, 10, 11, 12, 13, 14, 15, 16, 17, 18, 19, 20, 21, 22, 23, 24, 25, 26, 27, 28, 29, 30, 31, 32, 33, 34, 35, 36, 37] rfl rfl ?_
      refine z_st (st' := [.int (iI (cDeed E.1 E.2.1 x))]) rfl ?_
      exact z_iret hC hr rfl () trivial (hvi (by unfold cWouldR; (repeat' split) <;> first | rfl | omega)) (rfl) dX5_would_22
    · refine z_bipush hC dX5_would_9 (by decide) ?_
      refine z_goto (tgt := 22) hC dX5_would_11 (by decide) ?_
      exact z_iret hC hr rfl () trivial (hvi (by unfold cWouldR; (repeat' split) <;> first | rfl | omega)) (rfl) dX5_would_22
