set_option maxRecDepth 20000 in
theorem iX5_count_X5 : ∀ w ∈ u_ws RX5 TX5 5, w ∈ wsX5_count := zm_places _ [30, 31, 32, 33, 34] (by decide +kernel)
theorem kX5_count_1 : Cond.fieldLink RX5 10 "StepPairs" "encoder" "LStepPairs$Encoder;" ∈ wsX5_count := List.mem_of_getElem? (i := 1) rfl
set_option maxRecDepth 20000 in
theorem iX5_count_X1 : ∀ w ∈ u_ws RX1 TX1 16, w ∈ wsX5_count := zm_places _ [35, 36, 37, 38, 39, 40, 41, 42, 43, 44, 45, 46, 47, 48, 49, 50] (by decide +kernel)
theorem kX5_count_2 : Cond.fieldLink RX5 76 "StepPairs$Encoder" "ticks" "I" ∈ wsX5_count := List.mem_of_getElem? (i := 2) rfl
theorem kX5_count_3 : Cond.fieldLink RX5 80 "StepPairs$Encoder" "count" "I" ∈ wsX5_count := List.mem_of_getElem? (i := 3) rfl
theorem kX5_count_4 : Cond.fieldLink RX5 83 "StepPairs$Encoder" "place" "I" ∈ wsX5_count := List.mem_of_getElem? (i := 4) rfl
theorem kX5_count_5 : Cond.fieldLink RX5 86 "StepPairs$Encoder" "seen" "I" ∈ wsX5_count := List.mem_of_getElem? (i := 5) rfl
theorem kX5_count_6 : Cond.fieldLink RX5 89 "StepPairs$Encoder" "direction" "I" ∈ wsX5_count := List.mem_of_getElem? (i := 6) rfl
theorem kX5_count_7 : Cond.fieldLink RX5 92 "StepPairs$Encoder" "forwards" "I" ∈ wsX5_count := List.mem_of_getElem? (i := 7) rfl
theorem kX5_count_8 : Cond.fieldLink RX5 95 "StepPairs$Encoder" "backwards" "I" ∈ wsX5_count := List.mem_of_getElem? (i := 8) rfl
theorem kX5_count_9 : Cond.fieldLink RX5 98 "StepPairs$Encoder" "illegal" "I" ∈ wsX5_count := List.mem_of_getElem? (i := 9) rfl
theorem kX5_count_10 : Cond.fieldLink RX5 101 "StepPairs$Encoder" "slips" "I" ∈ wsX5_count := List.mem_of_getElem? (i := 10) rfl
theorem kX5_count_11 : Cond.fieldLink RX5 36 "StepPairs" "pad" "LStepPairs$Pad;" ∈ wsX5_count := List.mem_of_getElem? (i := 11) rfl
set_option maxRecDepth 20000 in
theorem iX5_count_X3 : ∀ w ∈ u_ws RX3 TX3 6, w ∈ wsX5_count := zm_places _ [51, 52, 53, 54, 55, 56] (by decide +kernel)
theorem kX5_count_12 : Cond.fieldLink RX5 107 "StepPairs$Pad" "length" "I" ∈ wsX5_count := List.mem_of_getElem? (i := 12) rfl
theorem kX5_count_13 : Cond.fieldLink RX5 22 "StepPairs" "history" "LStepPairs$History;" ∈ wsX5_count := List.mem_of_getElem? (i := 13) rfl
set_option maxRecDepth 20000 in
theorem iX5_count_X2 : ∀ w ∈ u_ws RX2 TX2 3, w ∈ wsX5_count := zm_places _ [57, 58, 59] (by decide +kernel)
theorem kX5_count_14 : Cond.fieldLink RX5 110 "StepPairs$History" "size" "I" ∈ wsX5_count := List.mem_of_getElem? (i := 14) rfl
abbrev rmX5_count : Room := { frames := 2, cells := 0, slots := 0, locals := 33 }
set_option maxHeartbeats 4000000 in
set_option maxRecDepth 100000 in
theorem t_X5_count (l : Launch) (D : va_G) (J : Nat → ClassId) (h : Nat) (A : Nat → Nat → Nat) (E T : Enc) (F : Nat → Int) (R : Nat → Enc) (G U : Nat → Int) (V : Nat → Enc) (len pos pr ix nm : Int) (C : Nat → Int) (hI : InvE E) (hTg : ∀ j, 0 ≤ T.2.2 j ∧ T.2.2 j ≤ 31) (hF : 0 ≤ F 1 ∧ F 1 < 7) (hG : 0 ≤ F 2 ∧ F 2 ≤ 6) (hU : ∀ j, 0 ≤ U j ∧ U j ≤ 1) (hl : 0 ≤ len ∧ len ≤ 80) (hCh : ∀ j, 0 ≤ C j ∧ C j ≤ 126) (x : Int) (hx : inR x) : ZX l yX5_count wsX5_count rmX5_count D J [.ref h, .int (iI x)] (wSP J h A E T F R G U V len pos pr ix nm C) (some (.int (iI (cCountR E F len x)))) (wSP J h A E T F R G U V len pos pr ix nm C) := by
  have hR := hI
  obtain ⟨hE2, hE3, hE4, hE5, hE6, hE7, hE8, hE9, hE10, hE13, hE14, hE15, hs0, hs1, hs2, hs3, hs4, hg⟩ := hR
  unfold inR at hx
  refine z_met (cc := cX5_count) (nL := 2) (ret := (some .int)) (own := RX5) (by decide) rfl rfl (Nat.le_of_ble_eq_true rfl) (fun p e s m args below meth c hC hr hin => ?_)
  refine z_lv0 (lv' := [(0, .ref h), (1, .int (iI x))]) rfl ?_
  refine z_iload_n hC dX5_count_0 rfl 1 rfl ?_
  rcases (show x = 0 ∨ x = 1 ∨ x = 2 ∨ x = 3 ∨ x = 4 ∨ x = 5 ∨ x = 6 ∨ x = 7 ∨ x = 8 ∨ x = 9 ∨ x = 10 ∨ x = 11 ∨ x = 12 ∨ x = 13 ∨ x = 14 ∨ x = 15 ∨ x = 16 ∨ (x < 0 ∨ 16 < x) by omega) with rfl | rfl | rfl | rfl | rfl | rfl | rfl | rfl | rfl | rfl | rfl | rfl | rfl | rfl | rfl | rfl | rfl | sw1
  · refine z_tableIn (tgt := 84) (off := 83) hC dX5_count_1 ⟨by decide, by decide⟩ (by decide) (by decide) rfl (by decide) ?_
    refine z_aload_n hC dX5_count_84 rfl 0 rfl ?_
    refine z_getr hC zkX5 iX5_count_X5 0 rfl 0 (by decide) kX5_count_1 rfl rfl dX5_count_85 ?_
    refine z_geti hC zkX1 iX5_count_X1 1 rfl 2 (by decide) kX5_count_2 rfl rfl dX5_count_88 ?_
    exact z_iret hC hr rfl () trivial (rfl) (rfl) dX5_count_91
  · refine z_tableIn (tgt := 92) (off := 91) hC dX5_count_1 ⟨by decide, by decide⟩ (by decide) (by decide) rfl (by decide) ?_
    refine z_aload_n hC dX5_count_92 rfl 0 rfl ?_
    refine z_getr hC zkX5 iX5_count_X5 0 rfl 0 (by decide) kX5_count_1 rfl rfl dX5_count_93 ?_
    refine z_geti hC zkX1 iX5_count_X1 1 rfl 3 (by decide) kX5_count_3 rfl rfl dX5_count_96 ?_
    exact z_iret hC hr rfl () trivial (rfl) (rfl) dX5_count_99
  · refine z_tableIn (tgt := 100) (off := 99) hC dX5_count_1 ⟨by decide, by decide⟩ (by decide) (by decide) rfl (by decide) ?_
    refine z_aload_n hC dX5_count_100 rfl 0 rfl ?_
    refine z_getr hC zkX5 iX5_count_X5 0 rfl 0 (by decide) kX5_count_1 rfl rfl dX5_count_101 ?_
    refine z_geti hC zkX1 iX5_count_X1 1 rfl 4 (by decide) kX5_count_4 rfl rfl dX5_count_104 ?_
    exact z_iret hC hr rfl () trivial (rfl) (rfl) dX5_count_107
  · refine z_tableIn (tgt := 108) (off := 107) hC dX5_count_1 ⟨by decide, by decide⟩ (by decide) (by decide) rfl (by decide) ?_
    refine z_aload_n hC dX5_count_108 rfl 0 rfl ?_
    refine z_getr hC zkX5 iX5_count_X5 0 rfl 0 (by decide) kX5_count_1 rfl rfl dX5_count_109 ?_
    refine z_geti hC zkX1 iX5_count_X1 1 rfl 5 (by decide) kX5_count_5 rfl rfl dX5_count_112 ?_
    exact z_iret hC hr rfl () trivial (rfl) (rfl) dX5_count_115
  · refine z_tableIn (tgt := 116) (off := 115) hC dX5_count_1 ⟨by decide, by decide⟩ (by decide) (by decide) rfl (by decide) ?_
    refine z_aload_n hC dX5_count_116 rfl 0 rfl ?_
    refine z_getr hC zkX5 iX5_count_X5 0 rfl 0 (by decide) kX5_count_1 rfl rfl dX5_count_117 ?_
    refine z_geti hC zkX1 iX5_count_X1 1 rfl 9 (by decide) kX5_count_6 rfl rfl dX5_count_120 ?_
    exact z_iret hC hr rfl () trivial (rfl) (rfl) dX5_count_123
  · refine z_tableIn (tgt := 124) (off := 123) hC dX5_count_1 ⟨by decide, by decide⟩ (by decide) (by decide) rfl (by decide) ?_
    refine z_aload_n hC dX5_count_124 rfl 0 rfl ?_
    refine z_getr hC zkX5 iX5_count_X5 0 rfl 0 (by decide) kX5_count_1 rfl rfl dX5_count_125 ?_
    refine z_geti hC zkX1 iX5_count_X1 1 rfl 10 (by decide) kX5_count_7 rfl rfl dX5_count_128 ?_
    exact z_iret hC hr rfl () trivial (rfl) (rfl) dX5_count_131
  · refine z_tableIn (tgt := 132) (off := 131) hC dX5_count_1 ⟨by decide, by decide⟩ (by decide) (by decide) rfl (by decide) ?_
    refine z_aload_n hC dX5_count_132 rfl 0 rfl ?_
    refine z_getr hC zkX5 iX5_count_X5 0 rfl 0 (by decide) kX5_count_1 rfl rfl dX5_count_133 ?_
    refine z_geti hC zkX1 iX5_count_X1 1 rfl 11 (by decide) kX5_count_8 rfl rfl dX5_count_136 ?_
    exact z_iret hC hr rfl () trivial (rfl) (rfl) dX5_count_139
  · refine z_tableIn (tgt := 140) (off := 139) hC dX5_count_1 ⟨by decide, by decide⟩ (by decide) (by decide) rfl (by decide) ?_
    refine z_aload_n hC dX5_count_140 rfl 0 rfl ?_
    refine z_getr hC zkX5 iX5_count_X5 0 rfl 0 (by decide) kX5_count_1 rfl rfl dX5_count_141 ?_
    refine z_geti hC zkX1 iX5_count_X1 1 rfl 12 (by decide) kX5_count_9 rfl rfl dX5_count_144 ?_
    exact z_iret hC hr rfl () trivial (rfl) (rfl) dX5_count_147
  · refine z_tableIn (tgt := 148) (off := 147) hC dX5_count_1 ⟨by decide, by decide⟩ (by decide) (by decide) rfl (by decide) ?_
    refine z_aload_n hC dX5_count_148 rfl 0 rfl ?_
    refine z_getr hC zkX5 iX5_count_X5 0 rfl 0 (by decide) kX5_count_1 rfl rfl dX5_count_149 ?_
    refine z_geti hC zkX1 iX5_count_X1 1 rfl 13 (by decide) kX5_count_10 rfl rfl dX5_count_152 ?_
    exact z_iret hC hr rfl () trivial (rfl) (rfl) dX5_count_155
  · refine z_tableIn (tgt := 156) (off := 155) hC dX5_count_1 ⟨by decide, by decide⟩ (by decide) (by decide) rfl (by decide) ?_
    refine z_aload_n hC dX5_count_156 rfl 0 rfl ?_
    refine z_getr hC zkX5 iX5_count_X5 0 rfl 0 (by decide) kX5_count_1 rfl rfl dX5_count_157 ?_
    refine z_callV (wr := [cO 4 h [some (A 0 0), some (A 1 0), some (A 2 0), some (A 6 0), some (A 10 0)] (fun _ => 0)] ++ (wE J (A 1 0) (A 1 1) (A 1 2) T ++ ([cO 1 (A 2 0) [some (A 2 1), none, none] F, cQ (J 3) (A 2 1) 7 (fun j => some (A 3 j))] ++ (wE J (A 3 0) (A 4 0) (A 5 0) (R 0) ++ (wE J (A 3 1) (A 4 1) (A 5 1) (R 1) ++ (wE J (A 3 2) (A 4 2) (A 5 2) (R 2) ++ (wE J (A 3 3) (A 4 3) (A 5 3) (R 3) ++ (wE J (A 3 4) (A 4 4) (A 5 4) (R 4) ++ (wE J (A 3 5) (A 4 5) (A 5 5) (R 5) ++ (wE J (A 3 6) (A 4 6) (A 5 6) (R 6) ++ ([cO 3 (A 6 0) [some (A 6 1), some (A 6 2)] G, cQ (J 3) (A 6 1) 2 (fun j => some (A 7 j)), cI (J 2) (A 6 2) 2 U] ++ (wE J (A 7 0) (A 8 0) (A 9 0) (V 0) ++ (wE J (A 7 1) (A 8 1) (A 9 1) (V 1) ++ [cO 2 (A 10 0) [some (A 10 1), none, none, none, none, none] (padK len pos pr ix nm), cI (J 1) (A 10 1) 80 C]))))))))))))) (av := []) (st := []) hC (t_X1_logged l D J (A 0 0) (A 0 1) (A 0 2) E  hE2) gX5_count_X1_logged rfl 0 (by decide +kernel) ⟨Nat.le_of_ble_eq_true rfl, Nat.le_of_ble_eq_true rfl⟩ ⟨Nat.le_of_ble_eq_true rfl, Nat.le_of_ble_eq_true rfl⟩ [1, 2, 3] [0, 4, 5, 6, 7, 8, 9, 10, 11, 12, 13, 14, 15, 16, 17, 18, 19, 20, 21, 22, 23, 24, 25, 26, 27, 28, 29, 30, 31, 32, 33, 34, 35, 36, 37, 38, 39, 40] rfl rfl rfl (by decide) rfl 0 rfl rfl rfl rfl rfl (Nat.le_of_ble_eq_true rfl) dX5_count_160 (fun _ _ => ?_)
    refine z_perm (ws' := wSP J h A E T F R G U V len pos pr ix nm C) [0, 38, 39, 40, 1, 2, 3, 4, 5, 6, 7, 8, 9, 10, 11, 12, 13, 14, 15, 16, 17, 18, 19, 20, 21, 22, 23, 24, 25, 26, 27, 28, 29, 30, 31, 32, 33, 34, 35, 36, 37] rfl rfl ?_
    refine z_st (st' := [.int (iI (min (E.1 2) 200))]) rfl ?_
    exact z_iret hC hr rfl () trivial (rfl) (rfl) dX5_count_163
  · refine z_tableIn (tgt := 180) (off := 179) hC dX5_count_1 ⟨by decide, by decide⟩ (by decide) (by decide) rfl (by decide) ?_
    refine z_iload_n hC dX5_count_180 rfl 1 rfl ?_
    refine z_bipush hC dX5_count_181 (by decide) ?_
    refine z_icmp_lt_f (tgt := 206) hC dX5_count_183 (by decide) ⟨by decide, by decide⟩ ⟨by decide, by decide⟩ (by decide) ?_
    refine z_iload_n hC dX5_count_186 rfl 1 rfl ?_
    refine z_bipush hC dX5_count_187 (by decide) ?_
    refine z_icmp_gt_f (tgt := 206) hC dX5_count_189 (by decide) ⟨by decide, by decide⟩ ⟨by decide, by decide⟩ (by decide) ?_
    refine z_aload_n hC dX5_count_192 rfl 0 rfl ?_
    refine z_getr hC zkX5 iX5_count_X5 0 rfl 0 (by decide) kX5_count_1 rfl rfl dX5_count_193 ?_
    refine z_iload_n hC dX5_count_196 rfl 1 rfl ?_
    refine z_bipush hC dX5_count_197 (by decide) ?_
    refine z_isub hC dX5_count_199 ?_
    refine z_int (y := iI 0) hC (by decide) ?_
    refine z_callV (wr := [cO 4 h [some (A 0 0), some (A 1 0), some (A 2 0), some (A 6 0), some (A 10 0)] (fun _ => 0)] ++ (wE J (A 1 0) (A 1 1) (A 1 2) T ++ ([cO 1 (A 2 0) [some (A 2 1), none, none] F, cQ (J 3) (A 2 1) 7 (fun j => some (A 3 j))] ++ (wE J (A 3 0) (A 4 0) (A 5 0) (R 0) ++ (wE J (A 3 1) (A 4 1) (A 5 1) (R 1) ++ (wE J (A 3 2) (A 4 2) (A 5 2) (R 2) ++ (wE J (A 3 3) (A 4 3) (A 5 3) (R 3) ++ (wE J (A 3 4) (A 4 4) (A 5 4) (R 4) ++ (wE J (A 3 5) (A 4 5) (A 5 5) (R 5) ++ (wE J (A 3 6) (A 4 6) (A 5 6) (R 6) ++ ([cO 3 (A 6 0) [some (A 6 1), some (A 6 2)] G, cQ (J 3) (A 6 1) 2 (fun j => some (A 7 j)), cI (J 2) (A 6 2) 2 U] ++ (wE J (A 7 0) (A 8 0) (A 9 0) (V 0) ++ (wE J (A 7 1) (A 8 1) (A 9 1) (V 1) ++ [cO 2 (A 10 0) [some (A 10 1), none, none, none, none, none] (padK len pos pr ix nm), cI (J 1) (A 10 1) 80 C]))))))))))))) (av := [.int (iI 0)]) (st := []) hC (t_X1_setting l D J (A 0 0) (A 0 1) (A 0 2) E 0 (by decide)) gX5_count_X1_setting rfl 1 (by decide +kernel) ⟨Nat.le_of_ble_eq_true rfl, Nat.le_of_ble_eq_true rfl⟩ ⟨Nat.le_of_ble_eq_true rfl, Nat.le_of_ble_eq_true rfl⟩ [1, 2, 3] [0, 4, 5, 6, 7, 8, 9, 10, 11, 12, 13, 14, 15, 16, 17, 18, 19, 20, 21, 22, 23, 24, 25, 26, 27, 28, 29, 30, 31, 32, 33, 34, 35, 36, 37, 38, 39, 40] rfl rfl rfl (by decide) rfl 0 rfl rfl rfl rfl rfl (Nat.le_of_ble_eq_true rfl) dX5_count_200 (fun _ _ => ?_)
    refine z_perm (ws' := wSP J h A E T F R G U V len pos pr ix nm C) [0, 38, 39, 40, 1, 2, 3, 4, 5, 6, 7, 8, 9, 10, 11, 12, 13, 14, 15, 16, 17, 18, 19, 20, 21, 22, 23, 24, 25, 26, 27, 28, 29, 30, 31, 32, 33, 34, 35, 36, 37] rfl rfl ?_
    refine z_st (st' := [.int (iI (E.2.1 0))]) rfl ?_
    refine z_goto (tgt := 208) hC dX5_count_203 (by decide) ?_
    exact z_iret hC hr rfl () trivial (rfl) (rfl) dX5_count_208
  · refine z_tableIn (tgt := 180) (off := 179) hC dX5_count_1 ⟨by decide, by decide⟩ (by decide) (by decide) rfl (by decide) ?_
    refine z_iload_n hC dX5_count_180 rfl 1 rfl ?_
    refine z_bipush hC dX5_count_181 (by decide) ?_
    refine z_icmp_lt_f (tgt := 206) hC dX5_count_183 (by decide) ⟨by decide, by decide⟩ ⟨by decide, by decide⟩ (by decide) ?_
    refine z_iload_n hC dX5_count_186 rfl 1 rfl ?_
    refine z_bipush hC dX5_count_187 (by decide) ?_
    refine z_icmp_gt_f (tgt := 206) hC dX5_count_189 (by decide) ⟨by decide, by decide⟩ ⟨by decide, by decide⟩ (by decide) ?_
    refine z_aload_n hC dX5_count_192 rfl 0 rfl ?_
    refine z_getr hC zkX5 iX5_count_X5 0 rfl 0 (by decide) kX5_count_1 rfl rfl dX5_count_193 ?_
    refine z_iload_n hC dX5_count_196 rfl 1 rfl ?_
    refine z_bipush hC dX5_count_197 (by decide) ?_
    refine z_isub hC dX5_count_199 ?_
    refine z_int (y := iI 1) hC (by decide) ?_
    refine z_callV (wr := [cO 4 h [some (A 0 0), some (A 1 0), some (A 2 0), some (A 6 0), some (A 10 0)] (fun _ => 0)] ++ (wE J (A 1 0) (A 1 1) (A 1 2) T ++ ([cO 1 (A 2 0) [some (A 2 1), none, none] F, cQ (J 3) (A 2 1) 7 (fun j => some (A 3 j))] ++ (wE J (A 3 0) (A 4 0) (A 5 0) (R 0) ++ (wE J (A 3 1) (A 4 1) (A 5 1) (R 1) ++ (wE J (A 3 2) (A 4 2) (A 5 2) (R 2) ++ (wE J (A 3 3) (A 4 3) (A 5 3) (R 3) ++ (wE J (A 3 4) (A 4 4) (A 5 4) (R 4) ++ (wE J (A 3 5) (A 4 5) (A 5 5) (R 5) ++ (wE J (A 3 6) (A 4 6) (A 5 6) (R 6) ++ ([cO 3 (A 6 0) [some (A 6 1), some (A 6 2)] G, cQ (J 3) (A 6 1) 2 (fun j => some (A 7 j)), cI (J 2) (A 6 2) 2 U] ++ (wE J (A 7 0) (A 8 0) (A 9 0) (V 0) ++ (wE J (A 7 1) (A 8 1) (A 9 1) (V 1) ++ [cO 2 (A 10 0) [some (A 10 1), none, none, none, none, none] (padK len pos pr ix nm), cI (J 1) (A 10 1) 80 C]))))))))))))) (av := [.int (iI 1)]) (st := []) hC (t_X1_setting l D J (A 0 0) (A 0 1) (A 0 2) E 1 (by decide)) gX5_count_X1_setting rfl 1 (by decide +kernel) ⟨Nat.le_of_ble_eq_true rfl, Nat.le_of_ble_eq_true rfl⟩ ⟨Nat.le_of_ble_eq_true rfl, Nat.le_of_ble_eq_true rfl⟩ [1, 2, 3] [0, 4, 5, 6, 7, 8, 9, 10, 11, 12, 13, 14, 15, 16, 17, 18, 19, 20, 21, 22, 23, 24, 25, 26, 27, 28, 29, 30, 31, 32, 33, 34, 35, 36, 37, 38, 39, 40] rfl rfl rfl (by decide) rfl 0 rfl rfl rfl rfl rfl (Nat.le_of_ble_eq_true rfl) dX5_count_200 (fun _ _ => ?_)
    refine z_perm (ws' := wSP J h A E T F R G U V len pos pr ix nm C) [0, 38, 39, 40, 1, 2, 3, 4, 5, 6, 7, 8, 9, 10, 11, 12, 13, 14, 15, 16, 17, 18, 19, 20, 21, 22, 23, 24, 25, 26, 27, 28, 29, 30, 31, 32, 33, 34, 35, 36, 37] rfl rfl ?_
    refine z_st (st' := [.int (iI (E.2.1 1))]) rfl ?_
    refine z_goto (tgt := 208) hC dX5_count_203 (by decide) ?_
    exact z_iret hC hr rfl () trivial (rfl) (rfl) dX5_count_208
  · refine z_tableIn (tgt := 180) (off := 179) hC dX5_count_1 ⟨by decide, by decide⟩ (by decide) (by decide) rfl (by decide) ?_
    refine z_iload_n hC dX5_count_180 rfl 1 rfl ?_
    refine z_bipush hC dX5_count_181 (by decide) ?_
    refine z_icmp_lt_f (tgt := 206) hC dX5_count_183 (by decide) ⟨by decide, by decide⟩ ⟨by decide, by decide⟩ (by decide) ?_
    refine z_iload_n hC dX5_count_186 rfl 1 rfl ?_
    refine z_bipush hC dX5_count_187 (by decide) ?_
    refine z_icmp_gt_f (tgt := 206) hC dX5_count_189 (by decide) ⟨by decide, by decide⟩ ⟨by decide, by decide⟩ (by decide) ?_
    refine z_aload_n hC dX5_count_192 rfl 0 rfl ?_
    refine z_getr hC zkX5 iX5_count_X5 0 rfl 0 (by decide) kX5_count_1 rfl rfl dX5_count_193 ?_
    refine z_iload_n hC dX5_count_196 rfl 1 rfl ?_
    refine z_bipush hC dX5_count_197 (by decide) ?_
    refine z_isub hC dX5_count_199 ?_
    refine z_int (y := iI 2) hC (by decide) ?_
    refine z_callV (wr := [cO 4 h [some (A 0 0), some (A 1 0), some (A 2 0), some (A 6 0), some (A 10 0)] (fun _ => 0)] ++ (wE J (A 1 0) (A 1 1) (A 1 2) T ++ ([cO 1 (A 2 0) [some (A 2 1), none, none] F, cQ (J 3) (A 2 1) 7 (fun j => some (A 3 j))] ++ (wE J (A 3 0) (A 4 0) (A 5 0) (R 0) ++ (wE J (A 3 1) (A 4 1) (A 5 1) (R 1) ++ (wE J (A 3 2) (A 4 2) (A 5 2) (R 2) ++ (wE J (A 3 3) (A 4 3) (A 5 3) (R 3) ++ (wE J (A 3 4) (A 4 4) (A 5 4) (R 4) ++ (wE J (A 3 5) (A 4 5) (A 5 5) (R 5) ++ (wE J (A 3 6) (A 4 6) (A 5 6) (R 6) ++ ([cO 3 (A 6 0) [some (A 6 1), some (A 6 2)] G, cQ (J 3) (A 6 1) 2 (fun j => some (A 7 j)), cI (J 2) (A 6 2) 2 U] ++ (wE J (A 7 0) (A 8 0) (A 9 0) (V 0) ++ (wE J (A 7 1) (A 8 1) (A 9 1) (V 1) ++ [cO 2 (A 10 0) [some (A 10 1), none, none, none, none, none] (padK len pos pr ix nm), cI (J 1) (A 10 1) 80 C]))))))))))))) (av := [.int (iI 2)]) (st := []) hC (t_X1_setting l D J (A 0 0) (A 0 1) (A 0 2) E 2 (by decide)) gX5_count_X1_setting rfl 1 (by decide +kernel) ⟨Nat.le_of_ble_eq_true rfl, Nat.le_of_ble_eq_true rfl⟩ ⟨Nat.le_of_ble_eq_true rfl, Nat.le_of_ble_eq_true rfl⟩ [1, 2, 3] [0, 4, 5, 6, 7, 8, 9, 10, 11, 12, 13, 14, 15, 16, 17, 18, 19, 20, 21, 22, 23, 24, 25, 26, 27, 28, 29, 30, 31, 32, 33, 34, 35, 36, 37, 38, 39, 40] rfl rfl rfl (by decide) rfl 0 rfl rfl rfl rfl rfl (Nat.le_of_ble_eq_true rfl) dX5_count_200 (fun _ _ => ?_)
    refine z_perm (ws' := wSP J h A E T F R G U V len pos pr ix nm C) [0, 38, 39, 40, 1, 2, 3, 4, 5, 6, 7, 8, 9, 10, 11, 12, 13, 14, 15, 16, 17, 18, 19, 20, 21, 22, 23, 24, 25, 26, 27, 28, 29, 30, 31, 32, 33, 34, 35, 36, 37] rfl rfl ?_
    refine z_st (st' := [.int (iI (E.2.1 2))]) rfl ?_
    refine z_goto (tgt := 208) hC dX5_count_203 (by decide) ?_
    exact z_iret hC hr rfl () trivial (rfl) (rfl) dX5_count_208
  · refine z_tableIn (tgt := 180) (off := 179) hC dX5_count_1 ⟨by decide, by decide⟩ (by decide) (by decide) rfl (by decide) ?_
    refine z_iload_n hC dX5_count_180 rfl 1 rfl ?_
    refine z_bipush hC dX5_count_181 (by decide) ?_
    refine z_icmp_lt_f (tgt := 206) hC dX5_count_183 (by decide) ⟨by decide, by decide⟩ ⟨by decide, by decide⟩ (by decide) ?_
    refine z_iload_n hC dX5_count_186 rfl 1 rfl ?_
    refine z_bipush hC dX5_count_187 (by decide) ?_
    refine z_icmp_gt_f (tgt := 206) hC dX5_count_189 (by decide) ⟨by decide, by decide⟩ ⟨by decide, by decide⟩ (by decide) ?_
    refine z_aload_n hC dX5_count_192 rfl 0 rfl ?_
    refine z_getr hC zkX5 iX5_count_X5 0 rfl 0 (by decide) kX5_count_1 rfl rfl dX5_count_193 ?_
    refine z_iload_n hC dX5_count_196 rfl 1 rfl ?_
    refine z_bipush hC dX5_count_197 (by decide) ?_
    refine z_isub hC dX5_count_199 ?_
    refine z_int (y := iI 3) hC (by decide) ?_
    refine z_callV (wr := [cO 4 h [some (A 0 0), some (A 1 0), some (A 2 0), some (A 6 0), some (A 10 0)] (fun _ => 0)] ++ (wE J (A 1 0) (A 1 1) (A 1 2) T ++ ([cO 1 (A 2 0) [some (A 2 1), none, none] F, cQ (J 3) (A 2 1) 7 (fun j => some (A 3 j))] ++ (wE J (A 3 0) (A 4 0) (A 5 0) (R 0) ++ (wE J (A 3 1) (A 4 1) (A 5 1) (R 1) ++ (wE J (A 3 2) (A 4 2) (A 5 2) (R 2) ++ (wE J (A 3 3) (A 4 3) (A 5 3) (R 3) ++ (wE J (A 3 4) (A 4 4) (A 5 4) (R 4) ++ (wE J (A 3 5) (A 4 5) (A 5 5) (R 5) ++ (wE J (A 3 6) (A 4 6) (A 5 6) (R 6) ++ ([cO 3 (A 6 0) [some (A 6 1), some (A 6 2)] G, cQ (J 3) (A 6 1) 2 (fun j => some (A 7 j)), cI (J 2) (A 6 2) 2 U] ++ (wE J (A 7 0) (A 8 0) (A 9 0) (V 0) ++ (wE J (A 7 1) (A 8 1) (A 9 1) (V 1) ++ [cO 2 (A 10 0) [some (A 10 1), none, none, none, none, none] (padK len pos pr ix nm), cI (J 1) (A 10 1) 80 C]))))))))))))) (av := [.int (iI 3)]) (st := []) hC (t_X1_setting l D J (A 0 0) (A 0 1) (A 0 2) E 3 (by decide)) gX5_count_X1_setting rfl 1 (by decide +kernel) ⟨Nat.le_of_ble_eq_true rfl, Nat.le_of_ble_eq_true rfl⟩ ⟨Nat.le_of_ble_eq_true rfl, Nat.le_of_ble_eq_true rfl⟩ [1, 2, 3] [0, 4, 5, 6, 7, 8, 9, 10, 11, 12, 13, 14, 15, 16, 17, 18, 19, 20, 21, 22, 23, 24, 25, 26, 27, 28, 29, 30, 31, 32, 33, 34, 35, 36, 37, 38, 39, 40] rfl rfl rfl (by decide) rfl 0 rfl rfl rfl rfl rfl (Nat.le_of_ble_eq_true rfl) dX5_count_200 (fun _ _ => ?_)
    refine z_perm (ws' := wSP J h A E T F R G U V len pos pr ix nm C) [0, 38, 39, 40, 1, 2, 3, 4, 5, 6, 7, 8, 9, 10, 11, 12, 13, 14, 15, 16, 17, 18, 19, 20, 21, 22, 23, 24, 25, 26, 27, 28, 29, 30, 31, 32, 33, 34, 35, 36, 37] rfl rfl ?_
    refine z_st (st' := [.int (iI (E.2.1 3))]) rfl ?_
    refine z_goto (tgt := 208) hC dX5_count_203 (by decide) ?_
    exact z_iret hC hr rfl () trivial (rfl) (rfl) dX5_count_208
  · refine z_tableIn (tgt := 180) (off := 179) hC dX5_count_1 ⟨by decide, by decide⟩ (by decide) (by decide) rfl (by decide) ?_
    refine z_iload_n hC dX5_count_180 rfl 1 rfl ?_
    refine z_bipush hC dX5_count_181 (by decide) ?_
    refine z_icmp_lt_f (tgt := 206) hC dX5_count_183 (by decide) ⟨by decide, by decide⟩ ⟨by decide, by decide⟩ (by decide) ?_
    refine z_iload_n hC dX5_count_186 rfl 1 rfl ?_
    refine z_bipush hC dX5_count_187 (by decide) ?_
    refine z_icmp_gt_f (tgt := 206) hC dX5_count_189 (by decide) ⟨by decide, by decide⟩ ⟨by decide, by decide⟩ (by decide) ?_
    refine z_aload_n hC dX5_count_192 rfl 0 rfl ?_
    refine z_getr hC zkX5 iX5_count_X5 0 rfl 0 (by decide) kX5_count_1 rfl rfl dX5_count_193 ?_
    refine z_iload_n hC dX5_count_196 rfl 1 rfl ?_
    refine z_bipush hC dX5_count_197 (by decide) ?_
    refine z_isub hC dX5_count_199 ?_
    refine z_int (y := iI 4) hC (by decide) ?_
    refine z_callV (wr := [cO 4 h [some (A 0 0), some (A 1 0), some (A 2 0), some (A 6 0), some (A 10 0)] (fun _ => 0)] ++ (wE J (A 1 0) (A 1 1) (A 1 2) T ++ ([cO 1 (A 2 0) [some (A 2 1), none, none] F, cQ (J 3) (A 2 1) 7 (fun j => some (A 3 j))] ++ (wE J (A 3 0) (A 4 0) (A 5 0) (R 0) ++ (wE J (A 3 1) (A 4 1) (A 5 1) (R 1) ++ (wE J (A 3 2) (A 4 2) (A 5 2) (R 2) ++ (wE J (A 3 3) (A 4 3) (A 5 3) (R 3) ++ (wE J (A 3 4) (A 4 4) (A 5 4) (R 4) ++ (wE J (A 3 5) (A 4 5) (A 5 5) (R 5) ++ (wE J (A 3 6) (A 4 6) (A 5 6) (R 6) ++ ([cO 3 (A 6 0) [some (A 6 1), some (A 6 2)] G, cQ (J 3) (A 6 1) 2 (fun j => some (A 7 j)), cI (J 2) (A 6 2) 2 U] ++ (wE J (A 7 0) (A 8 0) (A 9 0) (V 0) ++ (wE J (A 7 1) (A 8 1) (A 9 1) (V 1) ++ [cO 2 (A 10 0) [some (A 10 1), none, none, none, none, none] (padK len pos pr ix nm), cI (J 1) (A 10 1) 80 C]))))))))))))) (av := [.int (iI 4)]) (st := []) hC (t_X1_setting l D J (A 0 0) (A 0 1) (A 0 2) E 4 (by decide)) gX5_count_X1_setting rfl 1 (by decide +kernel) ⟨Nat.le_of_ble_eq_true rfl, Nat.le_of_ble_eq_true rfl⟩ ⟨Nat.le_of_ble_eq_true rfl, Nat.le_of_ble_eq_true rfl⟩ [1, 2, 3] [0, 4, 5, 6, 7, 8, 9, 10, 11, 12, 13, 14, 15, 16, 17, 18, 19, 20, 21, 22, 23, 24, 25, 26, 27, 28, 29, 30, 31, 32, 33, 34, 35, 36, 37, 38, 39, 40] rfl rfl rfl (by decide) rfl 0 rfl rfl rfl rfl rfl (Nat.le_of_ble_eq_true rfl) dX5_count_200 (fun _ _ => ?_)
    refine z_perm (ws' := wSP J h A E T F R G U V len pos pr ix nm C) [0, 38, 39, 40, 1, 2, 3, 4, 5, 6, 7, 8, 9, 10, 11, 12, 13, 14, 15, 16, 17, 18, 19, 20, 21, 22, 23, 24, 25, 26, 27, 28, 29, 30, 31, 32, 33, 34, 35, 36, 37] rfl rfl ?_
    refine z_st (st' := [.int (iI (E.2.1 4))]) rfl ?_
    refine z_goto (tgt := 208) hC dX5_count_203 (by decide) ?_
    exact z_iret hC hr rfl () trivial (rfl) (rfl) dX5_count_208
  · refine z_tableIn (tgt := 164) (off := 163) hC dX5_count_1 ⟨by decide, by decide⟩ (by decide) (by decide) rfl (by decide) ?_
    refine z_aload_n hC dX5_count_164 rfl 0 rfl ?_
    refine z_getr hC zkX5 iX5_count_X5 0 rfl 4 (by decide) kX5_count_11 rfl rfl dX5_count_165 ?_
    refine z_geti hC zkX3 iX5_count_X3 39 rfl 1 (by decide) kX5_count_12 rfl rfl dX5_count_168 ?_
    refine z_int (y := iI len) hC (rfl) ?_
    exact z_iret hC hr rfl () trivial (rfl) (rfl) dX5_count_171
  · refine z_tableIn (tgt := 172) (off := 171) hC dX5_count_1 ⟨by decide, by decide⟩ (by decide) (by decide) rfl (by decide) ?_
    refine z_aload_n hC dX5_count_172 rfl 0 rfl ?_
    refine z_getr hC zkX5 iX5_count_X5 0 rfl 2 (by decide) kX5_count_13 rfl rfl dX5_count_173 ?_
    refine z_geti hC zkX2 iX5_count_X2 7 rfl 2 (by decide) kX5_count_14 rfl rfl dX5_count_176 ?_
    exact z_iret hC hr rfl () trivial (rfl) (rfl) dX5_count_179
  · refine z_tableOut (tgt := 180) hC dX5_count_1 (by unfold inR; omega) sw1 (by decide) ?_
    refine z_iload_n hC dX5_count_180 rfl 1 rfl ?_
    refine z_bipush hC dX5_count_181 (by decide) ?_
    refine z_icmp_lt (tgt := 206) hC dX5_count_183 (by decide) (by unfold inR; omega) ⟨by decide, by decide⟩ (fun c_183_2 => ?_) (fun c_183_2 => ?_)
    · refine z_bipush hC dX5_count_206 (by decide) ?_
      exact z_iret hC hr rfl () trivial (hvi (cCount_out _ _ _ (by omega))) (rfl) dX5_count_208
    · refine z_iload_n hC dX5_count_186 rfl 1 rfl ?_
      refine z_bipush hC dX5_count_187 (by decide) ?_
      refine z_icmp_gt_t (tgt := 206) hC dX5_count_189 (by decide) (by unfold inR; omega) ⟨by decide, by decide⟩ (by omega) ?_
      refine z_bipush hC dX5_count_206 (by decide) ?_
      exact z_iret hC hr rfl () trivial (hvi (cCount_out _ _ _ (by omega))) (rfl) dX5_count_208
