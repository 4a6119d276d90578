theorem kX5_replay_1 : Cond.fieldLink RX5 134 "StepPairs" "LEAST_SETTING" "[I" ∈ wsX5_replay := List.mem_of_getElem? (i := 1) rfl
theorem kX5_replay_2 : Cond.fieldLink RX5 138 "StepPairs" "MOST_SETTING" "[I" ∈ wsX5_replay := List.mem_of_getElem? (i := 2) rfl
set_option maxRecDepth 20000 in
theorem iX5_replay_X5 : ∀ w ∈ u_ws RX5 TX5 5, w ∈ wsX5_replay := zm_places _ [92, 93, 94, 95, 96] (by decide +kernel)
theorem kX5_replay_3 : Cond.fieldLink RX5 16 "StepPairs" "trial" "LStepPairs$Encoder;" ∈ wsX5_replay := List.mem_of_getElem? (i := 3) rfl
theorem kX5_replay_4 : Cond.fieldLink RX5 10 "StepPairs" "encoder" "LStepPairs$Encoder;" ∈ wsX5_replay := List.mem_of_getElem? (i := 4) rfl
set_option maxRecDepth 20000 in
theorem iX5_replay_X1 : ∀ w ∈ u_ws RX1 TX1 16, w ∈ wsX5_replay := zm_places _ [97, 98, 99, 100, 101, 102, 103, 104, 105, 106, 107, 108, 109, 110, 111, 112] (by decide +kernel)
theorem kX5_replay_5 : Cond.fieldLink RX5 92 "StepPairs$Encoder" "forwards" "I" ∈ wsX5_replay := List.mem_of_getElem? (i := 5) rfl
theorem kX5_replay_6 : Cond.fieldLink RX5 95 "StepPairs$Encoder" "backwards" "I" ∈ wsX5_replay := List.mem_of_getElem? (i := 6) rfl
theorem kX5_replay_7 : Cond.fieldLink RX5 98 "StepPairs$Encoder" "illegal" "I" ∈ wsX5_replay := List.mem_of_getElem? (i := 7) rfl
theorem kX5_replay_8 : Cond.fieldLink RX5 80 "StepPairs$Encoder" "count" "I" ∈ wsX5_replay := List.mem_of_getElem? (i := 8) rfl
abbrev rmX5_replay : Room := { frames := 6, cells := 0, slots := 0, locals := 120 }
set_option maxHeartbeats 4000000 in
set_option maxRecDepth 100000 in
theorem t_X5_replay (l : Launch) (D : va_G) (J : Nat → ClassId) (h : Nat) (A : Nat → Nat → Nat) (E T : Enc) (F : Nat → Int) (R : Nat → Enc) (G U : Nat → Int) (V : Nat → Enc) (len pos pr ix nm : Int) (C : Nat → Int) (hI : InvE E) (hTg : ∀ j, 0 ≤ T.2.2 j ∧ T.2.2 j ≤ 31) (hF : 0 ≤ F 1 ∧ F 1 < 7) (hG : 0 ≤ F 2 ∧ F 2 ≤ 6) (hU : ∀ j, 0 ≤ U j ∧ U j ≤ 1) (hl : 0 ≤ len ∧ len ≤ 80) (hCh : ∀ j, 0 ≤ C j ∧ C j ≤ 126) (x y : Int) (hx : inR x) (hy : inR y) : ZX l yX5_replay wsX5_replay rmX5_replay D J [.ref h, .int (iI x), .int (iI y)] (wSP J h A E T F R G U V len pos pr ix nm C) (some (.int (iI (cReplayR E T x y)))) (wSP J h A E (cReplayT E T x y) F R G U V len pos pr ix nm C) := by
  have hR := hI
  obtain ⟨hE2, hE3, hE4, hE5, hE6, hE7, hE8, hE9, hE10, hE13, hE14, hE15, hs0, hs1, hs2, hs3, hs4, hg⟩ := hR
  unfold inR at hx hy
  refine z_met (cc := cX5_replay) (nL := 3) (ret := (some .int)) (own := RX5) (by decide) rfl rfl (Nat.le_of_ble_eq_true rfl) (fun p e s m args below meth c hC hr hin => ?_)
  refine z_lv0 (lv' := [(0, .ref h), (1, .int (iI x)), (2, .int (iI y))]) rfl ?_
  refine z_iload_n hC dX5_replay_0 rfl 1 rfl ?_
  refine z_getT hC hC.2.2.2.1.1 kX5_replay_1 dX5_replay_1 (fun t_1 ht_2 => ?_)
  refine z_iconst hC dX5_replay_4 ?_
  refine z_ldT hC ht_2 2 rfl (by decide) dX5_replay_5 ?_
  refine z_int (y := iI 1) hC rfl ?_
  refine z_icmp_lt (tgt := 27) hC dX5_replay_6 (by decide) (by unfold inR; omega) ⟨by decide, by decide⟩ (fun c_6_3 => ?_) (fun c_6_3 => ?_)
  · refine z_bipush hC dX5_replay_27 (by decide) ?_
    exact z_iret hC hr rfl () trivial (hvi (by unfold cReplayR cReplayOk; (repeat' split) <;> first | rfl | omega)) (congrArg (fun z => wSP J h A E z F R G U V len pos pr ix nm C) (show T = cReplayT E T x y from (by unfold cReplayT cReplayOk; (repeat' split) <;> first | rfl | omega))) dX5_replay_29
  · refine z_iload_n hC dX5_replay_9 rfl 1 rfl ?_
    refine z_getT hC hC.2.2.2.1.2.1 kX5_replay_2 dX5_replay_10 (fun t_4 ht_5 => ?_)
    refine z_iconst hC dX5_replay_13 ?_
    refine z_ldT hC ht_5 2 rfl (by decide) dX5_replay_14 ?_
    refine z_int (y := iI 9) hC rfl ?_
    refine z_icmp_gt (tgt := 27) hC dX5_replay_15 (by decide) (by unfold inR; omega) ⟨by decide, by decide⟩ (fun c_15_6 => ?_) (fun c_15_6 => ?_)
    · refine z_bipush hC dX5_replay_27 (by decide) ?_
      exact z_iret hC hr rfl () trivial (hvi (by unfold cReplayR cReplayOk; (repeat' split) <;> first | rfl | omega)) (congrArg (fun z => wSP J h A E z F R G U V len pos pr ix nm C) (show T = cReplayT E T x y from (by unfold cReplayT cReplayOk; (repeat' split) <;> first | rfl | omega))) dX5_replay_29
    · refine z_iload_n hC dX5_replay_18 rfl 2 rfl ?_
      refine z_if_lt (tgt := 27) hC dX5_replay_19 (by decide) (by unfold inR; omega) (fun c_19_7 => ?_) (fun c_19_7 => ?_)
      · refine z_bipush hC dX5_replay_27 (by decide) ?_
        exact z_iret hC hr rfl () trivial (hvi (by unfold cReplayR cReplayOk; (repeat' split) <;> first | rfl | omega)) (congrArg (fun z => wSP J h A E z F R G U V len pos pr ix nm C) (show T = cReplayT E T x y from (by unfold cReplayT cReplayOk; (repeat' split) <;> first | rfl | omega))) dX5_replay_29
      · refine z_iload_n hC dX5_replay_22 rfl 2 rfl ?_
        refine z_iconst hC dX5_replay_23 ?_
        refine z_icmp_le (tgt := 30) hC dX5_replay_24 (by decide) (by unfold inR; omega) ⟨by decide, by decide⟩ (fun c_24_8 => ?_) (fun c_24_8 => ?_)
        · refine z_aload_n hC dX5_replay_30 rfl 0 rfl ?_
          refine z_getr hC zkX5 iX5_replay_X5 0 rfl 1 (by decide) kX5_replay_3 rfl rfl dX5_replay_31 ?_
          refine z_aload_n hC dX5_replay_34 rfl 0 rfl ?_
          refine z_getr hC zkX5 iX5_replay_X5 0 rfl 0 (by decide) kX5_replay_4 rfl rfl dX5_replay_35 ?_
          refine z_iload_n hC dX5_replay_38 rfl 1 rfl ?_
          refine z_callV (wr := [cO 4 h [some (A 0 0), some (A 1 0), some (A 2 0), some (A 6 0), some (A 10 0)] (fun _ => 0), cO 1 (A 2 0) [some (A 2 1), none, none] F, cQ (J 3) (A 2 1) 7 (fun j => some (A 3 j))] ++ (wE J (A 3 0) (A 4 0) (A 5 0) (R 0) ++ (wE J (A 3 1) (A 4 1) (A 5 1) (R 1) ++ (wE J (A 3 2) (A 4 2) (A 5 2) (R 2) ++ (wE J (A 3 3) (A 4 3) (A 5 3) (R 3) ++ (wE J (A 3 4) (A 4 4) (A 5 4) (R 4) ++ (wE J (A 3 5) (A 4 5) (A 5 5) (R 5) ++ (wE J (A 3 6) (A 4 6) (A 5 6) (R 6) ++ ([cO 3 (A 6 0) [some (A 6 1), some (A 6 2)] G, cQ (J 3) (A 6 1) 2 (fun j => some (A 7 j)), cI (J 2) (A 6 2) 2 U] ++ (wE J (A 7 0) (A 8 0) (A 9 0) (V 0) ++ (wE J (A 7 1) (A 8 1) (A 9 1) (V 1) ++ [cO 2 (A 10 0) [some (A 10 1), none, none, none, none, none] (padK len pos pr ix nm), cI (J 1) (A 10 1) 80 C]))))))))))) (av := [.ref (A 0 0), .int (iI x)]) (st := []) hC (t_X1_follow l D J (A 1 0) (A 1 1) (A 1 2) (A 0 0) (A 0 1) (A 0 2) T E x ⟨by omega, by omega⟩ hI hTg) gX5_replay_X1_follow rfl 2 (by decide +kernel) ⟨Nat.le_of_ble_eq_true rfl, Nat.le_of_ble_eq_true rfl⟩ ⟨Nat.le_of_ble_eq_true rfl, Nat.le_of_ble_eq_true rfl⟩ [4, 5, 6, 1, 2, 3] [0, 7, 8, 9, 10, 11, 12, 13, 14, 15, 16, 17, 18, 19, 20, 21, 22, 23, 24, 25, 26, 27, 28, 29, 30, 31, 32, 33, 34, 35, 36, 37, 38, 39, 40] rfl rfl rfl (by decide) rfl 0 rfl rfl rfl rfl rfl (Nat.le_of_ble_eq_true rfl) dX5_replay_39 (fun _ _ => ?_)
          refine z_perm (ws' := wSP J h A E (cFollow E T x) F R G U V len pos pr ix nm C) [0, 38, 39, 40, 35, 36, 37, 1, 2, 3, 4, 5, 6, 7, 8, 9, 10, 11, 12, 13, 14, 15, 16, 17, 18, 19, 20, 21, 22, 23, 24, 25, 26, 27, 28, 29, 30, 31, 32, 33, 34] rfl rfl ?_
          refine z_st (st' := []) rfl ?_
          refine z_iload_n hC dX5_replay_42 rfl 2 rfl ?_
          rcases (show y = 0 ∨ y = 1 ∨ y = 2 ∨ (y < 0 ∨ 2 < y) by omega) with sw9 | sw9 | sw9 | sw9
          · refine z_tableIn (tgt := 68) (off := 25) hC dX5_replay_43 (by unfold inR; omega) (by omega) (by omega) (by rw [sw9]; rfl) (by decide) ?_
            refine z_aload_n hC dX5_replay_68 rfl 0 rfl ?_
            refine z_getr hC zkX5 iX5_replay_X5 0 rfl 1 (by decide) kX5_replay_3 rfl rfl dX5_replay_69 ?_
            refine z_geti hC zkX1 iX5_replay_X1 4 rfl 10 (by decide) kX5_replay_5 rfl rfl dX5_replay_72 ?_
            exact z_iret hC hr rfl () trivial (hvi (by unfold cReplayR cReplayOk; (repeat' split) <;> first | rfl | omega)) (congrArg (fun z => wSP J h A E z F R G U V len pos pr ix nm C) (show (cFollow E T x) = cReplayT E T x y from (by unfold cReplayT cReplayOk; (repeat' split) <;> first | rfl | omega))) dX5_replay_75
          · refine z_tableIn (tgt := 76) (off := 33) hC dX5_replay_43 (by unfold inR; omega) (by omega) (by omega) (by rw [sw9]; rfl) (by decide) ?_
            refine z_aload_n hC dX5_replay_76 rfl 0 rfl ?_
            refine z_getr hC zkX5 iX5_replay_X5 0 rfl 1 (by decide) kX5_replay_3 rfl rfl dX5_replay_77 ?_
            refine z_geti hC zkX1 iX5_replay_X1 4 rfl 11 (by decide) kX5_replay_6 rfl rfl dX5_replay_80 ?_
            exact z_iret hC hr rfl () trivial (hvi (by unfold cReplayR cReplayOk; (repeat' split) <;> first | rfl | omega)) (congrArg (fun z => wSP J h A E z F R G U V len pos pr ix nm C) (show (cFollow E T x) = cReplayT E T x y from (by unfold cReplayT cReplayOk; (repeat' split) <;> first | rfl | omega))) dX5_replay_83
          · refine z_tableIn (tgt := 84) (off := 41) hC dX5_replay_43 (by unfold inR; omega) (by omega) (by omega) (by rw [sw9]; rfl) (by decide) ?_
            refine z_aload_n hC dX5_replay_84 rfl 0 rfl ?_
            refine z_getr hC zkX5 iX5_replay_X5 0 rfl 1 (by decide) kX5_replay_3 rfl rfl dX5_replay_85 ?_
            refine z_geti hC zkX1 iX5_replay_X1 4 rfl 12 (by decide) kX5_replay_7 rfl rfl dX5_replay_88 ?_
            exact z_iret hC hr rfl () trivial (hvi (by unfold cReplayR cReplayOk; (repeat' split) <;> first | rfl | omega)) (congrArg (fun z => wSP J h A E z F R G U V len pos pr ix nm C) (show (cFollow E T x) = cReplayT E T x y from (by unfold cReplayT cReplayOk; (repeat' split) <;> first | rfl | omega))) dX5_replay_91
          · refine z_tableOut (tgt := 92) hC dX5_replay_43 (by unfold inR; omega) sw9 (by decide) ?_
            refine z_aload_n hC dX5_replay_92 rfl 0 rfl ?_
            refine z_getr hC zkX5 iX5_replay_X5 0 rfl 1 (by decide) kX5_replay_3 rfl rfl dX5_replay_93 ?_
            refine z_geti hC zkX1 iX5_replay_X1 4 rfl 3 (by decide) kX5_replay_8 rfl rfl dX5_replay_96 ?_
            exact z_iret hC hr rfl () trivial (hvi (by unfold cReplayR cReplayOk; (repeat' split) <;> first | rfl | omega)) (congrArg (fun z => wSP J h A E z F R G U V len pos pr ix nm C) (show (cFollow E T x) = cReplayT E T x y from (by unfold cReplayT cReplayOk; (repeat' split) <;> first | rfl | omega))) dX5_replay_99
        · refine z_bipush hC dX5_replay_27 (by decide) ?_
          exact z_iret hC hr rfl () trivial (hvi (by unfold cReplayR cReplayOk; (repeat' split) <;> first | rfl | omega)) (congrArg (fun z => wSP J h A E z F R G U V len pos pr ix nm C) (show T = cReplayT E T x y from (by unfold cReplayT cReplayOk; (repeat' split) <;> first | rfl | omega))) dX5_replay_29
theorem kX5_bestFilter_1 : Cond.fieldLink RX5 134 "StepPairs" "LEAST_SETTING" "[I" ∈ wsX5_bestFilter := List.mem_of_getElem? (i := 1) rfl
theorem kX5_bestFilter_2 : Cond.fieldLink RX5 138 "StepPairs" "MOST_SETTING" "[I" ∈ wsX5_bestFilter := List.mem_of_getElem? (i := 2) rfl
set_option maxRecDepth 20000 in
theorem iX5_bestFilter_X5 : ∀ w ∈ u_ws RX5 TX5 5, w ∈ wsX5_bestFilter := zm_places _ [89, 90, 91, 92, 93] (by decide +kernel)
theorem kX5_bestFilter_3 : Cond.fieldLink RX5 16 "StepPairs" "trial" "LStepPairs$Encoder;" ∈ wsX5_bestFilter := List.mem_of_getElem? (i := 3) rfl
theorem kX5_bestFilter_4 : Cond.fieldLink RX5 10 "StepPairs" "encoder" "LStepPairs$Encoder;" ∈ wsX5_bestFilter := List.mem_of_getElem? (i := 4) rfl
set_option maxRecDepth 20000 in
theorem iX5_bestFilter_X1 : ∀ w ∈ u_ws RX1 TX1 16, w ∈ wsX5_bestFilter := zm_places _ [94, 95, 96, 97, 98, 99, 100, 101, 102, 103, 104, 105, 106, 107, 108, 109] (by decide +kernel)
theorem kX5_bestFilter_5 : Cond.fieldLink RX5 98 "StepPairs$Encoder" "illegal" "I" ∈ wsX5_bestFilter := List.mem_of_getElem? (i := 5) rfl
abbrev rmX5_bestFilter : Room := { frames := 6, cells := 0, slots := 0, locals := 120 }
set_option maxHeartbeats 4000000 in
set_option maxRecDepth 100000 in
theorem t_X5_bestFilter (l : Launch) (D : va_G) (J : Nat → ClassId) (h : Nat) (A : Nat → Nat → Nat) (E T : Enc) (F : Nat → Int) (R : Nat → Enc) (G U : Nat → Int) (V : Nat → Enc) (len pos pr ix nm : Int) (C : Nat → Int) (hI : InvE E) (hTg : ∀ j, 0 ≤ T.2.2 j ∧ T.2.2 j ≤ 31) (hF : 0 ≤ F 1 ∧ F 1 < 7) (hG : 0 ≤ F 2 ∧ F 2 ≤ 6) (hU : ∀ j, 0 ≤ U j ∧ U j ≤ 1) (hl : 0 ≤ len ∧ len ≤ 80) (hCh : ∀ j, 0 ≤ C j ∧ C j ≤ 126) (x : Int) (hx : inR x) : ZX l yX5_bestFilter wsX5_bestFilter rmX5_bestFilter D J [.ref h, .int (iI x)] (wSP J h A E T F R G U V len pos pr ix nm C) (some (.int (iI (cBestR E T x)))) (wSP J h A E (cBestT E T x) F R G U V len pos pr ix nm C) := by
  have hR := hI
  obtain ⟨hE2, hE3, hE4, hE5, hE6, hE7, hE8, hE9, hE10, hE13, hE14, hE15, hs0, hs1, hs2, hs3, hs4, hg⟩ := hR
  unfold inR at hx
  refine z_met (cc := cX5_bestFilter) (nL := 5) (ret := (some .int)) (own := RX5) (by decide) rfl rfl (Nat.le_of_ble_eq_true rfl) (fun p e s m args below meth c hC hr hin => ?_)
  refine z_lv0 (lv' := [(0, .ref h), (1, .int (iI x))]) rfl ?_
  refine z_iload_n hC dX5_bestFilter_0 rfl 1 rfl ?_
  refine z_if_lt (tgt := 9) hC dX5_bestFilter_1 (by decide) (by unfold inR; omega) (fun c_1_1 => ?_) (fun c_1_1 => ?_)
  · refine z_bipush hC dX5_bestFilter_9 (by decide) ?_
    exact z_iret hC hr rfl () trivial (hvi (by unfold cBestR; (repeat' split) <;> first | rfl | omega)) (congrArg (fun z => wSP J h A E z F R G U V len pos pr ix nm C) (show T = cBestT E T x from (by unfold cBestT; (repeat' split) <;> first | rfl | omega))) dX5_bestFilter_11
  · refine z_iload_n hC dX5_bestFilter_4 rfl 1 rfl ?_
    refine z_iconst hC dX5_bestFilter_5 ?_
    refine z_icmp_le (tgt := 12) hC dX5_bestFilter_6 (by decide) (by unfold inR; omega) ⟨by decide, by decide⟩ (fun c_6_2 => ?_) (fun c_6_2 => ?_)
    · refine z_iconst hC dX5_bestFilter_12 ?_
      refine z_istore_n (lv' := [(2, .int (iI 0)), (0, .ref h), (1, .int (iI x))]) hC dX5_bestFilter_13 rfl (by decide) rfl ?_
      refine z_iconst hC dX5_bestFilter_14 ?_
      refine z_istore_n (lv' := [(3, .int (iI 0)), (2, .int (iI 0)), (0, .ref h), (1, .int (iI x))]) hC dX5_bestFilter_15 rfl (by decide) rfl ?_
      refine z_getT hC hC.2.2.2.1.1 kX5_bestFilter_1 dX5_bestFilter_16 (fun t_3 ht_4 => ?_)
      refine z_iconst hC dX5_bestFilter_19 ?_
      refine z_ldT hC ht_4 2 rfl (by decide) dX5_bestFilter_20 ?_
      refine z_int (y := iI 1) hC rfl ?_
      refine z_istore (lv' := [(4, .int (iI 1)), (3, .int (iI 0)), (2, .int (iI 0)), (0, .ref h), (1, .int (iI x))]) hC dX5_bestFilter_21 (by decide) rfl ?_
      refine z_lv (lv' := [(4, .int (iI 1)), (3, .int (iI 0)), (2, .int (iI 0)), (0, .ref h), (1, .int (iI x))]) [0, 1, 2, 3, 4] rfl ?_
      refine z_loop (α := Nat) (fun nn n => (n : Int) + (nn : Int) = 9) (fun nn n => wSP J h A E ((cBest E T n).1) F R G U V len pos pr ix nm C) (fun nn n => [(4, .int (iI ((n : Int) + 1))), (3, .int (iI ((cBest E T n).2.2))), (2, .int (iI ((cBest E T n).2.1))), (0, .ref h), (1, .int (iI x))]) 23 [] (fun nn n ih_5 hP_6 => ?_) (fun n hP_6 => ?_) 9 0 (by show ((0 : Nat) : Int) + ((9 : Nat) : Int) = 9; omega)
      · change Z _ _ _ _ _ _ _ _ _ _ _ _ _ _ _ _ (wSP J h A E ((cBest E T n).1) F R G U V len pos pr ix nm C) ([(4, .int (iI ((n : Int) + 1))), (3, .int (iI ((cBest E T n).2.2))), (2, .int (iI ((cBest E T n).2.1))), (0, .ref h), (1, .int (iI x))]) 23 ([])
        have hb := best_in hI hTg n (by omega)
        have hfo := follow_inv (F := (n : Int) + 1) hI ⟨by omega, by omega⟩ hb.1
        have hf1 := hfo.1
        have hf9 := hfo.2.2.2.2.2.2.2.2.1
        have hb2 := hb.2
        refine z_iload hC dX5_bestFilter_23 0 rfl ?_
        refine z_getT hC hC.2.2.2.1.2.1 kX5_bestFilter_2 dX5_bestFilter_25 (fun t_7 ht_8 => ?_)
        refine z_iconst hC dX5_bestFilter_28 ?_
        refine z_ldT hC ht_8 2 rfl (by decide) dX5_bestFilter_29 ?_
        refine z_int (y := iI 9) hC rfl ?_
        refine z_icmp_gt_f (tgt := 78) hC dX5_bestFilter_30 (by decide) (by unfold inR; omega) ⟨by decide, by decide⟩ (by omega) ?_
        refine z_aload_n hC dX5_bestFilter_33 rfl 3 rfl ?_
        refine z_getr hC zkX5 iX5_bestFilter_X5 0 rfl 1 (by decide) kX5_bestFilter_3 rfl rfl dX5_bestFilter_34 ?_
        refine z_aload_n hC dX5_bestFilter_37 rfl 3 rfl ?_
        refine z_getr hC zkX5 iX5_bestFilter_X5 0 rfl 0 (by decide) kX5_bestFilter_4 rfl rfl dX5_bestFilter_38 ?_
        refine z_iload hC dX5_bestFilter_41 0 rfl ?_
        refine z_callV (wr := [cO 4 h [some (A 0 0), some (A 1 0), some (A 2 0), some (A 6 0), some (A 10 0)] (fun _ => 0), cO 1 (A 2 0) [some (A 2 1), none, none] F, cQ (J 3) (A 2 1) 7 (fun j => some (A 3 j))] ++ (wE J (A 3 0) (A 4 0) (A 5 0) (R 0) ++ (wE J (A 3 1) (A 4 1) (A 5 1) (R 1) ++ (wE J (A 3 2) (A 4 2) (A 5 2) (R 2) ++ (wE J (A 3 3) (A 4 3) (A 5 3) (R 3) ++ (wE J (A 3 4) (A 4 4) (A 5 4) (R 4) ++ (wE J (A 3 5) (A 4 5) (A 5 5) (R 5) ++ (wE J (A 3 6) (A 4 6) (A 5 6) (R 6) ++ ([cO 3 (A 6 0) [some (A 6 1), some (A 6 2)] G, cQ (J 3) (A 6 1) 2 (fun j => some (A 7 j)), cI (J 2) (A 6 2) 2 U] ++ (wE J (A 7 0) (A 8 0) (A 9 0) (V 0) ++ (wE J (A 7 1) (A 8 1) (A 9 1) (V 1) ++ [cO 2 (A 10 0) [some (A 10 1), none, none, none, none, none] (padK len pos pr ix nm), cI (J 1) (A 10 1) 80 C]))))))))))) (av := [.ref (A 0 0), .int (iI ((n : Int) + 1))]) (st := []) hC (t_X1_follow l D J (A 1 0) (A 1 1) (A 1 2) (A 0 0) (A 0 1) (A 0 2) ((cBest E T n).1) E ((n : Int) + 1) ⟨by omega, by omega⟩ hI hb.1) gX5_bestFilter_X1_follow rfl 2 (by decide +kernel) ⟨Nat.le_of_ble_eq_true rfl, Nat.le_of_ble_eq_true rfl⟩ ⟨Nat.le_of_ble_eq_true rfl, Nat.le_of_ble_eq_true rfl⟩ [4, 5, 6, 1, 2, 3] [0, 7, 8, 9, 10, 11, 12, 13, 14, 15, 16, 17, 18, 19, 20, 21, 22, 23, 24, 25, 26, 27, 28, 29, 30, 31, 32, 33, 34, 35, 36, 37, 38, 39, 40] rfl rfl rfl (by decide) rfl 0 rfl rfl rfl rfl rfl (Nat.le_of_ble_eq_true rfl) dX5_bestFilter_43 (fun _ _ => ?_)
        refine z_perm (ws' := wSP J h A E (cFollow E ((cBest E T n).1) ((n : Int) + 1)) F R G U V len pos pr ix nm C) [0, 38, 39, 40, 35, 36, 37, 1, 2, 3, 4, 5, 6, 7, 8, 9, 10, 11, 12, 13, 14, 15, 16, 17, 18, 19, 20, 21, 22, 23, 24, 25, 26, 27, 28, 29, 30, 31, 32, 33, 34] rfl rfl ?_
        refine z_st (st' := []) rfl ?_
        refine z_iload_n hC dX5_bestFilter_46 rfl 2 rfl ?_
        refine z_if_eq (tgt := 61) hC dX5_bestFilter_47 (by decide) (by unfold inR; omega) (fun c_47_9 => ?_) (fun c_47_9 => ?_)
        · refine z_iload hC dX5_bestFilter_61 0 rfl ?_
          refine z_istore_n (lv' := [(2, .int (iI ((n : Int) + 1))), (4, .int (iI ((n : Int) + 1))), (3, .int (iI ((cBest E T n).2.2))), (0, .ref h), (1, .int (iI x))]) hC dX5_bestFilter_63 rfl (by decide) rfl ?_
          refine z_aload_n hC dX5_bestFilter_64 rfl 3 rfl ?_
          refine z_getr hC zkX5 iX5_bestFilter_X5 0 rfl 1 (by decide) kX5_bestFilter_3 rfl rfl dX5_bestFilter_65 ?_
          refine z_geti hC zkX1 iX5_bestFilter_X1 4 rfl 12 (by decide) kX5_bestFilter_5 rfl rfl dX5_bestFilter_68 ?_
          refine z_istore_n (lv' := [(3, .int (iI (((cFollow E ((cBest E T n).1) ((n : Int) + 1)).1) 12))), (2, .int (iI ((n : Int) + 1))), (4, .int (iI ((n : Int) + 1))), (0, .ref h), (1, .int (iI x))]) hC dX5_bestFilter_71 rfl (by decide) rfl ?_
          refine z_iinc (lv' := [(4, .int (iI (((n : Int) + 1) + 1))), (3, .int (iI (((cFollow E ((cBest E T n).1) ((n : Int) + 1)).1) 12))), (2, .int (iI ((n : Int) + 1))), (0, .ref h), (1, .int (iI x))]) hC dX5_bestFilter_72 2 rfl (by decide) rfl ?_
          refine z_goto (tgt := 23) hC dX5_bestFilter_75 (by decide) ?_
          have eb : cBest E T (n + 1) = ((cFollow E ((cBest E T n).1) ((n : Int) + 1)), (n : Int) + 1, ((cFollow E ((cBest E T n).1) ((n : Int) + 1)).1) 12) := by rw [cBest_s]; (repeat' split) <;> first | rfl | omega
          refine z_lv0 (lv' := [(4, .int (iI (((n : Int) + 1) + 1))), (3, .int (iI ((cBest E T (n + 1)).2.2))), (2, .int (iI ((cBest E T (n + 1)).2.1))), (0, .ref h), (1, .int (iI x))]) (by rw [eb]) ?_
          refine z_ws (ws' := wSP J h A E ((cBest E T (n + 1)).1) F R G U V len pos pr ix nm C) (by rw [eb]) ?_
          refine z_lv (lv' := _) [0, 1, 2, 3, 4] rfl ?_
          exact ih_5 (n + 1) (by omega)
        · refine z_aload_n hC dX5_bestFilter_50 rfl 3 rfl ?_
          refine z_getr hC zkX5 iX5_bestFilter_X5 0 rfl 1 (by decide) kX5_bestFilter_3 rfl rfl dX5_bestFilter_51 ?_
          refine z_geti hC zkX1 iX5_bestFilter_X1 4 rfl 12 (by decide) kX5_bestFilter_5 rfl rfl dX5_bestFilter_54 ?_
          refine z_iload_n hC dX5_bestFilter_57 rfl 1 rfl ?_
          refine z_icmp_ge (tgt := 72) hC dX5_bestFilter_58 (by decide) (by unfold inR; omega) (by unfold inR; omega) (fun c_58_10 => ?_) (fun c_58_10 => ?_)
          · refine z_iinc (lv' := [(4, .int (iI (((n : Int) + 1) + 1))), (3, .int (iI ((cBest E T n).2.2))), (2, .int (iI ((cBest E T n).2.1))), (0, .ref h), (1, .int (iI x))]) hC dX5_bestFilter_72 0 rfl (by decide) rfl ?_
            refine z_goto (tgt := 23) hC dX5_bestFilter_75 (by decide) ?_
            have eb : cBest E T (n + 1) = ((cFollow E ((cBest E T n).1) ((n : Int) + 1)), (cBest E T n).2.1, (cBest E T n).2.2) := by rw [cBest_s]; (repeat' split) <;> first | rfl | omega
            refine z_lv0 (lv' := [(4, .int (iI (((n : Int) + 1) + 1))), (3, .int (iI ((cBest E T (n + 1)).2.2))), (2, .int (iI ((cBest E T (n + 1)).2.1))), (0, .ref h), (1, .int (iI x))]) (by rw [eb]) ?_
            refine z_ws (ws' := wSP J h A E ((cBest E T (n + 1)).1) F R G U V len pos pr ix nm C) (by rw [eb]) ?_
            refine z_lv (lv' := _) [0, 1, 2, 3, 4] rfl ?_
            exact ih_5 (n + 1) (by omega)
          · refine z_iload hC dX5_bestFilter_61 0 rfl ?_
            refine z_istore_n (lv' := [(2, .int (iI ((n : Int) + 1))), (4, .int (iI ((n : Int) + 1))), (3, .int (iI ((cBest E T n).2.2))), (0, .ref h), (1, .int (iI x))]) hC dX5_bestFilter_63 rfl (by decide) rfl ?_
            refine z_aload_n hC dX5_bestFilter_64 rfl 3 rfl ?_
            refine z_getr hC zkX5 iX5_bestFilter_X5 0 rfl 1 (by decide) kX5_bestFilter_3 rfl rfl dX5_bestFilter_65 ?_
            refine z_geti hC zkX1 iX5_bestFilter_X1 4 rfl 12 (by decide) kX5_bestFilter_5 rfl rfl dX5_bestFilter_68 ?_
            refine z_istore_n (lv' := [(3, .int (iI (((cFollow E ((cBest E T n).1) ((n : Int) + 1)).1) 12))), (2, .int (iI ((n : Int) + 1))), (4, .int (iI ((n : Int) + 1))), (0, .ref h), (1, .int (iI x))]) hC dX5_bestFilter_71 rfl (by decide) rfl ?_
            refine z_iinc (lv' := [(4, .int (iI (((n : Int) + 1) + 1))), (3, .int (iI (((cFollow E ((cBest E T n).1) ((n : Int) + 1)).1) 12))), (2, .int (iI ((n : Int) + 1))), (0, .ref h), (1, .int (iI x))]) hC dX5_bestFilter_72 2 rfl (by decide) rfl ?_
            refine z_goto (tgt := 23) hC dX5_bestFilter_75 (by decide) ?_
            have eb : cBest E T (n + 1) = ((cFollow E ((cBest E T n).1) ((n : Int) + 1)), (n : Int) + 1, ((cFollow E ((cBest E T n).1) ((n : Int) + 1)).1) 12) := by rw [cBest_s]; (repeat' split) <;> first | rfl | omega
            refine z_lv0 (lv' := [(4, .int (iI (((n : Int) + 1) + 1))), (3, .int (iI ((cBest E T (n + 1)).2.2))), (2, .int (iI ((cBest E T (n + 1)).2.1))), (0, .ref h), (1, .int (iI x))]) (by rw [eb]) ?_
            refine z_ws (ws' := wSP J h A E ((cBest E T (n + 1)).1) F R G U V len pos pr ix nm C) (by rw [eb]) ?_
            refine z_lv (lv' := _) [0, 1, 2, 3, 4] rfl ?_
            exact ih_5 (n + 1) (by omega)
      · change Z _ _ _ _ _ _ _ _ _ _ _ _ _ _ _ _ (wSP J h A E ((cBest E T n).1) F R G U V len pos pr ix nm C) ([(4, .int (iI ((n : Int) + 1))), (3, .int (iI ((cBest E T n).2.2))), (2, .int (iI ((cBest E T n).2.1))), (0, .ref h), (1, .int (iI x))]) 23 ([])
        have hb := best_in hI hTg n (by omega)
        have hb2 := hb.2
        have hn9 : n = 9 := by omega
        refine z_iload hC dX5_bestFilter_23 0 rfl ?_
        refine z_getT hC hC.2.2.2.1.2.1 kX5_bestFilter_2 dX5_bestFilter_25 (fun t_11 ht_12 => ?_)
        refine z_iconst hC dX5_bestFilter_28 ?_
        refine z_ldT hC ht_12 2 rfl (by decide) dX5_bestFilter_29 ?_
        refine z_int (y := iI 9) hC rfl ?_
        refine z_icmp_gt_t (tgt := 78) hC dX5_bestFilter_30 (by decide) (by unfold inR; omega) ⟨by decide, by decide⟩ (by omega) ?_
        refine z_iload_n hC dX5_bestFilter_78 rfl 4 rfl ?_
        refine z_if_ne (tgt := 86) hC dX5_bestFilter_79 (by decide) (by unfold inR; omega) (fun c_79_13 => ?_) (fun c_79_13 => ?_)
        · refine z_iload_n hC dX5_bestFilter_86 rfl 1 rfl ?_
          exact z_iret hC hr rfl () trivial (hvi (by subst hn9; unfold cBestR; (repeat' split) <;> first | rfl | omega)) (congrArg (fun z => wSP J h A E z F R G U V len pos pr ix nm C) (show ((cBest E T n).1) = cBestT E T x from (by subst hn9; unfold cBestT; (repeat' split) <;> first | rfl | omega))) dX5_bestFilter_87
        · refine z_iload_n hC dX5_bestFilter_82 rfl 2 rfl ?_
          refine z_goto (tgt := 87) hC dX5_bestFilter_83 (by decide) ?_
          exact z_iret hC hr rfl () trivial (hvi (by subst hn9; unfold cBestR; (repeat' split) <;> first | rfl | omega)) (congrArg (fun z => wSP J h A E z F R G U V len pos pr ix nm C) (show ((cBest E T n).1) = cBestT E T x from (by subst hn9; unfold cBestT; (repeat' split) <;> first | rfl | omega))) dX5_bestFilter_87
    · refine z_bipush hC dX5_bestFilter_9 (by decide) ?_
      exact z_iret hC hr rfl () trivial (hvi (by unfold cBestR; (repeat' split) <;> first | rfl | omega)) (congrArg (fun z => wSP J h A E z F R G U V len pos pr ix nm C) (show T = cBestT E T x from (by unfold cBestT; (repeat' split) <;> first | rfl | omega))) dX5_bestFilter_11
