set_option maxRecDepth 20000 in
theorem iX1_adjust_X1 : ∀ w ∈ u_ws RX1 TX1 16, w ∈ wsX1_adjust := zm_places _ [8, 9, 10, 11, 12, 13, 14, 15, 16, 17, 18, 19, 20, 21, 22, 23] (by decide +kernel)
theorem kX1_adjust_1 : Cond.fieldLink RX1 9 "StepPairs$Encoder" "settings" "[I" ∈ wsX1_adjust := List.mem_of_getElem? (i := 1) rfl
theorem kX1_adjust_3 : Cond.fieldLink RX1 31 "StepPairs$Encoder" "count" "I" ∈ wsX1_adjust := List.mem_of_getElem? (i := 3) rfl
theorem kX1_adjust_2 : Cond.fieldLink RX1 34 "StepPairs$Encoder" "place" "I" ∈ wsX1_adjust := List.mem_of_getElem? (i := 2) rfl
abbrev rmX1_adjust : Room := { frames := 1, cells := 0, slots := 0, locals := 21 }
set_option maxHeartbeats 4000000 in
set_option maxRecDepth 100000 in
theorem t_X1_adjust (l : Launch) (D : va_G) (J : Nat → ClassId) (h0 h1 h2 : Nat) (E : Enc) (x y : Int) (hx : inR x) (hy : inR y) (hI : InvE E) : ZX l yX1_adjust wsX1_adjust rmX1_adjust D J [.ref h0, .int (iI x), .int (iI y)] (wE J h0 h1 h2 E) (some (.int (iI (cAdjR E x y)))) (wE J h0 h1 h2 (cAdjE E x y)) := by
  obtain ⟨hE2, hE3, hE4, hE5, hE6, hE7, hE8, hE9, hE10, hE13, hE14, hE15, hs0, hs1, hs2, hs3, hs4, hg⟩ := id hI
  unfold inR at hx hy
  have hls := leastS_in x.toNat
  have hms := mostS_in x.toNat
  refine z_met (cc := cX1_adjust) (nL := 4) (ret := (some .int)) (own := RX1) (by decide) rfl rfl (Nat.le_of_ble_eq_true rfl) (fun p e s m args below meth c hC hr hin => ?_)
  refine z_lv0 (lv' := [(0, .ref h0), (1, .int (iI x)), (2, .int (iI y))]) rfl ?_
  refine z_iload_n hC dX1_adjust_0 rfl 1 rfl ?_
  refine z_if_lt (tgt := 9) hC dX1_adjust_1 (by decide) (by unfold inR; omega) (fun c_1_1 => ?_) (fun c_1_1 => ?_)
  · refine z_bipush hC dX1_adjust_9 (by decide) ?_
    exact z_iret hC hr rfl () trivial (hvi (by unfold cAdjR cAdjOk; (repeat' split) <;> first | rfl | omega)) (congrArg (wE J h0 h1 h2) (by unfold cAdjE cAdjOk; (repeat' split) <;> first | rfl | omega)) dX1_adjust_11
  · refine z_iload_n hC dX1_adjust_4 rfl 1 rfl ?_
    refine z_iconst hC dX1_adjust_5 ?_
    refine z_icmp_lt (tgt := 12) hC dX1_adjust_6 (by decide) (by unfold inR; omega) ⟨by decide, by decide⟩ (fun c_6_2 => ?_) (fun c_6_2 => ?_)
    · refine z_iload_n hC dX1_adjust_12 rfl 2 rfl ?_
      refine z_getTN hC hC.2.2.2.1.1 hC.2.2.2.1.2.2.2.2.1 dX1_adjust_13 (fun t_3 ht_4 => ?_)
      refine z_iload_n hC dX1_adjust_16 rfl 1 rfl ?_
      refine z_ldT hC ht_4 (Int.toNat x) (Int.toNat_of_nonneg (by omega)).symm (by omega) dX1_adjust_17 ?_
      refine z_icmp_lt (tgt := 30) hC dX1_adjust_18 (by decide) (by unfold inR; omega) (by unfold inR; omega) (fun c_18_5 => ?_) (fun c_18_5 => ?_)
      · refine z_bipush hC dX1_adjust_30 (by decide) ?_
        exact z_iret hC hr rfl () trivial (hvi (by unfold cAdjR cAdjOk; (repeat' split) <;> first | rfl | omega)) (congrArg (wE J h0 h1 h2) (by unfold cAdjE cAdjOk; (repeat' split) <;> first | rfl | omega)) dX1_adjust_32
      · refine z_iload_n hC dX1_adjust_21 rfl 2 rfl ?_
        refine z_getTN hC hC.2.2.2.1.2.1 hC.2.2.2.1.2.2.2.2.2.1 dX1_adjust_22 (fun t_6 ht_7 => ?_)
        refine z_iload_n hC dX1_adjust_25 rfl 1 rfl ?_
        refine z_ldT hC ht_7 (Int.toNat x) (Int.toNat_of_nonneg (by omega)).symm (by omega) dX1_adjust_26 ?_
        refine z_icmp_le (tgt := 33) hC dX1_adjust_27 (by decide) (by unfold inR; omega) (by unfold inR; omega) (fun c_27_8 => ?_) (fun c_27_8 => ?_)
        · refine z_iload_n hC dX1_adjust_33 rfl 1 rfl ?_
          refine z_if_ne (tgt := 46) hC dX1_adjust_34 (by decide) (by unfold inR; omega) (fun c_34_9 => ?_) (fun c_34_9 => ?_)
          · refine z_aload_n hC dX1_adjust_46 rfl 0 rfl ?_
            refine z_getr hC zkX1 iX1_adjust_X1 0 rfl 0 (by decide) kX1_adjust_1 rfl rfl dX1_adjust_47 ?_
            refine z_iload_n hC dX1_adjust_50 rfl 1 rfl ?_
            refine z_iald hC 1 rfl 0 rfl (Int.toNat x) (Int.toNat_of_nonneg (by omega)).symm (by omega) (by decide) dX1_adjust_51 ?_
            refine z_istore_n (lv' := [(3, .int (iI (E.2.1 (Int.toNat x)))), (0, .ref h0), (1, .int (iI x)), (2, .int (iI y))]) hC dX1_adjust_52 rfl (by decide) rfl ?_
            refine z_aload_n hC dX1_adjust_53 rfl 1 rfl ?_
            refine z_getr hC zkX1 iX1_adjust_X1 0 rfl 0 (by decide) kX1_adjust_1 rfl rfl dX1_adjust_54 ?_
            refine z_iload_n hC dX1_adjust_57 rfl 2 rfl ?_
            refine z_iload_n hC dX1_adjust_58 rfl 3 rfl ?_
            refine z_iast (ws' := wE J h0 h1 h2 (E.1, updZ E.2.1 (Int.toNat x) y, E.2.2)) hC 1 rfl 0 rfl (Int.toNat x) (Int.toNat_of_nonneg (by omega)).symm (by omega) (by decide) dX1_adjust_59 rfl ?_
            refine z_iload_n hC dX1_adjust_60 rfl 2 rfl ?_
            refine z_if_ne_t (tgt := 76) hC dX1_adjust_61 (by decide) (by unfold inR; omega) (by omega) ?_
            refine z_iload_n hC dX1_adjust_76 rfl 2 rfl ?_
            refine z_iconst hC dX1_adjust_77 ?_
            refine z_icmp_ne (tgt := 93) hC dX1_adjust_78 (by decide) (by unfold inR; omega) ⟨by decide, by decide⟩ (fun c_78_10 => ?_) (fun c_78_10 => ?_)
            · refine z_iload_n hC dX1_adjust_93 rfl 0 rfl ?_
              exact z_iret hC hr rfl () trivial (hvi (by unfold cAdjR cAdjOk; (repeat' split) <;> first | rfl | omega)) (congrArg (wE J h0 h1 h2) (by unfold cAdjE cAdjOk; (repeat' split) <;> first | rfl | omega)) dX1_adjust_94
            · have hl1 : leastS x.toNat = 10 := by rw [show x.toNat = 1 by omega]; rfl
              refine z_aload_n hC dX1_adjust_81 rfl 1 rfl ?_
              refine z_aload_n hC dX1_adjust_82 rfl 1 rfl ?_
              refine z_geti hC zkX1 iX1_adjust_X1 0 rfl 3 (by decide) kX1_adjust_3 rfl rfl dX1_adjust_83 ?_
              refine z_iload_n hC dX1_adjust_86 rfl 3 rfl ?_
              refine z_callS (wr := wE J h0 h1 h2 (E.1, updZ E.2.1 (Int.toNat x) y, E.2.2)) (av := [.int (iI (E.1 3)), .int (iI y)]) (st := [.ref h0]) hC (t_X1_leftOver l D J (E.1 3) y ⟨by omega, by omega⟩ ⟨by omega, by omega⟩) gX1_adjust_X1_leftOver rfl 2 (by decide +kernel) ⟨Nat.le_of_ble_eq_true rfl, Nat.le_of_ble_eq_true rfl⟩ ⟨Nat.le_of_ble_eq_true rfl, Nat.le_of_ble_eq_true rfl⟩ [] [0, 1, 2] rfl rfl rfl (by decide) rfl rfl rfl (Nat.le_of_ble_eq_true rfl) dX1_adjust_87 (fun _ _ => ?_)
              refine z_ws (ws' := wE J h0 h1 h2 (E.1, updZ E.2.1 (Int.toNat x) y, E.2.2)) rfl ?_
              refine z_st (st' := [.int (iI (leftO (E.1 3) y)), .ref h0]) rfl ?_
              refine z_puti (ws' := wE J h0 h1 h2 (updZ E.1 3 (leftO (E.1 3) y), updZ E.2.1 (Int.toNat x) y, E.2.2)) hC zkX1 iX1_adjust_X1 0 rfl 3 (by decide) kX1_adjust_3 rfl rfl rfl rfl rfl rfl dX1_adjust_90 rfl ?_
              refine z_iload_n hC dX1_adjust_93 rfl 0 rfl ?_
              exact z_iret hC hr rfl () trivial (hvi (by unfold cAdjR cAdjOk; (repeat' split) <;> first | rfl | omega)) (congrArg (wE J h0 h1 h2) (by unfold cAdjE cAdjOk; (repeat' split) <;> first | rfl | omega)) dX1_adjust_94
          · have hl0 : leastS x.toNat = 4 := by rw [show x.toNat = 0 by omega]; rfl
            refine z_iload_n hC dX1_adjust_37 rfl 2 rfl ?_
            refine z_iconst hC dX1_adjust_38 ?_
            refine z_irem hC dX1_adjust_39 (by omega) (by omega) (by omega) (by omega) ?_
            refine z_if_eq (tgt := 46) hC dX1_adjust_40 (by decide) (by unfold inR; omega) (fun c_40_11 => ?_) (fun c_40_11 => ?_)
            · refine z_aload_n hC dX1_adjust_46 rfl 0 rfl ?_
              refine z_getr hC zkX1 iX1_adjust_X1 0 rfl 0 (by decide) kX1_adjust_1 rfl rfl dX1_adjust_47 ?_
              refine z_iload_n hC dX1_adjust_50 rfl 1 rfl ?_
              refine z_iald hC 1 rfl 0 rfl (Int.toNat x) (Int.toNat_of_nonneg (by omega)).symm (by omega) (by decide) dX1_adjust_51 ?_
              refine z_istore_n (lv' := [(3, .int (iI (E.2.1 (Int.toNat x)))), (0, .ref h0), (1, .int (iI x)), (2, .int (iI y))]) hC dX1_adjust_52 rfl (by decide) rfl ?_
              refine z_aload_n hC dX1_adjust_53 rfl 1 rfl ?_
              refine z_getr hC zkX1 iX1_adjust_X1 0 rfl 0 (by decide) kX1_adjust_1 rfl rfl dX1_adjust_54 ?_
              refine z_iload_n hC dX1_adjust_57 rfl 2 rfl ?_
              refine z_iload_n hC dX1_adjust_58 rfl 3 rfl ?_
              refine z_iast (ws' := wE J h0 h1 h2 (E.1, updZ E.2.1 (Int.toNat x) y, E.2.2)) hC 1 rfl 0 rfl (Int.toNat x) (Int.toNat_of_nonneg (by omega)).symm (by omega) (by decide) dX1_adjust_59 rfl ?_
              refine z_iload_n hC dX1_adjust_60 rfl 2 rfl ?_
              refine z_if_ne_f (tgt := 76) hC dX1_adjust_61 (by decide) (by unfold inR; omega) (by omega) ?_
              refine z_aload_n hC dX1_adjust_64 rfl 1 rfl ?_
              refine z_aload_n hC dX1_adjust_65 rfl 1 rfl ?_
              refine z_geti hC zkX1 iX1_adjust_X1 0 rfl 4 (by decide) kX1_adjust_2 rfl rfl dX1_adjust_66 ?_
              refine z_iload_n hC dX1_adjust_69 rfl 3 rfl ?_
              refine z_callS (wr := wE J h0 h1 h2 (E.1, updZ E.2.1 (Int.toNat x) y, E.2.2)) (av := [.int (iI (E.1 4)), .int (iI y)]) (st := [.ref h0]) hC (t_X1_leftOver l D J (E.1 4) y ⟨by omega, by omega⟩ ⟨by omega, by omega⟩) gX1_adjust_X1_leftOver rfl 2 (by decide +kernel) ⟨Nat.le_of_ble_eq_true rfl, Nat.le_of_ble_eq_true rfl⟩ ⟨Nat.le_of_ble_eq_true rfl, Nat.le_of_ble_eq_true rfl⟩ [] [0, 1, 2] rfl rfl rfl (by decide) rfl rfl rfl (Nat.le_of_ble_eq_true rfl) dX1_adjust_70 (fun _ _ => ?_)
              refine z_ws (ws' := wE J h0 h1 h2 (E.1, updZ E.2.1 (Int.toNat x) y, E.2.2)) rfl ?_
              refine z_st (st' := [.int (iI (leftO (E.1 4) y)), .ref h0]) rfl ?_
              refine z_puti (ws' := wE J h0 h1 h2 (updZ E.1 4 (leftO (E.1 4) y), updZ E.2.1 (Int.toNat x) y, E.2.2)) hC zkX1 iX1_adjust_X1 0 rfl 4 (by decide) kX1_adjust_2 rfl rfl rfl rfl rfl rfl dX1_adjust_73 rfl ?_
              refine z_iload_n hC dX1_adjust_76 rfl 2 rfl ?_
              refine z_iconst hC dX1_adjust_77 ?_
              refine z_icmp_ne_t (tgt := 93) hC dX1_adjust_78 (by decide) (by unfold inR; omega) ⟨by decide, by decide⟩ (by omega) ?_
              refine z_iload_n hC dX1_adjust_93 rfl 0 rfl ?_
              exact z_iret hC hr rfl () trivial (hvi (by unfold cAdjR cAdjOk; (repeat' split) <;> first | rfl | omega)) (congrArg (wE J h0 h1 h2) (by unfold cAdjE cAdjOk; (repeat' split) <;> first | rfl | omega)) dX1_adjust_94
            · refine z_bipush hC dX1_adjust_43 (by decide) ?_
              exact z_iret hC hr rfl () trivial (hvi (by unfold cAdjR cAdjOk; (repeat' split) <;> first | rfl | omega)) (congrArg (wE J h0 h1 h2) (by unfold cAdjE cAdjOk; (repeat' split) <;> first | rfl | omega)) dX1_adjust_45
        · refine z_bipush hC dX1_adjust_30 (by decide) ?_
          exact z_iret hC hr rfl () trivial (hvi (by unfold cAdjR cAdjOk; (repeat' split) <;> first | rfl | omega)) (congrArg (wE J h0 h1 h2) (by unfold cAdjE cAdjOk; (repeat' split) <;> first | rfl | omega)) dX1_adjust_32
    · refine z_bipush hC dX1_adjust_9 (by decide) ?_
      exact z_iret hC hr rfl () trivial (hvi (by unfold cAdjR cAdjOk; (repeat' split) <;> first | rfl | omega)) (congrArg (wE J h0 h1 h2) (by unfold cAdjE cAdjOk; (repeat' split) <;> first | rfl | omega)) dX1_adjust_11
theorem kX1_pass_1 : Cond.constant RX1 97 (99999) ∈ wsX1_pass := List.mem_of_getElem? (i := 1) rfl
set_option maxRecDepth 20000 in
theorem iX1_pass_X1 : ∀ w ∈ u_ws RX1 TX1 16, w ∈ wsX1_pass := zm_places _ [49, 50, 51, 52, 53, 54, 55, 56, 57, 58, 59, 60, 61, 62, 63, 64] (by decide +kernel)
theorem kX1_pass_2 : Cond.fieldLink RX1 27 "StepPairs$Encoder" "ticks" "I" ∈ wsX1_pass := List.mem_of_getElem? (i := 2) rfl
abbrev rmX1_pass : Room := { frames := 3, cells := 0, slots := 0, locals := 68 }
set_option maxHeartbeats 4000000 in
set_option maxRecDepth 100000 in
theorem t_X1_pass (l : Launch) (D : va_G) (J : Nat → ClassId) (h0 h1 h2 : Nat) (E : Enc) (q i0 n0 : Int) (hq : inR q) (hi : inR i0) (hn : inR n0) (hI : InvE E) : ZX l yX1_pass wsX1_pass rmX1_pass D J [.ref h0, .int (iI q), .int (iI i0), .int (iI n0)] (wE J h0 h1 h2 E) (some (.int (iI (cPassR E q i0 n0)))) (wE J h0 h1 h2 (cPassE E q i0 n0)) := by
  obtain ⟨hE2, hE3, hE4, hE5, hE6, hE7, hE8, hE9, hE10, hE13, hE14, hE15, hs0, hs1, hs2, hs3, hs4, hg⟩ := id hI
  unfold inR at hq hi hn
  refine z_met (cc := cX1_pass) (nL := 7) (ret := (some .int)) (own := RX1) (by decide) rfl rfl (Nat.le_of_ble_eq_true rfl) (fun p e s m args below meth c hC hr hin => ?_)
  refine z_lv0 (lv' := [(0, .ref h0), (1, .int (iI q)), (2, .int (iI i0)), (3, .int (iI n0))]) rfl ?_
  refine z_iload_n hC dX1_pass_0 rfl 1 rfl ?_
  refine z_if_lt (tgt := 29) hC dX1_pass_1 (by decide) (by unfold inR; omega) (fun c_1_1 => ?_) (fun c_1_1 => ?_)
  · refine z_bipush hC dX1_pass_29 (by decide) ?_
    exact z_iret hC hr rfl () trivial (hvi (by unfold cPassR cPassOk; (repeat' split) <;> first | rfl | omega)) (congrArg (wE J h0 h1 h2) (by unfold cPassE cPassOk; (repeat' split) <;> first | rfl | omega)) dX1_pass_31
  · refine z_iload_n hC dX1_pass_4 rfl 1 rfl ?_
    refine z_iconst hC dX1_pass_5 ?_
    refine z_icmp_gt (tgt := 29) hC dX1_pass_6 (by decide) (by unfold inR; omega) ⟨by decide, by decide⟩ (fun c_6_2 => ?_) (fun c_6_2 => ?_)
    · refine z_bipush hC dX1_pass_29 (by decide) ?_
      exact z_iret hC hr rfl () trivial (hvi (by unfold cPassR cPassOk; (repeat' split) <;> first | rfl | omega)) (congrArg (wE J h0 h1 h2) (by unfold cPassE cPassOk; (repeat' split) <;> first | rfl | omega)) dX1_pass_31
    · refine z_iload_n hC dX1_pass_9 rfl 2 rfl ?_
      refine z_if_lt (tgt := 29) hC dX1_pass_10 (by decide) (by unfold inR; omega) (fun c_10_3 => ?_) (fun c_10_3 => ?_)
      · refine z_bipush hC dX1_pass_29 (by decide) ?_
        exact z_iret hC hr rfl () trivial (hvi (by unfold cPassR cPassOk; (repeat' split) <;> first | rfl | omega)) (congrArg (wE J h0 h1 h2) (by unfold cPassE cPassOk; (repeat' split) <;> first | rfl | omega)) dX1_pass_31
      · refine z_iload_n hC dX1_pass_13 rfl 2 rfl ?_
        refine z_iconst hC dX1_pass_14 ?_
        refine z_icmp_gt (tgt := 29) hC dX1_pass_15 (by decide) (by unfold inR; omega) ⟨by decide, by decide⟩ (fun c_15_4 => ?_) (fun c_15_4 => ?_)
        · refine z_bipush hC dX1_pass_29 (by decide) ?_
          exact z_iret hC hr rfl () trivial (hvi (by unfold cPassR cPassOk; (repeat' split) <;> first | rfl | omega)) (congrArg (wE J h0 h1 h2) (by unfold cPassE cPassOk; (repeat' split) <;> first | rfl | omega)) dX1_pass_31
        · refine z_iload_n hC dX1_pass_18 rfl 3 rfl ?_
          refine z_iconst hC dX1_pass_19 ?_
          refine z_icmp_lt (tgt := 29) hC dX1_pass_20 (by decide) (by unfold inR; omega) ⟨by decide, by decide⟩ (fun c_20_5 => ?_) (fun c_20_5 => ?_)
          · refine z_bipush hC dX1_pass_29 (by decide) ?_
            exact z_iret hC hr rfl () trivial (hvi (by unfold cPassR cPassOk; (repeat' split) <;> first | rfl | omega)) (congrArg (wE J h0 h1 h2) (by unfold cPassE cPassOk; (repeat' split) <;> first | rfl | omega)) dX1_pass_31
          · refine z_iload_n hC dX1_pass_23 rfl 3 rfl ?_
            refine z_bipush hC dX1_pass_24 (by decide) ?_
            refine z_icmp_le (tgt := 32) hC dX1_pass_26 (by decide) (by unfold inR; omega) ⟨by decide, by decide⟩ (fun c_26_6 => ?_) (fun c_26_6 => ?_)
            · refine z_iload_n hC dX1_pass_32 rfl 3 rfl ?_
              refine z_ldc hC 99999 kX1_pass_1 dX1_pass_33 (by decide) ?_
              refine z_aload_n hC dX1_pass_35 rfl 0 rfl ?_
              refine z_geti hC zkX1 iX1_pass_X1 0 rfl 2 (by decide) kX1_pass_2 rfl rfl dX1_pass_36 ?_
              refine z_isub hC dX1_pass_39 ?_
              refine z_icmp_le (tgt := 46) hC dX1_pass_40 (by decide) (by unfold inR; omega) (by unfold inR; omega) (fun c_40_7 => ?_) (fun c_40_7 => ?_)
              · refine z_iconst hC dX1_pass_46 ?_
                refine z_istore (lv' := [(4, .int (iI 0)), (0, .ref h0), (1, .int (iI q)), (2, .int (iI i0)), (3, .int (iI n0))]) hC dX1_pass_47 (by decide) rfl ?_
                refine z_iconst hC dX1_pass_49 ?_
                refine z_istore (lv' := [(5, .int (iI 0)), (4, .int (iI 0)), (0, .ref h0), (1, .int (iI q)), (2, .int (iI i0)), (3, .int (iI n0))]) hC dX1_pass_50 (by decide) rfl ?_
                refine z_lv (lv' := [(5, .int (iI 0)), (4, .int (iI 0)), (3, .int (iI n0)), (2, .int (iI i0)), (1, .int (iI q)), (0, .ref h0)]) [0, 1, 5, 4, 3, 2] rfl ?_
                refine z_loop (α := Nat) (fun nn i => (i : Int) + (nn : Int) = n0) (fun nn i => wE J h0 h1 h2 (cTicks E q i0 i)) (fun nn i => [(5, .int (iI (i : Int))), (4, .int (iI (cSteps E q i0 i))), (3, .int (iI n0)), (2, .int (iI i0)), (1, .int (iI q)), (0, .ref h0)]) 52 [] (fun nn i ih_8 hP_9 => ?_) (fun i hP_9 => ?_) n0.toNat 0 (by show ((0 : Nat) : Int) + _ = _; omega)
                · change Z _ _ _ _ _ _ _ _ _ _ _ _ _ _ _ _ (wE J h0 h1 h2 (cTicks E q i0 i)) ([(5, .int (iI (i : Int))), (4, .int (iI (cSteps E q i0 i))), (3, .int (iI n0)), (2, .int (iI i0)), (1, .int (iI q)), (0, .ref h0)]) 52 ([])
                  have hk := ticks_inv hI ⟨by omega, by omega⟩ ⟨by omega, by omega⟩ (p := q) (i := i0) i (by omega)
                  have hd := cDeed_in (cTicks E q i0 i).1 (cTicks E q i0 i).2.1 q
                  refine z_iload hC dX1_pass_52 0 rfl ?_
                  refine z_iload_n hC dX1_pass_54 rfl 2 rfl ?_
                  refine z_icmp_ge_f (tgt := 87) hC dX1_pass_55 (by decide) (by unfold inR; omega) (by unfold inR; omega) (by omega) ?_
                  refine z_aload_n hC dX1_pass_58 rfl 5 rfl ?_
                  refine z_iload_n hC dX1_pass_59 rfl 4 rfl ?_
                  refine z_iload_n hC dX1_pass_60 rfl 3 rfl ?_
                  refine z_callV (wr := ([] : va_W)) (av := [.int (iI q), .int (iI i0)]) (st := []) hC (t_X1_tick l D J h0 h1 h2 (cTicks E q i0 i) q i0 hk.1 ⟨by omega, by omega⟩ ⟨by omega, by omega⟩) gX1_pass_X1_tick rfl 2 (by decide +kernel) ⟨Nat.le_of_ble_eq_true rfl, Nat.le_of_ble_eq_true rfl⟩ ⟨Nat.le_of_ble_eq_true rfl, Nat.le_of_ble_eq_true rfl⟩ [0, 1, 2] [] rfl rfl rfl (by decide) rfl 0 rfl rfl rfl rfl rfl (Nat.le_of_ble_eq_true rfl) dX1_pass_61 (fun _ _ => ?_)
                  refine z_ws (ws' := wE J h0 h1 h2 (cTick (cTicks E q i0 i) q i0)) rfl ?_
                  refine z_st (st' := [.int (iI (cDeed ((cTicks E q i0 i).1) ((cTicks E q i0 i).2.1) q))]) rfl ?_
                  refine z_istore (lv' := [(6, .int (iI (cDeed ((cTicks E q i0 i).1) ((cTicks E q i0 i).2.1) q))), (5, .int (iI (i : Int))), (4, .int (iI (cSteps E q i0 i))), (3, .int (iI n0)), (2, .int (iI i0)), (1, .int (iI q)), (0, .ref h0)]) hC dX1_pass_64 (by decide) rfl ?_
                  refine z_iload hC dX1_pass_66 0 rfl ?_
                  refine z_iconst hC dX1_pass_68 ?_
                  refine z_icmp_eq (tgt := 78) hC dX1_pass_69 (by decide) (by unfold inR; omega) ⟨by decide, by decide⟩ (fun c_69_10 => ?_) (fun c_69_10 => ?_)
                  · refine z_iinc (lv' := [(4, .int (iI ((cSteps E q i0 i) + 1))), (6, .int (iI (cDeed ((cTicks E q i0 i).1) ((cTicks E q i0 i).2.1) q))), (5, .int (iI (i : Int))), (3, .int (iI n0)), (2, .int (iI i0)), (1, .int (iI q)), (0, .ref h0)]) hC dX1_pass_78 2 rfl (by decide) rfl ?_
                    refine z_iinc (lv' := [(5, .int (iI ((i : Int) + 1))), (4, .int (iI ((cSteps E q i0 i) + 1))), (6, .int (iI (cDeed ((cTicks E q i0 i).1) ((cTicks E q i0 i).2.1) q))), (3, .int (iI n0)), (2, .int (iI i0)), (1, .int (iI q)), (0, .ref h0)]) hC dX1_pass_81 2 rfl (by decide) rfl ?_
                    refine z_goto (tgt := 52) hC dX1_pass_84 (by decide) ?_
                    have e4 : cSteps E q i0 (i + 1) = (cSteps E q i0 i) + 1 := by show (if _ then _ else if _ then _ else _) = _; (repeat' split) <;> first | rfl | omega
                    refine z_lv0 (lv' := [(5, .int (iI ((i : Int) + 1))), (4, .int (iI (cSteps E q i0 (i + 1)))), (6, .int (iI (cDeed ((cTicks E q i0 i).1) ((cTicks E q i0 i).2.1) q))), (3, .int (iI n0)), (2, .int (iI i0)), (1, .int (iI q)), (0, .ref h0)]) (by rw [e4]) ?_
                    refine z_lv (lv' := _) [0, 1, 3, 4, 5, 6] rfl ?_
                    exact ih_8 (i + 1) (by omega)
                  · refine z_iload hC dX1_pass_72 0 rfl ?_
                    refine z_iconst hC dX1_pass_74 ?_
                    refine z_icmp_ne (tgt := 81) hC dX1_pass_75 (by decide) (by unfold inR; omega) ⟨by decide, by decide⟩ (fun c_75_11 => ?_) (fun c_75_11 => ?_)
                    · refine z_iinc (lv' := [(5, .int (iI ((i : Int) + 1))), (6, .int (iI (cDeed ((cTicks E q i0 i).1) ((cTicks E q i0 i).2.1) q))), (4, .int (iI (cSteps E q i0 i))), (3, .int (iI n0)), (2, .int (iI i0)), (1, .int (iI q)), (0, .ref h0)]) hC dX1_pass_81 1 rfl (by decide) rfl ?_
                      refine z_goto (tgt := 52) hC dX1_pass_84 (by decide) ?_
                      have e4 : cSteps E q i0 (i + 1) = cSteps E q i0 i := by show (if _ then _ else if _ then _ else _) = _; (repeat' split) <;> first | rfl | omega
                      refine z_lv0 (lv' := [(5, .int (iI ((i : Int) + 1))), (6, .int (iI (cDeed ((cTicks E q i0 i).1) ((cTicks E q i0 i).2.1) q))), (4, .int (iI (cSteps E q i0 (i + 1)))), (3, .int (iI n0)), (2, .int (iI i0)), (1, .int (iI q)), (0, .ref h0)]) (by rw [e4]) ?_
                      refine z_lv (lv' := _) [0, 2, 3, 4, 5, 6] rfl ?_
                      exact ih_8 (i + 1) (by omega)
                    · refine z_iinc (lv' := [(4, .int (iI ((cSteps E q i0 i) + 1))), (6, .int (iI (cDeed ((cTicks E q i0 i).1) ((cTicks E q i0 i).2.1) q))), (5, .int (iI (i : Int))), (3, .int (iI n0)), (2, .int (iI i0)), (1, .int (iI q)), (0, .ref h0)]) hC dX1_pass_78 2 rfl (by decide) rfl ?_
                      refine z_iinc (lv' := [(5, .int (iI ((i : Int) + 1))), (4, .int (iI ((cSteps E q i0 i) + 1))), (6, .int (iI (cDeed ((cTicks E q i0 i).1) ((cTicks E q i0 i).2.1) q))), (3, .int (iI n0)), (2, .int (iI i0)), (1, .int (iI q)), (0, .ref h0)]) hC dX1_pass_81 2 rfl (by decide) rfl ?_
                      refine z_goto (tgt := 52) hC dX1_pass_84 (by decide) ?_
                      have e4 : cSteps E q i0 (i + 1) = (cSteps E q i0 i) + 1 := by show (if _ then _ else if _ then _ else _) = _; (repeat' split) <;> first | rfl | omega
                      refine z_lv0 (lv' := [(5, .int (iI ((i : Int) + 1))), (4, .int (iI (cSteps E q i0 (i + 1)))), (6, .int (iI (cDeed ((cTicks E q i0 i).1) ((cTicks E q i0 i).2.1) q))), (3, .int (iI n0)), (2, .int (iI i0)), (1, .int (iI q)), (0, .ref h0)]) (by rw [e4]) ?_
                      refine z_lv (lv' := _) [0, 1, 3, 4, 5, 6] rfl ?_
                      exact ih_8 (i + 1) (by omega)
                · change Z _ _ _ _ _ _ _ _ _ _ _ _ _ _ _ _ (wE J h0 h1 h2 (cTicks E q i0 i)) ([(5, .int (iI (i : Int))), (4, .int (iI (cSteps E q i0 i))), (3, .int (iI n0)), (2, .int (iI i0)), (1, .int (iI q)), (0, .ref h0)]) 52 ([])
                  have hin : i = n0.toNat := by omega
                  refine z_iload hC dX1_pass_52 0 rfl ?_
                  refine z_iload_n hC dX1_pass_54 rfl 2 rfl ?_
                  refine z_icmp_ge_t (tgt := 87) hC dX1_pass_55 (by decide) (by unfold inR; omega) (by unfold inR; omega) (by omega) ?_
                  refine z_iload hC dX1_pass_87 1 rfl ?_
                  exact z_iret hC hr rfl () trivial (hvi (by subst hin; unfold cPassR cPassOk; (repeat' split) <;> first | rfl | omega)) (congrArg (wE J h0 h1 h2) (by subst hin; unfold cPassE cPassOk; (repeat' split) <;> first | rfl | omega)) dX1_pass_89
              · refine z_bipush hC dX1_pass_43 (by decide) ?_
                exact z_iret hC hr rfl () trivial (hvi (by unfold cPassR cPassOk; (repeat' split) <;> first | rfl | omega)) (congrArg (wE J h0 h1 h2) (by unfold cPassE cPassOk; (repeat' split) <;> first | rfl | omega)) dX1_pass_45
            · refine z_bipush hC dX1_pass_29 (by decide) ?_
              exact z_iret hC hr rfl () trivial (hvi (by unfold cPassR cPassOk; (repeat' split) <;> first | rfl | omega)) (congrArg (wE J h0 h1 h2) (by unfold cPassE cPassOk; (repeat' split) <;> first | rfl | omega)) dX1_pass_31
theorem kX1_revolve_1 : Cond.methodLink RX1 98 Lib.Math.abs.name ∈ wsX1_revolve := List.mem_of_getElem? (i := 1) rfl
theorem kX1_revolve_2 : Cond.static Lib.Math.abs.name ∈ wsX1_revolve := List.mem_of_getElem? (i := 2) rfl
theorem kX1_revolve_3 : Cond.initialized "java/lang/Math" ∈ wsX1_revolve := List.mem_of_getElem? (i := 3) rfl
theorem kX1_revolve_4 : Cond.code Lib.Math.abs.name Lib.Math.abs.code 1 (some .int) ∈ wsX1_revolve := List.mem_of_getElem? (i := 4) rfl
theorem kX1_revolve_5 : Cond.constant RX1 97 (99999) ∈ wsX1_revolve := List.mem_of_getElem? (i := 5) rfl
set_option maxRecDepth 20000 in
theorem iX1_revolve_X1 : ∀ w ∈ u_ws RX1 TX1 16, w ∈ wsX1_revolve := zm_places _ [56, 57, 58, 59, 60, 61, 62, 63, 64, 65, 66, 67, 68, 69, 70, 71] (by decide +kernel)
theorem kX1_revolve_6 : Cond.fieldLink RX1 27 "StepPairs$Encoder" "ticks" "I" ∈ wsX1_revolve := List.mem_of_getElem? (i := 6) rfl
theorem kX1_revolve_7 : Cond.fieldLink RX1 37 "StepPairs$Encoder" "seen" "I" ∈ wsX1_revolve := List.mem_of_getElem? (i := 7) rfl
theorem kX1_revolve_8 : Cond.fieldLink RX1 31 "StepPairs$Encoder" "count" "I" ∈ wsX1_revolve := List.mem_of_getElem? (i := 8) rfl
abbrev rmX1_revolve : Room := { frames := 3, cells := 0, slots := 0, locals := 68 }
set_option maxHeartbeats 4000000 in
set_option maxRecDepth 100000 in
theorem t_X1_revolve (l : Launch) (D : va_G) (J : Nat → ClassId) (h0 h1 h2 : Nat) (E : Enc) (x : Int) (hx : inR x) (hI : InvE E) : ZX l yX1_revolve wsX1_revolve rmX1_revolve D J [.ref h0, .int (iI x)] (wE J h0 h1 h2 E) (some (.int (iI (cRevR E x)))) (wE J h0 h1 h2 (cRevE E x)) := by
  obtain ⟨hE2, hE3, hE4, hE5, hE6, hE7, hE8, hE9, hE10, hE13, hE14, hE15, hs0, hs1, hs2, hs3, hs4, hg⟩ := id hI
  unfold inR at hx
  refine z_met (cc := cX1_revolve) (nL := 8) (ret := (some .int)) (own := RX1) (by decide) rfl rfl (Nat.le_of_ble_eq_true rfl) (fun p e s m args below meth c hC hr hin => ?_)
  refine z_lv0 (lv' := [(0, .ref h0), (1, .int (iI x))]) rfl ?_
  refine z_iload_n hC dX1_revolve_0 rfl 1 rfl ?_
  refine z_if_eq (tgt := 16) hC dX1_revolve_1 (by decide) (by unfold inR; omega) (fun c_1_1 => ?_) (fun c_1_1 => ?_)
  · refine z_bipush hC dX1_revolve_16 (by decide) ?_
    exact z_iret hC hr rfl () trivial (hvi (by have hok : cRevOk E x = -2 := (by unfold cRevOk; (repeat' split) <;> first | rfl | omega); simp only [cRevR, cRevE, hok]; rfl)) (congrArg (wE J h0 h1 h2) (by have hok : cRevOk E x = -2 := (by unfold cRevOk; (repeat' split) <;> first | rfl | omega); simp only [cRevR, cRevE, hok]; rfl)) dX1_revolve_18
  · refine z_iload_n hC dX1_revolve_4 rfl 1 rfl ?_
    refine z_bipush hC dX1_revolve_5 (by decide) ?_
    refine z_icmp_lt (tgt := 16) hC dX1_revolve_7 (by decide) (by unfold inR; omega) ⟨by decide, by decide⟩ (fun c_7_2 => ?_) (fun c_7_2 => ?_)
    · refine z_bipush hC dX1_revolve_16 (by decide) ?_
      exact z_iret hC hr rfl () trivial (hvi (by have hok : cRevOk E x = -2 := (by unfold cRevOk; (repeat' split) <;> first | rfl | omega); simp only [cRevR, cRevE, hok]; rfl)) (congrArg (wE J h0 h1 h2) (by have hok : cRevOk E x = -2 := (by unfold cRevOk; (repeat' split) <;> first | rfl | omega); simp only [cRevR, cRevE, hok]; rfl)) dX1_revolve_18
    · refine z_iload_n hC dX1_revolve_10 rfl 1 rfl ?_
      refine z_bipush hC dX1_revolve_11 (by decide) ?_
      refine z_icmp_le (tgt := 19) hC dX1_revolve_13 (by decide) (by unfold inR; omega) ⟨by decide, by decide⟩ (fun c_13_3 => ?_) (fun c_13_3 => ?_)
      · refine z_iload_n hC dX1_revolve_19 rfl 1 rfl ?_
        refine z_abs hC kX1_revolve_1 kX1_revolve_2 kX1_revolve_3 kX1_revolve_4 (Nat.le_of_ble_eq_true rfl) (Nat.le_of_ble_eq_true rfl) ⟨Nat.le_of_ble_eq_true rfl, Nat.le_of_ble_eq_true rfl⟩ (by unfold inR; omega) dX1_revolve_20 ?_
        refine z_int (y := iI (absZ x)) hC rfl ?_
        have hab : 1 ≤ absZ x ∧ absZ x ≤ 99 := by unfold absZ; split <;> omega
        generalize hn : absZ x = n at hab
        have hml := mul_in (a := n) (b := E.2.1 2) ⟨by omega, by omega⟩ ⟨by omega, by omega⟩
        refine z_istore_n (lv' := [(2, .int (iI n)), (0, .ref h0), (1, .int (iI x))]) hC dX1_revolve_23 rfl (by decide) rfl ?_
        refine z_aload_n hC dX1_revolve_24 rfl 1 rfl ?_
        refine z_iconst hC dX1_revolve_25 ?_
        refine z_callV (wr := ([] : va_W)) (av := [.int (iI 2)]) (st := []) hC (t_X1_setting l D J h0 h1 h2 E 2 (by decide)) gX1_revolve_X1_setting rfl 1 (by decide +kernel) ⟨Nat.le_of_ble_eq_true rfl, Nat.le_of_ble_eq_true rfl⟩ ⟨Nat.le_of_ble_eq_true rfl, Nat.le_of_ble_eq_true rfl⟩ [0, 1, 2] [] rfl rfl rfl (by decide) rfl 0 rfl rfl rfl rfl rfl (Nat.le_of_ble_eq_true rfl) dX1_revolve_26 (fun _ _ => ?_)
        refine z_ws (ws' := wE J h0 h1 h2 E) rfl ?_
        refine z_st (st' := [.int (iI (E.2.1 2))]) rfl ?_
        refine z_istore_n (lv' := [(3, .int (iI (E.2.1 2))), (2, .int (iI n)), (0, .ref h0), (1, .int (iI x))]) hC dX1_revolve_29 rfl (by decide) rfl ?_
        refine z_iload_n hC dX1_revolve_30 rfl 1 rfl ?_
        refine z_iload_n hC dX1_revolve_31 rfl 0 rfl ?_
        refine z_imul hC dX1_revolve_32 ?_
        refine z_ldc hC 99999 kX1_revolve_5 dX1_revolve_33 (by decide) ?_
        refine z_aload_n hC dX1_revolve_35 rfl 2 rfl ?_
        refine z_geti hC zkX1 iX1_revolve_X1 0 rfl 2 (by decide) kX1_revolve_6 rfl rfl dX1_revolve_36 ?_
        refine z_isub hC dX1_revolve_39 ?_
        refine z_icmp_le (tgt := 46) hC dX1_revolve_40 (by decide) (by unfold inR; omega) (by unfold inR; omega) (fun c_40_4 => ?_) (fun c_40_4 => ?_)
        · refine z_join (α := Int) (fun w => w = if 0 < x then 1 else -1) (fun w => wE J h0 h1 h2 E) (fun w => [(3, .int (iI (E.2.1 2))), (2, .int (iI n)), (0, .ref h0), (1, .int (iI x))]) 55 (fun w => [.int (iI w)]) (fun w hw => ?_) (fun K_5 => ?_)
          · change Z _ _ _ _ _ _ _ _ _ _ _ _ _ _ _ _ (wE J h0 h1 h2 E) ([(3, .int (iI (E.2.1 2))), (2, .int (iI n)), (0, .ref h0), (1, .int (iI x))]) 55 ([.int (iI w)])
            have hw01 : w = 1 ∨ w = -1 := by rw [hw]; split <;> omega
            have c_big : n * E.2.1 2 ≤ 99999 - E.1 2 := by omega
            refine z_istore (lv' := [(4, .int (iI w)), (3, .int (iI (E.2.1 2))), (2, .int (iI n)), (0, .ref h0), (1, .int (iI x))]) hC dX1_revolve_55 (by decide) rfl ?_
            refine z_iconst hC dX1_revolve_57 ?_
            refine z_istore (lv' := [(5, .int (iI 0)), (4, .int (iI w)), (3, .int (iI (E.2.1 2))), (2, .int (iI n)), (0, .ref h0), (1, .int (iI x))]) hC dX1_revolve_58 (by decide) rfl ?_
            refine z_lv (lv' := [(5, .int (iI 0)), (4, .int (iI w)), (3, .int (iI (E.2.1 2))), (2, .int (iI n)), (1, .int (iI x)), (0, .ref h0)]) [0, 1, 2, 3, 5, 4] rfl ?_
            refine z_loop (α := Nat) (fun nn k => (k : Int) + (nn : Int) = n) (fun nn k => wE J h0 h1 h2 (cTurns (Int.toNat (E.2.1 2)) w E k)) (fun nn k => [(5, .int (iI (k : Int))), (4, .int (iI w)), (3, .int (iI (E.2.1 2))), (2, .int (iI n)), (1, .int (iI x)), (0, .ref h0)]) 60 [] (fun nn k ih_6 hP_7 => ?_) (fun k hP_7 => ?_) n.toNat 0 (by show ((0 : Nat) : Int) + _ = _; omega)
            · change Z _ _ _ _ _ _ _ _ _ _ _ _ _ _ _ _ (wE J h0 h1 h2 (cTurns (Int.toNat (E.2.1 2)) w E k)) ([(5, .int (iI (k : Int))), (4, .int (iI w)), (3, .int (iI (E.2.1 2))), (2, .int (iI n)), (1, .int (iI x)), (0, .ref h0)]) 60 ([])
              have hkn := turn_room (k := k) (n := n) (F := E.2.1 2) (B := 99999 - E.1 2) (by omega) (by omega) c_big
              have hF : ((Int.toNat (E.2.1 2) : Nat) : Int) = E.2.1 2 := by omega
              have ht := turns_inv (w := w) (F := Int.toNat (E.2.1 2)) hI k (by rw [hF]; omega)
              rw [hF] at ht
              have hse := ht.1.2.2.2.1
              refine z_iload hC dX1_revolve_60 0 rfl ?_
              refine z_iload_n hC dX1_revolve_62 rfl 3 rfl ?_
              refine z_icmp_ge_f (tgt := 110) hC dX1_revolve_63 (by decide) (by unfold inR; omega) (by unfold inR; omega) (by omega) ?_
              refine z_aload_n hC dX1_revolve_66 rfl 5 rfl ?_
              refine z_geti hC zkX1 iX1_revolve_X1 0 rfl 5 (by decide) kX1_revolve_7 rfl rfl dX1_revolve_67 ?_
              refine z_callS (wr := wE J h0 h1 h2 (cTurns (Int.toNat (E.2.1 2)) w E k)) (av := [.int (iI (((cTurns (Int.toNat (E.2.1 2)) w E k).1) 5))]) (st := []) hC (t_X1_orderOf l D J (((cTurns (Int.toNat (E.2.1 2)) w E k).1) 5) hse) gX1_revolve_X1_orderOf rfl 1 (by decide +kernel) ⟨Nat.le_of_ble_eq_true rfl, Nat.le_of_ble_eq_true rfl⟩ ⟨Nat.le_of_ble_eq_true rfl, Nat.le_of_ble_eq_true rfl⟩ [] [0, 1, 2] rfl rfl rfl (by decide) rfl rfl rfl (Nat.le_of_ble_eq_true rfl) dX1_revolve_70 (fun _ _ => ?_)
              refine z_ws (ws' := wE J h0 h1 h2 (cTurns (Int.toNat (E.2.1 2)) w E k)) rfl ?_
              refine z_st (st' := [.int (iI (ordP (((cTurns (Int.toNat (E.2.1 2)) w E k).1) 5)))]) rfl ?_
              refine z_iload hC dX1_revolve_73 1 rfl ?_
              refine z_iadd hC dX1_revolve_75 ?_
              refine z_callS (wr := wE J h0 h1 h2 (cTurns (Int.toNat (E.2.1 2)) w E k)) (av := [.int (iI ((ordP (((cTurns (Int.toNat (E.2.1 2)) w E k).1) 5)) + w))]) (st := []) hC (t_X1_pairAlong l D J ((ordP (((cTurns (Int.toNat (E.2.1 2)) w E k).1) 5)) + w) ) gX1_revolve_X1_pairAlong rfl 1 (by decide +kernel) ⟨Nat.le_of_ble_eq_true rfl, Nat.le_of_ble_eq_true rfl⟩ ⟨Nat.le_of_ble_eq_true rfl, Nat.le_of_ble_eq_true rfl⟩ [] [0, 1, 2] rfl rfl rfl (by decide) rfl rfl rfl (Nat.le_of_ble_eq_true rfl) dX1_revolve_76 (fun _ _ => ?_)
              refine z_ws (ws' := wE J h0 h1 h2 (cTurns (Int.toNat (E.2.1 2)) w E k)) rfl ?_
              refine z_st (st' := [.int (iI (ordP (((ordP (((cTurns (Int.toNat (E.2.1 2)) w E k).1) 5)) + w) % 4)))]) rfl ?_
              refine z_st (st' := [.int (iI (cPair (cTurns (Int.toNat (E.2.1 2)) w E k) w))]) rfl ?_
              have hpr03 := pair_in (E := cTurns (Int.toNat (E.2.1 2)) w E k) w
              generalize hpr : cPair (cTurns (Int.toNat (E.2.1 2)) w E k) w = pr at hpr03 ⊢
              refine z_istore (lv' := [(6, .int (iI pr)), (5, .int (iI (k : Int))), (4, .int (iI w)), (3, .int (iI (E.2.1 2))), (2, .int (iI n)), (1, .int (iI x)), (0, .ref h0)]) hC dX1_revolve_79 (by decide) rfl ?_
              refine z_iconst hC dX1_revolve_81 ?_
              refine z_istore (lv' := [(7, .int (iI 0)), (6, .int (iI pr)), (5, .int (iI (k : Int))), (4, .int (iI w)), (3, .int (iI (E.2.1 2))), (2, .int (iI n)), (1, .int (iI x)), (0, .ref h0)]) hC dX1_revolve_82 (by decide) rfl ?_
              refine z_lv (lv' := [(7, .int (iI 0)), (6, .int (iI pr)), (5, .int (iI (k : Int))), (4, .int (iI w)), (3, .int (iI (E.2.1 2))), (2, .int (iI n)), (1, .int (iI x)), (0, .ref h0)]) [0, 1, 2, 3, 4, 5, 6, 7] rfl ?_
              refine z_loop (α := Nat) (fun nn j => (j : Int) + (nn : Int) = E.2.1 2) (fun nn j => wE J h0 h1 h2 (cTicks (cTurns (Int.toNat (E.2.1 2)) w E k) pr 0 j)) (fun nn j => [(7, .int (iI (j : Int))), (6, .int (iI pr)), (5, .int (iI (k : Int))), (4, .int (iI w)), (3, .int (iI (E.2.1 2))), (2, .int (iI n)), (1, .int (iI x)), (0, .ref h0)]) 84 [] (fun nn j ih_8 hP_9 => ?_) (fun j hP_9 => ?_) (Int.toNat (E.2.1 2)) 0 (by show ((0 : Nat) : Int) + _ = _; omega)
              · change Z _ _ _ _ _ _ _ _ _ _ _ _ _ _ _ _ (wE J h0 h1 h2 (cTicks (cTurns (Int.toNat (E.2.1 2)) w E k) pr 0 j)) ([(7, .int (iI (j : Int))), (6, .int (iI pr)), (5, .int (iI (k : Int))), (4, .int (iI w)), (3, .int (iI (E.2.1 2))), (2, .int (iI n)), (1, .int (iI x)), (0, .ref h0)]) 84 ([])
                have hj := ticks_inv ht.1 hpr03 (i := 0) ⟨by omega, by omega⟩ j (by rw [ht.2.1]; omega)
                refine z_iload hC dX1_revolve_84 0 rfl ?_
                refine z_iload_n hC dX1_revolve_86 rfl 4 rfl ?_
                refine z_icmp_ge_f (tgt := 104) hC dX1_revolve_87 (by decide) (by unfold inR; omega) (by unfold inR; omega) (by omega) ?_
                refine z_aload_n hC dX1_revolve_90 rfl 7 rfl ?_
                refine z_iload hC dX1_revolve_91 1 rfl ?_
                refine z_iconst hC dX1_revolve_93 ?_
                refine z_callV (wr := ([] : va_W)) (av := [.int (iI pr), .int (iI 0)]) (st := []) hC (t_X1_tick l D J h0 h1 h2 (cTicks (cTurns (Int.toNat (E.2.1 2)) w E k) pr 0 j) pr 0 hj.1 hpr03 ⟨by omega, by omega⟩) gX1_revolve_X1_tick rfl 2 (by decide +kernel) ⟨Nat.le_of_ble_eq_true rfl, Nat.le_of_ble_eq_true rfl⟩ ⟨Nat.le_of_ble_eq_true rfl, Nat.le_of_ble_eq_true rfl⟩ [0, 1, 2] [] rfl rfl rfl (by decide) rfl 0 rfl rfl rfl rfl rfl (Nat.le_of_ble_eq_true rfl) dX1_revolve_94 (fun _ _ => ?_)
                refine z_ws (ws' := wE J h0 h1 h2 (cTick (cTicks (cTurns (Int.toNat (E.2.1 2)) w E k) pr 0 j) pr 0)) rfl ?_
                refine z_st (st' := [.int (iI (cDeed ((cTicks (cTurns (Int.toNat (E.2.1 2)) w E k) pr 0 j).1) ((cTicks (cTurns (Int.toNat (E.2.1 2)) w E k) pr 0 j).2.1) pr))]) rfl ?_
                refine z_pop hC dX1_revolve_97 rfl ?_
                refine z_iinc (lv' := [(7, .int (iI ((j : Int) + 1))), (6, .int (iI pr)), (5, .int (iI (k : Int))), (4, .int (iI w)), (3, .int (iI (E.2.1 2))), (2, .int (iI n)), (1, .int (iI x)), (0, .ref h0)]) hC dX1_revolve_98 0 rfl (by decide) rfl ?_
                refine z_goto (tgt := 84) hC dX1_revolve_101 (by decide) ?_
                refine z_lv (lv' := _) [0, 1, 2, 3, 4, 5, 6, 7] rfl ?_
                exact ih_8 (j + 1) (by omega)
              · change Z _ _ _ _ _ _ _ _ _ _ _ _ _ _ _ _ (wE J h0 h1 h2 (cTicks (cTurns (Int.toNat (E.2.1 2)) w E k) pr 0 j)) ([(7, .int (iI (j : Int))), (6, .int (iI pr)), (5, .int (iI (k : Int))), (4, .int (iI w)), (3, .int (iI (E.2.1 2))), (2, .int (iI n)), (1, .int (iI x)), (0, .ref h0)]) 84 ([])
                refine z_iload hC dX1_revolve_84 0 rfl ?_
                refine z_iload_n hC dX1_revolve_86 rfl 4 rfl ?_
                refine z_icmp_ge_t (tgt := 104) hC dX1_revolve_87 (by decide) (by unfold inR; omega) (by unfold inR; omega) (by omega) ?_
                have hjF : j = Int.toNat (E.2.1 2) := by omega
                refine z_lv (lv' := [(5, .int (iI (k : Int))), (4, .int (iI w)), (3, .int (iI (E.2.1 2))), (2, .int (iI n)), (1, .int (iI x)), (0, .ref h0)]) [2, 3, 4, 5, 6, 7] rfl ?_
                subst hpr
                subst hjF
                refine z_ws (ws' := wE J h0 h1 h2 (cTurns (Int.toNat (E.2.1 2)) w E (k + 1))) rfl ?_
                refine z_iinc (lv' := [(5, .int (iI ((k : Int) + 1))), (4, .int (iI w)), (3, .int (iI (E.2.1 2))), (2, .int (iI n)), (1, .int (iI x)), (0, .ref h0)]) hC dX1_revolve_104 0 rfl (by decide) rfl ?_
                refine z_goto (tgt := 60) hC dX1_revolve_107 (by decide) ?_
                refine z_lv (lv' := _) [0, 1, 2, 3, 4, 5] rfl ?_
                exact ih_6 (k + 1) (by omega)
            · change Z _ _ _ _ _ _ _ _ _ _ _ _ _ _ _ _ (wE J h0 h1 h2 (cTurns (Int.toNat (E.2.1 2)) w E k)) ([(5, .int (iI (k : Int))), (4, .int (iI w)), (3, .int (iI (E.2.1 2))), (2, .int (iI n)), (1, .int (iI x)), (0, .ref h0)]) 60 ([])
              have hin : k = n.toNat := by omega
              refine z_iload hC dX1_revolve_60 0 rfl ?_
              refine z_iload_n hC dX1_revolve_62 rfl 3 rfl ?_
              refine z_icmp_ge_t (tgt := 110) hC dX1_revolve_63 (by decide) (by unfold inR; omega) (by unfold inR; omega) (by omega) ?_
              refine z_aload_n hC dX1_revolve_110 rfl 5 rfl ?_
              refine z_geti hC zkX1 iX1_revolve_X1 0 rfl 3 (by decide) kX1_revolve_8 rfl rfl dX1_revolve_111 ?_
              exact z_iret hC hr rfl () trivial (hvi (by subst hin hw hn; have hok : cRevOk E x = 0 := (by unfold cRevOk; (repeat' split) <;> omega); simp only [cRevR, cRevE, hok, if_true])) (congrArg (wE J h0 h1 h2) (by subst hin hw hn; have hok : cRevOk E x = 0 := (by unfold cRevOk; (repeat' split) <;> omega); simp only [cRevR, cRevE, hok, if_true])) dX1_revolve_114
          · skip
            refine z_iload_n hC dX1_revolve_46 rfl 3 rfl ?_
            refine z_if_le (tgt := 54) hC dX1_revolve_47 (by decide) (by unfold inR; omega) (fun c_47_10 => ?_) (fun c_47_10 => ?_)
            · refine z_iconst hC dX1_revolve_54 ?_
              refine z_lv (lv' := _) [0, 1, 2, 3] rfl ?_
              exact K_5 (-1) (by split <;> omega)
            · refine z_iconst hC dX1_revolve_50 ?_
              refine z_goto (tgt := 55) hC dX1_revolve_51 (by decide) ?_
              refine z_lv (lv' := _) [0, 1, 2, 3] rfl ?_
              exact K_5 1 (by split <;> omega)
        · refine z_bipush hC dX1_revolve_43 (by decide) ?_
          exact z_iret hC hr rfl () trivial (hvi (by subst hn; have hok : cRevOk E x = -5 := (by unfold cRevOk; (repeat' split) <;> first | rfl | omega); simp only [cRevR, cRevE, hok]; rfl)) (congrArg (wE J h0 h1 h2) (by subst hn; have hok : cRevOk E x = -5 := (by unfold cRevOk; (repeat' split) <;> first | rfl | omega); simp only [cRevR, cRevE, hok]; rfl)) dX1_revolve_45
      · refine z_bipush hC dX1_revolve_16 (by decide) ?_
        exact z_iret hC hr rfl () trivial (hvi (by have hok : cRevOk E x = -2 := (by unfold cRevOk; (repeat' split) <;> first | rfl | omega); simp only [cRevR, cRevE, hok]; rfl)) (congrArg (wE J h0 h1 h2) (by have hok : cRevOk E x = -2 := (by unfold cRevOk; (repeat' split) <;> first | rfl | omega); simp only [cRevR, cRevE, hok]; rfl)) dX1_revolve_18
