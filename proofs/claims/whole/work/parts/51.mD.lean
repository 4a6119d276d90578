theorem kX6_isSetting_1 : Cond.constantLong RX6 52 (4) ∈ wsX6_isSetting := List.mem_of_getElem? (i := 1) rfl
theorem kX6_isSetting_2 : Cond.constantLong RX6 54 (400) ∈ wsX6_isSetting := List.mem_of_getElem? (i := 2) rfl
theorem kX6_isSetting_3 : Cond.constantLong RX6 60 (10) ∈ wsX6_isSetting := List.mem_of_getElem? (i := 3) rfl
theorem kX6_isSetting_4 : Cond.constantLong RX6 62 (9999) ∈ wsX6_isSetting := List.mem_of_getElem? (i := 4) rfl
theorem kX6_isSetting_5 : Cond.constantLong RX6 64 (9) ∈ wsX6_isSetting := List.mem_of_getElem? (i := 5) rfl
theorem kX6_isSetting_6 : Cond.constantLong RX6 66 (99) ∈ wsX6_isSetting := List.mem_of_getElem? (i := 6) rfl
theorem kX6_isSetting_7 : Cond.constantLong RX6 68 (2) ∈ wsX6_isSetting := List.mem_of_getElem? (i := 7) rfl
abbrev rmX6_isSetting : Room := { frames := 1, cells := 0, slots := 0, locals := 25 }
set_option maxHeartbeats 4000000 in
set_option maxRecDepth 100000 in
theorem t_X6_isSetting (l : Launch) (D : va_G) (J : Nat → ClassId) (x y : Int) (hx : inR x) (hy : inR y) : ZX l yX6_isSetting wsX6_isSetting rmX6_isSetting D J [.int (iI x), .int (iI y)] ([] : va_W) (some (.int (iI (mIsSet x y)))) ([] : va_W) := by
  unfold inR at hx hy
  refine z_met (cc := cX6_isSetting) (nL := 2) (ret := (some .boolean)) (own := RX6) (by decide) rfl rfl (Nat.le_of_ble_eq_true rfl) (fun p e s m args below meth c hC hr hin => ?_)
  refine z_lv0 (lv' := [(0, .int (iI x)), (1, .int (iI y))]) rfl ?_
  refine z_iload_n hC dX6_isSetting_0 rfl 0 rfl ?_
  rcases (show x = 0 ∨ x = 1 ∨ x = 2 ∨ x = 3 ∨ (x < 0 ∨ 3 < x) by omega) with sw1 | sw1 | sw1 | sw1 | sw1
  · refine z_tableIn (tgt := 32) (off := 31) hC dX6_isSetting_1 (by unfold inR; omega) (by omega) (by omega) (by rw [sw1]; rfl) (by decide) ?_
    refine z_iload_n hC dX6_isSetting_32 rfl 1 rfl ?_
    refine z_i2l (v := lI y) hC dX6_isSetting_33 (iI_l (by unfold inR; omega)) ?_
    refine z_ldc2 hC kX6_isSetting_1 dX6_isSetting_34 ?_
    refine z_long (y := lI 4) hC (by decide) ?_
    refine z_ldc2 hC kX6_isSetting_2 dX6_isSetting_37 ?_
    refine z_long (y := lI 400) hC (by decide) ?_
    refine z_callS (wr := ([] : va_W)) (av := [.long (lI y), .long (lI 4), .long (lI 400)]) (st := []) hC (t_X6_in l D J y 4 400 (by unfold inL; omega) (by unfold inL; omega) (by unfold inL; omega)) gX6_isSetting_X6_in rfl 3 (by decide +kernel) ⟨Nat.le_of_ble_eq_true rfl, Nat.le_of_ble_eq_true rfl⟩ ⟨Nat.le_of_ble_eq_true rfl, Nat.le_of_ble_eq_true rfl⟩ [] [] rfl rfl rfl (by decide) rfl rfl rfl (Nat.le_of_ble_eq_true rfl) dX6_isSetting_40 (fun _ _ => ?_)
    refine z_ws (ws' := ([] : va_W)) rfl ?_
    refine z_st (st' := [.int (iI (mIn y 4 400))]) rfl ?_
    have hin_2 := mIn_spec y 4 400
    refine z_if_eq (tgt := 56) hC dX6_isSetting_43 (by decide) (inR_01 (mIn_01 _ _ _)) (fun c_43_3 => ?_) (fun c_43_3 => ?_)
    · refine z_iconst hC dX6_isSetting_56 ?_
      exact z_iret hC hr rfl () trivial (hvi (by unfold mIsSet; (repeat' split) <;> first | rfl | omega)) (by rfl) dX6_isSetting_57
    · refine z_iload_n hC dX6_isSetting_46 rfl 1 rfl ?_
      refine z_iconst hC dX6_isSetting_47 ?_
      refine z_irem hC dX6_isSetting_48 (by omega) (by omega) (by omega) (by omega) ?_
      refine z_if_ne (tgt := 56) hC dX6_isSetting_49 (by decide) (by unfold inR; omega) (fun c_49_4 => ?_) (fun c_49_4 => ?_)
      · refine z_iconst hC dX6_isSetting_56 ?_
        exact z_iret hC hr rfl () trivial (hvi (by unfold mIsSet; (repeat' split) <;> first | rfl | omega)) (by rfl) dX6_isSetting_57
      · refine z_iconst hC dX6_isSetting_52 ?_
        refine z_goto (tgt := 57) hC dX6_isSetting_53 (by decide) ?_
        exact z_iret hC hr rfl () trivial (hvi (by unfold mIsSet; (repeat' split) <;> first | rfl | omega)) (by rfl) dX6_isSetting_57
  · refine z_tableIn (tgt := 58) (off := 57) hC dX6_isSetting_1 (by unfold inR; omega) (by omega) (by omega) (by rw [sw1]; rfl) (by decide) ?_
    refine z_iload_n hC dX6_isSetting_58 rfl 1 rfl ?_
    refine z_i2l (v := lI y) hC dX6_isSetting_59 (iI_l (by unfold inR; omega)) ?_
    refine z_ldc2 hC kX6_isSetting_3 dX6_isSetting_60 ?_
    refine z_long (y := lI 10) hC (by decide) ?_
    refine z_ldc2 hC kX6_isSetting_4 dX6_isSetting_63 ?_
    refine z_long (y := lI 9999) hC (by decide) ?_
    refine z_callS (wr := ([] : va_W)) (av := [.long (lI y), .long (lI 10), .long (lI 9999)]) (st := []) hC (t_X6_in l D J y 10 9999 (by unfold inL; omega) (by unfold inL; omega) (by unfold inL; omega)) gX6_isSetting_X6_in rfl 3 (by decide +kernel) ⟨Nat.le_of_ble_eq_true rfl, Nat.le_of_ble_eq_true rfl⟩ ⟨Nat.le_of_ble_eq_true rfl, Nat.le_of_ble_eq_true rfl⟩ [] [] rfl rfl rfl (by decide) rfl rfl rfl (Nat.le_of_ble_eq_true rfl) dX6_isSetting_66 (fun _ _ => ?_)
    refine z_ws (ws' := ([] : va_W)) rfl ?_
    refine z_st (st' := [.int (iI (mIn y 10 9999))]) rfl ?_
    have hin_5 := mIn_spec y 10 9999
    exact z_iret hC hr (nar_bl (mIn_01 _ _ _)) () trivial (hvi (by unfold mIsSet; (repeat' split) <;> first | rfl | omega)) (by rfl) dX6_isSetting_69
  · refine z_tableIn (tgt := 70) (off := 69) hC dX6_isSetting_1 (by unfold inR; omega) (by omega) (by omega) (by rw [sw1]; rfl) (by decide) ?_
    refine z_iload_n hC dX6_isSetting_70 rfl 1 rfl ?_
    refine z_i2l (v := lI y) hC dX6_isSetting_71 (iI_l (by unfold inR; omega)) ?_
    refine z_lconst (v := lI 1) hC dX6_isSetting_72 (by decide) ?_
    refine z_ldc2 hC kX6_isSetting_5 dX6_isSetting_73 ?_
    refine z_long (y := lI 9) hC (by decide) ?_
    refine z_callS (wr := ([] : va_W)) (av := [.long (lI y), .long (lI 1), .long (lI 9)]) (st := []) hC (t_X6_in l D J y 1 9 (by unfold inL; omega) (by unfold inL; omega) (by unfold inL; omega)) gX6_isSetting_X6_in rfl 3 (by decide +kernel) ⟨Nat.le_of_ble_eq_true rfl, Nat.le_of_ble_eq_true rfl⟩ ⟨Nat.le_of_ble_eq_true rfl, Nat.le_of_ble_eq_true rfl⟩ [] [] rfl rfl rfl (by decide) rfl rfl rfl (Nat.le_of_ble_eq_true rfl) dX6_isSetting_76 (fun _ _ => ?_)
    refine z_ws (ws' := ([] : va_W)) rfl ?_
    refine z_st (st' := [.int (iI (mIn y 1 9))]) rfl ?_
    have hin_6 := mIn_spec y 1 9
    exact z_iret hC hr (nar_bl (mIn_01 _ _ _)) () trivial (hvi (by unfold mIsSet; (repeat' split) <;> first | rfl | omega)) (by rfl) dX6_isSetting_79
  · refine z_tableIn (tgt := 80) (off := 79) hC dX6_isSetting_1 (by unfold inR; omega) (by omega) (by omega) (by rw [sw1]; rfl) (by decide) ?_
    refine z_iload_n hC dX6_isSetting_80 rfl 1 rfl ?_
    refine z_i2l (v := lI y) hC dX6_isSetting_81 (iI_l (by unfold inR; omega)) ?_
    refine z_lconst (v := lI 1) hC dX6_isSetting_82 (by decide) ?_
    refine z_ldc2 hC kX6_isSetting_6 dX6_isSetting_83 ?_
    refine z_long (y := lI 99) hC (by decide) ?_
    refine z_callS (wr := ([] : va_W)) (av := [.long (lI y), .long (lI 1), .long (lI 99)]) (st := []) hC (t_X6_in l D J y 1 99 (by unfold inL; omega) (by unfold inL; omega) (by unfold inL; omega)) gX6_isSetting_X6_in rfl 3 (by decide +kernel) ⟨Nat.le_of_ble_eq_true rfl, Nat.le_of_ble_eq_true rfl⟩ ⟨Nat.le_of_ble_eq_true rfl, Nat.le_of_ble_eq_true rfl⟩ [] [] rfl rfl rfl (by decide) rfl rfl rfl (Nat.le_of_ble_eq_true rfl) dX6_isSetting_86 (fun _ _ => ?_)
    refine z_ws (ws' := ([] : va_W)) rfl ?_
    refine z_st (st' := [.int (iI (mIn y 1 99))]) rfl ?_
    have hin_7 := mIn_spec y 1 99
    exact z_iret hC hr (nar_bl (mIn_01 _ _ _)) () trivial (hvi (by unfold mIsSet; (repeat' split) <;> first | rfl | omega)) (by rfl) dX6_isSetting_89
  · refine z_tableOut (tgt := 90) hC dX6_isSetting_1 (by unfold inR; omega) sw1 (by decide) ?_
    refine z_iload_n hC dX6_isSetting_90 rfl 0 rfl ?_
    refine z_iconst hC dX6_isSetting_91 ?_
    refine z_icmp_ne (tgt := 111) hC dX6_isSetting_92 (by decide) (by unfold inR; omega) ⟨by decide, by decide⟩ (fun c_92_8 => ?_) (fun c_92_8 => ?_)
    · refine z_iconst hC dX6_isSetting_111 ?_
      exact z_iret hC hr rfl () trivial (hvi (by unfold mIsSet; (repeat' split) <;> first | rfl | omega)) (by rfl) dX6_isSetting_112
    · refine z_iload_n hC dX6_isSetting_95 rfl 1 rfl ?_
      refine z_i2l (v := lI y) hC dX6_isSetting_96 (iI_l (by unfold inR; omega)) ?_
      refine z_lconst (v := lI 0) hC dX6_isSetting_97 (by decide) ?_
      refine z_ldc2 hC kX6_isSetting_7 dX6_isSetting_98 ?_
      refine z_long (y := lI 2) hC (by decide) ?_
      refine z_callS (wr := ([] : va_W)) (av := [.long (lI y), .long (lI 0), .long (lI 2)]) (st := []) hC (t_X6_in l D J y 0 2 (by unfold inL; omega) (by unfold inL; omega) (by unfold inL; omega)) gX6_isSetting_X6_in rfl 3 (by decide +kernel) ⟨Nat.le_of_ble_eq_true rfl, Nat.le_of_ble_eq_true rfl⟩ ⟨Nat.le_of_ble_eq_true rfl, Nat.le_of_ble_eq_true rfl⟩ [] [] rfl rfl rfl (by decide) rfl rfl rfl (Nat.le_of_ble_eq_true rfl) dX6_isSetting_101 (fun _ _ => ?_)
      refine z_ws (ws' := ([] : va_W)) rfl ?_
      refine z_st (st' := [.int (iI (mIn y 0 2))]) rfl ?_
      have hin_9 := mIn_spec y 0 2
      refine z_if_eq (tgt := 111) hC dX6_isSetting_104 (by decide) (inR_01 (mIn_01 _ _ _)) (fun c_104_10 => ?_) (fun c_104_10 => ?_)
      · refine z_iconst hC dX6_isSetting_111 ?_
        exact z_iret hC hr rfl () trivial (hvi (by unfold mIsSet; (repeat' split) <;> first | rfl | omega)) (by rfl) dX6_isSetting_112
      · refine z_iconst hC dX6_isSetting_107 ?_
        refine z_goto (tgt := 112) hC dX6_isSetting_108 (by decide) ?_
        exact z_iret hC hr rfl () trivial (hvi (by unfold mIsSet; (repeat' split) <;> first | rfl | omega)) (by rfl) dX6_isSetting_112
set_option maxRecDepth 20000 in
theorem iX6_doSet_X6 : ∀ w ∈ u_ws RX6 TX6 13, w ∈ wsX6_doSet := zm_places _ [16, 17, 18, 19, 20, 21, 22, 23, 24, 25, 26, 27, 28] (by decide +kernel)
theorem kX6_doSet_1 : Cond.fieldLink RX6 7 "StepPairsModel" "all" "[I" ∈ wsX6_doSet := List.mem_of_getElem? (i := 1) rfl
abbrev rmX6_doSet : Room := { frames := 2, cells := 0, slots := 0, locals := 46 }
set_option maxHeartbeats 4000000 in
set_option maxRecDepth 100000 in
theorem t_X6_doSet (l : Launch) (D : va_G) (J : Nat → ClassId) (h : Nat) (a : Nat → Nat) (L pl sp nb dn er : Int) (A K T H S V P : Nat → Int) (x y : Int) (hx : inR x) (hy : inR y) (hI : InvM A) : ZX l yX6_doSet wsX6_doSet rmX6_doSet D J [.ref h, .int (iI x), .int (iI y)] (wM J h a L pl sp nb dn er A K T H S V P) (some (.int (iI (mSetR A x y)))) (wM J h a L pl sp nb dn er (mSetA A x y) K T H S V P) := by
  obtain ⟨m0, m1, m2, m3, m4, m5, m6, m7, m8, m9, m10, m13, m14, m15, m16, m17, m18, m19, m20, mg⟩ := id hI
  refine z_met (cc := cX6_doSet) (nL := 4) (ret := (some .int)) (own := RX6) (by decide) rfl rfl (Nat.le_of_ble_eq_true rfl) (fun p e s m args below meth c hC hr hin => ?_)
  refine z_lv0 (lv' := [(0, .ref h), (1, .int (iI x)), (2, .int (iI y))]) rfl ?_
  refine z_iload_n hC dX6_doSet_0 rfl 1 rfl ?_
  refine z_iload_n hC dX6_doSet_1 rfl 2 rfl ?_
  refine z_callS (wr := wM J h a L pl sp nb dn er A K T H S V P) (av := [.int (iI x), .int (iI y)]) (st := []) hC (t_X6_isSetting l D J x y hx hy) gX6_doSet_X6_isSetting rfl 2 (by decide +kernel) ⟨Nat.le_of_ble_eq_true rfl, Nat.le_of_ble_eq_true rfl⟩ ⟨Nat.le_of_ble_eq_true rfl, Nat.le_of_ble_eq_true rfl⟩ [] [0, 1, 2, 3, 4, 5, 6, 7] rfl rfl rfl (by decide) rfl rfl rfl (Nat.le_of_ble_eq_true rfl) dX6_doSet_2 (fun _ _ => ?_)
  refine z_ws (ws' := wM J h a L pl sp nb dn er A K T H S V P) rfl ?_
  refine z_st (st' := [.int (iI (mIsSet x y))]) rfl ?_
  have his_1 := mIsSet_spec x y
  refine z_if_ne (tgt := 11) hC dX6_doSet_5 (by decide) (by unfold inR; omega) (fun c_5_2 => ?_) (fun c_5_2 => ?_)
  · refine z_aload_n hC dX6_doSet_11 rfl 0 rfl ?_
    refine z_getr hC zkX6 iX6_doSet_X6 0 rfl 0 (by decide) kX6_doSet_1 rfl rfl dX6_doSet_12 ?_
    refine z_iload_n hC dX6_doSet_15 rfl 1 rfl ?_
    refine z_iald hC 1 rfl 0 rfl (Int.toNat x) (Int.toNat_of_nonneg (by omega)).symm (by omega) (by decide) dX6_doSet_16 ?_
    refine z_istore_n (lv' := [(3, .int (iI (A (Int.toNat x)))), (0, .ref h), (1, .int (iI x)), (2, .int (iI y))]) hC dX6_doSet_17 rfl (by decide) rfl ?_
    refine z_aload_n hC dX6_doSet_18 rfl 1 rfl ?_
    refine z_getr hC zkX6 iX6_doSet_X6 0 rfl 0 (by decide) kX6_doSet_1 rfl rfl dX6_doSet_19 ?_
    refine z_iload_n hC dX6_doSet_22 rfl 2 rfl ?_
    refine z_iload_n hC dX6_doSet_23 rfl 3 rfl ?_
    refine z_iast (ws' := wM J h a L pl sp nb dn er (updZ A (Int.toNat x) y) K T H S V P) hC 1 rfl 0 rfl (Int.toNat x) (Int.toNat_of_nonneg (by omega)).symm (by omega) (by decide) dX6_doSet_24 rfl ?_
    refine z_aload_n hC dX6_doSet_25 rfl 1 rfl ?_
    refine z_getr hC zkX6 iX6_doSet_X6 0 rfl 0 (by decide) kX6_doSet_1 rfl rfl dX6_doSet_26 ?_
    refine z_bipush hC dX6_doSet_29 (by decide) ?_
    refine z_dup2 hC dX6_doSet_31 rfl rfl ?_
    refine z_iald hC 1 rfl 0 rfl 7 rfl (by decide) (by decide) dX6_doSet_32 ?_
    refine z_aload_n hC dX6_doSet_33 rfl 1 rfl ?_
    refine z_getr hC zkX6 iX6_doSet_X6 0 rfl 0 (by decide) kX6_doSet_1 rfl rfl dX6_doSet_34 ?_
    refine z_iconst hC dX6_doSet_37 ?_
    refine z_iald hC 1 rfl 0 rfl 0 rfl (by decide) (by decide) dX6_doSet_38 ?_
    obtain ⟨b0, b1, b2, b3, b4, be, bx⟩ := mSetB_in (y := y) hI (by omega)
    have be7 := be 7 (by omega)
    have be6 := be 6 (by omega)
    refine z_irem hC dX6_doSet_39 (by omega) (by omega) (by omega) (by omega) ?_
    refine z_iast (ws' := wM J h a L pl sp nb dn er (updZ (updZ A (Int.toNat x) y) 7 (((updZ A (Int.toNat x) y) 7) % ((updZ A (Int.toNat x) y) 0))) K T H S V P) hC 1 rfl 0 rfl 7 rfl (by decide) (by decide) dX6_doSet_40 rfl ?_
    refine z_aload_n hC dX6_doSet_41 rfl 1 rfl ?_
    refine z_getr hC zkX6 iX6_doSet_X6 0 rfl 0 (by decide) kX6_doSet_1 rfl rfl dX6_doSet_42 ?_
    refine z_bipush hC dX6_doSet_45 (by decide) ?_
    refine z_dup2 hC dX6_doSet_47 rfl rfl ?_
    refine z_iald hC 1 rfl 0 rfl 6 rfl (by decide) (by decide) dX6_doSet_48 ?_
    refine z_int (y := iI ((updZ A (Int.toNat x) y) 6)) hC rfl ?_
    refine z_aload_n hC dX6_doSet_49 rfl 1 rfl ?_
    refine z_getr hC zkX6 iX6_doSet_X6 0 rfl 0 (by decide) kX6_doSet_1 rfl rfl dX6_doSet_50 ?_
    refine z_iconst hC dX6_doSet_53 ?_
    refine z_iald hC 1 rfl 0 rfl 1 rfl (by decide) (by decide) dX6_doSet_54 ?_
    refine z_int (y := iI ((updZ A (Int.toNat x) y) 1)) hC rfl ?_
    refine z_irem hC dX6_doSet_55 (by omega) (by omega) (by omega) (by omega) ?_
    refine z_iast (ws' := wM J h a L pl sp nb dn er (updZ (updZ (updZ A (Int.toNat x) y) 7 (((updZ A (Int.toNat x) y) 7) % ((updZ A (Int.toNat x) y) 0))) 6 (((updZ A (Int.toNat x) y) 6) % ((updZ A (Int.toNat x) y) 1))) K T H S V P) hC 1 rfl 0 rfl 6 rfl (by decide) (by decide) dX6_doSet_56 rfl ?_
    refine z_iload_n hC dX6_doSet_57 rfl 0 rfl ?_
    exact z_iret hC hr rfl () trivial (hvi (by unfold mSetR; first | rw [if_pos (by omega)] | rw [if_neg (by omega)])) (congrArg (fun z => wM J h a L pl sp nb dn er z K T H S V P) (by unfold mSetA; first | rw [if_pos (by omega)] | rw [if_neg (by omega)])) dX6_doSet_58
  · refine z_bipush hC dX6_doSet_8 (by decide) ?_
    exact z_iret hC hr rfl () trivial (hvi (by unfold mSetR; first | rw [if_pos (by omega)] | rw [if_neg (by omega)])) (congrArg (fun z => wM J h a L pl sp nb dn er z K T H S V P) (by unfold mSetA; first | rw [if_pos (by omega)] | rw [if_neg (by omega)])) dX6_doSet_10
theorem kX6_doFeed_1 : Cond.constantLong RX6 74 (3) ∈ wsX6_doFeed := List.mem_of_getElem? (i := 1) rfl
theorem kX6_doFeed_2 : Cond.constantLong RX6 66 (99) ∈ wsX6_doFeed := List.mem_of_getElem? (i := 2) rfl
set_option maxRecDepth 20000 in
theorem iX6_doFeed_X6 : ∀ w ∈ u_ws RX6 TX6 13, w ∈ wsX6_doFeed := zm_places _ [28, 29, 30, 31, 32, 33, 34, 35, 36, 37, 38, 39, 40] (by decide +kernel)
theorem kX6_doFeed_3 : Cond.fieldLink RX6 7 "StepPairsModel" "all" "[I" ∈ wsX6_doFeed := List.mem_of_getElem? (i := 3) rfl
theorem kX6_doFeed_4 : Cond.constant RX6 76 (99999) ∈ wsX6_doFeed := List.mem_of_getElem? (i := 4) rfl
abbrev rmX6_doFeed : Room := { frames := 3, cells := 0, slots := 0, locals := 67 }
set_option maxHeartbeats 4000000 in
set_option maxRecDepth 100000 in
theorem t_X6_doFeed (l : Launch) (D : va_G) (J : Nat → ClassId) (h : Nat) (a : Nat → Nat) (L pl sp nb dn er : Int) (A K T H S V P : Nat → Int) (q i n : Int) (hq : inR q) (hi : inR i) (hn : inR n) (hI : InvM A) : ZX l yX6_doFeed wsX6_doFeed rmX6_doFeed D J [.ref h, .int (iI q), .int (iI i), .int (iI n)] (wM J h a L pl sp nb dn er A K T H S V P) (some (.int (iI (mFeedR A q i n)))) (wM J h a L pl sp nb dn er (mFeedA A q i n) K T H S V P) := by
  obtain ⟨m0, m1, m2, m3, m4, m5, m6, m7, m8, m9, m10, m13, m14, m15, m16, m17, m18, m19, m20, mg⟩ := id hI
  unfold inR at hq hi hn
  refine z_met (cc := cX6_doFeed) (nL := 6) (ret := (some .int)) (own := RX6) (by decide) rfl rfl (Nat.le_of_ble_eq_true rfl) (fun p e s m args below meth c hC hr hin => ?_)
  refine z_lv0 (lv' := [(0, .ref h), (1, .int (iI q)), (2, .int (iI i)), (3, .int (iI n))]) rfl ?_
  refine z_iload_n hC dX6_doFeed_0 rfl 1 rfl ?_
  refine z_i2l (v := lI q) hC dX6_doFeed_1 (iI_l (by unfold inR; omega)) ?_
  refine z_lconst (v := lI 0) hC dX6_doFeed_2 (by decide) ?_
  refine z_ldc2 hC kX6_doFeed_1 dX6_doFeed_3 ?_
  refine z_long (y := lI 3) hC (by decide) ?_
  refine z_callS (wr := wM J h a L pl sp nb dn er A K T H S V P) (av := [.long (lI q), .long (lI 0), .long (lI 3)]) (st := []) hC (t_X6_in l D J q 0 3 (by unfold inL; omega) (by unfold inL; omega) (by unfold inL; omega)) gX6_doFeed_X6_in rfl 3 (by decide +kernel) ⟨Nat.le_of_ble_eq_true rfl, Nat.le_of_ble_eq_true rfl⟩ ⟨Nat.le_of_ble_eq_true rfl, Nat.le_of_ble_eq_true rfl⟩ [] [0, 1, 2, 3, 4, 5, 6, 7] rfl rfl rfl (by decide) rfl rfl rfl (Nat.le_of_ble_eq_true rfl) dX6_doFeed_6 (fun _ _ => ?_)
  refine z_ws (ws' := wM J h a L pl sp nb dn er A K T H S V P) rfl ?_
  refine z_st (st' := [.int (iI (mIn q 0 3))]) rfl ?_
  have hin_1 := mIn_spec q 0 3
  refine z_if_eq (tgt := 34) hC dX6_doFeed_9 (by decide) (inR_01 (mIn_01 _ _ _)) (fun c_9_2 => ?_) (fun c_9_2 => ?_)
  · refine z_bipush hC dX6_doFeed_34 (by decide) ?_
    exact z_iret hC hr rfl () trivial (hvi (by have hok : mFeedOk A q i n = -2 := (by unfold mFeedOk; (repeat' split) <;> first | rfl | omega); unfold mFeedR; rw [hok]; rfl)) (congrArg (fun z => wM J h a L pl sp nb dn er z K T H S V P) (by have hok : mFeedOk A q i n = -2 := (by unfold mFeedOk; (repeat' split) <;> first | rfl | omega); unfold mFeedA; rw [hok]; rfl)) dX6_doFeed_36
  · refine z_iload_n hC dX6_doFeed_12 rfl 2 rfl ?_
    refine z_i2l (v := lI i) hC dX6_doFeed_13 (iI_l (by unfold inR; omega)) ?_
    refine z_lconst (v := lI 0) hC dX6_doFeed_14 (by decide) ?_
    refine z_lconst (v := lI 1) hC dX6_doFeed_15 (by decide) ?_
    refine z_callS (wr := wM J h a L pl sp nb dn er A K T H S V P) (av := [.long (lI i), .long (lI 0), .long (lI 1)]) (st := []) hC (t_X6_in l D J i 0 1 (by unfold inL; omega) (by unfold inL; omega) (by unfold inL; omega)) gX6_doFeed_X6_in rfl 3 (by decide +kernel) ⟨Nat.le_of_ble_eq_true rfl, Nat.le_of_ble_eq_true rfl⟩ ⟨Nat.le_of_ble_eq_true rfl, Nat.le_of_ble_eq_true rfl⟩ [] [0, 1, 2, 3, 4, 5, 6, 7] rfl rfl rfl (by decide) rfl rfl rfl (Nat.le_of_ble_eq_true rfl) dX6_doFeed_16 (fun _ _ => ?_)
    refine z_ws (ws' := wM J h a L pl sp nb dn er A K T H S V P) rfl ?_
    refine z_st (st' := [.int (iI (mIn i 0 1))]) rfl ?_
    have hin_3 := mIn_spec i 0 1
    refine z_if_eq (tgt := 34) hC dX6_doFeed_19 (by decide) (inR_01 (mIn_01 _ _ _)) (fun c_19_4 => ?_) (fun c_19_4 => ?_)
    · refine z_bipush hC dX6_doFeed_34 (by decide) ?_
      exact z_iret hC hr rfl () trivial (hvi (by have hok : mFeedOk A q i n = -2 := (by unfold mFeedOk; (repeat' split) <;> first | rfl | omega); unfold mFeedR; rw [hok]; rfl)) (congrArg (fun z => wM J h a L pl sp nb dn er z K T H S V P) (by have hok : mFeedOk A q i n = -2 := (by unfold mFeedOk; (repeat' split) <;> first | rfl | omega); unfold mFeedA; rw [hok]; rfl)) dX6_doFeed_36
    · refine z_iload_n hC dX6_doFeed_22 rfl 3 rfl ?_
      refine z_i2l (v := lI n) hC dX6_doFeed_23 (iI_l (by unfold inR; omega)) ?_
      refine z_lconst (v := lI 1) hC dX6_doFeed_24 (by decide) ?_
      refine z_ldc2 hC kX6_doFeed_2 dX6_doFeed_25 ?_
      refine z_long (y := lI 99) hC (by decide) ?_
      refine z_callS (wr := wM J h a L pl sp nb dn er A K T H S V P) (av := [.long (lI n), .long (lI 1), .long (lI 99)]) (st := []) hC (t_X6_in l D J n 1 99 (by unfold inL; omega) (by unfold inL; omega) (by unfold inL; omega)) gX6_doFeed_X6_in rfl 3 (by decide +kernel) ⟨Nat.le_of_ble_eq_true rfl, Nat.le_of_ble_eq_true rfl⟩ ⟨Nat.le_of_ble_eq_true rfl, Nat.le_of_ble_eq_true rfl⟩ [] [0, 1, 2, 3, 4, 5, 6, 7] rfl rfl rfl (by decide) rfl rfl rfl (Nat.le_of_ble_eq_true rfl) dX6_doFeed_28 (fun _ _ => ?_)
      refine z_ws (ws' := wM J h a L pl sp nb dn er A K T H S V P) rfl ?_
      refine z_st (st' := [.int (iI (mIn n 1 99))]) rfl ?_
      have hin_5 := mIn_spec n 1 99
      refine z_if_ne (tgt := 37) hC dX6_doFeed_31 (by decide) (inR_01 (mIn_01 _ _ _)) (fun c_31_6 => ?_) (fun c_31_6 => ?_)
      · refine z_aload_n hC dX6_doFeed_37 rfl 0 rfl ?_
        refine z_getr hC zkX6 iX6_doFeed_X6 0 rfl 0 (by decide) kX6_doFeed_3 rfl rfl dX6_doFeed_38 ?_
        refine z_iconst hC dX6_doFeed_41 ?_
        refine z_iald hC 1 rfl 0 rfl 5 rfl (by decide) (by decide) dX6_doFeed_42 ?_
        refine z_iload_n hC dX6_doFeed_43 rfl 3 rfl ?_
        refine z_iadd hC dX6_doFeed_44 ?_
        refine z_ldc hC 99999 kX6_doFeed_4 dX6_doFeed_45 (by decide) ?_
        refine z_icmp_le (tgt := 53) hC dX6_doFeed_47 (by decide) (by unfold inR; omega) ⟨by decide, by decide⟩ (fun c_47_7 => ?_) (fun c_47_7 => ?_)
        · refine z_iconst hC dX6_doFeed_53 ?_
          refine z_istore (lv' := [(4, .int (iI 0)), (0, .ref h), (1, .int (iI q)), (2, .int (iI i)), (3, .int (iI n))]) hC dX6_doFeed_54 (by decide) rfl ?_
          refine z_iconst hC dX6_doFeed_56 ?_
          refine z_istore (lv' := [(5, .int (iI 0)), (4, .int (iI 0)), (0, .ref h), (1, .int (iI q)), (2, .int (iI i)), (3, .int (iI n))]) hC dX6_doFeed_57 (by decide) rfl ?_
          refine z_lv (lv' := [(5, .int (iI 0)), (4, .int (iI 0)), (3, .int (iI n)), (2, .int (iI i)), (1, .int (iI q)), (0, .ref h)]) [0, 1, 5, 4, 3, 2] rfl ?_
          refine z_loop (α := Nat) (fun nn k => (k : Int) + (nn : Int) = n) (fun nn k => wM J h a L pl sp nb dn er (mTicks A q i k) K T H S V P) (fun nn k => [(5, .int (iI (k : Int))), (4, .int (iI (mCnt A q i k))), (3, .int (iI n)), (2, .int (iI i)), (1, .int (iI q)), (0, .ref h)]) 59 [] (fun nn k ih_8 hP_9 => ?_) (fun k hP_9 => ?_) n.toNat 0 (by show ((0 : Nat) : Int) + _ = _; omega)
          · change Z _ _ _ _ _ _ _ _ _ _ _ _ _ _ _ _ (wM J h a L pl sp nb dn er (mTicks A q i k) K T H S V P) ([(5, .int (iI (k : Int))), (4, .int (iI (mCnt A q i k))), (3, .int (iI n)), (2, .int (iI i)), (1, .int (iI q)), (0, .ref h)]) 59 ([])
            have ht := mTicks_inv hI (q := q) (i := i) ⟨by omega, by omega⟩ ⟨by omega, by omega⟩ k (by omega)
            have hs01 := mStp_01 (mDeed (mTicks A q i k) q)
            refine z_iload hC dX6_doFeed_59 0 rfl ?_
            refine z_iload_n hC dX6_doFeed_61 rfl 2 rfl ?_
            refine z_icmp_ge_f (tgt := 90) hC dX6_doFeed_62 (by decide) (by unfold inR; omega) (by unfold inR; omega) (by omega) ?_
            refine z_iload hC dX6_doFeed_65 1 rfl ?_
            refine z_aload_n hC dX6_doFeed_67 rfl 5 rfl ?_
            refine z_iload_n hC dX6_doFeed_68 rfl 4 rfl ?_
            refine z_iload_n hC dX6_doFeed_69 rfl 3 rfl ?_
            refine z_callV (wr := ([] : va_W)) (av := [.int (iI q), .int (iI i)]) (st := [.int (iI (mCnt A q i k))]) hC (t_X6_ticks l D J h a L pl sp nb dn er (mTicks A q i k) K T H S V P q i ⟨by omega, by omega⟩ ⟨by omega, by omega⟩ ht.1) gX6_doFeed_X6_ticks rfl 2 (by decide +kernel) ⟨Nat.le_of_ble_eq_true rfl, Nat.le_of_ble_eq_true rfl⟩ ⟨Nat.le_of_ble_eq_true rfl, Nat.le_of_ble_eq_true rfl⟩ [0, 1, 2, 3, 4, 5, 6, 7] [] rfl rfl rfl (by decide) rfl 0 rfl rfl rfl rfl rfl (Nat.le_of_ble_eq_true rfl) dX6_doFeed_70 (fun _ _ => ?_)
            refine z_ws (ws' := wM J h a L pl sp nb dn er (mTick (mTicks A q i k) q i) K T H S V P) rfl ?_
            refine z_st (st' := [.int (iI (mStp (mDeed (mTicks A q i k) q))), .int (iI (mCnt A q i k))]) rfl ?_
            refine z_if_eq (tgt := 80) hC dX6_doFeed_73 (by decide) (by unfold inR; omega) (fun c_73_10 => ?_) (fun c_73_10 => ?_)
            · refine z_iconst hC dX6_doFeed_80 ?_
              refine z_iadd hC dX6_doFeed_81 ?_
              refine z_istore (lv' := [(4, .int (iI ((mCnt A q i k) + 0))), (5, .int (iI (k : Int))), (3, .int (iI n)), (2, .int (iI i)), (1, .int (iI q)), (0, .ref h)]) hC dX6_doFeed_82 (by decide) rfl ?_
              refine z_iinc (lv' := [(5, .int (iI ((k : Int) + 1))), (4, .int (iI ((mCnt A q i k) + 0))), (3, .int (iI n)), (2, .int (iI i)), (1, .int (iI q)), (0, .ref h)]) hC dX6_doFeed_84 1 rfl (by decide) rfl ?_
              refine z_goto (tgt := 59) hC dX6_doFeed_87 (by decide) ?_
              have e2 : mCnt A q i (k + 1) = (mCnt A q i k) + 0 := by show mCnt A q i k + mStp (mDeed (mTicks A q i k) q) = _; omega
              refine z_lv0 (lv' := [(5, .int (iI ((k : Int) + 1))), (4, .int (iI (mCnt A q i (k + 1)))), (3, .int (iI n)), (2, .int (iI i)), (1, .int (iI q)), (0, .ref h)]) (by rw [e2]) ?_
              refine z_lv (lv' := _) [0, 1, 2, 3, 4, 5] rfl ?_
              exact ih_8 (k + 1) (by omega)
            · refine z_iconst hC dX6_doFeed_76 ?_
              refine z_goto (tgt := 81) hC dX6_doFeed_77 (by decide) ?_
              refine z_iadd hC dX6_doFeed_81 ?_
              refine z_istore (lv' := [(4, .int (iI ((mCnt A q i k) + 1))), (5, .int (iI (k : Int))), (3, .int (iI n)), (2, .int (iI i)), (1, .int (iI q)), (0, .ref h)]) hC dX6_doFeed_82 (by decide) rfl ?_
              refine z_iinc (lv' := [(5, .int (iI ((k : Int) + 1))), (4, .int (iI ((mCnt A q i k) + 1))), (3, .int (iI n)), (2, .int (iI i)), (1, .int (iI q)), (0, .ref h)]) hC dX6_doFeed_84 1 rfl (by decide) rfl ?_
              refine z_goto (tgt := 59) hC dX6_doFeed_87 (by decide) ?_
              have e2 : mCnt A q i (k + 1) = (mCnt A q i k) + 1 := by show mCnt A q i k + mStp (mDeed (mTicks A q i k) q) = _; omega
              refine z_lv0 (lv' := [(5, .int (iI ((k : Int) + 1))), (4, .int (iI (mCnt A q i (k + 1)))), (3, .int (iI n)), (2, .int (iI i)), (1, .int (iI q)), (0, .ref h)]) (by rw [e2]) ?_
              refine z_lv (lv' := _) [0, 1, 2, 3, 4, 5] rfl ?_
              exact ih_8 (k + 1) (by omega)
          · change Z _ _ _ _ _ _ _ _ _ _ _ _ _ _ _ _ (wM J h a L pl sp nb dn er (mTicks A q i k) K T H S V P) ([(5, .int (iI (k : Int))), (4, .int (iI (mCnt A q i k))), (3, .int (iI n)), (2, .int (iI i)), (1, .int (iI q)), (0, .ref h)]) 59 ([])
            have hkn : k = n.toNat := by omega
            refine z_iload hC dX6_doFeed_59 0 rfl ?_
            refine z_iload_n hC dX6_doFeed_61 rfl 2 rfl ?_
            refine z_icmp_ge_t (tgt := 90) hC dX6_doFeed_62 (by decide) (by unfold inR; omega) (by unfold inR; omega) (by omega) ?_
            refine z_iload hC dX6_doFeed_90 1 rfl ?_
            exact z_iret hC hr rfl () trivial (hvi (by have hok : mFeedOk A q i n = 0 := (by unfold mFeedOk; rw [if_neg (by omega), if_neg (by omega), if_neg (by omega), if_neg (by omega)]); unfold mFeedR; rw [hok]; rw [if_pos rfl, hkn])) (congrArg (fun z => wM J h a L pl sp nb dn er z K T H S V P) (by have hok : mFeedOk A q i n = 0 := (by unfold mFeedOk; rw [if_neg (by omega), if_neg (by omega), if_neg (by omega), if_neg (by omega)]); unfold mFeedA; rw [hok]; rw [if_pos rfl, hkn])) dX6_doFeed_92
        · refine z_bipush hC dX6_doFeed_50 (by decide) ?_
          exact z_iret hC hr rfl () trivial (hvi (by have hok : mFeedOk A q i n = -5 := (by unfold mFeedOk; rw [if_neg (by omega), if_neg (by omega), if_neg (by omega), if_pos (by omega)]); unfold mFeedR; rw [hok]; rfl)) (congrArg (fun z => wM J h a L pl sp nb dn er z K T H S V P) (by have hok : mFeedOk A q i n = -5 := (by unfold mFeedOk; rw [if_neg (by omega), if_neg (by omega), if_neg (by omega), if_pos (by omega)]); unfold mFeedA; rw [hok]; rfl)) dX6_doFeed_52
      · refine z_bipush hC dX6_doFeed_34 (by decide) ?_
        exact z_iret hC hr rfl () trivial (hvi (by have hok : mFeedOk A q i n = -2 := (by unfold mFeedOk; (repeat' split) <;> first | rfl | omega); unfold mFeedR; rw [hok]; rfl)) (congrArg (fun z => wM J h a L pl sp nb dn er z K T H S V P) (by have hok : mFeedOk A q i n = -2 := (by unfold mFeedOk; (repeat' split) <;> first | rfl | omega); unfold mFeedA; rw [hok]; rfl)) dX6_doFeed_36
