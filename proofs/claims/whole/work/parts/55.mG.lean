set_option maxRecDepth 20000 in
theorem iX6_set_X6 : ∀ w ∈ u_ws RX6 TX6 13, w ∈ wsX6_set := zm_places _ [30, 31, 32, 33, 34, 35, 36, 37, 38, 39, 40, 41, 42] (by decide +kernel)
theorem kX6_set_1 : Cond.fieldLink RX6 7 "StepPairsModel" "all" "[I" ∈ wsX6_set := List.mem_of_getElem? (i := 1) rfl
theorem kX6_set_2 : Cond.fieldLink RX6 13 "StepPairsModel" "kept" "[I" ∈ wsX6_set := List.mem_of_getElem? (i := 2) rfl
abbrev rmX6_set : Room := { frames := 3, cells := 0, slots := 0, locals := 69 }
set_option maxHeartbeats 4000000 in
set_option maxRecDepth 100000 in
theorem t_X6_set (l : Launch) (D : va_G) (J : Nat → ClassId) (h : Nat) (a : Nat → Nat) (L pl sp nb dn er : Int) (A K T H S V P : Nat → Int) (x y : Int) (hx : inR x) (hy : inR y) (hI : InvM A) (hL : 0 ≤ L ∧ L ≤ 6) : ZX l yX6_set wsX6_set rmX6_set D J [.ref h, .int (iI x), .int (iI y)] (wM J h a L pl sp nb dn er A K T H S V P) (some (.int (iI (mSetR A x y)))) (wM J h a (mChgL (mSetR A x y) L) pl sp nb dn er (mSetA A x y) A T (mChgH (mSetR A x y) H A L) S V P) := by
  refine z_met (cc := cX6_set) (nL := 4) (ret := (some .int)) (own := RX6) (by decide) rfl rfl (Nat.le_of_ble_eq_true rfl) (fun p e s m args below meth c hC hr hin => ?_)
  refine z_lv0 (lv' := [(0, .ref h), (1, .int (iI x)), (2, .int (iI y))]) rfl ?_
  refine z_aload_n hC dX6_set_0 rfl 0 rfl ?_
  refine z_getr hC zkX6 iX6_set_X6 0 rfl 0 (by decide) kX6_set_1 rfl rfl dX6_set_1 ?_
  refine z_aload_n hC dX6_set_4 rfl 0 rfl ?_
  refine z_getr hC zkX6 iX6_set_X6 0 rfl 1 (by decide) kX6_set_2 rfl rfl dX6_set_5 ?_
  refine z_callS (wr := [cO 5 h [some (a 0), some (a 1), some (a 2), some (a 3), none, some (a 5), some (a 6), some (a 7), none, none, none, none, none] (mK L pl sp nb dn er), cI (J 0) (a 2) 222 T, cI (J 0) (a 3) 1332 H, cI (J 0) (a 5) 444 S, cI (J 0) (a 6) 2 V, cI (J 0) (a 7) 80 P]) (av := [.ref (a 0), .ref (a 1)]) (st := []) hC (t_X6_copy l D J (a 0) (a 1) A K) gX6_set_X6_copy rfl 2 (by decide +kernel) ⟨Nat.le_of_ble_eq_true rfl, Nat.le_of_ble_eq_true rfl⟩ ⟨Nat.le_of_ble_eq_true rfl, Nat.le_of_ble_eq_true rfl⟩ [1, 2] [0, 3, 4, 5, 6, 7] rfl rfl rfl (by decide) rfl rfl rfl (Nat.le_of_ble_eq_true rfl) dX6_set_8 (fun _ _ => ?_)
  refine z_perm (ws' := wM J h a L pl sp nb dn er A A T H S V P) [0, 6, 7, 1, 2, 3, 4, 5] rfl rfl ?_
  refine z_st (st' := []) rfl ?_
  refine z_aload_n hC dX6_set_11 rfl 0 rfl ?_
  refine z_iload_n hC dX6_set_12 rfl 1 rfl ?_
  refine z_iload_n hC dX6_set_13 rfl 2 rfl ?_
  refine z_callV (wr := ([] : va_W)) (av := [.int (iI x), .int (iI y)]) (st := []) hC (t_X6_doSet l D J h a L pl sp nb dn er A A T H S V P x y hx hy hI) gX6_set_X6_doSet rfl 2 (by decide +kernel) ⟨Nat.le_of_ble_eq_true rfl, Nat.le_of_ble_eq_true rfl⟩ ⟨Nat.le_of_ble_eq_true rfl, Nat.le_of_ble_eq_true rfl⟩ [0, 1, 2, 3, 4, 5, 6, 7] [] rfl rfl rfl (by decide) rfl 0 rfl rfl rfl rfl rfl (Nat.le_of_ble_eq_true rfl) dX6_set_14 (fun _ _ => ?_)
  refine z_ws (ws' := wM J h a L pl sp nb dn er (mSetA A x y) A T H S V P) rfl ?_
  refine z_st (st' := [.int (iI (mSetR A x y))]) rfl ?_
  refine z_istore_n (lv' := [(3, .int (iI (mSetR A x y))), (0, .ref h), (1, .int (iI x)), (2, .int (iI y))]) hC dX6_set_17 rfl (by decide) rfl ?_
  refine z_iload_n hC dX6_set_18 rfl 0 rfl ?_
  refine z_if_ge (tgt := 26) hC dX6_set_19 (by decide) (inR_of5 (mSetR_in hI)) (fun c_19_1 => ?_) (fun c_19_1 => ?_)
  · refine z_aload_n hC dX6_set_26 rfl 1 rfl ?_
    refine z_iload_n hC dX6_set_27 rfl 0 rfl ?_
    refine z_callV (wr := ([] : va_W)) (av := [.int (iI (mSetR A x y))]) (st := []) hC (t_X6_changed l D J h a L pl sp nb dn er (mSetA A x y) A T H S V P (mSetR A x y) hL) gX6_set_X6_changed rfl 1 (by decide +kernel) ⟨Nat.le_of_ble_eq_true rfl, Nat.le_of_ble_eq_true rfl⟩ ⟨Nat.le_of_ble_eq_true rfl, Nat.le_of_ble_eq_true rfl⟩ [0, 1, 2, 3, 4, 5, 6, 7] [] rfl rfl rfl (by decide) rfl 0 rfl rfl rfl rfl rfl (Nat.le_of_ble_eq_true rfl) dX6_set_28 (fun _ _ => ?_)
    refine z_ws (ws' := wM J h a (mChL L) pl sp nb dn er (mSetA A x y) A T (mChH H A L) S V P) rfl ?_
    refine z_st (st' := [.int (iI (mSetR A x y))]) rfl ?_
    exact z_iret hC hr rfl () trivial (rfl) (by unfold mChgH mChgL; first | rw [if_pos (by assumption), if_pos (by assumption)] | rw [if_neg (by omega), if_neg (by omega)]) dX6_set_31
  · refine z_iload_n hC dX6_set_22 rfl 0 rfl ?_
    refine z_goto (tgt := 31) hC dX6_set_23 (by decide) ?_
    exact z_iret hC hr rfl () trivial (rfl) (by unfold mChgH mChgL; first | rw [if_pos (by assumption), if_pos (by assumption)] | rw [if_neg (by omega), if_neg (by omega)]) dX6_set_31
set_option maxRecDepth 20000 in
theorem iX6_feed_X6 : ∀ w ∈ u_ws RX6 TX6 13, w ∈ wsX6_feed := zm_places _ [42, 43, 44, 45, 46, 47, 48, 49, 50, 51, 52, 53, 54] (by decide +kernel)
theorem kX6_feed_1 : Cond.fieldLink RX6 7 "StepPairsModel" "all" "[I" ∈ wsX6_feed := List.mem_of_getElem? (i := 1) rfl
theorem kX6_feed_2 : Cond.fieldLink RX6 13 "StepPairsModel" "kept" "[I" ∈ wsX6_feed := List.mem_of_getElem? (i := 2) rfl
abbrev rmX6_feed : Room := { frames := 4, cells := 0, slots := 0, locals := 92 }
set_option maxHeartbeats 4000000 in
set_option maxRecDepth 100000 in
theorem t_X6_feed (l : Launch) (D : va_G) (J : Nat → ClassId) (h : Nat) (a : Nat → Nat) (L pl sp nb dn er : Int) (A K T H S V P : Nat → Int) (x y z : Int) (hx : inR x) (hy : inR y) (hz : inR z) (hI : InvM A) (hL : 0 ≤ L ∧ L ≤ 6) : ZX l yX6_feed wsX6_feed rmX6_feed D J [.ref h, .int (iI x), .int (iI y), .int (iI z)] (wM J h a L pl sp nb dn er A K T H S V P) (some (.int (iI (mFeedR A x y z)))) (wM J h a (mChgL (mFeedR A x y z) L) pl sp nb dn er (mFeedA A x y z) A T (mChgH (mFeedR A x y z) H A L) S V P) := by
  refine z_met (cc := cX6_feed) (nL := 5) (ret := (some .int)) (own := RX6) (by decide) rfl rfl (Nat.le_of_ble_eq_true rfl) (fun p e s m args below meth c hC hr hin => ?_)
  refine z_lv0 (lv' := [(0, .ref h), (1, .int (iI x)), (2, .int (iI y)), (3, .int (iI z))]) rfl ?_
  refine z_aload_n hC dX6_feed_0 rfl 0 rfl ?_
  refine z_getr hC zkX6 iX6_feed_X6 0 rfl 0 (by decide) kX6_feed_1 rfl rfl dX6_feed_1 ?_
  refine z_aload_n hC dX6_feed_4 rfl 0 rfl ?_
  refine z_getr hC zkX6 iX6_feed_X6 0 rfl 1 (by decide) kX6_feed_2 rfl rfl dX6_feed_5 ?_
  refine z_callS (wr := [cO 5 h [some (a 0), some (a 1), some (a 2), some (a 3), none, some (a 5), some (a 6), some (a 7), none, none, none, none, none] (mK L pl sp nb dn er), cI (J 0) (a 2) 222 T, cI (J 0) (a 3) 1332 H, cI (J 0) (a 5) 444 S, cI (J 0) (a 6) 2 V, cI (J 0) (a 7) 80 P]) (av := [.ref (a 0), .ref (a 1)]) (st := []) hC (t_X6_copy l D J (a 0) (a 1) A K) gX6_feed_X6_copy rfl 2 (by decide +kernel) ⟨Nat.le_of_ble_eq_true rfl, Nat.le_of_ble_eq_true rfl⟩ ⟨Nat.le_of_ble_eq_true rfl, Nat.le_of_ble_eq_true rfl⟩ [1, 2] [0, 3, 4, 5, 6, 7] rfl rfl rfl (by decide) rfl rfl rfl (Nat.le_of_ble_eq_true rfl) dX6_feed_8 (fun _ _ => ?_)
  refine z_perm (ws' := wM J h a L pl sp nb dn er A A T H S V P) [0, 6, 7, 1, 2, 3, 4, 5] rfl rfl ?_
  refine z_st (st' := []) rfl ?_
  refine z_aload_n hC dX6_feed_11 rfl 0 rfl ?_
  refine z_iload_n hC dX6_feed_12 rfl 1 rfl ?_
  refine z_iload_n hC dX6_feed_13 rfl 2 rfl ?_
  refine z_iload_n hC dX6_feed_14 rfl 3 rfl ?_
  refine z_callV (wr := ([] : va_W)) (av := [.int (iI x), .int (iI y), .int (iI z)]) (st := []) hC (t_X6_doFeed l D J h a L pl sp nb dn er A A T H S V P x y z hx hy hz hI) gX6_feed_X6_doFeed rfl 3 (by decide +kernel) ⟨Nat.le_of_ble_eq_true rfl, Nat.le_of_ble_eq_true rfl⟩ ⟨Nat.le_of_ble_eq_true rfl, Nat.le_of_ble_eq_true rfl⟩ [0, 1, 2, 3, 4, 5, 6, 7] [] rfl rfl rfl (by decide) rfl 0 rfl rfl rfl rfl rfl (Nat.le_of_ble_eq_true rfl) dX6_feed_15 (fun _ _ => ?_)
  refine z_ws (ws' := wM J h a L pl sp nb dn er (mFeedA A x y z) A T H S V P) rfl ?_
  refine z_st (st' := [.int (iI (mFeedR A x y z))]) rfl ?_
  refine z_istore (lv' := [(4, .int (iI (mFeedR A x y z))), (0, .ref h), (1, .int (iI x)), (2, .int (iI y)), (3, .int (iI z))]) hC dX6_feed_18 (by decide) rfl ?_
  refine z_iload hC dX6_feed_20 0 rfl ?_
  refine z_if_ge (tgt := 30) hC dX6_feed_22 (by decide) (inR_of5 mFeedR_in) (fun c_22_1 => ?_) (fun c_22_1 => ?_)
  · refine z_aload_n hC dX6_feed_30 rfl 1 rfl ?_
    refine z_iload hC dX6_feed_31 0 rfl ?_
    refine z_callV (wr := ([] : va_W)) (av := [.int (iI (mFeedR A x y z))]) (st := []) hC (t_X6_changed l D J h a L pl sp nb dn er (mFeedA A x y z) A T H S V P (mFeedR A x y z) hL) gX6_feed_X6_changed rfl 1 (by decide +kernel) ⟨Nat.le_of_ble_eq_true rfl, Nat.le_of_ble_eq_true rfl⟩ ⟨Nat.le_of_ble_eq_true rfl, Nat.le_of_ble_eq_true rfl⟩ [0, 1, 2, 3, 4, 5, 6, 7] [] rfl rfl rfl (by decide) rfl 0 rfl rfl rfl rfl rfl (Nat.le_of_ble_eq_true rfl) dX6_feed_33 (fun _ _ => ?_)
    refine z_ws (ws' := wM J h a (mChL L) pl sp nb dn er (mFeedA A x y z) A T (mChH H A L) S V P) rfl ?_
    refine z_st (st' := [.int (iI (mFeedR A x y z))]) rfl ?_
    exact z_iret hC hr rfl () trivial (rfl) (by unfold mChgH mChgL; first | rw [if_pos (by assumption), if_pos (by assumption)] | rw [if_neg (by omega), if_neg (by omega)]) dX6_feed_36
  · refine z_iload hC dX6_feed_25 0 rfl ?_
    refine z_goto (tgt := 36) hC dX6_feed_27 (by decide) ?_
    exact z_iret hC hr rfl () trivial (rfl) (by unfold mChgH mChgL; first | rw [if_pos (by assumption), if_pos (by assumption)] | rw [if_neg (by omega), if_neg (by omega)]) dX6_feed_36
set_option maxRecDepth 20000 in
theorem iX6_zero_X6 : ∀ w ∈ u_ws RX6 TX6 13, w ∈ wsX6_zero := zm_places _ [17, 18, 19, 20, 21, 22, 23, 24, 25, 26, 27, 28, 29] (by decide +kernel)
theorem kX6_zero_1 : Cond.fieldLink RX6 7 "StepPairsModel" "all" "[I" ∈ wsX6_zero := List.mem_of_getElem? (i := 1) rfl
theorem kX6_zero_2 : Cond.fieldLink RX6 13 "StepPairsModel" "kept" "[I" ∈ wsX6_zero := List.mem_of_getElem? (i := 2) rfl
abbrev rmX6_zero : Room := { frames := 1, cells := 0, slots := 0, locals := 22 }
set_option maxHeartbeats 4000000 in
set_option maxRecDepth 100000 in
theorem t_X6_zero (l : Launch) (D : va_G) (J : Nat → ClassId) (h : Nat) (a : Nat → Nat) (L pl sp nb dn er : Int) (A K T H S V P : Nat → Int) (hL : 0 ≤ L ∧ L ≤ 6) : ZX l yX6_zero wsX6_zero rmX6_zero D J [.ref h] (wM J h a L pl sp nb dn er A K T H S V P) (some (.int (iI (A 6)))) (wM J h a (mChL L) pl sp nb dn er (updZ (updZ A 6 0) 7 0) A T (mChH H A L) S V P) := by
  refine z_met (cc := cX6_zero) (nL := 1) (ret := (some .int)) (own := RX6) (by decide) rfl rfl (Nat.le_of_ble_eq_true rfl) (fun p e s m args below meth c hC hr hin => ?_)
  refine z_lv0 (lv' := [(0, .ref h)]) rfl ?_
  refine z_aload_n hC dX6_zero_0 rfl 0 rfl ?_
  refine z_getr hC zkX6 iX6_zero_X6 0 rfl 0 (by decide) kX6_zero_1 rfl rfl dX6_zero_1 ?_
  refine z_aload_n hC dX6_zero_4 rfl 0 rfl ?_
  refine z_getr hC zkX6 iX6_zero_X6 0 rfl 1 (by decide) kX6_zero_2 rfl rfl dX6_zero_5 ?_
  refine z_callS (wr := [cO 5 h [some (a 0), some (a 1), some (a 2), some (a 3), none, some (a 5), some (a 6), some (a 7), none, none, none, none, none] (mK L pl sp nb dn er), cI (J 0) (a 2) 222 T, cI (J 0) (a 3) 1332 H, cI (J 0) (a 5) 444 S, cI (J 0) (a 6) 2 V, cI (J 0) (a 7) 80 P]) (av := [.ref (a 0), .ref (a 1)]) (st := []) hC (t_X6_copy l D J (a 0) (a 1) A K) gX6_zero_X6_copy rfl 2 (by decide +kernel) ⟨Nat.le_of_ble_eq_true rfl, Nat.le_of_ble_eq_true rfl⟩ ⟨Nat.le_of_ble_eq_true rfl, Nat.le_of_ble_eq_true rfl⟩ [1, 2] [0, 3, 4, 5, 6, 7] rfl rfl rfl (by decide) rfl rfl rfl (Nat.le_of_ble_eq_true rfl) dX6_zero_8 (fun _ _ => ?_)
  refine z_perm (ws' := wM J h a L pl sp nb dn er A A T H S V P) [0, 6, 7, 1, 2, 3, 4, 5] rfl rfl ?_
  refine z_st (st' := []) rfl ?_
  refine z_aload_n hC dX6_zero_11 rfl 0 rfl ?_
  refine z_aload_n hC dX6_zero_12 rfl 0 rfl ?_
  refine z_callV (wr := ([] : va_W)) (av := []) (st := [.ref h]) hC (t_X6_doZero l D J h a L pl sp nb dn er A A T H S V P  ) gX6_zero_X6_doZero rfl 0 (by decide +kernel) ⟨Nat.le_of_ble_eq_true rfl, Nat.le_of_ble_eq_true rfl⟩ ⟨Nat.le_of_ble_eq_true rfl, Nat.le_of_ble_eq_true rfl⟩ [0, 1, 2, 3, 4, 5, 6, 7] [] rfl rfl rfl (by decide) rfl 0 rfl rfl rfl rfl rfl (Nat.le_of_ble_eq_true rfl) dX6_zero_13 (fun _ _ => ?_)
  refine z_ws (ws' := wM J h a L pl sp nb dn er (updZ (updZ A 6 0) 7 0) A T H S V P) rfl ?_
  refine z_st (st' := [.int (iI (A 6)), .ref h]) rfl ?_
  refine z_callV (wr := ([] : va_W)) (av := [.int (iI (A 6))]) (st := []) hC (t_X6_changed l D J h a L pl sp nb dn er (updZ (updZ A 6 0) 7 0) A T H S V P (A 6) hL) gX6_zero_X6_changed rfl 1 (by decide +kernel) ⟨Nat.le_of_ble_eq_true rfl, Nat.le_of_ble_eq_true rfl⟩ ⟨Nat.le_of_ble_eq_true rfl, Nat.le_of_ble_eq_true rfl⟩ [0, 1, 2, 3, 4, 5, 6, 7] [] rfl rfl rfl (by decide) rfl 0 rfl rfl rfl rfl rfl (Nat.le_of_ble_eq_true rfl) dX6_zero_16 (fun _ _ => ?_)
  refine z_ws (ws' := wM J h a (mChL L) pl sp nb dn er (updZ (updZ A 6 0) 7 0) A T (mChH H A L) S V P) rfl ?_
  refine z_st (st' := [.int (iI (A 6))]) rfl ?_
  exact z_iret hC hr rfl () trivial (rfl) (rfl) dX6_zero_19
set_option maxRecDepth 20000 in
theorem iX6_save_X6 : ∀ w ∈ u_ws RX6 TX6 13, w ∈ wsX6_save := zm_places _ [8, 9, 10, 11, 12, 13, 14, 15, 16, 17, 18, 19, 20] (by decide +kernel)
theorem kX6_save_1 : Cond.fieldLink RX6 22 "StepPairsModel" "slots" "[I" ∈ wsX6_save := List.mem_of_getElem? (i := 1) rfl
theorem kX6_save_2 : Cond.fieldLink RX6 7 "StepPairsModel" "all" "[I" ∈ wsX6_save := List.mem_of_getElem? (i := 2) rfl
theorem kX6_save_3 : Cond.fieldLink RX6 25 "StepPairsModel" "isSaved" "[I" ∈ wsX6_save := List.mem_of_getElem? (i := 3) rfl
abbrev rmX6_save : Room := { frames := 1, cells := 0, slots := 0, locals := 25 }
set_option maxHeartbeats 4000000 in
set_option maxRecDepth 100000 in
theorem t_X6_save (l : Launch) (D : va_G) (J : Nat → ClassId) (h : Nat) (a : Nat → Nat) (L pl sp nb dn er : Int) (A K T H S V P : Nat → Int) (x : Int) (hx : inR x) : ZX l yX6_save wsX6_save rmX6_save D J [.ref h, .int (iI x)] (wM J h a L pl sp nb dn er A K T H S V P) (some (.int (iI (mSaveR A x)))) (wM J h a L pl sp nb dn er A K T H (mSaveS A S x) (mSaveV V x) P) := by
  unfold inR at hx
  refine z_met (cc := cX6_save) (nL := 3) (ret := (some .int)) (own := RX6) (by decide) rfl rfl (Nat.le_of_ble_eq_true rfl) (fun p e s m args below meth c hC hr hin => ?_)
  refine z_lv0 (lv' := [(0, .ref h), (1, .int (iI x))]) rfl ?_
  refine z_iload_n hC dX6_save_0 rfl 1 rfl ?_
  refine z_i2l (v := lI x) hC dX6_save_1 (iI_l (by unfold inR; omega)) ?_
  refine z_lconst (v := lI 0) hC dX6_save_2 (by decide) ?_
  refine z_lconst (v := lI 1) hC dX6_save_3 (by decide) ?_
  refine z_callS (wr := wM J h a L pl sp nb dn er A K T H S V P) (av := [.long (lI x), .long (lI 0), .long (lI 1)]) (st := []) hC (t_X6_in l D J x 0 1 (by unfold inL; omega) (by unfold inL; omega) (by unfold inL; omega)) gX6_save_X6_in rfl 3 (by decide +kernel) ⟨Nat.le_of_ble_eq_true rfl, Nat.le_of_ble_eq_true rfl⟩ ⟨Nat.le_of_ble_eq_true rfl, Nat.le_of_ble_eq_true rfl⟩ [] [0, 1, 2, 3, 4, 5, 6, 7] rfl rfl rfl (by decide) rfl rfl rfl (Nat.le_of_ble_eq_true rfl) dX6_save_4 (fun _ _ => ?_)
  refine z_ws (ws' := wM J h a L pl sp nb dn er A K T H S V P) rfl ?_
  refine z_st (st' := [.int (iI (mIn x 0 1))]) rfl ?_
  have hin_1 := mIn_spec x 0 1
  refine z_if_ne (tgt := 13) hC dX6_save_7 (by decide) (inR_01 (mIn_01 _ _ _)) (fun c_7_2 => ?_) (fun c_7_2 => ?_)
  · refine z_iconst hC dX6_save_13 ?_
    refine z_istore_n (lv' := [(2, .int (iI 0)), (0, .ref h), (1, .int (iI x))]) hC dX6_save_14 rfl (by decide) rfl ?_
    refine z_lv (lv' := [(2, .int (iI 0)), (0, .ref h), (1, .int (iI x))]) [0, 1, 2] rfl ?_
    refine z_ws (ws' := wM J h a L pl sp nb dn er A K T H (mHc S A x.toNat 0) V P) (by rw [mHc_0]) ?_
    refine z_loop (α := Nat) (fun nn k => k + nn = 222) (fun nn k => wM J h a L pl sp nb dn er A K T H (mHc S A x.toNat k) V P) (fun nn k => [(2, .int (iI (k : Int))), (0, .ref h), (1, .int (iI x))]) 15 [] (fun nn k ih_3 hP_4 => ?_) (fun k hP_4 => ?_) 222 0 rfl
    · change Z _ _ _ _ _ _ _ _ _ _ _ _ _ _ _ _ (wM J h a L pl sp nb dn er A K T H (mHc S A x.toNat k) V P) ([(2, .int (iI (k : Int))), (0, .ref h), (1, .int (iI x))]) 15 ([])
      refine z_iload_n hC dX6_save_15 rfl 0 rfl ?_
      refine z_sipush hC dX6_save_16 (by decide) ?_
      refine z_icmp_ge_f (tgt := 46) hC dX6_save_19 (by decide) (by unfold inR; omega) ⟨by decide, by decide⟩ (by omega) ?_
      refine z_aload_n hC dX6_save_22 rfl 1 rfl ?_
      refine z_getr hC zkX6 iX6_save_X6 0 rfl 5 (by decide) kX6_save_1 rfl rfl dX6_save_23 ?_
      refine z_sipush hC dX6_save_26 (by decide) ?_
      refine z_iload_n hC dX6_save_29 rfl 2 rfl ?_
      refine z_imul hC dX6_save_30 ?_
      refine z_iload_n hC dX6_save_31 rfl 0 rfl ?_
      refine z_iadd hC dX6_save_32 ?_
      refine z_aload_n hC dX6_save_33 rfl 1 rfl ?_
      refine z_getr hC zkX6 iX6_save_X6 0 rfl 0 (by decide) kX6_save_2 rfl rfl dX6_save_34 ?_
      refine z_iload_n hC dX6_save_37 rfl 0 rfl ?_
      refine z_iald hC 1 rfl 0 rfl k rfl (by omega) (by decide) dX6_save_38 ?_
      refine z_iast (ws' := wM J h a L pl sp nb dn er A K T H (updZ (mHc S A x.toNat k) (222 * x.toNat + k) (A k)) V P) hC 5 rfl 0 rfl (222 * x.toNat + k) (by omega) (by omega) (by decide) dX6_save_39 rfl ?_
      refine z_iinc (lv' := [(2, .int (iI ((k : Int) + 1))), (0, .ref h), (1, .int (iI x))]) hC dX6_save_40 0 rfl (by decide) rfl ?_
      refine z_goto (tgt := 15) hC dX6_save_43 (by decide) ?_
      refine z_ws (ws' := wM J h a L pl sp nb dn er A K T H (mHc S A x.toNat (k + 1)) V P) (congrArg (fun z => wM J h a L pl sp nb dn er A K T H z V P) (mHc_s S A x.toNat k)) ?_
      refine z_lv (lv' := _) [0, 1, 2] rfl ?_
      exact ih_3 (k + 1) (by omega)
    · change Z _ _ _ _ _ _ _ _ _ _ _ _ _ _ _ _ (wM J h a L pl sp nb dn er A K T H (mHc S A x.toNat k) V P) ([(2, .int (iI (k : Int))), (0, .ref h), (1, .int (iI x))]) 15 ([])
      have hk3 : k = 222 := by omega
      refine z_iload_n hC dX6_save_15 rfl 0 rfl ?_
      refine z_sipush hC dX6_save_16 (by decide) ?_
      refine z_icmp_ge_t (tgt := 46) hC dX6_save_19 (by decide) (by unfold inR; omega) ⟨by decide, by decide⟩ (by omega) ?_
      refine z_aload_n hC dX6_save_46 rfl 1 rfl ?_
      refine z_getr hC zkX6 iX6_save_X6 0 rfl 6 (by decide) kX6_save_3 rfl rfl dX6_save_47 ?_
      refine z_iload_n hC dX6_save_50 rfl 2 rfl ?_
      refine z_iconst hC dX6_save_51 ?_
      refine z_iast (ws' := wM J h a L pl sp nb dn er A K T H (mHc S A x.toNat k) (updZ V (Int.toNat x) 1) P) hC 6 rfl 0 rfl (Int.toNat x) (Int.toNat_of_nonneg (by omega)).symm (by omega) (by decide) dX6_save_52 rfl ?_
      refine z_aload_n hC dX6_save_53 rfl 1 rfl ?_
      refine z_getr hC zkX6 iX6_save_X6 0 rfl 0 (by decide) kX6_save_2 rfl rfl dX6_save_54 ?_
      refine z_bipush hC dX6_save_57 (by decide) ?_
      refine z_iald hC 1 rfl 0 rfl 6 rfl (by decide) (by decide) dX6_save_59 ?_
      exact z_iret hC hr rfl () trivial (hvi (by unfold mSaveR; (repeat' split) <;> first | rfl | omega)) (by subst hk3; unfold mSaveS mSaveV; first | rw [if_pos (by omega), if_pos (by omega)] | rw [if_neg (by omega), if_neg (by omega)]) dX6_save_60
  · refine z_bipush hC dX6_save_10 (by decide) ?_
    exact z_iret hC hr rfl () trivial (hvi (by unfold mSaveR; (repeat' split) <;> first | rfl | omega)) (by unfold mSaveS mSaveV; first | rw [if_pos (by omega), if_pos (by omega)] | rw [if_neg (by omega), if_neg (by omega)]) dX6_save_12
set_option maxRecDepth 20000 in
theorem iX6_restore_X6 : ∀ w ∈ u_ws RX6 TX6 13, w ∈ wsX6_restore := zm_places _ [18, 19, 20, 21, 22, 23, 24, 25, 26, 27, 28, 29, 30] (by decide +kernel)
theorem kX6_restore_1 : Cond.fieldLink RX6 25 "StepPairsModel" "isSaved" "[I" ∈ wsX6_restore := List.mem_of_getElem? (i := 1) rfl
theorem kX6_restore_2 : Cond.fieldLink RX6 7 "StepPairsModel" "all" "[I" ∈ wsX6_restore := List.mem_of_getElem? (i := 2) rfl
theorem kX6_restore_3 : Cond.fieldLink RX6 13 "StepPairsModel" "kept" "[I" ∈ wsX6_restore := List.mem_of_getElem? (i := 3) rfl
theorem kX6_restore_4 : Cond.fieldLink RX6 22 "StepPairsModel" "slots" "[I" ∈ wsX6_restore := List.mem_of_getElem? (i := 4) rfl
abbrev rmX6_restore : Room := { frames := 1, cells := 0, slots := 0, locals := 25 }
set_option maxHeartbeats 4000000 in
set_option maxRecDepth 100000 in
theorem t_X6_restore (l : Launch) (D : va_G) (J : Nat → ClassId) (h : Nat) (a : Nat → Nat) (L pl sp nb dn er : Int) (A K T H S V P : Nat → Int) (x : Int) (hx : inR x) (hL : 0 ≤ L ∧ L ≤ 6) (hV : ∀ j, 0 ≤ V j ∧ V j ≤ 1) : ZX l yX6_restore wsX6_restore rmX6_restore D J [.ref h, .int (iI x)] (wM J h a L pl sp nb dn er A K T H S V P) (some (.int (iI (mRestR S V x)))) (wM J h a (mRestL V L x) pl sp nb dn er (mRestA A S V x) (mRestK A K V x) T (mRestH H A V L x) S V P) := by
  unfold inR at hx
  refine z_met (cc := cX6_restore) (nL := 3) (ret := (some .int)) (own := RX6) (by decide) rfl rfl (Nat.le_of_ble_eq_true rfl) (fun p e s m args below meth c hC hr hin => ?_)
  refine z_lv0 (lv' := [(0, .ref h), (1, .int (iI x))]) rfl ?_
  refine z_iload_n hC dX6_restore_0 rfl 1 rfl ?_
  refine z_i2l (v := lI x) hC dX6_restore_1 (iI_l (by unfold inR; omega)) ?_
  refine z_lconst (v := lI 0) hC dX6_restore_2 (by decide) ?_
  refine z_lconst (v := lI 1) hC dX6_restore_3 (by decide) ?_
  refine z_callS (wr := wM J h a L pl sp nb dn er A K T H S V P) (av := [.long (lI x), .long (lI 0), .long (lI 1)]) (st := []) hC (t_X6_in l D J x 0 1 (by unfold inL; omega) (by unfold inL; omega) (by unfold inL; omega)) gX6_restore_X6_in rfl 3 (by decide +kernel) ⟨Nat.le_of_ble_eq_true rfl, Nat.le_of_ble_eq_true rfl⟩ ⟨Nat.le_of_ble_eq_true rfl, Nat.le_of_ble_eq_true rfl⟩ [] [0, 1, 2, 3, 4, 5, 6, 7] rfl rfl rfl (by decide) rfl rfl rfl (Nat.le_of_ble_eq_true rfl) dX6_restore_4 (fun _ _ => ?_)
  refine z_ws (ws' := wM J h a L pl sp nb dn er A K T H S V P) rfl ?_
  refine z_st (st' := [.int (iI (mIn x 0 1))]) rfl ?_
  have hin_1 := mIn_spec x 0 1
  refine z_if_ne (tgt := 13) hC dX6_restore_7 (by decide) (inR_01 (mIn_01 _ _ _)) (fun c_7_2 => ?_) (fun c_7_2 => ?_)
  · refine z_aload_n hC dX6_restore_13 rfl 0 rfl ?_
    refine z_getr hC zkX6 iX6_restore_X6 0 rfl 6 (by decide) kX6_restore_1 rfl rfl dX6_restore_14 ?_
    refine z_iload_n hC dX6_restore_17 rfl 1 rfl ?_
    refine z_iald hC 6 rfl 0 rfl (Int.toNat x) (Int.toNat_of_nonneg (by omega)).symm (by omega) (by decide) dX6_restore_18 ?_
    refine z_if_ne (tgt := 25) hC dX6_restore_19 (by decide) (inR_01 (by have := hV x.toNat; omega)) (fun c_19_3 => ?_) (fun c_19_3 => ?_)
    · refine z_aload_n hC dX6_restore_25 rfl 0 rfl ?_
      refine z_getr hC zkX6 iX6_restore_X6 0 rfl 0 (by decide) kX6_restore_2 rfl rfl dX6_restore_26 ?_
      refine z_aload_n hC dX6_restore_29 rfl 0 rfl ?_
      refine z_getr hC zkX6 iX6_restore_X6 0 rfl 1 (by decide) kX6_restore_3 rfl rfl dX6_restore_30 ?_
      refine z_callS (wr := [cO 5 h [some (a 0), some (a 1), some (a 2), some (a 3), none, some (a 5), some (a 6), some (a 7), none, none, none, none, none] (mK L pl sp nb dn er), cI (J 0) (a 2) 222 T, cI (J 0) (a 3) 1332 H, cI (J 0) (a 5) 444 S, cI (J 0) (a 6) 2 V, cI (J 0) (a 7) 80 P]) (av := [.ref (a 0), .ref (a 1)]) (st := []) hC (t_X6_copy l D J (a 0) (a 1) A K) gX6_restore_X6_copy rfl 2 (by decide +kernel) ⟨Nat.le_of_ble_eq_true rfl, Nat.le_of_ble_eq_true rfl⟩ ⟨Nat.le_of_ble_eq_true rfl, Nat.le_of_ble_eq_true rfl⟩ [1, 2] [0, 3, 4, 5, 6, 7] rfl rfl rfl (by decide) rfl rfl rfl (Nat.le_of_ble_eq_true rfl) dX6_restore_33 (fun _ _ => ?_)
      refine z_perm (ws' := wM J h a L pl sp nb dn er A A T H S V P) [0, 6, 7, 1, 2, 3, 4, 5] rfl rfl ?_
      refine z_st (st' := []) rfl ?_
      refine z_iconst hC dX6_restore_36 ?_
      refine z_istore_n (lv' := [(2, .int (iI 0)), (0, .ref h), (1, .int (iI x))]) hC dX6_restore_37 rfl (by decide) rfl ?_
      refine z_lv (lv' := [(2, .int (iI 0)), (0, .ref h), (1, .int (iI x))]) [0, 1, 2] rfl ?_
      refine z_ws (ws' := wM J h a L pl sp nb dn er (mCp (mRow S x.toNat) A 0) A T H S V P) (by rw [mCp_0]) ?_
      refine z_loop (α := Nat) (fun nn k => k + nn = 222) (fun nn k => wM J h a L pl sp nb dn er (mCp (mRow S x.toNat) A k) A T H S V P) (fun nn k => [(2, .int (iI (k : Int))), (0, .ref h), (1, .int (iI x))]) 38 [] (fun nn k ih_4 hP_5 => ?_) (fun k hP_5 => ?_) 222 0 rfl
      · change Z _ _ _ _ _ _ _ _ _ _ _ _ _ _ _ _ (wM J h a L pl sp nb dn er (mCp (mRow S x.toNat) A k) A T H S V P) ([(2, .int (iI (k : Int))), (0, .ref h), (1, .int (iI x))]) 38 ([])
        refine z_iload_n hC dX6_restore_38 rfl 0 rfl ?_
        refine z_sipush hC dX6_restore_39 (by decide) ?_
        refine z_icmp_ge_f (tgt := 69) hC dX6_restore_42 (by decide) (by unfold inR; omega) ⟨by decide, by decide⟩ (by omega) ?_
        refine z_aload_n hC dX6_restore_45 rfl 1 rfl ?_
        refine z_getr hC zkX6 iX6_restore_X6 0 rfl 0 (by decide) kX6_restore_2 rfl rfl dX6_restore_46 ?_
        refine z_iload_n hC dX6_restore_49 rfl 0 rfl ?_
        refine z_aload_n hC dX6_restore_50 rfl 1 rfl ?_
        refine z_getr hC zkX6 iX6_restore_X6 0 rfl 5 (by decide) kX6_restore_4 rfl rfl dX6_restore_51 ?_
        refine z_sipush hC dX6_restore_54 (by decide) ?_
        refine z_iload_n hC dX6_restore_57 rfl 2 rfl ?_
        refine z_imul hC dX6_restore_58 ?_
        refine z_iload_n hC dX6_restore_59 rfl 0 rfl ?_
        refine z_iadd hC dX6_restore_60 ?_
        refine z_iald hC 5 rfl 0 rfl (222 * x.toNat + k) (by omega) (by omega) (by decide) dX6_restore_61 ?_
        refine z_iast (ws' := wM J h a L pl sp nb dn er (updZ (mCp (mRow S x.toNat) A k) k (S (222 * x.toNat + k))) A T H S V P) hC 1 rfl 0 rfl k rfl (by omega) (by decide) dX6_restore_62 rfl ?_
        refine z_iinc (lv' := [(2, .int (iI ((k : Int) + 1))), (0, .ref h), (1, .int (iI x))]) hC dX6_restore_63 0 rfl (by decide) rfl ?_
        refine z_goto (tgt := 38) hC dX6_restore_66 (by decide) ?_
        refine z_ws (ws' := wM J h a L pl sp nb dn er (mCp (mRow S x.toNat) A (k + 1)) A T H S V P) (congrArg (fun z => wM J h a L pl sp nb dn er z A T H S V P) (mCp_s (mRow S x.toNat) A k)) ?_
        refine z_lv (lv' := _) [0, 1, 2] rfl ?_
        exact ih_4 (k + 1) (by omega)
      · change Z _ _ _ _ _ _ _ _ _ _ _ _ _ _ _ _ (wM J h a L pl sp nb dn er (mCp (mRow S x.toNat) A k) A T H S V P) ([(2, .int (iI (k : Int))), (0, .ref h), (1, .int (iI x))]) 38 ([])
        refine z_arrg (g := mRow S x.toNat) (ws' := wM J h a L pl sp nb dn er (mRow S x.toNat) A T H S V P) 1 rfl (fun j hj => if_pos (by omega)) rfl ?_
        refine z_iload_n hC dX6_restore_38 rfl 0 rfl ?_
        refine z_sipush hC dX6_restore_39 (by decide) ?_
        refine z_icmp_ge_t (tgt := 69) hC dX6_restore_42 (by decide) (by unfold inR; omega) ⟨by decide, by decide⟩ (by omega) ?_
        refine z_aload_n hC dX6_restore_69 rfl 1 rfl ?_
        refine z_aload_n hC dX6_restore_70 rfl 1 rfl ?_
        refine z_getr hC zkX6 iX6_restore_X6 0 rfl 0 (by decide) kX6_restore_2 rfl rfl dX6_restore_71 ?_
        refine z_bipush hC dX6_restore_74 (by decide) ?_
        refine z_iald hC 1 rfl 0 rfl 6 rfl (by decide) (by decide) dX6_restore_76 ?_
        refine z_callV (wr := ([] : va_W)) (av := [.int (iI ((mRow S x.toNat) 6))]) (st := []) hC (t_X6_changed l D J h a L pl sp nb dn er (mRow S x.toNat) A T H S V P ((mRow S x.toNat) 6) hL) gX6_restore_X6_changed rfl 1 (by decide +kernel) ⟨Nat.le_of_ble_eq_true rfl, Nat.le_of_ble_eq_true rfl⟩ ⟨Nat.le_of_ble_eq_true rfl, Nat.le_of_ble_eq_true rfl⟩ [0, 1, 2, 3, 4, 5, 6, 7] [] rfl rfl rfl (by decide) rfl 0 rfl rfl rfl rfl rfl (Nat.le_of_ble_eq_true rfl) dX6_restore_77 (fun _ _ => ?_)
        refine z_ws (ws' := wM J h a (mChL L) pl sp nb dn er (mRow S x.toNat) A T (mChH H A L) S V P) rfl ?_
        refine z_st (st' := [.int (iI ((mRow S x.toNat) 6))]) rfl ?_
        exact z_iret hC hr rfl () trivial (hvi (by have hok : mRestOk V x = 0 := (by unfold mRestOk; (repeat' split) <;> first | rfl | omega); unfold mRestR; rw [hok]; rfl)) (by have hok : mRestOk V x = 0 := (by unfold mRestOk; (repeat' split) <;> first | rfl | omega); unfold mRestA mRestK mRestH mRestL; rw [hok]; rfl) dX6_restore_80
    · refine z_bipush hC dX6_restore_22 (by decide) ?_
      exact z_iret hC hr rfl () trivial (hvi (by have hok : mRestOk V x = -5 := (by unfold mRestOk; (repeat' split) <;> first | rfl | omega); unfold mRestR; rw [hok]; rfl)) (by have hok : mRestOk V x = -5 := (by unfold mRestOk; (repeat' split) <;> first | rfl | omega); unfold mRestA mRestK mRestH mRestL; rw [hok]; rfl) dX6_restore_24
  · refine z_bipush hC dX6_restore_10 (by decide) ?_
    exact z_iret hC hr rfl () trivial (hvi (by have hok : mRestOk V x = -2 := (by unfold mRestOk; (repeat' split) <;> first | rfl | omega); unfold mRestR; rw [hok]; rfl)) (by have hok : mRestOk V x = -2 := (by unfold mRestOk; (repeat' split) <;> first | rfl | omega); unfold mRestA mRestK mRestH mRestL; rw [hok]; rfl) dX6_restore_12
set_option maxRecDepth 20000 in
theorem iX6_undo_X6 : ∀ w ∈ u_ws RX6 TX6 13, w ∈ wsX6_undo := zm_places _ [4, 5, 6, 7, 8, 9, 10, 11, 12, 13, 14, 15, 16] (by decide +kernel)
theorem kX6_undo_1 : Cond.fieldLink RX6 34 "StepPairsModel" "historyLong" "I" ∈ wsX6_undo := List.mem_of_getElem? (i := 1) rfl
theorem kX6_undo_2 : Cond.fieldLink RX6 7 "StepPairsModel" "all" "[I" ∈ wsX6_undo := List.mem_of_getElem? (i := 2) rfl
theorem kX6_undo_3 : Cond.fieldLink RX6 19 "StepPairsModel" "history" "[I" ∈ wsX6_undo := List.mem_of_getElem? (i := 3) rfl
abbrev rmX6_undo : Room := { frames := 0, cells := 0, slots := 0, locals := 0 }
set_option maxHeartbeats 4000000 in
set_option maxRecDepth 100000 in
theorem t_X6_undo (l : Launch) (D : va_G) (J : Nat → ClassId) (h : Nat) (a : Nat → Nat) (L pl sp nb dn er : Int) (A K T H S V P : Nat → Int) (hL : 0 ≤ L ∧ L ≤ 6) : ZX l yX6_undo wsX6_undo rmX6_undo D J [.ref h] (wM J h a L pl sp nb dn er A K T H S V P) (some (.int (iI (mUndoR L)))) (wM J h a (mUndoL L) pl sp nb dn er (mUndoA A H L) K T H S V P) := by
  refine z_met (cc := cX6_undo) (nL := 2) (ret := (some .int)) (own := RX6) (by decide) rfl rfl (Nat.le_of_ble_eq_true rfl) (fun p e s m args below meth c hC hr hin => ?_)
  refine z_lv0 (lv' := [(0, .ref h)]) rfl ?_
  refine z_aload_n hC dX6_undo_0 rfl 0 rfl ?_
  refine z_geti hC zkX6 iX6_undo_X6 0 rfl 4 (by decide) kX6_undo_1 rfl rfl dX6_undo_1 ?_
  refine z_int (y := iI L) hC (rfl) ?_
  refine z_if_ne (tgt := 10) hC dX6_undo_4 (by decide) (by unfold inR; omega) (fun c_4_1 => ?_) (fun c_4_1 => ?_)
  · refine z_aload_n hC dX6_undo_10 rfl 0 rfl ?_
    refine z_dup hC dX6_undo_11 rfl ?_
    refine z_geti hC zkX6 iX6_undo_X6 0 rfl 4 (by decide) kX6_undo_1 rfl rfl dX6_undo_12 ?_
    refine z_int (y := iI L) hC (rfl) ?_
    refine z_iconst hC dX6_undo_15 ?_
    refine z_isub hC dX6_undo_16 ?_
    refine z_puti (ws' := wM J h a (L - 1) pl sp nb dn er A K T H S V P) hC zkX6 iX6_undo_X6 0 rfl 4 (by decide) kX6_undo_1 rfl rfl rfl rfl rfl rfl dX6_undo_17 rfl ?_
    refine z_iconst hC dX6_undo_20 ?_
    refine z_istore_n (lv' := [(1, .int (iI 0)), (0, .ref h)]) hC dX6_undo_21 rfl (by decide) rfl ?_
    refine z_lv (lv' := [(1, .int (iI 0)), (0, .ref h)]) [0, 1] rfl ?_
    refine z_ws (ws' := wM J h a (L - 1) pl sp nb dn er (mCp (mRow H (L - 1).toNat) A 0) K T H S V P) (by rw [mCp_0]) ?_
    refine z_loop (α := Nat) (fun nn k => k + nn = 222) (fun nn k => wM J h a (L - 1) pl sp nb dn er (mCp (mRow H (L - 1).toNat) A k) K T H S V P) (fun nn k => [(1, .int (iI (k : Int))), (0, .ref h)]) 22 [] (fun nn k ih_2 hP_3 => ?_) (fun k hP_3 => ?_) 222 0 rfl
    · change Z _ _ _ _ _ _ _ _ _ _ _ _ _ _ _ _ (wM J h a (L - 1) pl sp nb dn er (mCp (mRow H (L - 1).toNat) A k) K T H S V P) ([(1, .int (iI (k : Int))), (0, .ref h)]) 22 ([])
      refine z_iload_n hC dX6_undo_22 rfl 0 rfl ?_
      refine z_sipush hC dX6_undo_23 (by decide) ?_
      refine z_icmp_ge_f (tgt := 56) hC dX6_undo_26 (by decide) (by unfold inR; omega) ⟨by decide, by decide⟩ (by omega) ?_
      refine z_aload_n hC dX6_undo_29 rfl 1 rfl ?_
      refine z_getr hC zkX6 iX6_undo_X6 0 rfl 0 (by decide) kX6_undo_2 rfl rfl dX6_undo_30 ?_
      refine z_iload_n hC dX6_undo_33 rfl 0 rfl ?_
      refine z_aload_n hC dX6_undo_34 rfl 1 rfl ?_
      refine z_getr hC zkX6 iX6_undo_X6 0 rfl 3 (by decide) kX6_undo_3 rfl rfl dX6_undo_35 ?_
      refine z_sipush hC dX6_undo_38 (by decide) ?_
      refine z_aload_n hC dX6_undo_41 rfl 1 rfl ?_
      refine z_geti hC zkX6 iX6_undo_X6 0 rfl 4 (by decide) kX6_undo_1 rfl rfl dX6_undo_42 ?_
      refine z_int (y := iI (L - 1)) hC (rfl) ?_
      refine z_imul hC dX6_undo_45 ?_
      refine z_iload_n hC dX6_undo_46 rfl 0 rfl ?_
      refine z_iadd hC dX6_undo_47 ?_
      refine z_iald hC 4 rfl 0 rfl (222 * (L - 1).toNat + k) (by omega) (by omega) (by decide) dX6_undo_48 ?_
      refine z_iast (ws' := wM J h a (L - 1) pl sp nb dn er (updZ (mCp (mRow H (L - 1).toNat) A k) k (H (222 * (L - 1).toNat + k))) K T H S V P) hC 1 rfl 0 rfl k rfl (by omega) (by decide) dX6_undo_49 rfl ?_
      refine z_iinc (lv' := [(1, .int (iI ((k : Int) + 1))), (0, .ref h)]) hC dX6_undo_50 0 rfl (by decide) rfl ?_
      refine z_goto (tgt := 22) hC dX6_undo_53 (by decide) ?_
      refine z_ws (ws' := wM J h a (L - 1) pl sp nb dn er (mCp (mRow H (L - 1).toNat) A (k + 1)) K T H S V P) (congrArg (fun z => wM J h a (L - 1) pl sp nb dn er z K T H S V P) (mCp_s (mRow H (L - 1).toNat) A k)) ?_
      refine z_lv (lv' := _) [0, 1] rfl ?_
      exact ih_2 (k + 1) (by omega)
    · change Z _ _ _ _ _ _ _ _ _ _ _ _ _ _ _ _ (wM J h a (L - 1) pl sp nb dn er (mCp (mRow H (L - 1).toNat) A k) K T H S V P) ([(1, .int (iI (k : Int))), (0, .ref h)]) 22 ([])
      refine z_arrg (g := mRow H (L - 1).toNat) (ws' := wM J h a (L - 1) pl sp nb dn er (mRow H (L - 1).toNat) K T H S V P) 1 rfl (fun j hj => if_pos (by omega)) rfl ?_
      refine z_iload_n hC dX6_undo_22 rfl 0 rfl ?_
      refine z_sipush hC dX6_undo_23 (by decide) ?_
      refine z_icmp_ge_t (tgt := 56) hC dX6_undo_26 (by decide) (by unfold inR; omega) ⟨by decide, by decide⟩ (by omega) ?_
      refine z_aload_n hC dX6_undo_56 rfl 1 rfl ?_
      refine z_geti hC zkX6 iX6_undo_X6 0 rfl 4 (by decide) kX6_undo_1 rfl rfl dX6_undo_57 ?_
      refine z_int (y := iI (L - 1)) hC (rfl) ?_
      exact z_iret hC hr rfl () trivial (hvi (by unfold mUndoR; (repeat' split) <;> first | rfl | omega)) (by unfold mUndoA mUndoL; first | rw [if_pos (by assumption), if_pos (by assumption)] | rw [if_neg (by omega), if_neg (by omega)]) dX6_undo_60
  · refine z_bipush hC dX6_undo_7 (by decide) ?_
    exact z_iret hC hr rfl () trivial (hvi (by unfold mUndoR; (repeat' split) <;> first | rfl | omega)) (by unfold mUndoA mUndoL; first | rw [if_pos (by assumption), if_pos (by assumption)] | rw [if_neg (by omega), if_neg (by omega)]) dX6_undo_9
