set_option maxRecDepth 20000 in
theorem iX6_replayed_X6 : ∀ w ∈ u_ws RX6 TX6 13, w ∈ wsX6_replayed := zm_places _ [30, 31, 32, 33, 34, 35, 36, 37, 38, 39, 40, 41, 42] (by decide +kernel)
theorem kX6_replayed_1 : Cond.fieldLink RX6 7 "StepPairsModel" "all" "[I" ∈ wsX6_replayed := List.mem_of_getElem? (i := 1) rfl
theorem kX6_replayed_2 : Cond.fieldLink RX6 16 "StepPairsModel" "tried" "[I" ∈ wsX6_replayed := List.mem_of_getElem? (i := 2) rfl
abbrev rmX6_replayed : Room := { frames := 3, cells := 0, slots := 0, locals := 67 }
set_option maxHeartbeats 4000000 in
set_option maxRecDepth 100000 in
theorem t_X6_replayed (l : Launch) (D : va_G) (J : Nat → ClassId) (h : Nat) (a : Nat → Nat) (L pl sp nb dn er : Int) (A K T H S V P : Nat → Int) (F y : Int) (hF : 1 ≤ F ∧ F ≤ 9) (hy : 0 ≤ y ∧ y ≤ 3) (hI : InvM A) : ZX l yX6_replayed wsX6_replayed rmX6_replayed D J [.ref h, .int (iI F), .int (iI y)] (wM J h a L pl sp nb dn er A K T H S V P) (some (.int (iI (mReR A F y)))) (wM J h a L pl sp nb dn er A K A H S V P) := by
  obtain ⟨m0, m1, m2, m3, m4, m5, m6, m7, m8, m9, m10, m13, m14, m15, m16, m17, m18, m19, m20, mg⟩ := id hI
  have hfr := mFresh_inv hI hF
  refine z_met (cc := cX6_replayed) (nL := 5) (ret := (some .int)) (own := RX6) (by decide) rfl rfl (Nat.le_of_ble_eq_true rfl) (fun p e s m args below meth c hC hr hin => ?_)
  refine z_lv0 (lv' := [(0, .ref h), (1, .int (iI F)), (2, .int (iI y))]) rfl ?_
  refine z_aload_n hC dX6_replayed_0 rfl 0 rfl ?_
  refine z_getr hC zkX6 iX6_replayed_X6 0 rfl 0 (by decide) kX6_replayed_1 rfl rfl dX6_replayed_1 ?_
  refine z_aload_n hC dX6_replayed_4 rfl 0 rfl ?_
  refine z_getr hC zkX6 iX6_replayed_X6 0 rfl 2 (by decide) kX6_replayed_2 rfl rfl dX6_replayed_5 ?_
  refine z_callS (wr := [cO 5 h [some (a 0), some (a 1), some (a 2), some (a 3), none, some (a 5), some (a 6), some (a 7), none, none, none, none, none] (mK L pl sp nb dn er), cI (J 0) (a 1) 222 K, cI (J 0) (a 3) 1332 H, cI (J 0) (a 5) 444 S, cI (J 0) (a 6) 2 V, cI (J 0) (a 7) 80 P]) (av := [.ref (a 0), .ref (a 2)]) (st := []) hC (t_X6_copy l D J (a 0) (a 2) A T) gX6_replayed_X6_copy rfl 2 (by decide +kernel) ⟨Nat.le_of_ble_eq_true rfl, Nat.le_of_ble_eq_true rfl⟩ ⟨Nat.le_of_ble_eq_true rfl, Nat.le_of_ble_eq_true rfl⟩ [1, 3] [0, 2, 4, 5, 6, 7] rfl rfl rfl (by decide) rfl rfl rfl (Nat.le_of_ble_eq_true rfl) dX6_replayed_8 (fun _ _ => ?_)
  refine z_perm (ws' := wM J h a L pl sp nb dn er A K A H S V P) [0, 6, 1, 7, 2, 3, 4, 5] rfl rfl ?_
  refine z_st (st' := []) rfl ?_
  refine z_aload_n hC dX6_replayed_11 rfl 0 rfl ?_
  refine z_callV (wr := ([] : va_W)) (av := []) (st := []) hC (t_X6_beginsAnew l D J h a L pl sp nb dn er A K A H S V P  ) gX6_replayed_X6_beginsAnew rfl 0 (by decide +kernel) ⟨Nat.le_of_ble_eq_true rfl, Nat.le_of_ble_eq_true rfl⟩ ⟨Nat.le_of_ble_eq_true rfl, Nat.le_of_ble_eq_true rfl⟩ [0, 1, 2, 3, 4, 5, 6, 7] [] rfl rfl rfl (by decide) rfl 0 rfl rfl rfl rfl rfl (Nat.le_of_ble_eq_true rfl) dX6_replayed_12 (fun _ _ => ?_)
  refine z_ws (ws' := wM J h a L pl sp nb dn er (mFresh A) K A H S V P) rfl ?_
  refine z_st (st' := []) rfl ?_
  refine z_aload_n hC dX6_replayed_15 rfl 0 rfl ?_
  refine z_getr hC zkX6 iX6_replayed_X6 0 rfl 0 (by decide) kX6_replayed_1 rfl rfl dX6_replayed_16 ?_
  refine z_iconst hC dX6_replayed_19 ?_
  refine z_iload_n hC dX6_replayed_20 rfl 1 rfl ?_
  refine z_iast (ws' := wM J h a L pl sp nb dn er (updZ (mFresh A) 2 F) K A H S V P) hC 1 rfl 0 rfl 2 rfl (by decide) (by decide) dX6_replayed_21 rfl ?_
  refine z_aload_n hC dX6_replayed_22 rfl 0 rfl ?_
  refine z_getr hC zkX6 iX6_replayed_X6 0 rfl 2 (by decide) kX6_replayed_2 rfl rfl dX6_replayed_23 ?_
  refine z_bipush hC dX6_replayed_26 (by decide) ?_
  refine z_iald hC 3 rfl 0 rfl 14 rfl (by decide) (by decide) dX6_replayed_28 ?_
  refine z_iconst hC dX6_replayed_29 ?_
  refine z_isub hC dX6_replayed_30 ?_
  refine z_istore_n (lv' := [(3, .int (iI ((A 14) - 1))), (0, .ref h), (1, .int (iI F)), (2, .int (iI y))]) hC dX6_replayed_31 rfl (by decide) rfl ?_
  refine z_lv (lv' := [(3, .int (iI ((A 14) - 1))), (0, .ref h), (1, .int (iI F)), (2, .int (iI y))]) [0, 1, 2, 3] rfl ?_
  refine z_lv0 (lv' := [(3, .int (iI (A 14 - 1 - ((0 : Nat) : Int)))), (0, .ref h), (1, .int (iI F)), (2, .int (iI y))]) (by rw [show A 14 - 1 - ((0 : Nat) : Int) = A 14 - 1 by omega]) ?_
  refine z_loop (α := Nat) (fun nn n => (n : Int) + (nn : Int) = A 14) (fun nn n => wM J h a L pl sp nb dn er (mRep A (updZ (mFresh A) 2 F) n) K A H S V P) (fun nn n => [(3, .int (iI (A 14 - 1 - (n : Int)))), (0, .ref h), (1, .int (iI F)), (2, .int (iI y))]) 32 [] (fun nn n ih_1 hP_2 => ?_) (fun n hP_2 => ?_) ((A 14).toNat) 0 (by show ((0 : Nat) : Int) + _ = _; omega)
  · change Z _ _ _ _ _ _ _ _ _ _ _ _ _ _ _ _ (wM J h a L pl sp nb dn er (mRep A (updZ (mFresh A) 2 F) n) K A H S V P) ([(3, .int (iI (A 14 - 1 - (n : Int)))), (0, .ref h), (1, .int (iI F)), (2, .int (iI y))]) 32 ([])
    have hlg := mg (21 + (A 14 - 1 - (n : Int)).toNat) (by omega)
    have hn := mRep_inv hI hfr.1 hfr.2 n (by omega)
    refine z_iload_n hC dX6_replayed_32 rfl 0 rfl ?_
    refine z_if_lt_f (tgt := 73) hC dX6_replayed_33 (by decide) (by unfold inR; omega) (by omega) ?_
    refine z_aload_n hC dX6_replayed_36 rfl 1 rfl ?_
    refine z_aload_n hC dX6_replayed_37 rfl 1 rfl ?_
    refine z_getr hC zkX6 iX6_replayed_X6 0 rfl 2 (by decide) kX6_replayed_2 rfl rfl dX6_replayed_38 ?_
    refine z_bipush hC dX6_replayed_41 (by decide) ?_
    refine z_iload_n hC dX6_replayed_43 rfl 0 rfl ?_
    refine z_iadd hC dX6_replayed_44 ?_
    refine z_iald hC 3 rfl 0 rfl (21 + (A 14 - 1 - (n : Int)).toNat) (by omega) (by omega) (by decide) dX6_replayed_45 ?_
    refine z_bipush hC dX6_replayed_46 (by decide) ?_
    refine z_idiv hC dX6_replayed_48 (by omega) (by omega) (by omega) (by omega) ?_
    refine z_aload_n hC dX6_replayed_49 rfl 1 rfl ?_
    refine z_getr hC zkX6 iX6_replayed_X6 0 rfl 2 (by decide) kX6_replayed_2 rfl rfl dX6_replayed_50 ?_
    refine z_bipush hC dX6_replayed_53 (by decide) ?_
    refine z_iload_n hC dX6_replayed_55 rfl 0 rfl ?_
    refine z_iadd hC dX6_replayed_56 ?_
    refine z_iald hC 3 rfl 0 rfl (21 + (A 14 - 1 - (n : Int)).toNat) (by omega) (by omega) (by decide) dX6_replayed_57 ?_
    refine z_iconst hC dX6_replayed_58 ?_
    refine z_idiv hC dX6_replayed_59 (by omega) (by omega) (by omega) (by omega) ?_
    refine z_iconst hC dX6_replayed_60 ?_
    refine z_irem hC dX6_replayed_61 (by omega) (by omega) (by omega) (by omega) ?_
    refine z_callV (wr := ([] : va_W)) (av := [.int (iI ((A (21 + (A 14 - 1 - (n : Int)).toNat)) / 8)), .int (iI (((A (21 + (A 14 - 1 - (n : Int)).toNat)) / 4) % 2))]) (st := []) hC (t_X6_ticks l D J h a L pl sp nb dn er (mRep A (updZ (mFresh A) 2 F) n) K A H S V P ((A (21 + (A 14 - 1 - (n : Int)).toNat)) / 8) (((A (21 + (A 14 - 1 - (n : Int)).toNat)) / 4) % 2) ⟨by omega, by omega⟩ ⟨by omega, by omega⟩ hn.1) gX6_replayed_X6_ticks rfl 2 (by decide +kernel) ⟨Nat.le_of_ble_eq_true rfl, Nat.le_of_ble_eq_true rfl⟩ ⟨Nat.le_of_ble_eq_true rfl, Nat.le_of_ble_eq_true rfl⟩ [0, 1, 2, 3, 4, 5, 6, 7] [] rfl rfl rfl (by decide) rfl 0 rfl rfl rfl rfl rfl (Nat.le_of_ble_eq_true rfl) dX6_replayed_62 (fun _ _ => ?_)
    refine z_ws (ws' := wM J h a L pl sp nb dn er (mTick (mRep A (updZ (mFresh A) 2 F) n) ((A (21 + (A 14 - 1 - (n : Int)).toNat)) / 8) (((A (21 + (A 14 - 1 - (n : Int)).toNat)) / 4) % 2)) K A H S V P) rfl ?_
    refine z_st (st' := [.int (iI (mStp (mDeed (mRep A (updZ (mFresh A) 2 F) n) ((A (21 + (A 14 - 1 - (n : Int)).toNat)) / 8))))]) rfl ?_
    refine z_istore (lv' := [(4, .int (iI (mStp (mDeed (mRep A (updZ (mFresh A) 2 F) n) ((A (21 + (A 14 - 1 - (n : Int)).toNat)) / 8))))), (3, .int (iI (A 14 - 1 - (n : Int)))), (0, .ref h), (1, .int (iI F)), (2, .int (iI y))]) hC dX6_replayed_65 (by decide) rfl ?_
    refine z_iinc (lv' := [(3, .int (iI ((A 14 - 1 - (n : Int)) + (-1)))), (4, .int (iI (mStp (mDeed (mRep A (updZ (mFresh A) 2 F) n) ((A (21 + (A 14 - 1 - (n : Int)).toNat)) / 8))))), (0, .ref h), (1, .int (iI F)), (2, .int (iI y))]) hC dX6_replayed_67 1 rfl (by decide) rfl ?_
    refine z_goto (tgt := 32) hC dX6_replayed_70 (by decide) ?_
    refine z_lv0 (lv' := [(3, .int (iI (A 14 - 1 - ((n + 1 : Nat) : Int)))), (4, .int (iI (mStp (mDeed (mRep A (updZ (mFresh A) 2 F) n) ((A (21 + (A 14 - 1 - (n : Int)).toNat)) / 8))))), (0, .ref h), (1, .int (iI F)), (2, .int (iI y))]) (by rw [show A 14 - 1 - ((n + 1 : Nat) : Int) = A 14 - 1 - (n : Int) + (-1) by omega]) ?_
    refine z_lv (lv' := _) [0, 2, 3, 4] rfl ?_
    exact ih_1 (n + 1) (by omega)
  · change Z _ _ _ _ _ _ _ _ _ _ _ _ _ _ _ _ (wM J h a L pl sp nb dn er (mRep A (updZ (mFresh A) 2 F) n) K A H S V P) ([(3, .int (iI (A 14 - 1 - (n : Int)))), (0, .ref h), (1, .int (iI F)), (2, .int (iI y))]) 32 ([])
    have hkn : n = (A 14).toNat := by omega
    refine z_iload_n hC dX6_replayed_32 rfl 0 rfl ?_
    refine z_if_lt_t (tgt := 73) hC dX6_replayed_33 (by decide) (by unfold inR; omega) (by omega) ?_
    refine z_iload_n hC dX6_replayed_73 rfl 3 rfl ?_
    refine z_iconst hC dX6_replayed_74 ?_
    refine z_icmp_ne (tgt := 88) hC dX6_replayed_75 (by decide) (by unfold inR; omega) ⟨by decide, by decide⟩ (fun c_75_3 => ?_) (fun c_75_3 => ?_)
    · refine z_aload_n hC dX6_replayed_88 rfl 1 rfl ?_
      refine z_getr hC zkX6 iX6_replayed_X6 0 rfl 0 (by decide) kX6_replayed_1 rfl rfl dX6_replayed_89 ?_
      refine z_bipush hC dX6_replayed_92 (by decide) ?_
      refine z_iload_n hC dX6_replayed_94 rfl 3 rfl ?_
      refine z_iadd hC dX6_replayed_95 ?_
      refine z_iald hC 1 rfl 0 rfl (Int.toNat (10 + y)) (Int.toNat_of_nonneg (by omega)).symm (by omega) (by decide) dX6_replayed_96 ?_
      refine z_istore_n (lv' := [(3, .int (iI ((mRep A (updZ (mFresh A) 2 F) n) (Int.toNat (10 + y))))), (0, .ref h), (1, .int (iI F)), (2, .int (iI y))]) hC dX6_replayed_97 rfl (by decide) rfl ?_
      refine z_aload_n hC dX6_replayed_98 rfl 1 rfl ?_
      refine z_getr hC zkX6 iX6_replayed_X6 0 rfl 2 (by decide) kX6_replayed_2 rfl rfl dX6_replayed_99 ?_
      refine z_aload_n hC dX6_replayed_102 rfl 1 rfl ?_
      refine z_getr hC zkX6 iX6_replayed_X6 0 rfl 0 (by decide) kX6_replayed_1 rfl rfl dX6_replayed_103 ?_
      refine z_callS (wr := [cO 5 h [some (a 0), some (a 1), some (a 2), some (a 3), none, some (a 5), some (a 6), some (a 7), none, none, none, none, none] (mK L pl sp nb dn er), cI (J 0) (a 1) 222 K, cI (J 0) (a 3) 1332 H, cI (J 0) (a 5) 444 S, cI (J 0) (a 6) 2 V, cI (J 0) (a 7) 80 P]) (av := [.ref (a 2), .ref (a 0)]) (st := []) hC (t_X6_copy l D J (a 2) (a 0) A (mRep A (updZ (mFresh A) 2 F) n)) gX6_replayed_X6_copy rfl 2 (by decide +kernel) ⟨Nat.le_of_ble_eq_true rfl, Nat.le_of_ble_eq_true rfl⟩ ⟨Nat.le_of_ble_eq_true rfl, Nat.le_of_ble_eq_true rfl⟩ [3, 1] [0, 2, 4, 5, 6, 7] rfl rfl rfl (by decide) rfl rfl rfl (Nat.le_of_ble_eq_true rfl) dX6_replayed_106 (fun _ _ => ?_)
      refine z_perm (ws' := wM J h a L pl sp nb dn er A K A H S V P) [0, 7, 1, 6, 2, 3, 4, 5] rfl rfl ?_
      refine z_st (st' := []) rfl ?_
      refine z_iload_n hC dX6_replayed_109 rfl 0 rfl ?_
      exact z_iret hC hr rfl () trivial (hvi (by subst hkn; unfold mReR mReA; first | rw [if_pos (by omega)] | rw [if_neg (by omega)])) (rfl) dX6_replayed_110
    · refine z_aload_n hC dX6_replayed_78 rfl 1 rfl ?_
      refine z_getr hC zkX6 iX6_replayed_X6 0 rfl 0 (by decide) kX6_replayed_1 rfl rfl dX6_replayed_79 ?_
      refine z_bipush hC dX6_replayed_82 (by decide) ?_
      refine z_iald hC 1 rfl 0 rfl 6 rfl (by decide) (by decide) dX6_replayed_84 ?_
      refine z_goto (tgt := 97) hC dX6_replayed_85 (by decide) ?_
      refine z_istore_n (lv' := [(3, .int (iI ((mRep A (updZ (mFresh A) 2 F) n) 6))), (0, .ref h), (1, .int (iI F)), (2, .int (iI y))]) hC dX6_replayed_97 rfl (by decide) rfl ?_
      refine z_aload_n hC dX6_replayed_98 rfl 1 rfl ?_
      refine z_getr hC zkX6 iX6_replayed_X6 0 rfl 2 (by decide) kX6_replayed_2 rfl rfl dX6_replayed_99 ?_
      refine z_aload_n hC dX6_replayed_102 rfl 1 rfl ?_
      refine z_getr hC zkX6 iX6_replayed_X6 0 rfl 0 (by decide) kX6_replayed_1 rfl rfl dX6_replayed_103 ?_
      refine z_callS (wr := [cO 5 h [some (a 0), some (a 1), some (a 2), some (a 3), none, some (a 5), some (a 6), some (a 7), none, none, none, none, none] (mK L pl sp nb dn er), cI (J 0) (a 1) 222 K, cI (J 0) (a 3) 1332 H, cI (J 0) (a 5) 444 S, cI (J 0) (a 6) 2 V, cI (J 0) (a 7) 80 P]) (av := [.ref (a 2), .ref (a 0)]) (st := []) hC (t_X6_copy l D J (a 2) (a 0) A (mRep A (updZ (mFresh A) 2 F) n)) gX6_replayed_X6_copy rfl 2 (by decide +kernel) ⟨Nat.le_of_ble_eq_true rfl, Nat.le_of_ble_eq_true rfl⟩ ⟨Nat.le_of_ble_eq_true rfl, Nat.le_of_ble_eq_true rfl⟩ [3, 1] [0, 2, 4, 5, 6, 7] rfl rfl rfl (by decide) rfl rfl rfl (Nat.le_of_ble_eq_true rfl) dX6_replayed_106 (fun _ _ => ?_)
      refine z_perm (ws' := wM J h a L pl sp nb dn er A K A H S V P) [0, 7, 1, 6, 2, 3, 4, 5] rfl rfl ?_
      refine z_st (st' := []) rfl ?_
      refine z_iload_n hC dX6_replayed_109 rfl 0 rfl ?_
      exact z_iret hC hr rfl () trivial (hvi (by subst hkn; unfold mReR mReA; first | rw [if_pos (by omega)] | rw [if_neg (by omega)])) (rfl) dX6_replayed_110
theorem kX6_replay_1 : Cond.constantLong RX6 64 (9) ∈ wsX6_replay := List.mem_of_getElem? (i := 1) rfl
theorem kX6_replay_2 : Cond.constantLong RX6 74 (3) ∈ wsX6_replay := List.mem_of_getElem? (i := 2) rfl
abbrev rmX6_replay : Room := { frames := 4, cells := 0, slots := 0, locals := 91 }
set_option maxHeartbeats 4000000 in
set_option maxRecDepth 100000 in
theorem t_X6_replay (l : Launch) (D : va_G) (J : Nat → ClassId) (h : Nat) (a : Nat → Nat) (L pl sp nb dn er : Int) (A K T H S V P : Nat → Int) (x y : Int) (hx : inR x) (hy : inR y) (hI : InvM A) : ZX l yX6_replay wsX6_replay rmX6_replay D J [.ref h, .int (iI x), .int (iI y)] (wM J h a L pl sp nb dn er A K T H S V P) (some (.int (iI (mReplayR A x y)))) (wM J h a L pl sp nb dn er A K (mReplayT A T x y) H S V P) := by
  unfold inR at hx hy
  refine z_met (cc := cX6_replay) (nL := 3) (ret := (some .int)) (own := RX6) (by decide) rfl rfl (Nat.le_of_ble_eq_true rfl) (fun p e s m args below meth c hC hr hin => ?_)
  refine z_lv0 (lv' := [(0, .ref h), (1, .int (iI x)), (2, .int (iI y))]) rfl ?_
  refine z_iload_n hC dX6_replay_0 rfl 1 rfl ?_
  refine z_i2l (v := lI x) hC dX6_replay_1 (iI_l (by unfold inR; omega)) ?_
  refine z_lconst (v := lI 1) hC dX6_replay_2 (by decide) ?_
  refine z_ldc2 hC kX6_replay_1 dX6_replay_3 ?_
  refine z_long (y := lI 9) hC (by decide) ?_
  refine z_callS (wr := wM J h a L pl sp nb dn er A K T H S V P) (av := [.long (lI x), .long (lI 1), .long (lI 9)]) (st := []) hC (t_X6_in l D J x 1 9 (by unfold inL; omega) (by unfold inL; omega) (by unfold inL; omega)) gX6_replay_X6_in rfl 3 (by decide +kernel) ⟨Nat.le_of_ble_eq_true rfl, Nat.le_of_ble_eq_true rfl⟩ ⟨Nat.le_of_ble_eq_true rfl, Nat.le_of_ble_eq_true rfl⟩ [] [0, 1, 2, 3, 4, 5, 6, 7] rfl rfl rfl (by decide) rfl rfl rfl (Nat.le_of_ble_eq_true rfl) dX6_replay_6 (fun _ _ => ?_)
  refine z_ws (ws' := wM J h a L pl sp nb dn er A K T H S V P) rfl ?_
  refine z_st (st' := [.int (iI (mIn x 1 9))]) rfl ?_
  have hin_1 := mIn_spec x 1 9
  refine z_if_eq (tgt := 33) hC dX6_replay_9 (by decide) (inR_01 (mIn_01 _ _ _)) (fun c_9_2 => ?_) (fun c_9_2 => ?_)
  · refine z_bipush hC dX6_replay_33 (by decide) ?_
    exact z_iret hC hr rfl () trivial (hvi (by unfold mReplayR; (repeat' split) <;> first | rfl | omega)) (congrArg (fun z => wM J h a L pl sp nb dn er A K z H S V P) (by unfold mReplayT; (repeat' split) <;> first | rfl | omega)) dX6_replay_35
  · refine z_iload_n hC dX6_replay_12 rfl 2 rfl ?_
    refine z_i2l (v := lI y) hC dX6_replay_13 (iI_l (by unfold inR; omega)) ?_
    refine z_lconst (v := lI 0) hC dX6_replay_14 (by decide) ?_
    refine z_ldc2 hC kX6_replay_2 dX6_replay_15 ?_
    refine z_long (y := lI 3) hC (by decide) ?_
    refine z_callS (wr := wM J h a L pl sp nb dn er A K T H S V P) (av := [.long (lI y), .long (lI 0), .long (lI 3)]) (st := []) hC (t_X6_in l D J y 0 3 (by unfold inL; omega) (by unfold inL; omega) (by unfold inL; omega)) gX6_replay_X6_in rfl 3 (by decide +kernel) ⟨Nat.le_of_ble_eq_true rfl, Nat.le_of_ble_eq_true rfl⟩ ⟨Nat.le_of_ble_eq_true rfl, Nat.le_of_ble_eq_true rfl⟩ [] [0, 1, 2, 3, 4, 5, 6, 7] rfl rfl rfl (by decide) rfl rfl rfl (Nat.le_of_ble_eq_true rfl) dX6_replay_18 (fun _ _ => ?_)
    refine z_ws (ws' := wM J h a L pl sp nb dn er A K T H S V P) rfl ?_
    refine z_st (st' := [.int (iI (mIn y 0 3))]) rfl ?_
    have hin_3 := mIn_spec y 0 3
    refine z_if_eq (tgt := 33) hC dX6_replay_21 (by decide) (inR_01 (mIn_01 _ _ _)) (fun c_21_4 => ?_) (fun c_21_4 => ?_)
    · refine z_bipush hC dX6_replay_33 (by decide) ?_
      exact z_iret hC hr rfl () trivial (hvi (by unfold mReplayR; (repeat' split) <;> first | rfl | omega)) (congrArg (fun z => wM J h a L pl sp nb dn er A K z H S V P) (by unfold mReplayT; (repeat' split) <;> first | rfl | omega)) dX6_replay_35
    · refine z_aload_n hC dX6_replay_24 rfl 0 rfl ?_
      refine z_iload_n hC dX6_replay_25 rfl 1 rfl ?_
      refine z_iload_n hC dX6_replay_26 rfl 2 rfl ?_
      refine z_callV (wr := ([] : va_W)) (av := [.int (iI x), .int (iI y)]) (st := []) hC (t_X6_replayed l D J h a L pl sp nb dn er A K T H S V P x y ⟨by omega, by omega⟩ ⟨by omega, by omega⟩ hI) gX6_replay_X6_replayed rfl 2 (by decide +kernel) ⟨Nat.le_of_ble_eq_true rfl, Nat.le_of_ble_eq_true rfl⟩ ⟨Nat.le_of_ble_eq_true rfl, Nat.le_of_ble_eq_true rfl⟩ [0, 1, 2, 3, 4, 5, 6, 7] [] rfl rfl rfl (by decide) rfl 0 rfl rfl rfl rfl rfl (Nat.le_of_ble_eq_true rfl) dX6_replay_27 (fun _ _ => ?_)
      refine z_ws (ws' := wM J h a L pl sp nb dn er A K A H S V P) rfl ?_
      refine z_st (st' := [.int (iI (mReR A x y))]) rfl ?_
      refine z_goto (tgt := 35) hC dX6_replay_30 (by decide) ?_
      exact z_iret hC hr rfl () trivial (hvi (by unfold mReplayR; (repeat' split) <;> first | rfl | omega)) (congrArg (fun z => wM J h a L pl sp nb dn er A K z H S V P) (by unfold mReplayT; (repeat' split) <;> first | rfl | omega)) dX6_replay_35
abbrev rmX6_bestFilter : Room := { frames := 4, cells := 0, slots := 0, locals := 91 }
set_option maxHeartbeats 4000000 in
set_option maxRecDepth 100000 in
theorem t_X6_bestFilter (l : Launch) (D : va_G) (J : Nat → ClassId) (h : Nat) (a : Nat → Nat) (L pl sp nb dn er : Int) (A K T H S V P : Nat → Int) (x : Int) (hx : inR x) (hI : InvM A) : ZX l yX6_bestFilter wsX6_bestFilter rmX6_bestFilter D J [.ref h, .int (iI x)] (wM J h a L pl sp nb dn er A K T H S V P) (some (.int (iI (mBestR A x)))) (wM J h a L pl sp nb dn er A K (mBestT A T x) H S V P) := by
  unfold inR at hx
  refine z_met (cc := cX6_bestFilter) (nL := 6) (ret := (some .int)) (own := RX6) (by decide) rfl rfl (Nat.le_of_ble_eq_true rfl) (fun p e s m args below meth c hC hr hin => ?_)
  refine z_lv0 (lv' := [(0, .ref h), (1, .int (iI x))]) rfl ?_
  refine z_iload_n hC dX6_bestFilter_0 rfl 1 rfl ?_
  refine z_i2l (v := lI x) hC dX6_bestFilter_1 (iI_l (by unfold inR; omega)) ?_
  refine z_lconst (v := lI 0) hC dX6_bestFilter_2 (by decide) ?_
  refine z_lconst (v := lI 1) hC dX6_bestFilter_3 (by decide) ?_
  refine z_callS (wr := wM J h a L pl sp nb dn er A K T H S V P) (av := [.long (lI x), .long (lI 0), .long (lI 1)]) (st := []) hC (t_X6_in l D J x 0 1 (by unfold inL; omega) (by unfold inL; omega) (by unfold inL; omega)) gX6_bestFilter_X6_in rfl 3 (by decide +kernel) ⟨Nat.le_of_ble_eq_true rfl, Nat.le_of_ble_eq_true rfl⟩ ⟨Nat.le_of_ble_eq_true rfl, Nat.le_of_ble_eq_true rfl⟩ [] [0, 1, 2, 3, 4, 5, 6, 7] rfl rfl rfl (by decide) rfl rfl rfl (Nat.le_of_ble_eq_true rfl) dX6_bestFilter_4 (fun _ _ => ?_)
  refine z_ws (ws' := wM J h a L pl sp nb dn er A K T H S V P) rfl ?_
  refine z_st (st' := [.int (iI (mIn x 0 1))]) rfl ?_
  have hin_1 := mIn_spec x 0 1
  refine z_if_ne (tgt := 13) hC dX6_bestFilter_7 (by decide) (inR_01 (mIn_01 _ _ _)) (fun c_7_2 => ?_) (fun c_7_2 => ?_)
  · refine z_iconst hC dX6_bestFilter_13 ?_
    refine z_istore_n (lv' := [(2, .int (iI 1)), (0, .ref h), (1, .int (iI x))]) hC dX6_bestFilter_14 rfl (by decide) rfl ?_
    refine z_aload_n hC dX6_bestFilter_15 rfl 1 rfl ?_
    refine z_iconst hC dX6_bestFilter_16 ?_
    refine z_iconst hC dX6_bestFilter_17 ?_
    refine z_callV (wr := ([] : va_W)) (av := [.int (iI 1), .int (iI 2)]) (st := []) hC (t_X6_replayed l D J h a L pl sp nb dn er A K T H S V P 1 2 ⟨by omega, by omega⟩ ⟨by omega, by omega⟩ hI) gX6_bestFilter_X6_replayed rfl 2 (by decide +kernel) ⟨Nat.le_of_ble_eq_true rfl, Nat.le_of_ble_eq_true rfl⟩ ⟨Nat.le_of_ble_eq_true rfl, Nat.le_of_ble_eq_true rfl⟩ [0, 1, 2, 3, 4, 5, 6, 7] [] rfl rfl rfl (by decide) rfl 0 rfl rfl rfl rfl rfl (Nat.le_of_ble_eq_true rfl) dX6_bestFilter_18 (fun _ _ => ?_)
    refine z_ws (ws' := wM J h a L pl sp nb dn er A K A H S V P) rfl ?_
    refine z_st (st' := [.int (iI (mReR A 1 2))]) rfl ?_
    refine z_istore_n (lv' := [(3, .int (iI (mReR A 1 2))), (2, .int (iI 1)), (0, .ref h), (1, .int (iI x))]) hC dX6_bestFilter_21 rfl (by decide) rfl ?_
    refine z_iconst hC dX6_bestFilter_22 ?_
    refine z_istore (lv' := [(4, .int (iI 2)), (3, .int (iI (mReR A 1 2))), (2, .int (iI 1)), (0, .ref h), (1, .int (iI x))]) hC dX6_bestFilter_23 (by decide) rfl ?_
    refine z_lv (lv' := [(4, .int (iI 2)), (3, .int (iI (mReR A 1 2))), (2, .int (iI 1)), (0, .ref h), (1, .int (iI x))]) [0, 1, 2, 3, 4] rfl ?_
    refine z_loop (α := Nat) (fun nn n => (n : Int) + (nn : Int) = 8) (fun nn n => wM J h a L pl sp nb dn er A K A H S V P) (fun nn n => [(4, .int (iI ((n : Int) + 2))), (3, .int (iI ((mBest A n).2))), (2, .int (iI ((mBest A n).1))), (0, .ref h), (1, .int (iI x))]) 25 [] (fun nn n ih_3 hP_4 => ?_) (fun n hP_4 => ?_) 8 0 (by show ((0 : Nat) : Int) + ((8 : Nat) : Int) = 8; omega)
    · change Z _ _ _ _ _ _ _ _ _ _ _ _ _ _ _ _ (wM J h a L pl sp nb dn er A K A H S V P) ([(4, .int (iI ((n : Int) + 2))), (3, .int (iI ((mBest A n).2))), (2, .int (iI ((mBest A n).1))), (0, .ref h), (1, .int (iI x))]) 25 ([])
      have hb := mBest_in hI n (by omega)
      have hr2 := mReR_in hI (F := (n : Int) + 2) (by omega)
      refine z_iload hC dX6_bestFilter_25 0 rfl ?_
      refine z_bipush hC dX6_bestFilter_27 (by decide) ?_
      refine z_icmp_ge_f (tgt := 73) hC dX6_bestFilter_29 (by decide) (by unfold inR; omega) ⟨by decide, by decide⟩ (by omega) ?_
      refine z_aload_n hC dX6_bestFilter_32 rfl 3 rfl ?_
      refine z_iload hC dX6_bestFilter_33 0 rfl ?_
      refine z_iconst hC dX6_bestFilter_35 ?_
      refine z_callV (wr := ([] : va_W)) (av := [.int (iI ((n : Int) + 2)), .int (iI 2)]) (st := []) hC (t_X6_replayed l D J h a L pl sp nb dn er A K A H S V P ((n : Int) + 2) 2 ⟨by omega, by omega⟩ ⟨by omega, by omega⟩ hI) gX6_bestFilter_X6_replayed rfl 2 (by decide +kernel) ⟨Nat.le_of_ble_eq_true rfl, Nat.le_of_ble_eq_true rfl⟩ ⟨Nat.le_of_ble_eq_true rfl, Nat.le_of_ble_eq_true rfl⟩ [0, 1, 2, 3, 4, 5, 6, 7] [] rfl rfl rfl (by decide) rfl 0 rfl rfl rfl rfl rfl (Nat.le_of_ble_eq_true rfl) dX6_bestFilter_36 (fun _ _ => ?_)
      refine z_ws (ws' := wM J h a L pl sp nb dn er A K A H S V P) rfl ?_
      refine z_st (st' := [.int (iI (mReR A ((n : Int) + 2) 2))]) rfl ?_
      refine z_istore (lv' := [(5, .int (iI (mReR A ((n : Int) + 2) 2))), (4, .int (iI ((n : Int) + 2))), (3, .int (iI ((mBest A n).2))), (2, .int (iI ((mBest A n).1))), (0, .ref h), (1, .int (iI x))]) hC dX6_bestFilter_39 (by decide) rfl ?_
      refine z_iload hC dX6_bestFilter_41 0 rfl ?_
      refine z_iload_n hC dX6_bestFilter_43 rfl 2 rfl ?_
      refine z_icmp_ge (tgt := 52) hC dX6_bestFilter_44 (by decide) (by unfold inR; omega) (by unfold inR; omega) (fun c_44_5 => ?_) (fun c_44_5 => ?_)
      · refine z_iload_n hC dX6_bestFilter_52 rfl 3 rfl ?_
        refine z_istore_n (lv' := [(2, .int (iI ((mBest A n).1))), (5, .int (iI (mReR A ((n : Int) + 2) 2))), (4, .int (iI ((n : Int) + 2))), (3, .int (iI ((mBest A n).2))), (0, .ref h), (1, .int (iI x))]) hC dX6_bestFilter_53 rfl (by decide) rfl ?_
        refine z_iload hC dX6_bestFilter_54 1 rfl ?_
        refine z_iload_n hC dX6_bestFilter_56 rfl 3 rfl ?_
        refine z_icmp_ge (tgt := 65) hC dX6_bestFilter_57 (by decide) (by unfold inR; omega) (by unfold inR; omega) (fun c_57_6 => ?_) (fun c_57_6 => ?_)
        · refine z_iload_n hC dX6_bestFilter_65 rfl 3 rfl ?_
          refine z_istore_n (lv' := [(3, .int (iI ((mBest A n).2))), (2, .int (iI ((mBest A n).1))), (5, .int (iI (mReR A ((n : Int) + 2) 2))), (4, .int (iI ((n : Int) + 2))), (0, .ref h), (1, .int (iI x))]) hC dX6_bestFilter_66 rfl (by decide) rfl ?_
          refine z_iinc (lv' := [(4, .int (iI (((n : Int) + 2) + 1))), (3, .int (iI ((mBest A n).2))), (2, .int (iI ((mBest A n).1))), (5, .int (iI (mReR A ((n : Int) + 2) 2))), (0, .ref h), (1, .int (iI x))]) hC dX6_bestFilter_67 3 rfl (by decide) rfl ?_
          refine z_goto (tgt := 25) hC dX6_bestFilter_70 (by decide) ?_
          have eb : mBest A (n + 1) = ((mBest A n).1, (mBest A n).2) := by rw [mBest_s]; (repeat' split) <;> first | rfl | omega
          refine z_lv0 (lv' := [(4, .int (iI (((n : Int) + 2) + 1))), (3, .int (iI ((mBest A (n + 1)).2))), (2, .int (iI ((mBest A (n + 1)).1))), (5, .int (iI (mReR A ((n : Int) + 2) 2))), (0, .ref h), (1, .int (iI x))]) (by rw [eb]) ?_
          refine z_lv (lv' := _) [0, 1, 2, 4, 5] rfl ?_
          exact ih_3 (n + 1) (by omega)
        · refine z_iload hC dX6_bestFilter_60 1 rfl ?_
          refine z_goto (tgt := 66) hC dX6_bestFilter_62 (by decide) ?_
          refine z_istore_n (lv' := [(3, .int (iI (mReR A ((n : Int) + 2) 2))), (2, .int (iI ((mBest A n).1))), (5, .int (iI (mReR A ((n : Int) + 2) 2))), (4, .int (iI ((n : Int) + 2))), (0, .ref h), (1, .int (iI x))]) hC dX6_bestFilter_66 rfl (by decide) rfl ?_
          refine z_iinc (lv' := [(4, .int (iI (((n : Int) + 2) + 1))), (3, .int (iI (mReR A ((n : Int) + 2) 2))), (2, .int (iI ((mBest A n).1))), (5, .int (iI (mReR A ((n : Int) + 2) 2))), (0, .ref h), (1, .int (iI x))]) hC dX6_bestFilter_67 3 rfl (by decide) rfl ?_
          refine z_goto (tgt := 25) hC dX6_bestFilter_70 (by decide) ?_
          have eb : mBest A (n + 1) = ((mBest A n).1, mReR A ((n : Int) + 2) 2) := by rw [mBest_s]; (repeat' split) <;> first | rfl | omega
          refine z_lv0 (lv' := [(4, .int (iI (((n : Int) + 2) + 1))), (3, .int (iI ((mBest A (n + 1)).2))), (2, .int (iI ((mBest A (n + 1)).1))), (5, .int (iI (mReR A ((n : Int) + 2) 2))), (0, .ref h), (1, .int (iI x))]) (by rw [eb]) ?_
          refine z_lv (lv' := _) [0, 1, 2, 4, 5] rfl ?_
          exact ih_3 (n + 1) (by omega)
      · refine z_iload hC dX6_bestFilter_47 1 rfl ?_
        refine z_goto (tgt := 53) hC dX6_bestFilter_49 (by decide) ?_
        refine z_istore_n (lv' := [(2, .int (iI ((n : Int) + 2))), (5, .int (iI (mReR A ((n : Int) + 2) 2))), (4, .int (iI ((n : Int) + 2))), (3, .int (iI ((mBest A n).2))), (0, .ref h), (1, .int (iI x))]) hC dX6_bestFilter_53 rfl (by decide) rfl ?_
        refine z_iload hC dX6_bestFilter_54 1 rfl ?_
        refine z_iload_n hC dX6_bestFilter_56 rfl 3 rfl ?_
        refine z_icmp_ge (tgt := 65) hC dX6_bestFilter_57 (by decide) (by unfold inR; omega) (by unfold inR; omega) (fun c_57_7 => ?_) (fun c_57_7 => ?_)
        · refine z_iload_n hC dX6_bestFilter_65 rfl 3 rfl ?_
          refine z_istore_n (lv' := [(3, .int (iI ((mBest A n).2))), (2, .int (iI ((n : Int) + 2))), (5, .int (iI (mReR A ((n : Int) + 2) 2))), (4, .int (iI ((n : Int) + 2))), (0, .ref h), (1, .int (iI x))]) hC dX6_bestFilter_66 rfl (by decide) rfl ?_
          refine z_iinc (lv' := [(4, .int (iI (((n : Int) + 2) + 1))), (3, .int (iI ((mBest A n).2))), (2, .int (iI ((n : Int) + 2))), (5, .int (iI (mReR A ((n : Int) + 2) 2))), (0, .ref h), (1, .int (iI x))]) hC dX6_bestFilter_67 3 rfl (by decide) rfl ?_
          refine z_goto (tgt := 25) hC dX6_bestFilter_70 (by decide) ?_
          have eb : mBest A (n + 1) = ((n : Int) + 2, (mBest A n).2) := by rw [mBest_s]; (repeat' split) <;> first | rfl | omega
          refine z_lv0 (lv' := [(4, .int (iI (((n : Int) + 2) + 1))), (3, .int (iI ((mBest A (n + 1)).2))), (2, .int (iI ((mBest A (n + 1)).1))), (5, .int (iI (mReR A ((n : Int) + 2) 2))), (0, .ref h), (1, .int (iI x))]) (by rw [eb]) ?_
          refine z_lv (lv' := _) [0, 1, 2, 4, 5] rfl ?_
          exact ih_3 (n + 1) (by omega)
        · refine z_iload hC dX6_bestFilter_60 1 rfl ?_
          refine z_goto (tgt := 66) hC dX6_bestFilter_62 (by decide) ?_
          refine z_istore_n (lv' := [(3, .int (iI (mReR A ((n : Int) + 2) 2))), (2, .int (iI ((n : Int) + 2))), (5, .int (iI (mReR A ((n : Int) + 2) 2))), (4, .int (iI ((n : Int) + 2))), (0, .ref h), (1, .int (iI x))]) hC dX6_bestFilter_66 rfl (by decide) rfl ?_
          refine z_iinc (lv' := [(4, .int (iI (((n : Int) + 2) + 1))), (3, .int (iI (mReR A ((n : Int) + 2) 2))), (2, .int (iI ((n : Int) + 2))), (5, .int (iI (mReR A ((n : Int) + 2) 2))), (0, .ref h), (1, .int (iI x))]) hC dX6_bestFilter_67 3 rfl (by decide) rfl ?_
          refine z_goto (tgt := 25) hC dX6_bestFilter_70 (by decide) ?_
          have eb : mBest A (n + 1) = ((n : Int) + 2, mReR A ((n : Int) + 2) 2) := by rw [mBest_s]; (repeat' split) <;> first | rfl | omega
          refine z_lv0 (lv' := [(4, .int (iI (((n : Int) + 2) + 1))), (3, .int (iI ((mBest A (n + 1)).2))), (2, .int (iI ((mBest A (n + 1)).1))), (5, .int (iI (mReR A ((n : Int) + 2) 2))), (0, .ref h), (1, .int (iI x))]) (by rw [eb]) ?_
          refine z_lv (lv' := _) [0, 1, 2, 4, 5] rfl ?_
          exact ih_3 (n + 1) (by omega)
    · change Z _ _ _ _ _ _ _ _ _ _ _ _ _ _ _ _ (wM J h a L pl sp nb dn er A K A H S V P) ([(4, .int (iI ((n : Int) + 2))), (3, .int (iI ((mBest A n).2))), (2, .int (iI ((mBest A n).1))), (0, .ref h), (1, .int (iI x))]) 25 ([])
      have hb := mBest_in hI n (by omega)
      have hn8 : n = 8 := by omega
      refine z_iload hC dX6_bestFilter_25 0 rfl ?_
      refine z_bipush hC dX6_bestFilter_27 (by decide) ?_
      refine z_icmp_ge_t (tgt := 73) hC dX6_bestFilter_29 (by decide) (by unfold inR; omega) ⟨by decide, by decide⟩ (by omega) ?_
      refine z_iload_n hC dX6_bestFilter_73 rfl 4 rfl ?_
      refine z_if_ne (tgt := 81) hC dX6_bestFilter_74 (by decide) (by unfold inR; omega) (fun c_74_8 => ?_) (fun c_74_8 => ?_)
      · refine z_iload_n hC dX6_bestFilter_81 rfl 1 rfl ?_
        exact z_iret hC hr rfl () trivial (hvi (by subst hn8; unfold mBestR; (repeat' split) <;> first | rfl | omega)) (congrArg (fun z => wM J h a L pl sp nb dn er A K z H S V P) (by unfold mBestT; (repeat' split) <;> first | rfl | omega)) dX6_bestFilter_82
      · refine z_iload_n hC dX6_bestFilter_77 rfl 2 rfl ?_
        refine z_goto (tgt := 82) hC dX6_bestFilter_78 (by decide) ?_
        exact z_iret hC hr rfl () trivial (hvi (by subst hn8; unfold mBestR; (repeat' split) <;> first | rfl | omega)) (congrArg (fun z => wM J h a L pl sp nb dn er A K z H S V P) (by unfold mBestT; (repeat' split) <;> first | rfl | omega)) dX6_bestFilter_82
  · refine z_bipush hC dX6_bestFilter_10 (by decide) ?_
    exact z_iret hC hr rfl () trivial (hvi (by unfold mBestR; (repeat' split) <;> first | rfl | omega)) (congrArg (fun z => wM J h a L pl sp nb dn er A K z H S V P) (by unfold mBestT; (repeat' split) <;> first | rfl | omega)) dX6_bestFilter_12
