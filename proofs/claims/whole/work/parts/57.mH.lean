theorem kX6_doTurn_1 : Cond.constantLong RX6 80 (-99) ∈ wsX6_doTurn := List.mem_of_getElem? (i := 1) rfl
theorem kX6_doTurn_2 : Cond.constantLong RX6 66 (99) ∈ wsX6_doTurn := List.mem_of_getElem? (i := 2) rfl
set_option maxRecDepth 20000 in
theorem iX6_doTurn_X6 : ∀ w ∈ u_ws RX6 TX6 13, w ∈ wsX6_doTurn := zm_places _ [31, 32, 33, 34, 35, 36, 37, 38, 39, 40, 41, 42, 43] (by decide +kernel)
theorem kX6_doTurn_3 : Cond.fieldLink RX6 7 "StepPairsModel" "all" "[I" ∈ wsX6_doTurn := List.mem_of_getElem? (i := 3) rfl
theorem kX6_doTurn_4 : Cond.constant RX6 76 (99999) ∈ wsX6_doTurn := List.mem_of_getElem? (i := 4) rfl
abbrev rmX6_doTurn : Room := { frames := 3, cells := 0, slots := 0, locals := 67 }
set_option maxHeartbeats 4000000 in
set_option maxRecDepth 100000 in
theorem t_X6_doTurn (l : Launch) (D : va_G) (J : Nat → ClassId) (h : Nat) (a : Nat → Nat) (L pl sp nb dn er : Int) (A K T H S V P : Nat → Int) (x : Int) (hx : inR x) (hI : InvM A) : ZX l yX6_doTurn wsX6_doTurn rmX6_doTurn D J [.ref h, .int (iI x)] (wM J h a L pl sp nb dn er A K T H S V P) (some (.int (iI (mTurnR A x)))) (wM J h a L pl sp nb dn er (mTurnA A x) K T H S V P) := by
  obtain ⟨m0, m1, m2, m3, m4, m5, m6, m7, m8, m9, m10, m13, m14, m15, m16, m17, m18, m19, m20, mg⟩ := id hI
  unfold inR at hx
  refine z_met (cc := cX6_doTurn) (nL := 7) (ret := (some .int)) (own := RX6) (by decide) rfl rfl (Nat.le_of_ble_eq_true rfl) (fun p e s m args below meth c hC hr hin => ?_)
  refine z_lv0 (lv' := [(0, .ref h), (1, .int (iI x))]) rfl ?_
  refine z_iload_n hC dX6_doTurn_0 rfl 1 rfl ?_
  refine z_i2l (v := lI x) hC dX6_doTurn_1 (iI_l (by unfold inR; omega)) ?_
  refine z_ldc2 hC kX6_doTurn_1 dX6_doTurn_2 ?_
  refine z_long (y := lI (-99)) hC (by decide) ?_
  refine z_ldc2 hC kX6_doTurn_2 dX6_doTurn_5 ?_
  refine z_long (y := lI 99) hC (by decide) ?_
  refine z_callS (wr := wM J h a L pl sp nb dn er A K T H S V P) (av := [.long (lI x), .long (lI (-99)), .long (lI 99)]) (st := []) hC (t_X6_in l D J x (-99) 99 (by unfold inL; omega) (by unfold inL; omega) (by unfold inL; omega)) gX6_doTurn_X6_in rfl 3 (by decide +kernel) ⟨Nat.le_of_ble_eq_true rfl, Nat.le_of_ble_eq_true rfl⟩ ⟨Nat.le_of_ble_eq_true rfl, Nat.le_of_ble_eq_true rfl⟩ [] [0, 1, 2, 3, 4, 5, 6, 7] rfl rfl rfl (by decide) rfl rfl rfl (Nat.le_of_ble_eq_true rfl) dX6_doTurn_8 (fun _ _ => ?_)
  refine z_ws (ws' := wM J h a L pl sp nb dn er A K T H S V P) rfl ?_
  refine z_st (st' := [.int (iI (mIn x (-99) 99))]) rfl ?_
  have hin_1 := mIn_spec x (-99) 99
  refine z_if_eq (tgt := 18) hC dX6_doTurn_11 (by decide) (inR_01 (mIn_01 _ _ _)) (fun c_11_2 => ?_) (fun c_11_2 => ?_)
  · refine z_bipush hC dX6_doTurn_18 (by decide) ?_
    exact z_iret hC hr rfl () trivial (hvi (by have hok : mTurnOk A x = -2 := (by unfold mTurnOk; (repeat' split) <;> first | rfl | omega); unfold mTurnR; rw [hok]; rfl)) (congrArg (fun z => wM J h a L pl sp nb dn er z K T H S V P) (by have hok : mTurnOk A x = -2 := (by unfold mTurnOk; (repeat' split) <;> first | rfl | omega); unfold mTurnA; rw [hok]; rfl)) dX6_doTurn_20
  · refine z_iload_n hC dX6_doTurn_14 rfl 1 rfl ?_
    refine z_if_ne (tgt := 21) hC dX6_doTurn_15 (by decide) (by unfold inR; omega) (fun c_15_3 => ?_) (fun c_15_3 => ?_)
    · refine z_iload_n hC dX6_doTurn_21 rfl 1 rfl ?_
      refine z_if_ge (tgt := 30) hC dX6_doTurn_22 (by decide) (by unfold inR; omega) (fun c_22_4 => ?_) (fun c_22_4 => ?_)
      · refine z_iload_n hC dX6_doTurn_30 rfl 1 rfl ?_
        refine z_istore_n (lv' := [(2, .int (iI x)), (0, .ref h), (1, .int (iI x))]) hC dX6_doTurn_31 rfl (by decide) rfl ?_
        refine z_aload_n hC dX6_doTurn_32 rfl 1 rfl ?_
        refine z_getr hC zkX6 iX6_doTurn_X6 0 rfl 0 (by decide) kX6_doTurn_3 rfl rfl dX6_doTurn_33 ?_
        refine z_iconst hC dX6_doTurn_36 ?_
        refine z_iald hC 1 rfl 0 rfl 5 rfl (by decide) (by decide) dX6_doTurn_37 ?_
        refine z_iload_n hC dX6_doTurn_38 rfl 0 rfl ?_
        refine z_aload_n hC dX6_doTurn_39 rfl 1 rfl ?_
        refine z_getr hC zkX6 iX6_doTurn_X6 0 rfl 0 (by decide) kX6_doTurn_3 rfl rfl dX6_doTurn_40 ?_
        refine z_iconst hC dX6_doTurn_43 ?_
        refine z_iald hC 1 rfl 0 rfl 2 rfl (by decide) (by decide) dX6_doTurn_44 ?_
        have hmul := mul99 (n := x) (a := A 2) ⟨by omega, by omega⟩ m2
        refine z_imul hC dX6_doTurn_45 ?_
        refine z_iadd hC dX6_doTurn_46 ?_
        refine z_ldc hC 99999 kX6_doTurn_4 dX6_doTurn_47 (by decide) ?_
        refine z_icmp_le (tgt := 55) hC dX6_doTurn_49 (by decide) (by unfold inR; omega) ⟨by decide, by decide⟩ (fun c_49_5 => ?_) (fun c_49_5 => ?_)
        · refine z_iconst hC dX6_doTurn_55 ?_
          refine z_istore_n (lv' := [(3, .int (iI 0)), (2, .int (iI x)), (0, .ref h), (1, .int (iI x))]) hC dX6_doTurn_56 rfl (by decide) rfl ?_
          refine z_lv (lv' := [(3, .int (iI 0)), (2, .int (iI x)), (1, .int (iI x)), (0, .ref h)]) [0, 1, 3, 2] rfl ?_
          refine z_loop (α := Nat) (fun nn k => (k : Int) + (nn : Int) = x) (fun nn k => wM J h a L pl sp nb dn er (mTurns A 1 k) K T H S V P) (fun nn k => [(3, .int (iI (k : Int))), (2, .int (iI x)), (1, .int (iI x)), (0, .ref h)]) 57 [] (fun nn k ih_6 hP_7 => ?_) (fun k hP_7 => ?_) ((x).toNat) 0 (by show ((0 : Nat) : Int) + _ = _; omega)
          · change Z _ _ _ _ _ _ _ _ _ _ _ _ _ _ _ _ (wM J h a L pl sp nb dn er (mTurns A 1 k) K T H S V P) ([(3, .int (iI (k : Int))), (2, .int (iI x)), (1, .int (iI x)), (0, .ref h)]) 57 ([])
            have hroom := turn_room (k := k) (n := x) (F := A 2) (B := 99999 - A 5) (by omega) (by omega) (by omega)
            have ht := mTurns_inv (w := 1) hI k (by omega)
            have ht8 : 0 ≤ mTurns A 1 k 8 ∧ mTurns A 1 k 8 ≤ 3 := (invM_iff.mp ht.1).1.2.2.2.2.2.2.2.2.1
            have ht5 := ht.2.1
            have ht2 := ht.2.2
            refine z_iload_n hC dX6_doTurn_57 rfl 0 rfl ?_
            refine z_iload_n hC dX6_doTurn_58 rfl 1 rfl ?_
            refine z_icmp_ge_f (tgt := 124) hC dX6_doTurn_59 (by decide) (by unfold inR; omega) (by unfold inR; omega) (by omega) ?_
            refine z_aload_n hC dX6_doTurn_62 rfl 3 rfl ?_
            refine z_getr hC zkX6 iX6_doTurn_X6 0 rfl 0 (by decide) kX6_doTurn_3 rfl rfl dX6_doTurn_63 ?_
            refine z_bipush hC dX6_doTurn_66 (by decide) ?_
            refine z_iald hC 1 rfl 0 rfl 8 rfl (by decide) (by decide) dX6_doTurn_68 ?_
            refine z_callS (wr := wM J h a L pl sp nb dn er (mTurns A 1 k) K T H S V P) (av := [.int (iI ((mTurns A 1 k) 8))]) (st := []) hC (t_X6_orderOf l D J ((mTurns A 1 k) 8) ht8) gX6_doTurn_X6_orderOf rfl 1 (by decide +kernel) ⟨Nat.le_of_ble_eq_true rfl, Nat.le_of_ble_eq_true rfl⟩ ⟨Nat.le_of_ble_eq_true rfl, Nat.le_of_ble_eq_true rfl⟩ [] [0, 1, 2, 3, 4, 5, 6, 7] rfl rfl rfl (by decide) rfl rfl rfl (Nat.le_of_ble_eq_true rfl) dX6_doTurn_69 (fun _ _ => ?_)
            refine z_ws (ws' := wM J h a L pl sp nb dn er (mTurns A 1 k) K T H S V P) rfl ?_
            refine z_st (st' := [.int (iI (mOrd ((mTurns A 1 k) 8)))]) rfl ?_
            have ho_8 := mOrd_in (q := (mTurns A 1 k) 8) ht8
            refine z_iload_n hC dX6_doTurn_72 rfl 2 rfl ?_
            refine z_if_ge_t (tgt := 80) hC dX6_doTurn_73 (by decide) (by unfold inR; omega) (by omega) ?_
            refine z_iconst hC dX6_doTurn_80 ?_
            refine z_iadd hC dX6_doTurn_81 ?_
            refine z_iconst hC dX6_doTurn_82 ?_
            refine z_irem hC dX6_doTurn_83 (by omega) (by omega) (by omega) (by omega) ?_
            refine z_callS (wr := wM J h a L pl sp nb dn er (mTurns A 1 k) K T H S V P) (av := [.int (iI (((mOrd ((mTurns A 1 k) 8)) + 1) % 4))]) (st := []) hC (t_X6_pairAt l D J (((mOrd ((mTurns A 1 k) 8)) + 1) % 4) (by omega)) gX6_doTurn_X6_pairAt rfl 1 (by decide +kernel) ⟨Nat.le_of_ble_eq_true rfl, Nat.le_of_ble_eq_true rfl⟩ ⟨Nat.le_of_ble_eq_true rfl, Nat.le_of_ble_eq_true rfl⟩ [] [0, 1, 2, 3, 4, 5, 6, 7] rfl rfl rfl (by decide) rfl rfl rfl (Nat.le_of_ble_eq_true rfl) dX6_doTurn_84 (fun _ _ => ?_)
            refine z_ws (ws' := wM J h a L pl sp nb dn er (mTurns A 1 k) K T H S V P) rfl ?_
            refine z_st (st' := [.int (iI (mOrd (((mOrd ((mTurns A 1 k) 8)) + 1) % 4)))]) rfl ?_
            have ho_9 := mOrd_in (q := ((mOrd ((mTurns A 1 k) 8)) + 1) % 4) (by omega)
            generalize hpr : mOrd (((mOrd ((mTurns A 1 k) 8)) + 1) % 4) = pr at *
            have hpri : 0 ≤ pr ∧ pr ≤ 3 := by omega
            refine z_istore (lv' := [(4, .int (iI pr)), (3, .int (iI (k : Int))), (2, .int (iI x)), (1, .int (iI x)), (0, .ref h)]) hC dX6_doTurn_87 (by decide) rfl ?_
            refine z_iconst hC dX6_doTurn_89 ?_
            refine z_istore (lv' := [(5, .int (iI 0)), (4, .int (iI pr)), (3, .int (iI (k : Int))), (2, .int (iI x)), (1, .int (iI x)), (0, .ref h)]) hC dX6_doTurn_90 (by decide) rfl ?_
            refine z_lv (lv' := [(5, .int (iI 0)), (4, .int (iI pr)), (3, .int (iI (k : Int))), (2, .int (iI x)), (1, .int (iI x)), (0, .ref h)]) [0, 1, 2, 3, 4, 5] rfl ?_
            refine z_loop (α := Nat) (fun nn j => (j : Int) + (nn : Int) = A 2) (fun nn j => wM J h a L pl sp nb dn er (mTicks (mTurns A 1 k) pr 0 j) K T H S V P) (fun nn j => [(5, .int (iI (j : Int))), (4, .int (iI pr)), (3, .int (iI (k : Int))), (2, .int (iI x)), (1, .int (iI x)), (0, .ref h)]) 92 [] (fun nn j ih_10 hP_11 => ?_) (fun j hP_11 => ?_) ((A 2).toNat) 0 (by show ((0 : Nat) : Int) + _ = _; omega)
            · change Z _ _ _ _ _ _ _ _ _ _ _ _ _ _ _ _ (wM J h a L pl sp nb dn er (mTicks (mTurns A 1 k) pr 0 j) K T H S V P) ([(5, .int (iI (j : Int))), (4, .int (iI pr)), (3, .int (iI (k : Int))), (2, .int (iI x)), (1, .int (iI x)), (0, .ref h)]) 92 ([])
              have hj := mTicks_inv ht.1 (q := pr) (i := 0) hpri (by omega) j (by omega)
              have hj5 := hj.2.1
              have hj2 := hj.2.2
              refine z_iload hC dX6_doTurn_92 0 rfl ?_
              refine z_aload_n hC dX6_doTurn_94 rfl 5 rfl ?_
              refine z_getr hC zkX6 iX6_doTurn_X6 0 rfl 0 (by decide) kX6_doTurn_3 rfl rfl dX6_doTurn_95 ?_
              refine z_iconst hC dX6_doTurn_98 ?_
              refine z_iald hC 1 rfl 0 rfl 2 rfl (by decide) (by decide) dX6_doTurn_99 ?_
              refine z_icmp_ge_f (tgt := 118) hC dX6_doTurn_100 (by decide) (by unfold inR; omega) (by unfold inR; omega) (by omega) ?_
              refine z_aload_n hC dX6_doTurn_103 rfl 5 rfl ?_
              refine z_iload hC dX6_doTurn_104 1 rfl ?_
              refine z_iconst hC dX6_doTurn_106 ?_
              refine z_callV (wr := ([] : va_W)) (av := [.int (iI pr), .int (iI 0)]) (st := []) hC (t_X6_ticks l D J h a L pl sp nb dn er (mTicks (mTurns A 1 k) pr 0 j) K T H S V P pr 0 hpri (by omega) hj.1) gX6_doTurn_X6_ticks rfl 2 (by decide +kernel) ⟨Nat.le_of_ble_eq_true rfl, Nat.le_of_ble_eq_true rfl⟩ ⟨Nat.le_of_ble_eq_true rfl, Nat.le_of_ble_eq_true rfl⟩ [0, 1, 2, 3, 4, 5, 6, 7] [] rfl rfl rfl (by decide) rfl 0 rfl rfl rfl rfl rfl (Nat.le_of_ble_eq_true rfl) dX6_doTurn_107 (fun _ _ => ?_)
              refine z_ws (ws' := wM J h a L pl sp nb dn er (mTick (mTicks (mTurns A 1 k) pr 0 j) pr 0) K T H S V P) rfl ?_
              refine z_st (st' := [.int (iI (mStp (mDeed (mTicks (mTurns A 1 k) pr 0 j) pr)))]) rfl ?_
              refine z_istore (lv' := [(6, .int (iI (mStp (mDeed (mTicks (mTurns A 1 k) pr 0 j) pr)))), (5, .int (iI (j : Int))), (4, .int (iI pr)), (3, .int (iI (k : Int))), (2, .int (iI x)), (1, .int (iI x)), (0, .ref h)]) hC dX6_doTurn_110 (by decide) rfl ?_
              refine z_iinc (lv' := [(5, .int (iI ((j : Int) + 1))), (6, .int (iI (mStp (mDeed (mTicks (mTurns A 1 k) pr 0 j) pr)))), (4, .int (iI pr)), (3, .int (iI (k : Int))), (2, .int (iI x)), (1, .int (iI x)), (0, .ref h)]) hC dX6_doTurn_112 1 rfl (by decide) rfl ?_
              refine z_goto (tgt := 92) hC dX6_doTurn_115 (by decide) ?_
              refine z_lv (lv' := _) [0, 2, 3, 4, 5, 6] rfl ?_
              exact ih_10 (j + 1) (by omega)
            · change Z _ _ _ _ _ _ _ _ _ _ _ _ _ _ _ _ (wM J h a L pl sp nb dn er (mTicks (mTurns A 1 k) pr 0 j) K T H S V P) ([(5, .int (iI (j : Int))), (4, .int (iI pr)), (3, .int (iI (k : Int))), (2, .int (iI x)), (1, .int (iI x)), (0, .ref h)]) 92 ([])
              have hj := mTicks_inv ht.1 (q := pr) (i := 0) hpri (by omega) j (by omega)
              have hj5 := hj.2.1
              have hj2 := hj.2.2
              have hjn : j = (A 2).toNat := by omega
              refine z_iload hC dX6_doTurn_92 0 rfl ?_
              refine z_aload_n hC dX6_doTurn_94 rfl 5 rfl ?_
              refine z_getr hC zkX6 iX6_doTurn_X6 0 rfl 0 (by decide) kX6_doTurn_3 rfl rfl dX6_doTurn_95 ?_
              refine z_iconst hC dX6_doTurn_98 ?_
              refine z_iald hC 1 rfl 0 rfl 2 rfl (by decide) (by decide) dX6_doTurn_99 ?_
              refine z_icmp_ge_t (tgt := 118) hC dX6_doTurn_100 (by decide) (by unfold inR; omega) (by unfold inR; omega) (by omega) ?_
              refine z_iinc (lv' := [(3, .int (iI ((k : Int) + 1))), (5, .int (iI (j : Int))), (4, .int (iI pr)), (2, .int (iI x)), (1, .int (iI x)), (0, .ref h)]) hC dX6_doTurn_118 2 rfl (by decide) rfl ?_
              refine z_goto (tgt := 57) hC dX6_doTurn_121 (by decide) ?_
              refine z_ws (ws' := wM J h a L pl sp nb dn er (mTurns A 1 (k + 1)) K T H S V P) (by rw [← hpr, hjn]; rfl) ?_
              refine z_lv (lv' := _) [0, 3, 4, 5] rfl ?_
              exact ih_6 (k + 1) (by omega)
          · change Z _ _ _ _ _ _ _ _ _ _ _ _ _ _ _ _ (wM J h a L pl sp nb dn er (mTurns A 1 k) K T H S V P) ([(3, .int (iI (k : Int))), (2, .int (iI x)), (1, .int (iI x)), (0, .ref h)]) 57 ([])
            have hkn : k = (x).toNat := by omega
            refine z_iload_n hC dX6_doTurn_57 rfl 0 rfl ?_
            refine z_iload_n hC dX6_doTurn_58 rfl 1 rfl ?_
            refine z_icmp_ge_t (tgt := 124) hC dX6_doTurn_59 (by decide) (by unfold inR; omega) (by unfold inR; omega) (by omega) ?_
            refine z_aload_n hC dX6_doTurn_124 rfl 3 rfl ?_
            refine z_getr hC zkX6 iX6_doTurn_X6 0 rfl 0 (by decide) kX6_doTurn_3 rfl rfl dX6_doTurn_125 ?_
            refine z_bipush hC dX6_doTurn_128 (by decide) ?_
            refine z_iald hC 1 rfl 0 rfl 6 rfl (by decide) (by decide) dX6_doTurn_130 ?_
            exact z_iret hC hr rfl () trivial (hvi (by have hmx : mMany x = x := (by unfold mMany; rw [if_neg (by omega)]); have hok : mTurnOk A x = 0 := (by unfold mTurnOk; rw [hmx, if_neg (by omega), if_neg (by omega), if_neg (by omega)]); unfold mTurnR; rw [hok, if_pos rfl, hmx, ← hkn, show mWay x = 1 from (by unfold mWay; rw [if_neg (by omega)])])) (congrArg (fun z => wM J h a L pl sp nb dn er z K T H S V P) (by have hmx : mMany x = x := (by unfold mMany; rw [if_neg (by omega)]); have hok : mTurnOk A x = 0 := (by unfold mTurnOk; rw [hmx, if_neg (by omega), if_neg (by omega), if_neg (by omega)]); unfold mTurnA; rw [hok, if_pos rfl, hmx, ← hkn, show mWay x = 1 from (by unfold mWay; rw [if_neg (by omega)])])) dX6_doTurn_131
        · refine z_bipush hC dX6_doTurn_52 (by decide) ?_
          exact z_iret hC hr rfl () trivial (hvi (by have hmx : mMany x = x := (by unfold mMany; rw [if_neg (by omega)]); have hok : mTurnOk A x = -5 := (by unfold mTurnOk; rw [hmx, if_neg (by omega), if_neg (by omega), if_pos (by omega)]); unfold mTurnR; rw [hok]; rfl)) (congrArg (fun z => wM J h a L pl sp nb dn er z K T H S V P) (by have hmx : mMany x = x := (by unfold mMany; rw [if_neg (by omega)]); have hok : mTurnOk A x = -5 := (by unfold mTurnOk; rw [hmx, if_neg (by omega), if_neg (by omega), if_pos (by omega)]); unfold mTurnA; rw [hok]; rfl)) dX6_doTurn_54
      · refine z_iload_n hC dX6_doTurn_25 rfl 1 rfl ?_
        refine z_ineg hC dX6_doTurn_26 ?_
        refine z_goto (tgt := 31) hC dX6_doTurn_27 (by decide) ?_
        refine z_istore_n (lv' := [(2, .int (iI (-x))), (0, .ref h), (1, .int (iI x))]) hC dX6_doTurn_31 rfl (by decide) rfl ?_
        refine z_aload_n hC dX6_doTurn_32 rfl 1 rfl ?_
        refine z_getr hC zkX6 iX6_doTurn_X6 0 rfl 0 (by decide) kX6_doTurn_3 rfl rfl dX6_doTurn_33 ?_
        refine z_iconst hC dX6_doTurn_36 ?_
        refine z_iald hC 1 rfl 0 rfl 5 rfl (by decide) (by decide) dX6_doTurn_37 ?_
        refine z_iload_n hC dX6_doTurn_38 rfl 0 rfl ?_
        refine z_aload_n hC dX6_doTurn_39 rfl 1 rfl ?_
        refine z_getr hC zkX6 iX6_doTurn_X6 0 rfl 0 (by decide) kX6_doTurn_3 rfl rfl dX6_doTurn_40 ?_
        refine z_iconst hC dX6_doTurn_43 ?_
        refine z_iald hC 1 rfl 0 rfl 2 rfl (by decide) (by decide) dX6_doTurn_44 ?_
        have hmul := mul99 (n := (-x)) (a := A 2) ⟨by omega, by omega⟩ m2
        refine z_imul hC dX6_doTurn_45 ?_
        refine z_iadd hC dX6_doTurn_46 ?_
        refine z_ldc hC 99999 kX6_doTurn_4 dX6_doTurn_47 (by decide) ?_
        refine z_icmp_le (tgt := 55) hC dX6_doTurn_49 (by decide) (by unfold inR; omega) ⟨by decide, by decide⟩ (fun c_49_12 => ?_) (fun c_49_12 => ?_)
        · refine z_iconst hC dX6_doTurn_55 ?_
          refine z_istore_n (lv' := [(3, .int (iI 0)), (2, .int (iI (-x))), (0, .ref h), (1, .int (iI x))]) hC dX6_doTurn_56 rfl (by decide) rfl ?_
          refine z_lv (lv' := [(3, .int (iI 0)), (2, .int (iI (-x))), (1, .int (iI x)), (0, .ref h)]) [0, 1, 3, 2] rfl ?_
          refine z_loop (α := Nat) (fun nn k => (k : Int) + (nn : Int) = (-x)) (fun nn k => wM J h a L pl sp nb dn er (mTurns A 3 k) K T H S V P) (fun nn k => [(3, .int (iI (k : Int))), (2, .int (iI (-x))), (1, .int (iI x)), (0, .ref h)]) 57 [] (fun nn k ih_13 hP_14 => ?_) (fun k hP_14 => ?_) (((-x)).toNat) 0 (by show ((0 : Nat) : Int) + _ = _; omega)
          · change Z _ _ _ _ _ _ _ _ _ _ _ _ _ _ _ _ (wM J h a L pl sp nb dn er (mTurns A 3 k) K T H S V P) ([(3, .int (iI (k : Int))), (2, .int (iI (-x))), (1, .int (iI x)), (0, .ref h)]) 57 ([])
            have hroom := turn_room (k := k) (n := (-x)) (F := A 2) (B := 99999 - A 5) (by omega) (by omega) (by omega)
            have ht := mTurns_inv (w := 3) hI k (by omega)
            have ht8 : 0 ≤ mTurns A 3 k 8 ∧ mTurns A 3 k 8 ≤ 3 := (invM_iff.mp ht.1).1.2.2.2.2.2.2.2.2.1
            have ht5 := ht.2.1
            have ht2 := ht.2.2
            refine z_iload_n hC dX6_doTurn_57 rfl 0 rfl ?_
            refine z_iload_n hC dX6_doTurn_58 rfl 1 rfl ?_
            refine z_icmp_ge_f (tgt := 124) hC dX6_doTurn_59 (by decide) (by unfold inR; omega) (by unfold inR; omega) (by omega) ?_
            refine z_aload_n hC dX6_doTurn_62 rfl 3 rfl ?_
            refine z_getr hC zkX6 iX6_doTurn_X6 0 rfl 0 (by decide) kX6_doTurn_3 rfl rfl dX6_doTurn_63 ?_
            refine z_bipush hC dX6_doTurn_66 (by decide) ?_
            refine z_iald hC 1 rfl 0 rfl 8 rfl (by decide) (by decide) dX6_doTurn_68 ?_
            refine z_callS (wr := wM J h a L pl sp nb dn er (mTurns A 3 k) K T H S V P) (av := [.int (iI ((mTurns A 3 k) 8))]) (st := []) hC (t_X6_orderOf l D J ((mTurns A 3 k) 8) ht8) gX6_doTurn_X6_orderOf rfl 1 (by decide +kernel) ⟨Nat.le_of_ble_eq_true rfl, Nat.le_of_ble_eq_true rfl⟩ ⟨Nat.le_of_ble_eq_true rfl, Nat.le_of_ble_eq_true rfl⟩ [] [0, 1, 2, 3, 4, 5, 6, 7] rfl rfl rfl (by decide) rfl rfl rfl (Nat.le_of_ble_eq_true rfl) dX6_doTurn_69 (fun _ _ => ?_)
            refine z_ws (ws' := wM J h a L pl sp nb dn er (mTurns A 3 k) K T H S V P) rfl ?_
            refine z_st (st' := [.int (iI (mOrd ((mTurns A 3 k) 8)))]) rfl ?_
            have ho_15 := mOrd_in (q := (mTurns A 3 k) 8) ht8
            refine z_iload_n hC dX6_doTurn_72 rfl 2 rfl ?_
            refine z_if_ge_f (tgt := 80) hC dX6_doTurn_73 (by decide) (by unfold inR; omega) (by omega) ?_
            refine z_iconst hC dX6_doTurn_76 ?_
            refine z_goto (tgt := 81) hC dX6_doTurn_77 (by decide) ?_
            refine z_iadd hC dX6_doTurn_81 ?_
            refine z_iconst hC dX6_doTurn_82 ?_
            refine z_irem hC dX6_doTurn_83 (by omega) (by omega) (by omega) (by omega) ?_
            refine z_callS (wr := wM J h a L pl sp nb dn er (mTurns A 3 k) K T H S V P) (av := [.int (iI (((mOrd ((mTurns A 3 k) 8)) + 3) % 4))]) (st := []) hC (t_X6_pairAt l D J (((mOrd ((mTurns A 3 k) 8)) + 3) % 4) (by omega)) gX6_doTurn_X6_pairAt rfl 1 (by decide +kernel) ⟨Nat.le_of_ble_eq_true rfl, Nat.le_of_ble_eq_true rfl⟩ ⟨Nat.le_of_ble_eq_true rfl, Nat.le_of_ble_eq_true rfl⟩ [] [0, 1, 2, 3, 4, 5, 6, 7] rfl rfl rfl (by decide) rfl rfl rfl (Nat.le_of_ble_eq_true rfl) dX6_doTurn_84 (fun _ _ => ?_)
            refine z_ws (ws' := wM J h a L pl sp nb dn er (mTurns A 3 k) K T H S V P) rfl ?_
            refine z_st (st' := [.int (iI (mOrd (((mOrd ((mTurns A 3 k) 8)) + 3) % 4)))]) rfl ?_
            have ho_16 := mOrd_in (q := ((mOrd ((mTurns A 3 k) 8)) + 3) % 4) (by omega)
            generalize hpr : mOrd (((mOrd ((mTurns A 3 k) 8)) + 3) % 4) = pr at *
            have hpri : 0 ≤ pr ∧ pr ≤ 3 := by omega
            refine z_istore (lv' := [(4, .int (iI pr)), (3, .int (iI (k : Int))), (2, .int (iI (-x))), (1, .int (iI x)), (0, .ref h)]) hC dX6_doTurn_87 (by decide) rfl ?_
            refine z_iconst hC dX6_doTurn_89 ?_
            refine z_istore (lv' := [(5, .int (iI 0)), (4, .int (iI pr)), (3, .int (iI (k : Int))), (2, .int (iI (-x))), (1, .int (iI x)), (0, .ref h)]) hC dX6_doTurn_90 (by decide) rfl ?_
            refine z_lv (lv' := [(5, .int (iI 0)), (4, .int (iI pr)), (3, .int (iI (k : Int))), (2, .int (iI (-x))), (1, .int (iI x)), (0, .ref h)]) [0, 1, 2, 3, 4, 5] rfl ?_
            refine z_loop (α := Nat) (fun nn j => (j : Int) + (nn : Int) = A 2) (fun nn j => wM J h a L pl sp nb dn er (mTicks (mTurns A 3 k) pr 0 j) K T H S V P) (fun nn j => [(5, .int (iI (j : Int))), (4, .int (iI pr)), (3, .int (iI (k : Int))), (2, .int (iI (-x))), (1, .int (iI x)), (0, .ref h)]) 92 [] (fun nn j ih_17 hP_18 => ?_) (fun j hP_18 => ?_) ((A 2).toNat) 0 (by show ((0 : Nat) : Int) + _ = _; omega)
            · change Z _ _ _ _ _ _ _ _ _ _ _ _ _ _ _ _ (wM J h a L pl sp nb dn er (mTicks (mTurns A 3 k) pr 0 j) K T H S V P) ([(5, .int (iI (j : Int))), (4, .int (iI pr)), (3, .int (iI (k : Int))), (2, .int (iI (-x))), (1, .int (iI x)), (0, .ref h)]) 92 ([])
              have hj := mTicks_inv ht.1 (q := pr) (i := 0) hpri (by omega) j (by omega)
              have hj5 := hj.2.1
              have hj2 := hj.2.2
              refine z_iload hC dX6_doTurn_92 0 rfl ?_
              refine z_aload_n hC dX6_doTurn_94 rfl 5 rfl ?_
              refine z_getr hC zkX6 iX6_doTurn_X6 0 rfl 0 (by decide) kX6_doTurn_3 rfl rfl dX6_doTurn_95 ?_
              refine z_iconst hC dX6_doTurn_98 ?_
              refine z_iald hC 1 rfl 0 rfl 2 rfl (by decide) (by decide) dX6_doTurn_99 ?_
              refine z_icmp_ge_f (tgt := 118) hC dX6_doTurn_100 (by decide) (by unfold inR; omega) (by unfold inR; omega) (by omega) ?_
              refine z_aload_n hC dX6_doTurn_103 rfl 5 rfl ?_
              refine z_iload hC dX6_doTurn_104 1 rfl ?_
              refine z_iconst hC dX6_doTurn_106 ?_
              refine z_callV (wr := ([] : va_W)) (av := [.int (iI pr), .int (iI 0)]) (st := []) hC (t_X6_ticks l D J h a L pl sp nb dn er (mTicks (mTurns A 3 k) pr 0 j) K T H S V P pr 0 hpri (by omega) hj.1) gX6_doTurn_X6_ticks rfl 2 (by decide +kernel) ⟨Nat.le_of_ble_eq_true rfl, Nat.le_of_ble_eq_true rfl⟩ ⟨Nat.le_of_ble_eq_true rfl, Nat.le_of_ble_eq_true rfl⟩ [0, 1, 2, 3, 4, 5, 6, 7] [] rfl rfl rfl (by decide) rfl 0 rfl rfl rfl rfl rfl (Nat.le_of_ble_eq_true rfl) dX6_doTurn_107 (fun _ _ => ?_)
              refine z_ws (ws' := wM J h a L pl sp nb dn er (mTick (mTicks (mTurns A 3 k) pr 0 j) pr 0) K T H S V P) rfl ?_
              refine z_st (st' := [.int (iI (mStp (mDeed (mTicks (mTurns A 3 k) pr 0 j) pr)))]) rfl ?_
              refine z_istore (lv' := [(6, .int (iI (mStp (mDeed (mTicks (mTurns A 3 k) pr 0 j) pr)))), (5, .int (iI (j : Int))), (4, .int (iI pr)), (3, .int (iI (k : Int))), (2, .int (iI (-x))), (1, .int (iI x)), (0, .ref h)]) hC dX6_doTurn_110 (by decide) rfl ?_
              refine z_iinc (lv' := [(5, .int (iI ((j : Int) + 1))), (6, .int (iI (mStp (mDeed (mTicks (mTurns A 3 k) pr 0 j) pr)))), (4, .int (iI pr)), (3, .int (iI (k : Int))), (2, .int (iI (-x))), (1, .int (iI x)), (0, .ref h)]) hC dX6_doTurn_112 1 rfl (by decide) rfl ?_
              refine z_goto (tgt := 92) hC dX6_doTurn_115 (by decide) ?_
              refine z_lv (lv' := _) [0, 2, 3, 4, 5, 6] rfl ?_
              exact ih_17 (j + 1) (by omega)
            · change Z _ _ _ _ _ _ _ _ _ _ _ _ _ _ _ _ (wM J h a L pl sp nb dn er (mTicks (mTurns A 3 k) pr 0 j) K T H S V P) ([(5, .int (iI (j : Int))), (4, .int (iI pr)), (3, .int (iI (k : Int))), (2, .int (iI (-x))), (1, .int (iI x)), (0, .ref h)]) 92 ([])
              have hj := mTicks_inv ht.1 (q := pr) (i := 0) hpri (by omega) j (by omega)
              have hj5 := hj.2.1
              have hj2 := hj.2.2
              have hjn : j = (A 2).toNat := by omega
              refine z_iload hC dX6_doTurn_92 0 rfl ?_
              refine z_aload_n hC dX6_doTurn_94 rfl 5 rfl ?_
              refine z_getr hC zkX6 iX6_doTurn_X6 0 rfl 0 (by decide) kX6_doTurn_3 rfl rfl dX6_doTurn_95 ?_
              refine z_iconst hC dX6_doTurn_98 ?_
              refine z_iald hC 1 rfl 0 rfl 2 rfl (by decide) (by decide) dX6_doTurn_99 ?_
              refine z_icmp_ge_t (tgt := 118) hC dX6_doTurn_100 (by decide) (by unfold inR; omega) (by unfold inR; omega) (by omega) ?_
              refine z_iinc (lv' := [(3, .int (iI ((k : Int) + 1))), (5, .int (iI (j : Int))), (4, .int (iI pr)), (2, .int (iI (-x))), (1, .int (iI x)), (0, .ref h)]) hC dX6_doTurn_118 2 rfl (by decide) rfl ?_
              refine z_goto (tgt := 57) hC dX6_doTurn_121 (by decide) ?_
              refine z_ws (ws' := wM J h a L pl sp nb dn er (mTurns A 3 (k + 1)) K T H S V P) (by rw [← hpr, hjn]; rfl) ?_
              refine z_lv (lv' := _) [0, 3, 4, 5] rfl ?_
              exact ih_13 (k + 1) (by omega)
          · change Z _ _ _ _ _ _ _ _ _ _ _ _ _ _ _ _ (wM J h a L pl sp nb dn er (mTurns A 3 k) K T H S V P) ([(3, .int (iI (k : Int))), (2, .int (iI (-x))), (1, .int (iI x)), (0, .ref h)]) 57 ([])
            have hkn : k = ((-x)).toNat := by omega
            refine z_iload_n hC dX6_doTurn_57 rfl 0 rfl ?_
            refine z_iload_n hC dX6_doTurn_58 rfl 1 rfl ?_
            refine z_icmp_ge_t (tgt := 124) hC dX6_doTurn_59 (by decide) (by unfold inR; omega) (by unfold inR; omega) (by omega) ?_
            refine z_aload_n hC dX6_doTurn_124 rfl 3 rfl ?_
            refine z_getr hC zkX6 iX6_doTurn_X6 0 rfl 0 (by decide) kX6_doTurn_3 rfl rfl dX6_doTurn_125 ?_
            refine z_bipush hC dX6_doTurn_128 (by decide) ?_
            refine z_iald hC 1 rfl 0 rfl 6 rfl (by decide) (by decide) dX6_doTurn_130 ?_
            exact z_iret hC hr rfl () trivial (hvi (by have hmx : mMany x = (-x) := (by unfold mMany; rw [if_pos (by omega)]); have hok : mTurnOk A x = 0 := (by unfold mTurnOk; rw [hmx, if_neg (by omega), if_neg (by omega), if_neg (by omega)]); unfold mTurnR; rw [hok, if_pos rfl, hmx, ← hkn, show mWay x = 3 from (by unfold mWay; rw [if_pos (by omega)])])) (congrArg (fun z => wM J h a L pl sp nb dn er z K T H S V P) (by have hmx : mMany x = (-x) := (by unfold mMany; rw [if_pos (by omega)]); have hok : mTurnOk A x = 0 := (by unfold mTurnOk; rw [hmx, if_neg (by omega), if_neg (by omega), if_neg (by omega)]); unfold mTurnA; rw [hok, if_pos rfl, hmx, ← hkn, show mWay x = 3 from (by unfold mWay; rw [if_pos (by omega)])])) dX6_doTurn_131
        · refine z_bipush hC dX6_doTurn_52 (by decide) ?_
          exact z_iret hC hr rfl () trivial (hvi (by have hmx : mMany x = (-x) := (by unfold mMany; rw [if_pos (by omega)]); have hok : mTurnOk A x = -5 := (by unfold mTurnOk; rw [hmx, if_neg (by omega), if_neg (by omega), if_pos (by omega)]); unfold mTurnR; rw [hok]; rfl)) (congrArg (fun z => wM J h a L pl sp nb dn er z K T H S V P) (by have hmx : mMany x = (-x) := (by unfold mMany; rw [if_pos (by omega)]); have hok : mTurnOk A x = -5 := (by unfold mTurnOk; rw [hmx, if_neg (by omega), if_neg (by omega), if_pos (by omega)]); unfold mTurnA; rw [hok]; rfl)) dX6_doTurn_54
    · refine z_bipush hC dX6_doTurn_18 (by decide) ?_
      exact z_iret hC hr rfl () trivial (hvi (by have hok : mTurnOk A x = -2 := (by unfold mTurnOk; (repeat' split) <;> first | rfl | omega); unfold mTurnR; rw [hok]; rfl)) (congrArg (fun z => wM J h a L pl sp nb dn er z K T H S V P) (by have hok : mTurnOk A x = -2 := (by unfold mTurnOk; (repeat' split) <;> first | rfl | omega); unfold mTurnA; rw [hok]; rfl)) dX6_doTurn_20
set_option maxRecDepth 20000 in
theorem iX6_turn_X6 : ∀ w ∈ u_ws RX6 TX6 13, w ∈ wsX6_turn := zm_places _ [45, 46, 47, 48, 49, 50, 51, 52, 53, 54, 55, 56, 57] (by decide +kernel)
theorem kX6_turn_1 : Cond.fieldLink RX6 7 "StepPairsModel" "all" "[I" ∈ wsX6_turn := List.mem_of_getElem? (i := 1) rfl
theorem kX6_turn_2 : Cond.fieldLink RX6 13 "StepPairsModel" "kept" "[I" ∈ wsX6_turn := List.mem_of_getElem? (i := 2) rfl
abbrev rmX6_turn : Room := { frames := 4, cells := 0, slots := 0, locals := 93 }
set_option maxHeartbeats 4000000 in
set_option maxRecDepth 100000 in
theorem t_X6_turn (l : Launch) (D : va_G) (J : Nat → ClassId) (h : Nat) (a : Nat → Nat) (L pl sp nb dn er : Int) (A K T H S V P : Nat → Int) (x : Int) (hx : inR x) (hI : InvM A) (hL : 0 ≤ L ∧ L ≤ 6) : ZX l yX6_turn wsX6_turn rmX6_turn D J [.ref h, .int (iI x)] (wM J h a L pl sp nb dn er A K T H S V P) (some (.int (iI (mTurnR A x)))) (wM J h a (mChgL (mTurnR A x) L) pl sp nb dn er (mTurnA A x) A T (mChgH (mTurnR A x) H A L) S V P) := by
  refine z_met (cc := cX6_turn) (nL := 3) (ret := (some .int)) (own := RX6) (by decide) rfl rfl (Nat.le_of_ble_eq_true rfl) (fun p e s m args below meth c hC hr hin => ?_)
  refine z_lv0 (lv' := [(0, .ref h), (1, .int (iI x))]) rfl ?_
  refine z_aload_n hC dX6_turn_0 rfl 0 rfl ?_
  refine z_getr hC zkX6 iX6_turn_X6 0 rfl 0 (by decide) kX6_turn_1 rfl rfl dX6_turn_1 ?_
  refine z_aload_n hC dX6_turn_4 rfl 0 rfl ?_
  refine z_getr hC zkX6 iX6_turn_X6 0 rfl 1 (by decide) kX6_turn_2 rfl rfl dX6_turn_5 ?_
  refine z_callS (wr := [cO 5 h [some (a 0), some (a 1), some (a 2), some (a 3), none, some (a 5), some (a 6), some (a 7), none, none, none, none, none] (mK L pl sp nb dn er), cI (J 0) (a 2) 222 T, cI (J 0) (a 3) 1332 H, cI (J 0) (a 5) 444 S, cI (J 0) (a 6) 2 V, cI (J 0) (a 7) 80 P]) (av := [.ref (a 0), .ref (a 1)]) (st := []) hC (t_X6_copy l D J (a 0) (a 1) A K) gX6_turn_X6_copy rfl 2 (by decide +kernel) ⟨Nat.le_of_ble_eq_true rfl, Nat.le_of_ble_eq_true rfl⟩ ⟨Nat.le_of_ble_eq_true rfl, Nat.le_of_ble_eq_true rfl⟩ [1, 2] [0, 3, 4, 5, 6, 7] rfl rfl rfl (by decide) rfl rfl rfl (Nat.le_of_ble_eq_true rfl) dX6_turn_8 (fun _ _ => ?_)
  refine z_perm (ws' := wM J h a L pl sp nb dn er A A T H S V P) [0, 6, 7, 1, 2, 3, 4, 5] rfl rfl ?_
  refine z_st (st' := []) rfl ?_
  refine z_aload_n hC dX6_turn_11 rfl 0 rfl ?_
  refine z_iload_n hC dX6_turn_12 rfl 1 rfl ?_
  refine z_callV (wr := ([] : va_W)) (av := [.int (iI x)]) (st := []) hC (t_X6_doTurn l D J h a L pl sp nb dn er A A T H S V P x hx hI) gX6_turn_X6_doTurn rfl 1 (by decide +kernel) ⟨Nat.le_of_ble_eq_true rfl, Nat.le_of_ble_eq_true rfl⟩ ⟨Nat.le_of_ble_eq_true rfl, Nat.le_of_ble_eq_true rfl⟩ [0, 1, 2, 3, 4, 5, 6, 7] [] rfl rfl rfl (by decide) rfl 0 rfl rfl rfl rfl rfl (Nat.le_of_ble_eq_true rfl) dX6_turn_13 (fun _ _ => ?_)
  refine z_ws (ws' := wM J h a L pl sp nb dn er (mTurnA A x) A T H S V P) rfl ?_
  refine z_st (st' := [.int (iI (mTurnR A x))]) rfl ?_
  refine z_istore_n (lv' := [(2, .int (iI (mTurnR A x))), (0, .ref h), (1, .int (iI x))]) hC dX6_turn_16 rfl (by decide) rfl ?_
  refine z_iload_n hC dX6_turn_17 rfl 0 rfl ?_
  refine z_if_ge (tgt := 25) hC dX6_turn_18 (by decide) (inR_of5 (mTurnR_in hI)) (fun c_18_1 => ?_) (fun c_18_1 => ?_)
  · refine z_aload_n hC dX6_turn_25 rfl 1 rfl ?_
    refine z_iload_n hC dX6_turn_26 rfl 0 rfl ?_
    refine z_callV (wr := ([] : va_W)) (av := [.int (iI (mTurnR A x))]) (st := []) hC (t_X6_changed l D J h a L pl sp nb dn er (mTurnA A x) A T H S V P (mTurnR A x) hL) gX6_turn_X6_changed rfl 1 (by decide +kernel) ⟨Nat.le_of_ble_eq_true rfl, Nat.le_of_ble_eq_true rfl⟩ ⟨Nat.le_of_ble_eq_true rfl, Nat.le_of_ble_eq_true rfl⟩ [0, 1, 2, 3, 4, 5, 6, 7] [] rfl rfl rfl (by decide) rfl 0 rfl rfl rfl rfl rfl (Nat.le_of_ble_eq_true rfl) dX6_turn_27 (fun _ _ => ?_)
    refine z_ws (ws' := wM J h a (mChL L) pl sp nb dn er (mTurnA A x) A T (mChH H A L) S V P) rfl ?_
    refine z_st (st' := [.int (iI (mTurnR A x))]) rfl ?_
    exact z_iret hC hr rfl () trivial (rfl) (by unfold mChgH mChgL; first | rw [if_pos (by assumption), if_pos (by assumption)] | rw [if_neg (by omega), if_neg (by omega)]) dX6_turn_30
  · refine z_iload_n hC dX6_turn_21 rfl 0 rfl ?_
    refine z_goto (tgt := 30) hC dX6_turn_22 (by decide) ?_
    exact z_iret hC hr rfl () trivial (rfl) (by unfold mChgH mChgL; first | rw [if_pos (by assumption), if_pos (by assumption)] | rw [if_neg (by omega), if_neg (by omega)]) dX6_turn_30
set_option maxRecDepth 20000 in
theorem iX6_rate_X6 : ∀ w ∈ u_ws RX6 TX6 13, w ∈ wsX6_rate := zm_places _ [20, 21, 22, 23, 24, 25, 26, 27, 28, 29, 30, 31, 32] (by decide +kernel)
theorem kX6_rate_1 : Cond.fieldLink RX6 7 "StepPairsModel" "all" "[I" ∈ wsX6_rate := List.mem_of_getElem? (i := 1) rfl
theorem kX6_rate_2 : Cond.constantDouble RX6 118 (13830554455654793216) ∈ wsX6_rate := List.mem_of_getElem? (i := 2) rfl
abbrev rmX6_rate : Room := { frames := 2, cells := 0, slots := 0, locals := 42 }
set_option maxHeartbeats 4000000 in
set_option maxRecDepth 100000 in
theorem t_X6_rate (l : Launch) (D : va_G) (J : Nat → ClassId) (h : Nat) (a : Nat → Nat) (L pl sp nb dn er : Int) (A K T H S V P : Nat → Int) (hI : InvM A) (hper : mPer A = -6 ∨ (1 ≤ mPer A ∧ mPer A ≤ 99999)) : ZX l yX6_rate wsX6_rate rmX6_rate D J [.ref h] (wM J h a L pl sp nb dn er A K T H S V P) (some (.long (mRateR A))) (wM J h a L pl sp nb dn er A K T H S V P) := by
  obtain ⟨m0, m1, m2, m3, m4, m5, m6, m7, m8, m9, m10, m13, m14, m15, m16, m17, m18, m19, m20, mg⟩ := id hI
  refine z_met (cc := cX6_rate) (nL := 3) (ret := (some .long)) (own := RX6) (by decide) rfl rfl (Nat.le_of_ble_eq_true rfl) (fun p e s m args below meth c hC hr hin => ?_)
  refine z_lv0 (lv' := [(0, .ref h)]) rfl ?_
  refine z_aload_n hC dX6_rate_0 rfl 0 rfl ?_
  refine z_callV (wr := ([] : va_W)) (av := []) (st := []) hC (t_X6_period l D J h a L pl sp nb dn er A K T H S V P  hI) gX6_rate_X6_period rfl 0 (by decide +kernel) ⟨Nat.le_of_ble_eq_true rfl, Nat.le_of_ble_eq_true rfl⟩ ⟨Nat.le_of_ble_eq_true rfl, Nat.le_of_ble_eq_true rfl⟩ [0, 1, 2, 3, 4, 5, 6, 7] [] rfl rfl rfl (by decide) rfl 0 rfl rfl rfl rfl rfl (Nat.le_of_ble_eq_true rfl) dX6_rate_1 (fun _ _ => ?_)
  refine z_ws (ws' := wM J h a L pl sp nb dn er A K T H S V P) rfl ?_
  refine z_st (st' := [.int (iI (mPer A))]) rfl ?_
  have hpi_1 := mPer_in hI
  refine z_bipush hC dX6_rate_4 (by decide) ?_
  refine z_icmp_ne (tgt := 11) hC dX6_rate_6 (by decide) (by unfold inR; omega) ⟨by decide, by decide⟩ (fun c_6_2 => ?_) (fun c_6_2 => ?_)
  · refine z_aload_n hC dX6_rate_11 rfl 0 rfl ?_
    refine z_getr hC zkX6 iX6_rate_X6 0 rfl 0 (by decide) kX6_rate_1 rfl rfl dX6_rate_12 ?_
    refine z_bipush hC dX6_rate_15 (by decide) ?_
    refine z_iald hC 1 rfl 0 rfl 9 rfl (by decide) (by decide) dX6_rate_17 ?_
    refine z_iconst hC dX6_rate_18 ?_
    refine z_icmp_ne (tgt := 26) hC dX6_rate_19 (by decide) (by unfold inR; omega) ⟨by decide, by decide⟩ (fun c_19_3 => ?_) (fun c_19_3 => ?_)
    · refine z_ldc2d hC kX6_rate_2 dX6_rate_26 ?_
      refine z_dstore_n (lv' := [(1, .double 13830554455654793216), (0, .ref h)]) hC dX6_rate_29 rfl (by decide) rfl ?_
      refine z_dload_n hC dX6_rate_30 rfl 0 rfl ?_
      refine z_aload_n hC dX6_rate_31 rfl 1 rfl ?_
      refine z_callV (wr := ([] : va_W)) (av := []) (st := [.double 13830554455654793216]) hC (t_X6_period l D J h a L pl sp nb dn er A K T H S V P  hI) gX6_rate_X6_period rfl 0 (by decide +kernel) ⟨Nat.le_of_ble_eq_true rfl, Nat.le_of_ble_eq_true rfl⟩ ⟨Nat.le_of_ble_eq_true rfl, Nat.le_of_ble_eq_true rfl⟩ [0, 1, 2, 3, 4, 5, 6, 7] [] rfl rfl rfl (by decide) rfl 0 rfl rfl rfl rfl rfl (Nat.le_of_ble_eq_true rfl) dX6_rate_32 (fun _ _ => ?_)
      refine z_ws (ws' := wM J h a L pl sp nb dn er A K T H S V P) rfl ?_
      refine z_st (st' := [.int (iI (mPer A)), .double 13830554455654793216]) rfl ?_
      have hpi_4 := mPer_in hI
      refine z_aload_n hC dX6_rate_35 rfl 1 rfl ?_
      refine z_getr hC zkX6 iX6_rate_X6 0 rfl 0 (by decide) kX6_rate_1 rfl rfl dX6_rate_36 ?_
      refine z_iconst hC dX6_rate_39 ?_
      refine z_iald hC 1 rfl 0 rfl 0 rfl (by decide) (by decide) dX6_rate_40 ?_
      refine z_imul hC dX6_rate_41 ?_
      have hP := mulP_in (a := mPer A) (b := A 0) (by omega) m0
      refine z_i2d hC dX6_rate_42 ?_
      refine z_ddiv hC (Jvm.FP.ddiv 13830554455654793216 (Jvm.FP.i2d (iI (mPer A * A 0)))) dX6_rate_43 (d64_divN (by omega) (by omega) true) rfl ?_
      refine z_callS (wr := wM J h a L pl sp nb dn er A K T H S V P) (av := [.double (Jvm.FP.ddiv 13830554455654793216 (Jvm.FP.i2d (iI (mPer A * A 0))))]) (st := []) hC (t_Jxe99ae_doubleToLongBits_ccdee l D J (Jvm.FP.ddiv 13830554455654793216 (Jvm.FP.i2d (iI (mPer A * A 0)))) (d64_divN (by omega) (by omega) true)) gX6_rate_Jxe99ae_doubleToLongBits_ccdee rfl 1 (by decide +kernel) ⟨Nat.le_of_ble_eq_true rfl, Nat.le_of_ble_eq_true rfl⟩ ⟨Nat.le_of_ble_eq_true rfl, Nat.le_of_ble_eq_true rfl⟩ [] [0, 1, 2, 3, 4, 5, 6, 7] rfl rfl rfl (by decide) rfl rfl rfl (Nat.le_of_ble_eq_true rfl) dX6_rate_44 (fun _ _ => ?_)
      refine z_ws (ws' := wM J h a L pl sp nb dn er A K T H S V P) rfl ?_
      refine z_st (st' := [.long ((Jvm.FP.ddiv 13830554455654793216 (Jvm.FP.i2d (iI (mPer A * A 0)))).toInt64)]) rfl ?_
      exact z_lret hC hr () trivial (congrArg (fun z => some (Value.long z)) (show mRateR A = _ by unfold mRateR mRateX; rw [if_neg (by omega), if_neg (by omega)])) (rfl) dX6_rate_47
    · refine z_dconst1 hC dX6_rate_22 ?_
      refine z_goto (tgt := 29) hC dX6_rate_23 (by decide) ?_
      refine z_dstore_n (lv' := [(1, .double Jvm.FP.dconst1), (0, .ref h)]) hC dX6_rate_29 rfl (by decide) rfl ?_
      refine z_dload_n hC dX6_rate_30 rfl 0 rfl ?_
      refine z_aload_n hC dX6_rate_31 rfl 1 rfl ?_
      refine z_callV (wr := ([] : va_W)) (av := []) (st := [.double Jvm.FP.dconst1]) hC (t_X6_period l D J h a L pl sp nb dn er A K T H S V P  hI) gX6_rate_X6_period rfl 0 (by decide +kernel) ⟨Nat.le_of_ble_eq_true rfl, Nat.le_of_ble_eq_true rfl⟩ ⟨Nat.le_of_ble_eq_true rfl, Nat.le_of_ble_eq_true rfl⟩ [0, 1, 2, 3, 4, 5, 6, 7] [] rfl rfl rfl (by decide) rfl 0 rfl rfl rfl rfl rfl (Nat.le_of_ble_eq_true rfl) dX6_rate_32 (fun _ _ => ?_)
      refine z_ws (ws' := wM J h a L pl sp nb dn er A K T H S V P) rfl ?_
      refine z_st (st' := [.int (iI (mPer A)), .double Jvm.FP.dconst1]) rfl ?_
      have hpi_5 := mPer_in hI
      refine z_aload_n hC dX6_rate_35 rfl 1 rfl ?_
      refine z_getr hC zkX6 iX6_rate_X6 0 rfl 0 (by decide) kX6_rate_1 rfl rfl dX6_rate_36 ?_
      refine z_iconst hC dX6_rate_39 ?_
      refine z_iald hC 1 rfl 0 rfl 0 rfl (by decide) (by decide) dX6_rate_40 ?_
      refine z_imul hC dX6_rate_41 ?_
      have hP := mulP_in (a := mPer A) (b := A 0) (by omega) m0
      refine z_i2d hC dX6_rate_42 ?_
      refine z_ddiv hC (Jvm.FP.ddiv Jvm.FP.dconst1 (Jvm.FP.i2d (iI (mPer A * A 0)))) dX6_rate_43 (d64_divN (by omega) (by omega) false) rfl ?_
      refine z_callS (wr := wM J h a L pl sp nb dn er A K T H S V P) (av := [.double (Jvm.FP.ddiv Jvm.FP.dconst1 (Jvm.FP.i2d (iI (mPer A * A 0))))]) (st := []) hC (t_Jxe99ae_doubleToLongBits_ccdee l D J (Jvm.FP.ddiv Jvm.FP.dconst1 (Jvm.FP.i2d (iI (mPer A * A 0)))) (d64_divN (by omega) (by omega) false)) gX6_rate_Jxe99ae_doubleToLongBits_ccdee rfl 1 (by decide +kernel) ⟨Nat.le_of_ble_eq_true rfl, Nat.le_of_ble_eq_true rfl⟩ ⟨Nat.le_of_ble_eq_true rfl, Nat.le_of_ble_eq_true rfl⟩ [] [0, 1, 2, 3, 4, 5, 6, 7] rfl rfl rfl (by decide) rfl rfl rfl (Nat.le_of_ble_eq_true rfl) dX6_rate_44 (fun _ _ => ?_)
      refine z_ws (ws' := wM J h a L pl sp nb dn er A K T H S V P) rfl ?_
      refine z_st (st' := [.long ((Jvm.FP.ddiv Jvm.FP.dconst1 (Jvm.FP.i2d (iI (mPer A * A 0)))).toInt64)]) rfl ?_
      exact z_lret hC hr () trivial (congrArg (fun z => some (Value.long z)) (show mRateR A = _ by unfold mRateR mRateX; rw [if_neg (by omega), if_pos (by omega)])) (rfl) dX6_rate_47
  · refine z_lconst (v := lI 0) hC dX6_rate_9 (by decide) ?_
    exact z_lret hC hr () trivial (congrArg (fun z => some (Value.long z)) (show mRateR A = lI 0 by unfold mRateR; rw [if_pos (by omega)])) (rfl) dX6_rate_10
set_option maxRecDepth 20000 in
theorem iX6_noise_X6 : ∀ w ∈ u_ws RX6 TX6 13, w ∈ wsX6_noise := zm_places _ [14, 15, 16, 17, 18, 19, 20, 21, 22, 23, 24, 25, 26] (by decide +kernel)
theorem kX6_noise_1 : Cond.fieldLink RX6 7 "StepPairsModel" "all" "[I" ∈ wsX6_noise := List.mem_of_getElem? (i := 1) rfl
abbrev rmX6_noise : Room := { frames := 2, cells := 0, slots := 0, locals := 40 }
set_option maxHeartbeats 4000000 in
set_option maxRecDepth 100000 in
theorem t_X6_noise (l : Launch) (D : va_G) (J : Nat → ClassId) (h : Nat) (a : Nat → Nat) (L pl sp nb dn er : Int) (A K T H S V P : Nat → Int) (hI : InvM A) : ZX l yX6_noise wsX6_noise rmX6_noise D J [.ref h] (wM J h a L pl sp nb dn er A K T H S V P) (some (.int (iI (mNoiseR A)))) (wM J h a L pl sp nb dn er A K T H S V P) := by
  obtain ⟨m0, m1, m2, m3, m4, m5, m6, m7, m8, m9, m10, m13, m14, m15, m16, m17, m18, m19, m20, mg⟩ := id hI
  refine z_met (cc := cX6_noise) (nL := 2) (ret := (some .int)) (own := RX6) (by decide) rfl rfl (Nat.le_of_ble_eq_true rfl) (fun p e s m args below meth c hC hr hin => ?_)
  refine z_lv0 (lv' := [(0, .ref h)]) rfl ?_
  refine z_aload_n hC dX6_noise_0 rfl 0 rfl ?_
  refine z_getr hC zkX6 iX6_noise_X6 0 rfl 0 (by decide) kX6_noise_1 rfl rfl dX6_noise_1 ?_
  refine z_bipush hC dX6_noise_4 (by decide) ?_
  refine z_iald hC 1 rfl 0 rfl 10 rfl (by decide) (by decide) dX6_noise_6 ?_
  refine z_aload_n hC dX6_noise_7 rfl 0 rfl ?_
  refine z_getr hC zkX6 iX6_noise_X6 0 rfl 0 (by decide) kX6_noise_1 rfl rfl dX6_noise_8 ?_
  refine z_bipush hC dX6_noise_11 (by decide) ?_
  refine z_iald hC 1 rfl 0 rfl 11 rfl (by decide) (by decide) dX6_noise_13 ?_
  refine z_iadd hC dX6_noise_14 ?_
  refine z_aload_n hC dX6_noise_15 rfl 0 rfl ?_
  refine z_getr hC zkX6 iX6_noise_X6 0 rfl 0 (by decide) kX6_noise_1 rfl rfl dX6_noise_16 ?_
  refine z_bipush hC dX6_noise_19 (by decide) ?_
  refine z_iald hC 1 rfl 0 rfl 12 rfl (by decide) (by decide) dX6_noise_21 ?_
  refine z_iadd hC dX6_noise_22 ?_
  refine z_istore_n (lv' := [(1, .int (iI (((A 10) + (A 11)) + (A 12)))), (0, .ref h)]) hC dX6_noise_23 rfl (by decide) rfl ?_
  refine z_iload_n hC dX6_noise_24 rfl 0 rfl ?_
  refine z_if_ne (tgt := 33) hC dX6_noise_25 (by decide) (by unfold inR; omega) (fun c_25_1 => ?_) (fun c_25_1 => ?_)
  · refine z_aload_n hC dX6_noise_33 rfl 1 rfl ?_
    refine z_getr hC zkX6 iX6_noise_X6 0 rfl 0 (by decide) kX6_noise_1 rfl rfl dX6_noise_34 ?_
    refine z_bipush hC dX6_noise_37 (by decide) ?_
    refine z_iald hC 1 rfl 0 rfl 12 rfl (by decide) (by decide) dX6_noise_39 ?_
    refine z_i2f hC dX6_noise_40 ?_
    refine z_iload_n hC dX6_noise_41 rfl 0 rfl ?_
    refine z_i2f hC dX6_noise_42 ?_
    have hf := f32_divX (a := A 12) (n := A 10 + A 11 + A 12) (by omega) (by omega) (by omega) (by omega)
    refine z_fdiv hC (Jvm.FP.fdiv (Jvm.FP.i2f (iI (A 12))) (Jvm.FP.i2f (iI (A 10 + A 11 + A 12)))) dX6_noise_43 hf.1 rfl ?_
    refine z_callS (wr := wM J h a L pl sp nb dn er A K T H S V P) (av := [.float (Jvm.FP.fdiv (Jvm.FP.i2f (iI (A 12))) (Jvm.FP.i2f (iI (A 10 + A 11 + A 12))))]) (st := []) hC (t_Jxf58ca_floatToIntBits_5c35a l D J (Jvm.FP.fdiv (Jvm.FP.i2f (iI (A 12))) (Jvm.FP.i2f (iI (A 10 + A 11 + A 12)))) hf.1) gX6_noise_Jxf58ca_floatToIntBits_5c35a rfl 1 (by decide +kernel) ⟨Nat.le_of_ble_eq_true rfl, Nat.le_of_ble_eq_true rfl⟩ ⟨Nat.le_of_ble_eq_true rfl, Nat.le_of_ble_eq_true rfl⟩ [] [0, 1, 2, 3, 4, 5, 6, 7] rfl rfl rfl (by decide) rfl rfl rfl (Nat.le_of_ble_eq_true rfl) dX6_noise_44 (fun _ _ => ?_)
    refine z_ws (ws' := wM J h a L pl sp nb dn er A K T H S V P) rfl ?_
    refine z_st (st' := [.int (iI (((Jvm.FP.fdiv (Jvm.FP.i2f (iI (A 12))) (Jvm.FP.i2f (iI (A 10 + A 11 + A 12)))).toNat : Nat) : Int))]) rfl ?_
    exact z_iret hC hr rfl () trivial (hvi (show mNoiseR A = _ by unfold mNoiseR mNoiseX; rw [if_neg (by omega)])) (rfl) dX6_noise_47
  · refine z_bipush hC dX6_noise_28 (by decide) ?_
    refine z_goto (tgt := 47) hC dX6_noise_30 (by decide) ?_
    exact z_iret hC hr rfl () trivial (hvi (show mNoiseR A = -6 by unfold mNoiseR; rw [if_pos (by omega)])) (rfl) dX6_noise_47
