set_option maxRecDepth 20000 in
theorem iX6_carryOut_X6 : ∀ w ∈ u_ws RX6 TX6 13, w ∈ wsX6_carryOut := zm_places _ [101, 102, 103, 104, 105, 106, 107, 108, 109, 110, 111, 112, 113] (by decide +kernel)
theorem kX6_carryOut_1 : Cond.fieldLink RX6 7 "StepPairsModel" "all" "[I" ∈ wsX6_carryOut := List.mem_of_getElem? (i := 1) rfl
theorem kX6_carryOut_2 : Cond.fieldLink RX6 13 "StepPairsModel" "kept" "[I" ∈ wsX6_carryOut := List.mem_of_getElem? (i := 2) rfl
theorem kX6_carryOut_3 : Cond.fieldLink RX6 141 "StepPairsModel" "spot" "I" ∈ wsX6_carryOut := List.mem_of_getElem? (i := 3) rfl
theorem kX6_carryOut_4 : Cond.fieldLink RX6 161 "StepPairsModel" "isDone" "Z" ∈ wsX6_carryOut := List.mem_of_getElem? (i := 4) rfl
theorem kX6_carryOut_5 : Cond.fieldLink RX6 150 "StepPairsModel" "error" "I" ∈ wsX6_carryOut := List.mem_of_getElem? (i := 5) rfl
theorem kX6_carryOut_6 : Cond.fieldLink RX6 109 "StepPairsModel" "padLong" "I" ∈ wsX6_carryOut := List.mem_of_getElem? (i := 6) rfl
abbrev rmX6_carryOut : Room := { frames := 7, cells := 0, slots := 0, locals := 157 }
set_option maxHeartbeats 4000000 in
set_option maxRecDepth 100000 in
theorem t_X6_carryOut (l : Launch) (D : va_G) (J : Nat → ClassId) (h : Nat) (a : Nat → Nat) (L pl sp nb dn er : Int) (A K T H S V P : Nat → Int) (hpl : 0 ≤ pl ∧ pl ≤ 80) (hPv : ∀ j, 0 ≤ P j ∧ P j ≤ 126) (hI : InvM A) (her : -5 ≤ er ∧ er ≤ 0) (hL : 0 ≤ L ∧ L ≤ 6) : ZX l yX6_carryOut wsX6_carryOut rmX6_carryOut D J [.ref h] (wM J h a L pl sp nb dn er A K T H S V P) (some (.int (iI ((if (mCoF P pl A er nb).2 = -6 then (mCoO P pl A er nb).2 else -3))))) (wM J h a (if (mCoF P pl A er nb).2 = -6 then mChL L else L) (if (mCoF P pl A er nb).2 = -6 then 0 else pl) (if (mCoF P pl A er nb).2 = -6 then (mCoO P pl A er nb).1.2.2.1 else (mCoF P pl A er nb).1.2.2.1) (if (mCoF P pl A er nb).2 = -6 then (mCoO P pl A er nb).1.2.2.2 else (mCoF P pl A er nb).1.2.2.2) (if (mCoF P pl A er nb).2 = -6 then 1 else 0) (if (mCoF P pl A er nb).2 = -6 then (mCoO P pl A er nb).1.2.1 else er) (if (mCoF P pl A er nb).2 = -6 then (mCoO P pl A er nb).1.1 else A) (if (mCoF P pl A er nb).2 = -6 then A else K) T (if (mCoF P pl A er nb).2 = -6 then mChH H A L else H) S V P) := by
  refine z_met (cc := cX6_carryOut) (nL := 4) (ret := (some .int)) (own := RX6) (by decide) rfl rfl (Nat.le_of_ble_eq_true rfl) (fun p e s m args below meth c hC hr hin => ?_)
  refine z_lv0 (lv' := [(0, .ref h)]) rfl ?_
  refine z_aload_n hC dX6_carryOut_0 rfl 0 rfl ?_
  refine z_callV (wr := ([] : va_W)) (av := []) (st := []) hC (t_X6_fault l D J h a L pl sp nb dn er A K T H S V P  hpl hPv hI her) gX6_carryOut_X6_fault rfl 0 (by decide +kernel) ⟨Nat.le_of_ble_eq_true rfl, Nat.le_of_ble_eq_true rfl⟩ ⟨Nat.le_of_ble_eq_true rfl, Nat.le_of_ble_eq_true rfl⟩ [0, 1, 2, 3, 4, 5, 6, 7] [] rfl rfl rfl (by decide) rfl 0 rfl rfl rfl rfl rfl (Nat.le_of_ble_eq_true rfl) dX6_carryOut_1 (fun _ _ => ?_)
  refine z_ws (ws' := wM J h a L pl ((mFlt P pl 81 (A, er, 0, nb)).1.2.2.1) ((mFlt P pl 81 (A, er, 0, nb)).1.2.2.2) 0 ((mFlt P pl 81 (A, er, 0, nb)).1.2.1) ((mFlt P pl 81 (A, er, 0, nb)).1.1) K T H S V P) rfl ?_
  refine z_st (st' := [.int (iI ((mFlt P pl 81 (A, er, 0, nb)).2))]) rfl ?_
  refine z_ws (ws' := wM J h a L pl ((mCoF P pl A er nb).1.2.2.1) ((mCoF P pl A er nb).1.2.2.2) 0 er A K T H S V P) (by rw [(mFlt_0 81 (A, er, 0, nb)).1, (mFlt_0 81 (A, er, 0, nb)).2]; rfl) ?_
  refine z_st (st' := [.int (iI (mCoF P pl A er nb).2)]) rfl ?_
  refine z_bipush hC dX6_carryOut_4 (by decide) ?_
  refine z_icmp_eq (tgt := 12) hC dX6_carryOut_6 (by decide) (inR_of6 (mFlt_in hpl 81 _ hI her ⟨Int.le_refl 0, by show (0 : Int) ≤ 80; omega⟩)) ⟨by decide, by decide⟩ (fun c_6_1 => ?_) (fun c_6_1 => ?_)
  · refine z_aload_n hC dX6_carryOut_12 rfl 0 rfl ?_
    refine z_getr hC zkX6 iX6_carryOut_X6 0 rfl 0 (by decide) kX6_carryOut_1 rfl rfl dX6_carryOut_13 ?_
    refine z_aload_n hC dX6_carryOut_16 rfl 0 rfl ?_
    refine z_getr hC zkX6 iX6_carryOut_X6 0 rfl 1 (by decide) kX6_carryOut_2 rfl rfl dX6_carryOut_17 ?_
    refine z_callS (wr := [cO 5 h [some (a 0), some (a 1), some (a 2), some (a 3), none, some (a 5), some (a 6), some (a 7), none, none, none, none, none] (mK L pl ((mCoF P pl A er nb).1.2.2.1) ((mCoF P pl A er nb).1.2.2.2) 0 er), cI (J 0) (a 2) 222 T, cI (J 0) (a 3) 1332 H, cI (J 0) (a 5) 444 S, cI (J 0) (a 6) 2 V, cI (J 0) (a 7) 80 P]) (av := [.ref (a 0), .ref (a 1)]) (st := []) hC (t_X6_copy l D J (a 0) (a 1) A K) gX6_carryOut_X6_copy rfl 2 (by decide +kernel) ⟨Nat.le_of_ble_eq_true rfl, Nat.le_of_ble_eq_true rfl⟩ ⟨Nat.le_of_ble_eq_true rfl, Nat.le_of_ble_eq_true rfl⟩ [1, 2] [0, 3, 4, 5, 6, 7] rfl rfl rfl (by decide) rfl rfl rfl (Nat.le_of_ble_eq_true rfl) dX6_carryOut_20 (fun _ _ => ?_)
    refine z_perm (ws' := wM J h a L pl ((mCoF P pl A er nb).1.2.2.1) ((mCoF P pl A er nb).1.2.2.2) 0 er A A T H S V P) [0, 6, 7, 1, 2, 3, 4, 5] rfl rfl ?_
    refine z_st (st' := []) rfl ?_
    refine z_aload_n hC dX6_carryOut_23 rfl 0 rfl ?_
    refine z_iconst hC dX6_carryOut_24 ?_
    refine z_puti (ws' := wM J h a L pl 0 ((mCoF P pl A er nb).1.2.2.2) 0 er A A T H S V P) hC zkX6 iX6_carryOut_X6 0 rfl 9 (by decide) kX6_carryOut_3 rfl rfl rfl rfl rfl rfl dX6_carryOut_25 rfl ?_
    refine z_aload_n hC dX6_carryOut_28 rfl 0 rfl ?_
    refine z_iconst hC dX6_carryOut_29 ?_
    refine z_puti (ws' := wM J h a L pl 0 ((mCoF P pl A er nb).1.2.2.2) 1 er A A T H S V P) hC zkX6 iX6_carryOut_X6 0 rfl 11 (by decide) kX6_carryOut_4 rfl rfl rfl rfl (by decide) (by decide) dX6_carryOut_30 rfl ?_
    refine z_aload_n hC dX6_carryOut_33 rfl 0 rfl ?_
    refine z_iconst hC dX6_carryOut_34 ?_
    refine z_puti (ws' := wM J h a L pl 0 ((mCoF P pl A er nb).1.2.2.2) 1 0 A A T H S V P) hC zkX6 iX6_carryOut_X6 0 rfl 12 (by decide) kX6_carryOut_5 rfl rfl rfl rfl rfl rfl dX6_carryOut_35 rfl ?_
    refine z_iconst hC dX6_carryOut_38 ?_
    refine z_istore_n (lv' := [(1, .int (iI 0)), (0, .ref h)]) hC dX6_carryOut_39 rfl (by decide) rfl ?_
    refine z_iconst hC dX6_carryOut_40 ?_
    refine z_istore_n (lv' := [(2, .int (iI 1)), (1, .int (iI 0)), (0, .ref h)]) hC dX6_carryOut_41 rfl (by decide) rfl ?_
    refine z_lv (lv' := [(2, .int (iI 1)), (1, .int (iI 0)), (0, .ref h)]) [0, 1, 2] rfl ?_
    refine z_loop (α := OS) (fun nn v => InvM v.1 ∧ (0 ≤ v.2.1 ∧ v.2.1 ≤ 80) ∧ 80 < v.2.1 + (nn : Int) ∧ mOut P pl nn (v.1, v.2.1, v.2.2.1, v.2.2.2) = mCoO P pl A er nb) (fun nn v => wM J h a L pl v.2.1 v.2.2.1 1 0 v.1 A T H S V P) (fun nn v => [(2, .int (iI 1)), (1, .int (iI v.2.2.2)), (0, .ref h)]) 42 [] (fun nn v ih_2 hP_3 => ?_) (fun v hP_3 => ?_) 81 (A, 0, (mCoF P pl A er nb).1.2.2.2, 0) ⟨hI, ⟨Int.le_refl 0, by show (0 : Int) ≤ 80; omega⟩, by show 80 < (0 : Int) + ((81 : Nat) : Int); omega, rfl⟩
    · change Z _ _ _ _ _ _ _ _ _ _ _ _ _ _ _ _ (wM J h a L pl v.2.1 v.2.2.1 1 0 v.1 A T H S V P) ([(2, .int (iI 1)), (1, .int (iI v.2.2.2)), (0, .ref h)]) 42 ([])
      obtain ⟨hv1, hv3, hv4, hv5⟩ := hP_3
      have ho := mOrdr_in (P := P) (pl := pl) (dn := 1) (er := 0) (nb := v.2.2.1) hv1 ⟨by decide, by decide⟩ hv3
      have ho2 := ho.2.1
      have ho3 := ho.2.2.1
      have ho4 := ho.2.2.2
      refine z_iload_n hC dX6_carryOut_42 rfl 0 rfl ?_
      refine z_if_eq_f (tgt := 91) hC dX6_carryOut_43 (by decide) ⟨by decide, by decide⟩ (by decide) ?_
      refine z_aload_n hC dX6_carryOut_46 rfl 2 rfl ?_
      refine z_callV (wr := ([] : va_W)) (av := []) (st := []) hC (t_X6_readsOrder l D J h a L pl v.2.1 v.2.2.1 1 0 v.1 A T H S V P  hv3 hpl hPv hv1 ⟨by decide, by decide⟩ ⟨by decide, by decide⟩) gX6_carryOut_X6_readsOrder rfl 0 (by decide +kernel) ⟨Nat.le_of_ble_eq_true rfl, Nat.le_of_ble_eq_true rfl⟩ ⟨Nat.le_of_ble_eq_true rfl, Nat.le_of_ble_eq_true rfl⟩ [0, 1, 2, 3, 4, 5, 6, 7] [] rfl rfl rfl (by decide) rfl 0 rfl rfl rfl rfl rfl (Nat.le_of_ble_eq_true rfl) dX6_carryOut_47 (fun _ _ => ?_)
      refine z_ws (ws' := wM J h a L pl ((mOrdr P pl 1 v.1 0 v.2.1 v.2.2.1).1.2.2.1) ((mOrdr P pl 1 v.1 0 v.2.1 v.2.2.1).1.2.2.2) 1 ((mOrdr P pl 1 v.1 0 v.2.1 v.2.2.1).1.2.1) ((mOrdr P pl 1 v.1 0 v.2.1 v.2.2.1).1.1) A T H S V P) rfl ?_
      refine z_st (st' := [.int (iI ((mOrdr P pl 1 v.1 0 v.2.1 v.2.2.1).2))]) rfl ?_
      refine z_istore_n (lv' := [(3, .int (iI ((mOrdr P pl 1 v.1 0 v.2.1 v.2.2.1).2))), (2, .int (iI 1)), (1, .int (iI v.2.2.2)), (0, .ref h)]) hC dX6_carryOut_50 rfl (by decide) rfl ?_
      refine z_iload_n hC dX6_carryOut_51 rfl 2 rfl ?_
      refine z_aload_n hC dX6_carryOut_52 rfl 3 rfl ?_
      refine z_geti hC zkX6 iX6_carryOut_X6 0 rfl 12 (by decide) kX6_carryOut_5 rfl rfl dX6_carryOut_53 ?_
      refine z_int (y := iI ((mOrdr P pl 1 v.1 0 v.2.1 v.2.2.1).1.2.1)) hC (rfl) ?_
      refine z_if_ne (tgt := 63) hC dX6_carryOut_56 (by decide) (by unfold inR; omega) (fun c_56_4 => ?_) (fun c_56_4 => ?_)
      · refine z_iconst hC dX6_carryOut_63 ?_
        refine z_iadd hC dX6_carryOut_64 ?_
        refine z_istore_n (lv' := [(1, .int (iI (v.2.2.2 + 0))), (3, .int (iI ((mOrdr P pl 1 v.1 0 v.2.1 v.2.2.1).2))), (2, .int (iI 1)), (0, .ref h)]) hC dX6_carryOut_65 rfl (by decide) rfl ?_
        refine z_aload_n hC dX6_carryOut_66 rfl 3 rfl ?_
        refine z_geti hC zkX6 iX6_carryOut_X6 0 rfl 12 (by decide) kX6_carryOut_5 rfl rfl dX6_carryOut_67 ?_
        refine z_int (y := iI ((mOrdr P pl 1 v.1 0 v.2.1 v.2.2.1).1.2.1)) hC (rfl) ?_
        refine z_if_ne_t (tgt := 86) hC dX6_carryOut_70 (by decide) (by unfold inR; omega) (by omega) ?_
        refine z_iconst hC dX6_carryOut_86 ?_
        refine z_istore_n (lv' := [(2, .int (iI 0)), (1, .int (iI (v.2.2.2 + 0))), (3, .int (iI ((mOrdr P pl 1 v.1 0 v.2.1 v.2.2.1).2))), (0, .ref h)]) hC dX6_carryOut_87 rfl (by decide) rfl ?_
        refine z_goto (tgt := 42) hC dX6_carryOut_88 (by decide) ?_
        refine z_iload_n hC dX6_carryOut_42 rfl 0 rfl ?_
        refine z_if_eq_t (tgt := 91) hC dX6_carryOut_43 (by decide) ⟨by decide, by decide⟩ (by decide) ?_
        refine z_aload_n hC dX6_carryOut_91 rfl 3 rfl ?_
        refine z_iconst hC dX6_carryOut_92 ?_
        refine z_puti (ws' := wM J h a L 0 ((mOrdr P pl 1 v.1 0 v.2.1 v.2.2.1).1.2.2.1) ((mOrdr P pl 1 v.1 0 v.2.1 v.2.2.1).1.2.2.2) 1 ((mOrdr P pl 1 v.1 0 v.2.1 v.2.2.1).1.2.1) ((mOrdr P pl 1 v.1 0 v.2.1 v.2.2.1).1.1) A T H S V P) hC zkX6 iX6_carryOut_X6 0 rfl 8 (by decide) kX6_carryOut_6 rfl rfl rfl rfl rfl rfl dX6_carryOut_93 rfl ?_
        refine z_aload_n hC dX6_carryOut_96 rfl 3 rfl ?_
        refine z_iload_n hC dX6_carryOut_97 rfl 1 rfl ?_
        refine z_callV (wr := ([] : va_W)) (av := [.int (iI (v.2.2.2 + 0))]) (st := []) hC (t_X6_changed l D J h a L 0 ((mOrdr P pl 1 v.1 0 v.2.1 v.2.2.1).1.2.2.1) ((mOrdr P pl 1 v.1 0 v.2.1 v.2.2.1).1.2.2.2) 1 ((mOrdr P pl 1 v.1 0 v.2.1 v.2.2.1).1.2.1) ((mOrdr P pl 1 v.1 0 v.2.1 v.2.2.1).1.1) A T H S V P (v.2.2.2 + 0) hL) gX6_carryOut_X6_changed rfl 1 (by decide +kernel) ⟨Nat.le_of_ble_eq_true rfl, Nat.le_of_ble_eq_true rfl⟩ ⟨Nat.le_of_ble_eq_true rfl, Nat.le_of_ble_eq_true rfl⟩ [0, 1, 2, 3, 4, 5, 6, 7] [] rfl rfl rfl (by decide) rfl 0 rfl rfl rfl rfl rfl (Nat.le_of_ble_eq_true rfl) dX6_carryOut_98 (fun _ _ => ?_)
        refine z_ws (ws' := wM J h a (mChL L) 0 ((mOrdr P pl 1 v.1 0 v.2.1 v.2.2.1).1.2.2.1) ((mOrdr P pl 1 v.1 0 v.2.1 v.2.2.1).1.2.2.2) 1 ((mOrdr P pl 1 v.1 0 v.2.1 v.2.2.1).1.2.1) ((mOrdr P pl 1 v.1 0 v.2.1 v.2.2.1).1.1) A T (mChH H A L) S V P) rfl ?_
        refine z_st (st' := [.int (iI (v.2.2.2 + 0))]) rfl ?_
        exact z_iret hC hr rfl () trivial (hvi (by have hco : mCoO P pl A er nb = ((((mOrdr P pl 1 v.1 0 v.2.1 v.2.2.1).1.1, (mOrdr P pl 1 v.1 0 v.2.1 v.2.2.1).1.2.1, (mOrdr P pl 1 v.1 0 v.2.1 v.2.2.1).1.2.2.1, (mOrdr P pl 1 v.1 0 v.2.1 v.2.2.1).1.2.2.2), v.2.2.2 + 0) : MS × Int) := (by rw [← hv5, mOut_s]; first | rw [if_pos (by assumption), if_neg (by assumption)] | rw [if_neg (by assumption)]); rw [if_pos (by assumption), hco])) (by have hco : mCoO P pl A er nb = ((((mOrdr P pl 1 v.1 0 v.2.1 v.2.2.1).1.1, (mOrdr P pl 1 v.1 0 v.2.1 v.2.2.1).1.2.1, (mOrdr P pl 1 v.1 0 v.2.1 v.2.2.1).1.2.2.1, (mOrdr P pl 1 v.1 0 v.2.1 v.2.2.1).1.2.2.2), v.2.2.2 + 0) : MS × Int) := (by rw [← hv5, mOut_s]; first | rw [if_pos (by assumption), if_neg (by assumption)] | rw [if_neg (by assumption)]); simp only [if_pos (show (mCoF P pl A er nb).2 = -6 by assumption), hco]) dX6_carryOut_101
      · refine z_iconst hC dX6_carryOut_59 ?_
        refine z_goto (tgt := 64) hC dX6_carryOut_60 (by decide) ?_
        refine z_iadd hC dX6_carryOut_64 ?_
        refine z_istore_n (lv' := [(1, .int (iI (v.2.2.2 + 1))), (3, .int (iI ((mOrdr P pl 1 v.1 0 v.2.1 v.2.2.1).2))), (2, .int (iI 1)), (0, .ref h)]) hC dX6_carryOut_65 rfl (by decide) rfl ?_
        refine z_aload_n hC dX6_carryOut_66 rfl 3 rfl ?_
        refine z_geti hC zkX6 iX6_carryOut_X6 0 rfl 12 (by decide) kX6_carryOut_5 rfl rfl dX6_carryOut_67 ?_
        refine z_int (y := iI ((mOrdr P pl 1 v.1 0 v.2.1 v.2.2.1).1.2.1)) hC (rfl) ?_
        refine z_if_ne_f (tgt := 86) hC dX6_carryOut_70 (by decide) (by unfold inR; omega) (by omega) ?_
        refine z_aload_n hC dX6_carryOut_73 rfl 3 rfl ?_
        refine z_bipush hC dX6_carryOut_74 (by decide) ?_
        refine z_callV (wr := ([] : va_W)) (av := [.int (iI 59)]) (st := []) hC (t_X6_takes l D J h a L pl ((mOrdr P pl 1 v.1 0 v.2.1 v.2.2.1).1.2.2.1) ((mOrdr P pl 1 v.1 0 v.2.1 v.2.2.1).1.2.2.2) 1 ((mOrdr P pl 1 v.1 0 v.2.1 v.2.2.1).1.2.1) ((mOrdr P pl 1 v.1 0 v.2.1 v.2.2.1).1.1) A T H S V P 59 ⟨by omega, by omega⟩ ⟨by omega, by omega⟩ hpl hPv) gX6_carryOut_X6_takes rfl 1 (by decide +kernel) ⟨Nat.le_of_ble_eq_true rfl, Nat.le_of_ble_eq_true rfl⟩ ⟨Nat.le_of_ble_eq_true rfl, Nat.le_of_ble_eq_true rfl⟩ [0, 1, 2, 3, 4, 5, 6, 7] [] rfl rfl rfl (by decide) rfl 0 rfl rfl rfl rfl rfl (Nat.le_of_ble_eq_true rfl) dX6_carryOut_76 (fun _ _ => ?_)
        refine z_ws (ws' := wM J h a L pl (pSk P pl ((mOrdr P pl 1 v.1 0 v.2.1 v.2.2.1).1.2.2.1) 59) ((mOrdr P pl 1 v.1 0 v.2.1 v.2.2.1).1.2.2.2) 1 ((mOrdr P pl 1 v.1 0 v.2.1 v.2.2.1).1.2.1) ((mOrdr P pl 1 v.1 0 v.2.1 v.2.2.1).1.1) A T H S V P) rfl ?_
        refine z_st (st' := [.int (iI (pSkR P pl ((mOrdr P pl 1 v.1 0 v.2.1 v.2.2.1).1.2.2.1) 59))]) rfl ?_
        by_cases hk_5 : pAt P pl ((mOrdr P pl 1 v.1 0 v.2.1 v.2.2.1).1.2.2.1) = 59
        · rw [pSkR_1 hk_5, pSk_1 hk_5]
          have hk_5s := pAt_spec P pl ((mOrdr P pl 1 v.1 0 v.2.1 v.2.2.1).1.2.2.1)
          refine z_ws (ws' := wM J h a L pl ((mOrdr P pl 1 v.1 0 v.2.1 v.2.2.1).1.2.2.1 + 1) ((mOrdr P pl 1 v.1 0 v.2.1 v.2.2.1).1.2.2.2) 1 ((mOrdr P pl 1 v.1 0 v.2.1 v.2.2.1).1.2.1) ((mOrdr P pl 1 v.1 0 v.2.1 v.2.2.1).1.1) A T H S V P) rfl ?_
          refine z_st (st' := [.int (iI 1)]) rfl ?_
          refine z_if_eq_f (tgt := 86) hC dX6_carryOut_79 (by decide) ⟨by decide, by decide⟩ (by decide) ?_
          refine z_iconst hC dX6_carryOut_82 ?_
          refine z_goto (tgt := 87) hC dX6_carryOut_83 (by decide) ?_
          refine z_istore_n (lv' := [(2, .int (iI 1)), (1, .int (iI (v.2.2.2 + 1))), (3, .int (iI ((mOrdr P pl 1 v.1 0 v.2.1 v.2.2.1).2))), (0, .ref h)]) hC dX6_carryOut_87 rfl (by decide) rfl ?_
          refine z_goto (tgt := 42) hC dX6_carryOut_88 (by decide) ?_
          refine z_ws (ws' := wM J h a L pl ((mOrdr P pl 1 v.1 0 v.2.1 v.2.2.1).1.2.2.1 + 1) ((mOrdr P pl 1 v.1 0 v.2.1 v.2.2.1).1.2.2.2) 1 0 ((mOrdr P pl 1 v.1 0 v.2.1 v.2.2.1).1.1) A T H S V P) (by rw [show (mOrdr P pl 1 v.1 0 v.2.1 v.2.2.1).1.2.1 = 0 by assumption]) ?_
          refine z_lv (lv' := _) [0, 1, 3] rfl ?_
          exact ih_2 ((mOrdr P pl 1 v.1 0 v.2.1 v.2.2.1).1.1, (mOrdr P pl 1 v.1 0 v.2.1 v.2.2.1).1.2.2.1 + 1, (mOrdr P pl 1 v.1 0 v.2.1 v.2.2.1).1.2.2.2, v.2.2.2 + 1) ⟨ho.1, (by show 0 ≤ (mOrdr P pl 1 v.1 0 v.2.1 v.2.2.1).1.2.2.1 + 1 ∧ (mOrdr P pl 1 v.1 0 v.2.1 v.2.2.1).1.2.2.1 + 1 ≤ 80; omega), (by show 80 < (mOrdr P pl 1 v.1 0 v.2.1 v.2.2.1).1.2.2.1 + 1 + _; omega), (by rw [← hv5, mOut_s, if_pos (by assumption), if_pos (by assumption)])⟩
        · rw [pSkR_0 hk_5, pSk_0 hk_5]
          have hk_5s := pAt_spec P pl ((mOrdr P pl 1 v.1 0 v.2.1 v.2.2.1).1.2.2.1)
          refine z_ws (ws' := wM J h a L pl ((mOrdr P pl 1 v.1 0 v.2.1 v.2.2.1).1.2.2.1) ((mOrdr P pl 1 v.1 0 v.2.1 v.2.2.1).1.2.2.2) 1 ((mOrdr P pl 1 v.1 0 v.2.1 v.2.2.1).1.2.1) ((mOrdr P pl 1 v.1 0 v.2.1 v.2.2.1).1.1) A T H S V P) rfl ?_
          refine z_st (st' := [.int (iI 0)]) rfl ?_
          refine z_if_eq_t (tgt := 86) hC dX6_carryOut_79 (by decide) ⟨by decide, by decide⟩ (by decide) ?_
          refine z_iconst hC dX6_carryOut_86 ?_
          refine z_istore_n (lv' := [(2, .int (iI 0)), (1, .int (iI (v.2.2.2 + 1))), (3, .int (iI ((mOrdr P pl 1 v.1 0 v.2.1 v.2.2.1).2))), (0, .ref h)]) hC dX6_carryOut_87 rfl (by decide) rfl ?_
          refine z_goto (tgt := 42) hC dX6_carryOut_88 (by decide) ?_
          refine z_iload_n hC dX6_carryOut_42 rfl 0 rfl ?_
          refine z_if_eq_t (tgt := 91) hC dX6_carryOut_43 (by decide) ⟨by decide, by decide⟩ (by decide) ?_
          refine z_aload_n hC dX6_carryOut_91 rfl 3 rfl ?_
          refine z_iconst hC dX6_carryOut_92 ?_
          refine z_puti (ws' := wM J h a L 0 ((mOrdr P pl 1 v.1 0 v.2.1 v.2.2.1).1.2.2.1) ((mOrdr P pl 1 v.1 0 v.2.1 v.2.2.1).1.2.2.2) 1 ((mOrdr P pl 1 v.1 0 v.2.1 v.2.2.1).1.2.1) ((mOrdr P pl 1 v.1 0 v.2.1 v.2.2.1).1.1) A T H S V P) hC zkX6 iX6_carryOut_X6 0 rfl 8 (by decide) kX6_carryOut_6 rfl rfl rfl rfl rfl rfl dX6_carryOut_93 rfl ?_
          refine z_aload_n hC dX6_carryOut_96 rfl 3 rfl ?_
          refine z_iload_n hC dX6_carryOut_97 rfl 1 rfl ?_
          refine z_callV (wr := ([] : va_W)) (av := [.int (iI (v.2.2.2 + 1))]) (st := []) hC (t_X6_changed l D J h a L 0 ((mOrdr P pl 1 v.1 0 v.2.1 v.2.2.1).1.2.2.1) ((mOrdr P pl 1 v.1 0 v.2.1 v.2.2.1).1.2.2.2) 1 ((mOrdr P pl 1 v.1 0 v.2.1 v.2.2.1).1.2.1) ((mOrdr P pl 1 v.1 0 v.2.1 v.2.2.1).1.1) A T H S V P (v.2.2.2 + 1) hL) gX6_carryOut_X6_changed rfl 1 (by decide +kernel) ⟨Nat.le_of_ble_eq_true rfl, Nat.le_of_ble_eq_true rfl⟩ ⟨Nat.le_of_ble_eq_true rfl, Nat.le_of_ble_eq_true rfl⟩ [0, 1, 2, 3, 4, 5, 6, 7] [] rfl rfl rfl (by decide) rfl 0 rfl rfl rfl rfl rfl (Nat.le_of_ble_eq_true rfl) dX6_carryOut_98 (fun _ _ => ?_)
          refine z_ws (ws' := wM J h a (mChL L) 0 ((mOrdr P pl 1 v.1 0 v.2.1 v.2.2.1).1.2.2.1) ((mOrdr P pl 1 v.1 0 v.2.1 v.2.2.1).1.2.2.2) 1 ((mOrdr P pl 1 v.1 0 v.2.1 v.2.2.1).1.2.1) ((mOrdr P pl 1 v.1 0 v.2.1 v.2.2.1).1.1) A T (mChH H A L) S V P) rfl ?_
          refine z_st (st' := [.int (iI (v.2.2.2 + 1))]) rfl ?_
          exact z_iret hC hr rfl () trivial (hvi (by have hco : mCoO P pl A er nb = ((((mOrdr P pl 1 v.1 0 v.2.1 v.2.2.1).1.1, (mOrdr P pl 1 v.1 0 v.2.1 v.2.2.1).1.2.1, (mOrdr P pl 1 v.1 0 v.2.1 v.2.2.1).1.2.2.1, (mOrdr P pl 1 v.1 0 v.2.1 v.2.2.1).1.2.2.2), v.2.2.2 + 1) : MS × Int) := (by rw [← hv5, mOut_s]; first | rw [if_pos (by assumption), if_neg (by assumption)] | rw [if_neg (by assumption)]); rw [if_pos (by assumption), hco])) (by have hco : mCoO P pl A er nb = ((((mOrdr P pl 1 v.1 0 v.2.1 v.2.2.1).1.1, (mOrdr P pl 1 v.1 0 v.2.1 v.2.2.1).1.2.1, (mOrdr P pl 1 v.1 0 v.2.1 v.2.2.1).1.2.2.1, (mOrdr P pl 1 v.1 0 v.2.1 v.2.2.1).1.2.2.2), v.2.2.2 + 1) : MS × Int) := (by rw [← hv5, mOut_s]; first | rw [if_pos (by assumption), if_neg (by assumption)] | rw [if_neg (by assumption)]); simp only [if_pos (show (mCoF P pl A er nb).2 = -6 by assumption), hco]) dX6_carryOut_101
    · change Z _ _ _ _ _ _ _ _ _ _ _ _ _ _ _ _ (wM J h a L pl v.2.1 v.2.2.1 1 0 v.1 A T H S V P) ([(2, .int (iI 1)), (1, .int (iI v.2.2.2)), (0, .ref h)]) 42 ([])
      obtain ⟨hv1, hv3, hv4, hv5⟩ := hP_3
      exfalso
      omega
  · refine z_bipush hC dX6_carryOut_9 (by decide) ?_
    exact z_iret hC hr rfl () trivial (hvi (by rw [if_neg (by assumption)])) (by simp only [if_neg (show ¬ (mCoF P pl A er nb).2 = -6 by assumption)]) dX6_carryOut_11
