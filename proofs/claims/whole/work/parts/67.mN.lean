set_option maxRecDepth 20000 in
theorem iX6_readsOrder_X6 : ∀ w ∈ u_ws RX6 TX6 13, w ∈ wsX6_readsOrder := zm_places _ [83, 84, 85, 86, 87, 88, 89, 90, 91, 92, 93, 94, 95] (by decide +kernel)
theorem kX6_readsOrder_1 : Cond.fieldLink RX6 161 "StepPairsModel" "isDone" "Z" ∈ wsX6_readsOrder := List.mem_of_getElem? (i := 1) rfl
theorem kX6_readsOrder_3 : Cond.fieldLink RX6 141 "StepPairsModel" "spot" "I" ∈ wsX6_readsOrder := List.mem_of_getElem? (i := 3) rfl
theorem kX6_readsOrder_2 : Cond.fieldLink RX6 28 "StepPairsModel" "pad" "[I" ∈ wsX6_readsOrder := List.mem_of_getElem? (i := 2) rfl
theorem kX6_readsOrder_4 : Cond.fieldLink RX6 147 "StepPairsModel" "number" "I" ∈ wsX6_readsOrder := List.mem_of_getElem? (i := 4) rfl
abbrev rmX6_readsOrder : Room := { frames := 5, cells := 0, slots := 0, locals := 115 }
set_option maxHeartbeats 4000000 in
set_option maxRecDepth 100000 in
theorem t_X6_readsOrder (l : Launch) (D : va_G) (J : Nat → ClassId) (h : Nat) (a : Nat → Nat) (L pl sp nb dn er : Int) (A K T H S V P : Nat → Int) (hsp : 0 ≤ sp ∧ sp ≤ 80) (hpl : 0 ≤ pl ∧ pl ≤ 80) (hPv : ∀ j, 0 ≤ P j ∧ P j ≤ 126) (hI : InvM A) (her : -5 ≤ er ∧ er ≤ 0) (hdn : 0 ≤ dn ∧ dn ≤ 1) : ZX l yX6_readsOrder wsX6_readsOrder rmX6_readsOrder D J [.ref h] (wM J h a L pl sp nb dn er A K T H S V P) (some (.int (iI ((mOrdr P pl dn A er sp nb).2)))) (wM J h a L pl ((mOrdr P pl dn A er sp nb).1.2.2.1) ((mOrdr P pl dn A er sp nb).1.2.2.2) dn ((mOrdr P pl dn A er sp nb).1.2.1) ((mOrdr P pl dn A er sp nb).1.1) K T H S V P) := by
  refine z_met (cc := cX6_readsOrder) (nL := 2) (ret := (some .boolean)) (own := RX6) (by decide) rfl rfl (Nat.le_of_ble_eq_true rfl) (fun p e s m args below meth c hC hr hin => ?_)
  refine z_lv0 (lv' := [(0, .ref h)]) rfl ?_
  refine z_aload_n hC dX6_readsOrder_0 rfl 0 rfl ?_
  refine z_bipush hC dX6_readsOrder_1 (by decide) ?_
  refine z_callV (wr := ([] : va_W)) (av := [.int (iI 122)]) (st := []) hC (t_X6_takes l D J h a L pl sp nb dn er A K T H S V P 122 ⟨by omega, by omega⟩ ⟨by omega, by omega⟩ hpl hPv) gX6_readsOrder_X6_takes rfl 1 (by decide +kernel) ⟨Nat.le_of_ble_eq_true rfl, Nat.le_of_ble_eq_true rfl⟩ ⟨Nat.le_of_ble_eq_true rfl, Nat.le_of_ble_eq_true rfl⟩ [0, 1, 2, 3, 4, 5, 6, 7] [] rfl rfl rfl (by decide) rfl 0 rfl rfl rfl rfl rfl (Nat.le_of_ble_eq_true rfl) dX6_readsOrder_3 (fun _ _ => ?_)
  refine z_ws (ws' := wM J h a L pl (pSk P pl sp 122) nb dn er A K T H S V P) rfl ?_
  refine z_st (st' := [.int (iI (pSkR P pl sp 122))]) rfl ?_
  by_cases hk_1 : pAt P pl sp = 122
  · rw [pSkR_1 hk_1, pSk_1 hk_1]
    have hk_1s := pAt_spec P pl sp
    refine z_ws (ws' := wM J h a L pl (sp + 1) nb dn er A K T H S V P) rfl ?_
    refine z_st (st' := [.int (iI 1)]) rfl ?_
    refine z_if_eq_f (tgt := 26) hC dX6_readsOrder_6 (by decide) ⟨by decide, by decide⟩ (by decide) ?_
    refine z_aload_n hC dX6_readsOrder_9 rfl 0 rfl ?_
    refine z_geti hC zkX6 iX6_readsOrder_X6 0 rfl 11 (by decide) kX6_readsOrder_1 rfl rfl dX6_readsOrder_10 ?_
    refine z_int (y := iI dn) hC (rfl) ?_
    refine z_if_eq (tgt := 24) hC dX6_readsOrder_13 (by decide) (by unfold inR; omega) (fun c_13_2 => ?_) (fun c_13_2 => ?_)
    · refine z_iconst hC dX6_readsOrder_24 ?_
      exact z_iret hC hr rfl () trivial (hvi (congrArg (fun z : MS × Int => z.2) (show mOrdr P pl dn A er sp nb = (((A, er, sp + 1, nb), 1) : MS × Int) from Eq.symm (by symm; unfold mOrdr; rw [if_pos (by assumption)]; unfold mOrdZ; first | rw [if_pos (by omega)] | rw [if_neg (by omega)])))) (congrArg (fun z : MS × Int => wM J h a L pl z.1.2.2.1 z.1.2.2.2 dn z.1.2.1 z.1.1 K T H S V P) (show (((A, er, sp + 1, nb), 1) : MS × Int) = mOrdr P pl dn A er sp nb from (by symm; unfold mOrdr; rw [if_pos (by assumption)]; unfold mOrdZ; first | rw [if_pos (by omega)] | rw [if_neg (by omega)]))) dX6_readsOrder_25
    · refine z_aload_n hC dX6_readsOrder_16 rfl 0 rfl ?_
      refine z_aload_n hC dX6_readsOrder_17 rfl 0 rfl ?_
      refine z_callV (wr := ([] : va_W)) (av := []) (st := [.ref h]) hC (t_X6_doZero l D J h a L pl (sp + 1) nb dn er A K T H S V P  ) gX6_readsOrder_X6_doZero rfl 0 (by decide +kernel) ⟨Nat.le_of_ble_eq_true rfl, Nat.le_of_ble_eq_true rfl⟩ ⟨Nat.le_of_ble_eq_true rfl, Nat.le_of_ble_eq_true rfl⟩ [0, 1, 2, 3, 4, 5, 6, 7] [] rfl rfl rfl (by decide) rfl 0 rfl rfl rfl rfl rfl (Nat.le_of_ble_eq_true rfl) dX6_readsOrder_18 (fun _ _ => ?_)
      refine z_ws (ws' := wM J h a L pl (sp + 1) nb dn er (updZ (updZ A 6 0) 7 0) K T H S V P) rfl ?_
      refine z_st (st' := [.int (iI (A 6)), .ref h]) rfl ?_
      refine z_callV (wr := ([] : va_W)) (av := [.int (iI (A 6))]) (st := []) hC (t_X6_does l D J h a L pl (sp + 1) nb dn er (updZ (updZ A 6 0) 7 0) K T H S V P (A 6) (by obtain ⟨m0, m1, m2, m3, m4, m5, m6, m7, m8, m9, m10, m13, m14, m15, m16, m17, m18, m19, m20, mg⟩ := hI; unfold inR; omega)) gX6_readsOrder_X6_does rfl 1 (by decide +kernel) ⟨Nat.le_of_ble_eq_true rfl, Nat.le_of_ble_eq_true rfl⟩ ⟨Nat.le_of_ble_eq_true rfl, Nat.le_of_ble_eq_true rfl⟩ [0, 1, 2, 3, 4, 5, 6, 7] [] rfl rfl rfl (by decide) rfl 0 rfl rfl rfl rfl rfl (Nat.le_of_ble_eq_true rfl) dX6_readsOrder_21 (fun _ _ => ?_)
      refine z_ws (ws' := wM J h a L pl (sp + 1) nb dn (if A 6 < 0 then A 6 else 0) (updZ (updZ A 6 0) 7 0) K T H S V P) rfl ?_
      refine z_st (st' := []) rfl ?_
      refine z_iconst hC dX6_readsOrder_24 ?_
      exact z_iret hC hr rfl () trivial (hvi (congrArg (fun z : MS × Int => z.2) (show mOrdr P pl dn A er sp nb = (((updZ (updZ A 6 0) 7 0, (if A 6 < 0 then A 6 else 0), sp + 1, nb), 1) : MS × Int) from Eq.symm (by symm; unfold mOrdr; rw [if_pos (by assumption)]; unfold mOrdZ; first | rw [if_pos (by omega)] | rw [if_neg (by omega)])))) (congrArg (fun z : MS × Int => wM J h a L pl z.1.2.2.1 z.1.2.2.2 dn z.1.2.1 z.1.1 K T H S V P) (show (((updZ (updZ A 6 0) 7 0, (if A 6 < 0 then A 6 else 0), sp + 1, nb), 1) : MS × Int) = mOrdr P pl dn A er sp nb from (by symm; unfold mOrdr; rw [if_pos (by assumption)]; unfold mOrdZ; first | rw [if_pos (by omega)] | rw [if_neg (by omega)]))) dX6_readsOrder_25
  · rw [pSkR_0 hk_1, pSk_0 hk_1]
    have hk_1s := pAt_spec P pl sp
    refine z_ws (ws' := wM J h a L pl sp nb dn er A K T H S V P) rfl ?_
    refine z_st (st' := [.int (iI 0)]) rfl ?_
    refine z_if_eq_t (tgt := 26) hC dX6_readsOrder_6 (by decide) ⟨by decide, by decide⟩ (by decide) ?_
    refine z_aload_n hC dX6_readsOrder_26 rfl 0 rfl ?_
    refine z_bipush hC dX6_readsOrder_27 (by decide) ?_
    refine z_callV (wr := ([] : va_W)) (av := [.int (iI 110)]) (st := []) hC (t_X6_takes l D J h a L pl sp nb dn er A K T H S V P 110 ⟨by omega, by omega⟩ ⟨by omega, by omega⟩ hpl hPv) gX6_readsOrder_X6_takes rfl 1 (by decide +kernel) ⟨Nat.le_of_ble_eq_true rfl, Nat.le_of_ble_eq_true rfl⟩ ⟨Nat.le_of_ble_eq_true rfl, Nat.le_of_ble_eq_true rfl⟩ [0, 1, 2, 3, 4, 5, 6, 7] [] rfl rfl rfl (by decide) rfl 0 rfl rfl rfl rfl rfl (Nat.le_of_ble_eq_true rfl) dX6_readsOrder_29 (fun _ _ => ?_)
    refine z_ws (ws' := wM J h a L pl (pSk P pl sp 110) nb dn er A K T H S V P) rfl ?_
    refine z_st (st' := [.int (iI (pSkR P pl sp 110))]) rfl ?_
    by_cases hk_3 : pAt P pl sp = 110
    · rw [pSkR_1 hk_3, pSk_1 hk_3]
      have hk_3s := pAt_spec P pl sp
      refine z_ws (ws' := wM J h a L pl (sp + 1) nb dn er A K T H S V P) rfl ?_
      refine z_st (st' := [.int (iI 1)]) rfl ?_
      refine z_if_eq_f (tgt := 88) hC dX6_readsOrder_32 (by decide) ⟨by decide, by decide⟩ (by decide) ?_
      refine z_aload_n hC dX6_readsOrder_35 rfl 0 rfl ?_
      refine z_bipush hC dX6_readsOrder_36 (by decide) ?_
      refine z_bipush hC dX6_readsOrder_38 (by decide) ?_
      refine z_callV (wr := ([] : va_W)) (av := [.int (iI 49), .int (iI 57)]) (st := []) hC (t_X6_isHere l D J h a L pl (sp + 1) nb dn er A K T H S V P 49 57 ⟨by omega, by omega⟩ ⟨by omega, by omega⟩ ⟨by omega, by omega⟩ hpl hPv) gX6_readsOrder_X6_isHere rfl 2 (by decide +kernel) ⟨Nat.le_of_ble_eq_true rfl, Nat.le_of_ble_eq_true rfl⟩ ⟨Nat.le_of_ble_eq_true rfl, Nat.le_of_ble_eq_true rfl⟩ [0, 1, 2, 3, 4, 5, 6, 7] [] rfl rfl rfl (by decide) rfl 0 rfl rfl rfl rfl rfl (Nat.le_of_ble_eq_true rfl) dX6_readsOrder_40 (fun _ _ => ?_)
      refine z_ws (ws' := wM J h a L pl (sp + 1) nb dn er A K T H S V P) rfl ?_
      refine z_st (st' := [.int (iI (mIn (pAt P pl (sp + 1)) 49 57))]) rfl ?_
      have hat_4 := pAt_at (P := P) (pl := pl) (sp := sp + 1) hpl ⟨by omega, by omega⟩ hPv
      have hmi_5 := mIn_spec (pAt P pl (sp + 1)) 49 57
      refine z_if_ne (tgt := 48) hC dX6_readsOrder_43 (by decide) (inR_01 (mIn_01 _ _ _)) (fun c_43_6 => ?_) (fun c_43_6 => ?_)
      · refine z_aload_n hC dX6_readsOrder_48 rfl 0 rfl ?_
        refine z_geti hC zkX6 iX6_readsOrder_X6 0 rfl 11 (by decide) kX6_readsOrder_1 rfl rfl dX6_readsOrder_49 ?_
        refine z_int (y := iI dn) hC (rfl) ?_
        refine z_if_eq (tgt := 76) hC dX6_readsOrder_52 (by decide) (by unfold inR; omega) (fun c_52_7 => ?_) (fun c_52_7 => ?_)
        · refine z_aload_n hC dX6_readsOrder_76 rfl 0 rfl ?_
          refine z_dup hC dX6_readsOrder_77 rfl ?_
          refine z_geti hC zkX6 iX6_readsOrder_X6 0 rfl 9 (by decide) kX6_readsOrder_3 rfl rfl dX6_readsOrder_78 ?_
          refine z_int (y := iI (sp + 1)) hC (rfl) ?_
          refine z_iconst hC dX6_readsOrder_81 ?_
          refine z_iadd hC dX6_readsOrder_82 ?_
          refine z_puti (ws' := wM J h a L pl ((sp + 1) + 1) nb dn er A K T H S V P) hC zkX6 iX6_readsOrder_X6 0 rfl 9 (by decide) kX6_readsOrder_3 rfl rfl rfl rfl rfl rfl dX6_readsOrder_83 rfl ?_
          refine z_iconst hC dX6_readsOrder_86 ?_
          exact z_iret hC hr rfl () trivial (hvi (congrArg (fun z : MS × Int => z.2) (show mOrdr P pl dn A er sp nb = (((A, er, (sp + 1) + 1, nb), 1) : MS × Int) from Eq.symm (by symm; unfold mOrdr; rw [if_neg (by omega), if_pos (by assumption)]; unfold mOrdN; first | rw [if_pos (by omega)] | rw [if_neg (by omega), if_pos (by omega)] | rw [if_neg (by omega), if_neg (by omega)])))) (congrArg (fun z : MS × Int => wM J h a L pl z.1.2.2.1 z.1.2.2.2 dn z.1.2.1 z.1.1 K T H S V P) (show (((A, er, (sp + 1) + 1, nb), 1) : MS × Int) = mOrdr P pl dn A er sp nb from (by symm; unfold mOrdr; rw [if_neg (by omega), if_pos (by assumption)]; unfold mOrdN; first | rw [if_pos (by omega)] | rw [if_neg (by omega), if_pos (by omega)] | rw [if_neg (by omega), if_neg (by omega)]))) dX6_readsOrder_87
        · refine z_aload_n hC dX6_readsOrder_55 rfl 0 rfl ?_
          refine z_aload_n hC dX6_readsOrder_56 rfl 0 rfl ?_
          refine z_iconst hC dX6_readsOrder_57 ?_
          refine z_aload_n hC dX6_readsOrder_58 rfl 0 rfl ?_
          refine z_getr hC zkX6 iX6_readsOrder_X6 0 rfl 7 (by decide) kX6_readsOrder_2 rfl rfl dX6_readsOrder_59 ?_
          refine z_aload_n hC dX6_readsOrder_62 rfl 0 rfl ?_
          refine z_geti hC zkX6 iX6_readsOrder_X6 0 rfl 9 (by decide) kX6_readsOrder_3 rfl rfl dX6_readsOrder_63 ?_
          refine z_int (y := iI (sp + 1)) hC (rfl) ?_
          refine z_iald hC 7 rfl 0 rfl (Int.toNat (sp + 1)) (Int.toNat_of_nonneg (by omega)).symm (by omega) (by decide) dX6_readsOrder_66 ?_
          refine z_bipush hC dX6_readsOrder_67 (by decide) ?_
          refine z_isub hC dX6_readsOrder_69 ?_
          refine z_int (y := iI (pAt P pl (sp + 1) - 48)) hC (congrArg iI (by omega)) ?_
          refine z_callV (wr := ([] : va_W)) (av := [.int (iI 2), .int (iI (pAt P pl (sp + 1) - 48))]) (st := [.ref h]) hC (t_X6_doSet l D J h a L pl (sp + 1) nb dn er A K T H S V P 2 (pAt P pl (sp + 1) - 48) (by unfold inR; omega) (by unfold inR; omega) hI) gX6_readsOrder_X6_doSet rfl 2 (by decide +kernel) ⟨Nat.le_of_ble_eq_true rfl, Nat.le_of_ble_eq_true rfl⟩ ⟨Nat.le_of_ble_eq_true rfl, Nat.le_of_ble_eq_true rfl⟩ [0, 1, 2, 3, 4, 5, 6, 7] [] rfl rfl rfl (by decide) rfl 0 rfl rfl rfl rfl rfl (Nat.le_of_ble_eq_true rfl) dX6_readsOrder_70 (fun _ _ => ?_)
          refine z_ws (ws' := wM J h a L pl (sp + 1) nb dn er (mSetA A 2 (pAt P pl (sp + 1) - 48)) K T H S V P) rfl ?_
          refine z_st (st' := [.int (iI (mSetR A 2 (pAt P pl (sp + 1) - 48))), .ref h]) rfl ?_
          refine z_callV (wr := ([] : va_W)) (av := [.int (iI (mSetR A 2 (pAt P pl (sp + 1) - 48)))]) (st := []) hC (t_X6_does l D J h a L pl (sp + 1) nb dn er (mSetA A 2 (pAt P pl (sp + 1) - 48)) K T H S V P (mSetR A 2 (pAt P pl (sp + 1) - 48)) (inR_of5 (mSetR_in hI))) gX6_readsOrder_X6_does rfl 1 (by decide +kernel) ⟨Nat.le_of_ble_eq_true rfl, Nat.le_of_ble_eq_true rfl⟩ ⟨Nat.le_of_ble_eq_true rfl, Nat.le_of_ble_eq_true rfl⟩ [0, 1, 2, 3, 4, 5, 6, 7] [] rfl rfl rfl (by decide) rfl 0 rfl rfl rfl rfl rfl (Nat.le_of_ble_eq_true rfl) dX6_readsOrder_73 (fun _ _ => ?_)
          refine z_ws (ws' := wM J h a L pl (sp + 1) nb dn (if mSetR A 2 (pAt P pl (sp + 1) - 48) < 0 then mSetR A 2 (pAt P pl (sp + 1) - 48) else 0) (mSetA A 2 (pAt P pl (sp + 1) - 48)) K T H S V P) rfl ?_
          refine z_st (st' := []) rfl ?_
          refine z_aload_n hC dX6_readsOrder_76 rfl 0 rfl ?_
          refine z_dup hC dX6_readsOrder_77 rfl ?_
          refine z_geti hC zkX6 iX6_readsOrder_X6 0 rfl 9 (by decide) kX6_readsOrder_3 rfl rfl dX6_readsOrder_78 ?_
          refine z_int (y := iI (sp + 1)) hC (rfl) ?_
          refine z_iconst hC dX6_readsOrder_81 ?_
          refine z_iadd hC dX6_readsOrder_82 ?_
          refine z_puti (ws' := wM J h a L pl ((sp + 1) + 1) nb dn (if mSetR A 2 (pAt P pl (sp + 1) - 48) < 0 then mSetR A 2 (pAt P pl (sp + 1) - 48) else 0) (mSetA A 2 (pAt P pl (sp + 1) - 48)) K T H S V P) hC zkX6 iX6_readsOrder_X6 0 rfl 9 (by decide) kX6_readsOrder_3 rfl rfl rfl rfl rfl rfl dX6_readsOrder_83 rfl ?_
          refine z_iconst hC dX6_readsOrder_86 ?_
          exact z_iret hC hr rfl () trivial (hvi (congrArg (fun z : MS × Int => z.2) (show mOrdr P pl dn A er sp nb = (((mSetA A 2 (pAt P pl (sp + 1) - 48), (if mSetR A 2 (pAt P pl (sp + 1) - 48) < 0 then mSetR A 2 (pAt P pl (sp + 1) - 48) else 0), (sp + 1) + 1, nb), 1) : MS × Int) from Eq.symm (by symm; unfold mOrdr; rw [if_neg (by omega), if_pos (by assumption)]; unfold mOrdN; first | rw [if_pos (by omega)] | rw [if_neg (by omega), if_pos (by omega)] | rw [if_neg (by omega), if_neg (by omega)])))) (congrArg (fun z : MS × Int => wM J h a L pl z.1.2.2.1 z.1.2.2.2 dn z.1.2.1 z.1.1 K T H S V P) (show (((mSetA A 2 (pAt P pl (sp + 1) - 48), (if mSetR A 2 (pAt P pl (sp + 1) - 48) < 0 then mSetR A 2 (pAt P pl (sp + 1) - 48) else 0), (sp + 1) + 1, nb), 1) : MS × Int) = mOrdr P pl dn A er sp nb from (by symm; unfold mOrdr; rw [if_neg (by omega), if_pos (by assumption)]; unfold mOrdN; first | rw [if_pos (by omega)] | rw [if_neg (by omega), if_pos (by omega)] | rw [if_neg (by omega), if_neg (by omega)]))) dX6_readsOrder_87
      · refine z_iconst hC dX6_readsOrder_46 ?_
        exact z_iret hC hr rfl () trivial (hvi (congrArg (fun z : MS × Int => z.2) (show mOrdr P pl dn A er sp nb = (((A, er, sp + 1, nb), 0) : MS × Int) from Eq.symm (by symm; unfold mOrdr; rw [if_neg (by omega), if_pos (by assumption)]; unfold mOrdN; first | rw [if_pos (by omega)] | rw [if_neg (by omega), if_pos (by omega)] | rw [if_neg (by omega), if_neg (by omega)])))) (congrArg (fun z : MS × Int => wM J h a L pl z.1.2.2.1 z.1.2.2.2 dn z.1.2.1 z.1.1 K T H S V P) (show (((A, er, sp + 1, nb), 0) : MS × Int) = mOrdr P pl dn A er sp nb from (by symm; unfold mOrdr; rw [if_neg (by omega), if_pos (by assumption)]; unfold mOrdN; first | rw [if_pos (by omega)] | rw [if_neg (by omega), if_pos (by omega)] | rw [if_neg (by omega), if_neg (by omega)]))) dX6_readsOrder_47
    · rw [pSkR_0 hk_3, pSk_0 hk_3]
      have hk_3s := pAt_spec P pl sp
      refine z_ws (ws' := wM J h a L pl sp nb dn er A K T H S V P) rfl ?_
      refine z_st (st' := [.int (iI 0)]) rfl ?_
      refine z_if_eq_t (tgt := 88) hC dX6_readsOrder_32 (by decide) ⟨by decide, by decide⟩ (by decide) ?_
      refine z_aload_n hC dX6_readsOrder_88 rfl 0 rfl ?_
      refine z_bipush hC dX6_readsOrder_89 (by decide) ?_
      refine z_callV (wr := ([] : va_W)) (av := [.int (iI 102)]) (st := []) hC (t_X6_takes l D J h a L pl sp nb dn er A K T H S V P 102 ⟨by omega, by omega⟩ ⟨by omega, by omega⟩ hpl hPv) gX6_readsOrder_X6_takes rfl 1 (by decide +kernel) ⟨Nat.le_of_ble_eq_true rfl, Nat.le_of_ble_eq_true rfl⟩ ⟨Nat.le_of_ble_eq_true rfl, Nat.le_of_ble_eq_true rfl⟩ [0, 1, 2, 3, 4, 5, 6, 7] [] rfl rfl rfl (by decide) rfl 0 rfl rfl rfl rfl rfl (Nat.le_of_ble_eq_true rfl) dX6_readsOrder_91 (fun _ _ => ?_)
      refine z_ws (ws' := wM J h a L pl (pSk P pl sp 102) nb dn er A K T H S V P) rfl ?_
      refine z_st (st' := [.int (iI (pSkR P pl sp 102))]) rfl ?_
      by_cases hk_8 : pAt P pl sp = 102
      · rw [pSkR_1 hk_8, pSk_1 hk_8]
        have hk_8s := pAt_spec P pl sp
        refine z_ws (ws' := wM J h a L pl (sp + 1) nb dn er A K T H S V P) rfl ?_
        refine z_st (st' := [.int (iI 1)]) rfl ?_
        refine z_istore_n (lv' := [(1, .int (iI 1)), (0, .ref h)]) hC dX6_readsOrder_94 rfl (by decide) rfl ?_
        refine z_iload_n hC dX6_readsOrder_95 rfl 0 rfl ?_
        refine z_if_ne_t (tgt := 108) hC dX6_readsOrder_96 (by decide) ⟨by decide, by decide⟩ (by decide) ?_
        refine z_aload_n hC dX6_readsOrder_108 rfl 1 rfl ?_
        refine z_callV (wr := ([] : va_W)) (av := []) (st := []) hC (t_X6_readsNumber l D J h a L pl (sp + 1) nb dn er A K T H S V P  ⟨by omega, by omega⟩ hpl hPv) gX6_readsOrder_X6_readsNumber rfl 0 (by decide +kernel) ⟨Nat.le_of_ble_eq_true rfl, Nat.le_of_ble_eq_true rfl⟩ ⟨Nat.le_of_ble_eq_true rfl, Nat.le_of_ble_eq_true rfl⟩ [0, 1, 2, 3, 4, 5, 6, 7] [] rfl rfl rfl (by decide) rfl 0 rfl rfl rfl rfl rfl (Nat.le_of_ble_eq_true rfl) dX6_readsOrder_109 (fun _ _ => ?_)
        refine z_ws (ws' := wM J h a L pl (pNumP P pl (sp + 1)) (if pNumR P pl (sp + 1) = 0 then nb else pNumV P pl (sp + 1)) dn er A K T H S V P) rfl ?_
        refine z_st (st' := [.int (iI (pNumR P pl (sp + 1)))]) rfl ?_
        refine z_ws (ws' := wM J h a L pl (pNumP P pl (sp + 1)) (mNumN P pl (sp + 1) nb) dn er A K T H S V P) rfl ?_
        have hnv : 0 ≤ pNumV P pl (sp + 1) ∧ pNumV P pl (sp + 1) ≤ 999 := pNumV_in pl (sp + 1)
        have hnn : pNumR P pl (sp + 1) = 0 ∨ mNumN P pl (sp + 1) nb = pNumV P pl (sp + 1) := by unfold mNumN; split <;> first | exact Or.inl (by assumption) | exact Or.inr rfl
        refine z_if_ne (tgt := 117) hC dX6_readsOrder_112 (by decide) (inR_01 (pNumR_01 _ _ _)) (fun c_112_9 => ?_) (fun c_112_9 => ?_)
        · refine z_aload_n hC dX6_readsOrder_117 rfl 1 rfl ?_
          refine z_geti hC zkX6 iX6_readsOrder_X6 0 rfl 11 (by decide) kX6_readsOrder_1 rfl rfl dX6_readsOrder_118 ?_
          refine z_int (y := iI dn) hC (rfl) ?_
          refine z_if_eq (tgt := 148) hC dX6_readsOrder_121 (by decide) (by unfold inR; omega) (fun c_121_10 => ?_) (fun c_121_10 => ?_)
          · refine z_iconst hC dX6_readsOrder_148 ?_
            exact z_iret hC hr rfl () trivial (hvi (congrArg (fun z : MS × Int => z.2) (show mOrdr P pl dn A er sp nb = (((A, er, pNumP P pl (sp + 1), mNumN P pl (sp + 1) nb), 1) : MS × Int) from Eq.symm (by symm; unfold mOrdr; rw [if_neg (by omega), if_neg (by omega), if_pos (by assumption)]; unfold mOrdT; simp only [Int.one_mul, Int.neg_one_mul]; first | rw [if_pos (by omega)] | rw [if_neg (by omega), if_pos (by omega)] | rw [if_neg (by omega), if_neg (by omega)])))) (congrArg (fun z : MS × Int => wM J h a L pl z.1.2.2.1 z.1.2.2.2 dn z.1.2.1 z.1.1 K T H S V P) (show (((A, er, pNumP P pl (sp + 1), mNumN P pl (sp + 1) nb), 1) : MS × Int) = mOrdr P pl dn A er sp nb from (by symm; unfold mOrdr; rw [if_neg (by omega), if_neg (by omega), if_pos (by assumption)]; unfold mOrdT; simp only [Int.one_mul, Int.neg_one_mul]; first | rw [if_pos (by omega)] | rw [if_neg (by omega), if_pos (by omega)] | rw [if_neg (by omega), if_neg (by omega)]))) dX6_readsOrder_149
          · refine z_aload_n hC dX6_readsOrder_124 rfl 1 rfl ?_
            refine z_aload_n hC dX6_readsOrder_125 rfl 1 rfl ?_
            refine z_iload_n hC dX6_readsOrder_126 rfl 0 rfl ?_
            refine z_if_eq_f (tgt := 137) hC dX6_readsOrder_127 (by decide) ⟨by decide, by decide⟩ (by decide) ?_
            refine z_aload_n hC dX6_readsOrder_130 rfl 1 rfl ?_
            refine z_geti hC zkX6 iX6_readsOrder_X6 0 rfl 10 (by decide) kX6_readsOrder_4 rfl rfl dX6_readsOrder_131 ?_
            refine z_int (y := iI (mNumN P pl (sp + 1) nb)) hC (rfl) ?_
            refine z_goto (tgt := 142) hC dX6_readsOrder_134 (by decide) ?_
            refine z_callV (wr := ([] : va_W)) (av := [.int (iI (mNumN P pl (sp + 1) nb))]) (st := [.ref h]) hC (t_X6_doTurn l D J h a L pl (pNumP P pl (sp + 1)) (mNumN P pl (sp + 1) nb) dn er A K T H S V P (mNumN P pl (sp + 1) nb) (by unfold inR; omega) hI) gX6_readsOrder_X6_doTurn rfl 1 (by decide +kernel) ⟨Nat.le_of_ble_eq_true rfl, Nat.le_of_ble_eq_true rfl⟩ ⟨Nat.le_of_ble_eq_true rfl, Nat.le_of_ble_eq_true rfl⟩ [0, 1, 2, 3, 4, 5, 6, 7] [] rfl rfl rfl (by decide) rfl 0 rfl rfl rfl rfl rfl (Nat.le_of_ble_eq_true rfl) dX6_readsOrder_142 (fun _ _ => ?_)
            refine z_ws (ws' := wM J h a L pl (pNumP P pl (sp + 1)) (mNumN P pl (sp + 1) nb) dn er (mTurnA A (mNumN P pl (sp + 1) nb)) K T H S V P) rfl ?_
            refine z_st (st' := [.int (iI (mTurnR A (mNumN P pl (sp + 1) nb))), .ref h]) rfl ?_
            refine z_callV (wr := ([] : va_W)) (av := [.int (iI (mTurnR A (mNumN P pl (sp + 1) nb)))]) (st := []) hC (t_X6_does l D J h a L pl (pNumP P pl (sp + 1)) (mNumN P pl (sp + 1) nb) dn er (mTurnA A (mNumN P pl (sp + 1) nb)) K T H S V P (mTurnR A (mNumN P pl (sp + 1) nb)) (inR_of5 (mTurnR_in hI))) gX6_readsOrder_X6_does rfl 1 (by decide +kernel) ⟨Nat.le_of_ble_eq_true rfl, Nat.le_of_ble_eq_true rfl⟩ ⟨Nat.le_of_ble_eq_true rfl, Nat.le_of_ble_eq_true rfl⟩ [0, 1, 2, 3, 4, 5, 6, 7] [] rfl rfl rfl (by decide) rfl 0 rfl rfl rfl rfl rfl (Nat.le_of_ble_eq_true rfl) dX6_readsOrder_145 (fun _ _ => ?_)
            refine z_ws (ws' := wM J h a L pl (pNumP P pl (sp + 1)) (mNumN P pl (sp + 1) nb) dn (if mTurnR A (mNumN P pl (sp + 1) nb) < 0 then mTurnR A (mNumN P pl (sp + 1) nb) else 0) (mTurnA A (mNumN P pl (sp + 1) nb)) K T H S V P) rfl ?_
            refine z_st (st' := []) rfl ?_
            refine z_iconst hC dX6_readsOrder_148 ?_
            exact z_iret hC hr rfl () trivial (hvi (congrArg (fun z : MS × Int => z.2) (show mOrdr P pl dn A er sp nb = (((mTurnA A (mNumN P pl (sp + 1) nb), (if mTurnR A (mNumN P pl (sp + 1) nb) < 0 then mTurnR A (mNumN P pl (sp + 1) nb) else 0), pNumP P pl (sp + 1), mNumN P pl (sp + 1) nb), 1) : MS × Int) from Eq.symm (by symm; unfold mOrdr; rw [if_neg (by omega), if_neg (by omega), if_pos (by assumption)]; unfold mOrdT; simp only [Int.one_mul, Int.neg_one_mul]; first | rw [if_pos (by omega)] | rw [if_neg (by omega), if_pos (by omega)] | rw [if_neg (by omega), if_neg (by omega)])))) (congrArg (fun z : MS × Int => wM J h a L pl z.1.2.2.1 z.1.2.2.2 dn z.1.2.1 z.1.1 K T H S V P) (show (((mTurnA A (mNumN P pl (sp + 1) nb), (if mTurnR A (mNumN P pl (sp + 1) nb) < 0 then mTurnR A (mNumN P pl (sp + 1) nb) else 0), pNumP P pl (sp + 1), mNumN P pl (sp + 1) nb), 1) : MS × Int) = mOrdr P pl dn A er sp nb from (by symm; unfold mOrdr; rw [if_neg (by omega), if_neg (by omega), if_pos (by assumption)]; unfold mOrdT; simp only [Int.one_mul, Int.neg_one_mul]; first | rw [if_pos (by omega)] | rw [if_neg (by omega), if_pos (by omega)] | rw [if_neg (by omega), if_neg (by omega)]))) dX6_readsOrder_149
        · refine z_iconst hC dX6_readsOrder_115 ?_
          exact z_iret hC hr rfl () trivial (hvi (congrArg (fun z : MS × Int => z.2) (show mOrdr P pl dn A er sp nb = (((A, er, pNumP P pl (sp + 1), mNumN P pl (sp + 1) nb), 0) : MS × Int) from Eq.symm (by symm; unfold mOrdr; rw [if_neg (by omega), if_neg (by omega), if_pos (by assumption)]; unfold mOrdT; simp only [Int.one_mul, Int.neg_one_mul]; first | rw [if_pos (by omega)] | rw [if_neg (by omega), if_pos (by omega)] | rw [if_neg (by omega), if_neg (by omega)])))) (congrArg (fun z : MS × Int => wM J h a L pl z.1.2.2.1 z.1.2.2.2 dn z.1.2.1 z.1.1 K T H S V P) (show (((A, er, pNumP P pl (sp + 1), mNumN P pl (sp + 1) nb), 0) : MS × Int) = mOrdr P pl dn A er sp nb from (by symm; unfold mOrdr; rw [if_neg (by omega), if_neg (by omega), if_pos (by assumption)]; unfold mOrdT; simp only [Int.one_mul, Int.neg_one_mul]; first | rw [if_pos (by omega)] | rw [if_neg (by omega), if_pos (by omega)] | rw [if_neg (by omega), if_neg (by omega)]))) dX6_readsOrder_116
      · rw [pSkR_0 hk_8, pSk_0 hk_8]
        have hk_8s := pAt_spec P pl sp
        refine z_ws (ws' := wM J h a L pl sp nb dn er A K T H S V P) rfl ?_
        refine z_st (st' := [.int (iI 0)]) rfl ?_
        refine z_istore_n (lv' := [(1, .int (iI 0)), (0, .ref h)]) hC dX6_readsOrder_94 rfl (by decide) rfl ?_
        refine z_iload_n hC dX6_readsOrder_95 rfl 0 rfl ?_
        refine z_if_ne_f (tgt := 108) hC dX6_readsOrder_96 (by decide) ⟨by decide, by decide⟩ (by decide) ?_
        refine z_aload_n hC dX6_readsOrder_99 rfl 1 rfl ?_
        refine z_bipush hC dX6_readsOrder_100 (by decide) ?_
        refine z_callV (wr := ([] : va_W)) (av := [.int (iI 98)]) (st := []) hC (t_X6_takes l D J h a L pl sp nb dn er A K T H S V P 98 ⟨by omega, by omega⟩ ⟨by omega, by omega⟩ hpl hPv) gX6_readsOrder_X6_takes rfl 1 (by decide +kernel) ⟨Nat.le_of_ble_eq_true rfl, Nat.le_of_ble_eq_true rfl⟩ ⟨Nat.le_of_ble_eq_true rfl, Nat.le_of_ble_eq_true rfl⟩ [0, 1, 2, 3, 4, 5, 6, 7] [] rfl rfl rfl (by decide) rfl 0 rfl rfl rfl rfl rfl (Nat.le_of_ble_eq_true rfl) dX6_readsOrder_102 (fun _ _ => ?_)
        refine z_ws (ws' := wM J h a L pl (pSk P pl sp 98) nb dn er A K T H S V P) rfl ?_
        refine z_st (st' := [.int (iI (pSkR P pl sp 98))]) rfl ?_
        by_cases hk_11 : pAt P pl sp = 98
        · rw [pSkR_1 hk_11, pSk_1 hk_11]
          have hk_11s := pAt_spec P pl sp
          refine z_ws (ws' := wM J h a L pl (sp + 1) nb dn er A K T H S V P) rfl ?_
          refine z_st (st' := [.int (iI 1)]) rfl ?_
          refine z_if_eq_f (tgt := 150) hC dX6_readsOrder_105 (by decide) ⟨by decide, by decide⟩ (by decide) ?_
          refine z_aload_n hC dX6_readsOrder_108 rfl 1 rfl ?_
          refine z_callV (wr := ([] : va_W)) (av := []) (st := []) hC (t_X6_readsNumber l D J h a L pl (sp + 1) nb dn er A K T H S V P  ⟨by omega, by omega⟩ hpl hPv) gX6_readsOrder_X6_readsNumber rfl 0 (by decide +kernel) ⟨Nat.le_of_ble_eq_true rfl, Nat.le_of_ble_eq_true rfl⟩ ⟨Nat.le_of_ble_eq_true rfl, Nat.le_of_ble_eq_true rfl⟩ [0, 1, 2, 3, 4, 5, 6, 7] [] rfl rfl rfl (by decide) rfl 0 rfl rfl rfl rfl rfl (Nat.le_of_ble_eq_true rfl) dX6_readsOrder_109 (fun _ _ => ?_)
          refine z_ws (ws' := wM J h a L pl (pNumP P pl (sp + 1)) (if pNumR P pl (sp + 1) = 0 then nb else pNumV P pl (sp + 1)) dn er A K T H S V P) rfl ?_
          refine z_st (st' := [.int (iI (pNumR P pl (sp + 1)))]) rfl ?_
          refine z_ws (ws' := wM J h a L pl (pNumP P pl (sp + 1)) (mNumN P pl (sp + 1) nb) dn er A K T H S V P) rfl ?_
          have hnv : 0 ≤ pNumV P pl (sp + 1) ∧ pNumV P pl (sp + 1) ≤ 999 := pNumV_in pl (sp + 1)
          have hnn : pNumR P pl (sp + 1) = 0 ∨ mNumN P pl (sp + 1) nb = pNumV P pl (sp + 1) := by unfold mNumN; split <;> first | exact Or.inl (by assumption) | exact Or.inr rfl
          refine z_if_ne (tgt := 117) hC dX6_readsOrder_112 (by decide) (inR_01 (pNumR_01 _ _ _)) (fun c_112_12 => ?_) (fun c_112_12 => ?_)
          · refine z_aload_n hC dX6_readsOrder_117 rfl 1 rfl ?_
            refine z_geti hC zkX6 iX6_readsOrder_X6 0 rfl 11 (by decide) kX6_readsOrder_1 rfl rfl dX6_readsOrder_118 ?_
            refine z_int (y := iI dn) hC (rfl) ?_
            refine z_if_eq (tgt := 148) hC dX6_readsOrder_121 (by decide) (by unfold inR; omega) (fun c_121_13 => ?_) (fun c_121_13 => ?_)
            · refine z_iconst hC dX6_readsOrder_148 ?_
              exact z_iret hC hr rfl () trivial (hvi (congrArg (fun z : MS × Int => z.2) (show mOrdr P pl dn A er sp nb = (((A, er, pNumP P pl (sp + 1), mNumN P pl (sp + 1) nb), 1) : MS × Int) from Eq.symm (by symm; unfold mOrdr; rw [if_neg (by omega), if_neg (by omega), if_neg (by omega), if_pos (by assumption)]; unfold mOrdT; simp only [Int.one_mul, Int.neg_one_mul]; first | rw [if_pos (by omega)] | rw [if_neg (by omega), if_pos (by omega)] | rw [if_neg (by omega), if_neg (by omega)])))) (congrArg (fun z : MS × Int => wM J h a L pl z.1.2.2.1 z.1.2.2.2 dn z.1.2.1 z.1.1 K T H S V P) (show (((A, er, pNumP P pl (sp + 1), mNumN P pl (sp + 1) nb), 1) : MS × Int) = mOrdr P pl dn A er sp nb from (by symm; unfold mOrdr; rw [if_neg (by omega), if_neg (by omega), if_neg (by omega), if_pos (by assumption)]; unfold mOrdT; simp only [Int.one_mul, Int.neg_one_mul]; first | rw [if_pos (by omega)] | rw [if_neg (by omega), if_pos (by omega)] | rw [if_neg (by omega), if_neg (by omega)]))) dX6_readsOrder_149
            · refine z_aload_n hC dX6_readsOrder_124 rfl 1 rfl ?_
              refine z_aload_n hC dX6_readsOrder_125 rfl 1 rfl ?_
              refine z_iload_n hC dX6_readsOrder_126 rfl 0 rfl ?_
              refine z_if_eq_t (tgt := 137) hC dX6_readsOrder_127 (by decide) ⟨by decide, by decide⟩ (by decide) ?_
              refine z_aload_n hC dX6_readsOrder_137 rfl 1 rfl ?_
              refine z_geti hC zkX6 iX6_readsOrder_X6 0 rfl 10 (by decide) kX6_readsOrder_4 rfl rfl dX6_readsOrder_138 ?_
              refine z_int (y := iI (mNumN P pl (sp + 1) nb)) hC (rfl) ?_
              refine z_ineg hC dX6_readsOrder_141 ?_
              refine z_callV (wr := ([] : va_W)) (av := [.int (iI (-(mNumN P pl (sp + 1) nb)))]) (st := [.ref h]) hC (t_X6_doTurn l D J h a L pl (pNumP P pl (sp + 1)) (mNumN P pl (sp + 1) nb) dn er A K T H S V P (-(mNumN P pl (sp + 1) nb)) (by unfold inR; omega) hI) gX6_readsOrder_X6_doTurn rfl 1 (by decide +kernel) ⟨Nat.le_of_ble_eq_true rfl, Nat.le_of_ble_eq_true rfl⟩ ⟨Nat.le_of_ble_eq_true rfl, Nat.le_of_ble_eq_true rfl⟩ [0, 1, 2, 3, 4, 5, 6, 7] [] rfl rfl rfl (by decide) rfl 0 rfl rfl rfl rfl rfl (Nat.le_of_ble_eq_true rfl) dX6_readsOrder_142 (fun _ _ => ?_)
              refine z_ws (ws' := wM J h a L pl (pNumP P pl (sp + 1)) (mNumN P pl (sp + 1) nb) dn er (mTurnA A (-(mNumN P pl (sp + 1) nb))) K T H S V P) rfl ?_
              refine z_st (st' := [.int (iI (mTurnR A (-(mNumN P pl (sp + 1) nb)))), .ref h]) rfl ?_
              refine z_callV (wr := ([] : va_W)) (av := [.int (iI (mTurnR A (-(mNumN P pl (sp + 1) nb))))]) (st := []) hC (t_X6_does l D J h a L pl (pNumP P pl (sp + 1)) (mNumN P pl (sp + 1) nb) dn er (mTurnA A (-(mNumN P pl (sp + 1) nb))) K T H S V P (mTurnR A (-(mNumN P pl (sp + 1) nb))) (inR_of5 (mTurnR_in hI))) gX6_readsOrder_X6_does rfl 1 (by decide +kernel) ⟨Nat.le_of_ble_eq_true rfl, Nat.le_of_ble_eq_true rfl⟩ ⟨Nat.le_of_ble_eq_true rfl, Nat.le_of_ble_eq_true rfl⟩ [0, 1, 2, 3, 4, 5, 6, 7] [] rfl rfl rfl (by decide) rfl 0 rfl rfl rfl rfl rfl (Nat.le_of_ble_eq_true rfl) dX6_readsOrder_145 (fun _ _ => ?_)
              refine z_ws (ws' := wM J h a L pl (pNumP P pl (sp + 1)) (mNumN P pl (sp + 1) nb) dn (if mTurnR A (-(mNumN P pl (sp + 1) nb)) < 0 then mTurnR A (-(mNumN P pl (sp + 1) nb)) else 0) (mTurnA A (-(mNumN P pl (sp + 1) nb))) K T H S V P) rfl ?_
              refine z_st (st' := []) rfl ?_
              refine z_iconst hC dX6_readsOrder_148 ?_
              exact z_iret hC hr rfl () trivial (hvi (congrArg (fun z : MS × Int => z.2) (show mOrdr P pl dn A er sp nb = (((mTurnA A (-(mNumN P pl (sp + 1) nb)), (if mTurnR A (-(mNumN P pl (sp + 1) nb)) < 0 then mTurnR A (-(mNumN P pl (sp + 1) nb)) else 0), pNumP P pl (sp + 1), mNumN P pl (sp + 1) nb), 1) : MS × Int) from Eq.symm (by symm; unfold mOrdr; rw [if_neg (by omega), if_neg (by omega), if_neg (by omega), if_pos (by assumption)]; unfold mOrdT; simp only [Int.one_mul, Int.neg_one_mul]; first | rw [if_pos (by omega)] | rw [if_neg (by omega), if_pos (by omega)] | rw [if_neg (by omega), if_neg (by omega)])))) (congrArg (fun z : MS × Int => wM J h a L pl z.1.2.2.1 z.1.2.2.2 dn z.1.2.1 z.1.1 K T H S V P) (show (((mTurnA A (-(mNumN P pl (sp + 1) nb)), (if mTurnR A (-(mNumN P pl (sp + 1) nb)) < 0 then mTurnR A (-(mNumN P pl (sp + 1) nb)) else 0), pNumP P pl (sp + 1), mNumN P pl (sp + 1) nb), 1) : MS × Int) = mOrdr P pl dn A er sp nb from (by symm; unfold mOrdr; rw [if_neg (by omega), if_neg (by omega), if_neg (by omega), if_pos (by assumption)]; unfold mOrdT; simp only [Int.one_mul, Int.neg_one_mul]; first | rw [if_pos (by omega)] | rw [if_neg (by omega), if_pos (by omega)] | rw [if_neg (by omega), if_neg (by omega)]))) dX6_readsOrder_149
          · refine z_iconst hC dX6_readsOrder_115 ?_
            exact z_iret hC hr rfl () trivial (hvi (congrArg (fun z : MS × Int => z.2) (show mOrdr P pl dn A er sp nb = (((A, er, pNumP P pl (sp + 1), mNumN P pl (sp + 1) nb), 0) : MS × Int) from Eq.symm (by symm; unfold mOrdr; rw [if_neg (by omega), if_neg (by omega), if_neg (by omega), if_pos (by assumption)]; unfold mOrdT; simp only [Int.one_mul, Int.neg_one_mul]; first | rw [if_pos (by omega)] | rw [if_neg (by omega), if_pos (by omega)] | rw [if_neg (by omega), if_neg (by omega)])))) (congrArg (fun z : MS × Int => wM J h a L pl z.1.2.2.1 z.1.2.2.2 dn z.1.2.1 z.1.1 K T H S V P) (show (((A, er, pNumP P pl (sp + 1), mNumN P pl (sp + 1) nb), 0) : MS × Int) = mOrdr P pl dn A er sp nb from (by symm; unfold mOrdr; rw [if_neg (by omega), if_neg (by omega), if_neg (by omega), if_pos (by assumption)]; unfold mOrdT; simp only [Int.one_mul, Int.neg_one_mul]; first | rw [if_pos (by omega)] | rw [if_neg (by omega), if_pos (by omega)] | rw [if_neg (by omega), if_neg (by omega)]))) dX6_readsOrder_116
        · rw [pSkR_0 hk_11, pSk_0 hk_11]
          have hk_11s := pAt_spec P pl sp
          refine z_ws (ws' := wM J h a L pl sp nb dn er A K T H S V P) rfl ?_
          refine z_st (st' := [.int (iI 0)]) rfl ?_
          refine z_if_eq_t (tgt := 150) hC dX6_readsOrder_105 (by decide) ⟨by decide, by decide⟩ (by decide) ?_
          refine z_aload_n hC dX6_readsOrder_150 rfl 1 rfl ?_
          refine z_callV (wr := ([] : va_W)) (av := []) (st := []) hC (t_X6_readsRuns l D J h a L pl sp nb dn er A K T H S V P  ⟨by omega, by omega⟩ hpl hPv hI her hdn) gX6_readsOrder_X6_readsRuns rfl 0 (by decide +kernel) ⟨Nat.le_of_ble_eq_true rfl, Nat.le_of_ble_eq_true rfl⟩ ⟨Nat.le_of_ble_eq_true rfl, Nat.le_of_ble_eq_true rfl⟩ [0, 1, 2, 3, 4, 5, 6, 7] [] rfl rfl rfl (by decide) rfl 0 rfl rfl rfl rfl rfl (Nat.le_of_ble_eq_true rfl) dX6_readsOrder_151 (fun _ _ => ?_)
          refine z_ws (ws' := wM J h a L pl ((mRuns P pl dn 81 (A, er, sp, nb)).1.2.2.1) ((mRuns P pl dn 81 (A, er, sp, nb)).1.2.2.2) dn ((mRuns P pl dn 81 (A, er, sp, nb)).1.2.1) ((mRuns P pl dn 81 (A, er, sp, nb)).1.1) K T H S V P) rfl ?_
          refine z_st (st' := [.int (iI ((mRuns P pl dn 81 (A, er, sp, nb)).2))]) rfl ?_
          exact z_iret hC hr (nar_bl (mRuns_01 _ _ _ _ _)) () trivial (hvi (by unfold mOrdr; rw [if_neg (by omega), if_neg (by omega), if_neg (by omega), if_neg (by omega)])) ((by unfold mOrdr; rw [if_neg (by omega), if_neg (by omega), if_neg (by omega), if_neg (by omega)])) dX6_readsOrder_154
