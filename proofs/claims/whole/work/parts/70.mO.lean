set_option maxRecDepth 20000 in
theorem iX6_fault_X6 : ∀ w ∈ u_ws RX6 TX6 13, w ∈ wsX6_fault := zm_places _ [87, 88, 89, 90, 91, 92, 93, 94, 95, 96, 97, 98, 99] (by decide +kernel)
theorem kX6_fault_1 : Cond.fieldLink RX6 141 "StepPairsModel" "spot" "I" ∈ wsX6_fault := List.mem_of_getElem? (i := 1) rfl
theorem kX6_fault_2 : Cond.fieldLink RX6 161 "StepPairsModel" "isDone" "Z" ∈ wsX6_fault := List.mem_of_getElem? (i := 2) rfl
theorem kX6_fault_3 : Cond.fieldLink RX6 109 "StepPairsModel" "padLong" "I" ∈ wsX6_fault := List.mem_of_getElem? (i := 3) rfl
abbrev rmX6_fault : Room := { frames := 6, cells := 0, slots := 0, locals := 136 }
set_option maxHeartbeats 4000000 in
set_option maxRecDepth 100000 in
theorem t_X6_fault (l : Launch) (D : va_G) (J : Nat → ClassId) (h : Nat) (a : Nat → Nat) (L pl sp nb dn er : Int) (A K T H S V P : Nat → Int) (hpl : 0 ≤ pl ∧ pl ≤ 80) (hPv : ∀ j, 0 ≤ P j ∧ P j ≤ 126) (hI : InvM A) (her : -5 ≤ er ∧ er ≤ 0) : ZX l yX6_fault wsX6_fault rmX6_fault D J [.ref h] (wM J h a L pl sp nb dn er A K T H S V P) (some (.int (iI ((mFlt P pl 81 (A, er, 0, nb)).2)))) (wM J h a L pl ((mFlt P pl 81 (A, er, 0, nb)).1.2.2.1) ((mFlt P pl 81 (A, er, 0, nb)).1.2.2.2) 0 ((mFlt P pl 81 (A, er, 0, nb)).1.2.1) ((mFlt P pl 81 (A, er, 0, nb)).1.1) K T H S V P) := by
  refine z_met (cc := cX6_fault) (nL := 2) (ret := (some .int)) (own := RX6) (by decide) rfl rfl (Nat.le_of_ble_eq_true rfl) (fun p e s m args below meth c hC hr hin => ?_)
  refine z_lv0 (lv' := [(0, .ref h)]) rfl ?_
  refine z_aload_n hC dX6_fault_0 rfl 0 rfl ?_
  refine z_iconst hC dX6_fault_1 ?_
  refine z_puti (ws' := wM J h a L pl 0 nb dn er A K T H S V P) hC zkX6 iX6_fault_X6 0 rfl 9 (by decide) kX6_fault_1 rfl rfl rfl rfl rfl rfl dX6_fault_2 rfl ?_
  refine z_aload_n hC dX6_fault_5 rfl 0 rfl ?_
  refine z_iconst hC dX6_fault_6 ?_
  refine z_puti (ws' := wM J h a L pl 0 nb 0 er A K T H S V P) hC zkX6 iX6_fault_X6 0 rfl 11 (by decide) kX6_fault_2 rfl rfl rfl rfl (by decide) (by decide) dX6_fault_7 rfl ?_
  refine z_iconst hC dX6_fault_10 ?_
  refine z_istore_n (lv' := [(1, .int (iI 1)), (0, .ref h)]) hC dX6_fault_11 rfl (by decide) rfl ?_
  refine z_lv (lv' := [(1, .int (iI 1)), (0, .ref h)]) [0, 1] rfl ?_
  refine z_loop (α := MS) (fun nn v => InvM v.1 ∧ (-5 ≤ v.2.1 ∧ v.2.1 ≤ 0) ∧ (0 ≤ v.2.2.1 ∧ v.2.2.1 ≤ 80) ∧ 80 < v.2.2.1 + (nn : Int) ∧ mFlt P pl nn (v.1, v.2.1, v.2.2.1, v.2.2.2) = mFlt P pl 81 (A, er, 0, nb)) (fun nn v => wM J h a L pl v.2.2.1 v.2.2.2 0 v.2.1 v.1 K T H S V P) (fun nn v => [(1, .int (iI 1)), (0, .ref h)]) 12 [] (fun nn v ih_1 hP_2 => ?_) (fun v hP_2 => ?_) 81 (A, er, 0, nb) ⟨hI, her, ⟨Int.le_refl 0, by show (0 : Int) ≤ 80; omega⟩, by show 80 < (0 : Int) + ((81 : Nat) : Int); omega, rfl⟩
  · change Z _ _ _ _ _ _ _ _ _ _ _ _ _ _ _ _ (wM J h a L pl v.2.2.1 v.2.2.2 0 v.2.1 v.1 K T H S V P) ([(1, .int (iI 1)), (0, .ref h)]) 12 ([])
    obtain ⟨hv1, hv2, hv3, hv4, hv5⟩ := hP_2
    have ho := mOrdr_in (P := P) (pl := pl) (dn := 0) (nb := v.2.2.2) hv1 hv2 hv3
    have ho3 := ho.2.2.1
    have ho4 := ho.2.2.2
    refine z_iload_n hC dX6_fault_12 rfl 0 rfl ?_
    refine z_if_eq_f (tgt := 38) hC dX6_fault_13 (by decide) ⟨by decide, by decide⟩ (by decide) ?_
    refine z_aload_n hC dX6_fault_16 rfl 1 rfl ?_
    refine z_callV (wr := ([] : va_W)) (av := []) (st := []) hC (t_X6_readsOrder l D J h a L pl v.2.2.1 v.2.2.2 0 v.2.1 v.1 K T H S V P  hv3 hpl hPv hv1 hv2 ⟨by omega, by omega⟩) gX6_fault_X6_readsOrder rfl 0 (by decide +kernel) ⟨Nat.le_of_ble_eq_true rfl, Nat.le_of_ble_eq_true rfl⟩ ⟨Nat.le_of_ble_eq_true rfl, Nat.le_of_ble_eq_true rfl⟩ [0, 1, 2, 3, 4, 5, 6, 7] [] rfl rfl rfl (by decide) rfl 0 rfl rfl rfl rfl rfl (Nat.le_of_ble_eq_true rfl) dX6_fault_17 (fun _ _ => ?_)
    refine z_ws (ws' := wM J h a L pl ((mOrdr P pl 0 v.1 v.2.1 v.2.2.1 v.2.2.2).1.2.2.1) ((mOrdr P pl 0 v.1 v.2.1 v.2.2.1 v.2.2.2).1.2.2.2) 0 ((mOrdr P pl 0 v.1 v.2.1 v.2.2.1 v.2.2.2).1.2.1) ((mOrdr P pl 0 v.1 v.2.1 v.2.2.1 v.2.2.2).1.1) K T H S V P) rfl ?_
    refine z_st (st' := [.int (iI ((mOrdr P pl 0 v.1 v.2.1 v.2.2.1 v.2.2.2).2))]) rfl ?_
    refine z_if_ne (tgt := 28) hC dX6_fault_20 (by decide) (inR_01 mOrdr_01) (fun c_20_3 => ?_) (fun c_20_3 => ?_)
    · refine z_aload_n hC dX6_fault_28 rfl 1 rfl ?_
      refine z_bipush hC dX6_fault_29 (by decide) ?_
      refine z_callV (wr := ([] : va_W)) (av := [.int (iI 59)]) (st := []) hC (t_X6_takes l D J h a L pl ((mOrdr P pl 0 v.1 v.2.1 v.2.2.1 v.2.2.2).1.2.2.1) ((mOrdr P pl 0 v.1 v.2.1 v.2.2.1 v.2.2.2).1.2.2.2) 0 ((mOrdr P pl 0 v.1 v.2.1 v.2.2.1 v.2.2.2).1.2.1) ((mOrdr P pl 0 v.1 v.2.1 v.2.2.1 v.2.2.2).1.1) K T H S V P 59 ⟨by omega, by omega⟩ ⟨by omega, by omega⟩ hpl hPv) gX6_fault_X6_takes rfl 1 (by decide +kernel) ⟨Nat.le_of_ble_eq_true rfl, Nat.le_of_ble_eq_true rfl⟩ ⟨Nat.le_of_ble_eq_true rfl, Nat.le_of_ble_eq_true rfl⟩ [0, 1, 2, 3, 4, 5, 6, 7] [] rfl rfl rfl (by decide) rfl 0 rfl rfl rfl rfl rfl (Nat.le_of_ble_eq_true rfl) dX6_fault_31 (fun _ _ => ?_)
      refine z_ws (ws' := wM J h a L pl (pSk P pl ((mOrdr P pl 0 v.1 v.2.1 v.2.2.1 v.2.2.2).1.2.2.1) 59) ((mOrdr P pl 0 v.1 v.2.1 v.2.2.1 v.2.2.2).1.2.2.2) 0 ((mOrdr P pl 0 v.1 v.2.1 v.2.2.1 v.2.2.2).1.2.1) ((mOrdr P pl 0 v.1 v.2.1 v.2.2.1 v.2.2.2).1.1) K T H S V P) rfl ?_
      refine z_st (st' := [.int (iI (pSkR P pl ((mOrdr P pl 0 v.1 v.2.1 v.2.2.1 v.2.2.2).1.2.2.1) 59))]) rfl ?_
      by_cases hk_4 : pAt P pl ((mOrdr P pl 0 v.1 v.2.1 v.2.2.1 v.2.2.2).1.2.2.1) = 59
      · rw [pSkR_1 hk_4, pSk_1 hk_4]
        have hk_4s := pAt_spec P pl ((mOrdr P pl 0 v.1 v.2.1 v.2.2.1 v.2.2.2).1.2.2.1)
        refine z_ws (ws' := wM J h a L pl ((mOrdr P pl 0 v.1 v.2.1 v.2.2.1 v.2.2.2).1.2.2.1 + 1) ((mOrdr P pl 0 v.1 v.2.1 v.2.2.1 v.2.2.2).1.2.2.2) 0 ((mOrdr P pl 0 v.1 v.2.1 v.2.2.1 v.2.2.2).1.2.1) ((mOrdr P pl 0 v.1 v.2.1 v.2.2.1 v.2.2.2).1.1) K T H S V P) rfl ?_
        refine z_st (st' := [.int (iI 1)]) rfl ?_
        refine z_istore_n (lv' := [(1, .int (iI 1)), (0, .ref h)]) hC dX6_fault_34 rfl (by decide) rfl ?_
        refine z_goto (tgt := 12) hC dX6_fault_35 (by decide) ?_
        refine z_lv (lv' := _) [0, 1] rfl ?_
        exact ih_1 ((mOrdr P pl 0 v.1 v.2.1 v.2.2.1 v.2.2.2).1.1, (mOrdr P pl 0 v.1 v.2.1 v.2.2.1 v.2.2.2).1.2.1, (mOrdr P pl 0 v.1 v.2.1 v.2.2.1 v.2.2.2).1.2.2.1 + 1, (mOrdr P pl 0 v.1 v.2.1 v.2.2.1 v.2.2.2).1.2.2.2) ⟨ho.1, ho.2.1, (by show 0 ≤ (mOrdr P pl 0 v.1 v.2.1 v.2.2.1 v.2.2.2).1.2.2.1 + 1 ∧ (mOrdr P pl 0 v.1 v.2.1 v.2.2.1 v.2.2.2).1.2.2.1 + 1 ≤ 80; omega), (by show 80 < (mOrdr P pl 0 v.1 v.2.1 v.2.2.1 v.2.2.2).1.2.2.1 + 1 + _; omega), (by rw [← hv5, mFlt_s, if_neg (by omega), if_pos (by assumption)])⟩
      · rw [pSkR_0 hk_4, pSk_0 hk_4]
        have hk_4s := pAt_spec P pl ((mOrdr P pl 0 v.1 v.2.1 v.2.2.1 v.2.2.2).1.2.2.1)
        refine z_ws (ws' := wM J h a L pl ((mOrdr P pl 0 v.1 v.2.1 v.2.2.1 v.2.2.2).1.2.2.1) ((mOrdr P pl 0 v.1 v.2.1 v.2.2.1 v.2.2.2).1.2.2.2) 0 ((mOrdr P pl 0 v.1 v.2.1 v.2.2.1 v.2.2.2).1.2.1) ((mOrdr P pl 0 v.1 v.2.1 v.2.2.1 v.2.2.2).1.1) K T H S V P) rfl ?_
        refine z_st (st' := [.int (iI 0)]) rfl ?_
        refine z_istore_n (lv' := [(1, .int (iI 0)), (0, .ref h)]) hC dX6_fault_34 rfl (by decide) rfl ?_
        refine z_goto (tgt := 12) hC dX6_fault_35 (by decide) ?_
        refine z_iload_n hC dX6_fault_12 rfl 0 rfl ?_
        refine z_if_eq_t (tgt := 38) hC dX6_fault_13 (by decide) ⟨by decide, by decide⟩ (by decide) ?_
        refine z_aload_n hC dX6_fault_38 rfl 1 rfl ?_
        refine z_geti hC zkX6 iX6_fault_X6 0 rfl 9 (by decide) kX6_fault_1 rfl rfl dX6_fault_39 ?_
        refine z_int (y := iI ((mOrdr P pl 0 v.1 v.2.1 v.2.2.1 v.2.2.2).1.2.2.1)) hC (rfl) ?_
        refine z_aload_n hC dX6_fault_42 rfl 1 rfl ?_
        refine z_geti hC zkX6 iX6_fault_X6 0 rfl 8 (by decide) kX6_fault_3 rfl rfl dX6_fault_43 ?_
        refine z_int (y := iI pl) hC (rfl) ?_
        refine z_icmp_ne (tgt := 54) hC dX6_fault_46 (by decide) (by unfold inR; omega) (by unfold inR; omega) (fun c_46_5 => ?_) (fun c_46_5 => ?_)
        · refine z_aload_n hC dX6_fault_54 rfl 1 rfl ?_
          refine z_geti hC zkX6 iX6_fault_X6 0 rfl 9 (by decide) kX6_fault_1 rfl rfl dX6_fault_55 ?_
          refine z_int (y := iI ((mOrdr P pl 0 v.1 v.2.1 v.2.2.1 v.2.2.2).1.2.2.1)) hC (rfl) ?_
          exact z_iret hC hr rfl () trivial (hvi (Eq.trans (congrArg (fun z : MS × Int => z.2) (show mFlt P pl 81 (A, er, 0, nb) = ((((mOrdr P pl 0 v.1 v.2.1 v.2.2.1 v.2.2.2).1.1, (mOrdr P pl 0 v.1 v.2.1 v.2.2.1 v.2.2.2).1.2.1, (mOrdr P pl 0 v.1 v.2.1 v.2.2.1 v.2.2.2).1.2.2.1, (mOrdr P pl 0 v.1 v.2.1 v.2.2.1 v.2.2.2).1.2.2.2), mFin pl ((mOrdr P pl 0 v.1 v.2.1 v.2.2.1 v.2.2.2).1.2.2.1)) : MS × Int) from Eq.symm (by symm; rw [← hv5, mFlt_s, if_neg (by omega), if_neg (by assumption)]))) (by show mFin pl _ = _; unfold mFin; first | exact if_pos (by omega) | exact if_neg (by omega)))) (congrArg (a₁ := ((((mOrdr P pl 0 v.1 v.2.1 v.2.2.1 v.2.2.2).1.1, (mOrdr P pl 0 v.1 v.2.1 v.2.2.1 v.2.2.2).1.2.1, (mOrdr P pl 0 v.1 v.2.1 v.2.2.1 v.2.2.2).1.2.2.1, (mOrdr P pl 0 v.1 v.2.1 v.2.2.1 v.2.2.2).1.2.2.2), mFin pl ((mOrdr P pl 0 v.1 v.2.1 v.2.2.1 v.2.2.2).1.2.2.1)) : MS × Int)) (a₂ := mFlt P pl 81 (A, er, 0, nb)) (fun z : MS × Int => wM J h a L pl z.1.2.2.1 z.1.2.2.2 0 z.1.2.1 z.1.1 K T H S V P) (by symm; rw [← hv5, mFlt_s, if_neg (by omega), if_neg (by assumption)])) dX6_fault_58
        · refine z_bipush hC dX6_fault_49 (by decide) ?_
          refine z_goto (tgt := 58) hC dX6_fault_51 (by decide) ?_
          exact z_iret hC hr rfl () trivial (hvi (Eq.trans (congrArg (fun z : MS × Int => z.2) (show mFlt P pl 81 (A, er, 0, nb) = ((((mOrdr P pl 0 v.1 v.2.1 v.2.2.1 v.2.2.2).1.1, (mOrdr P pl 0 v.1 v.2.1 v.2.2.1 v.2.2.2).1.2.1, (mOrdr P pl 0 v.1 v.2.1 v.2.2.1 v.2.2.2).1.2.2.1, (mOrdr P pl 0 v.1 v.2.1 v.2.2.1 v.2.2.2).1.2.2.2), mFin pl ((mOrdr P pl 0 v.1 v.2.1 v.2.2.1 v.2.2.2).1.2.2.1)) : MS × Int) from Eq.symm (by symm; rw [← hv5, mFlt_s, if_neg (by omega), if_neg (by assumption)]))) (by show mFin pl _ = _; unfold mFin; first | exact if_pos (by omega) | exact if_neg (by omega)))) (congrArg (a₁ := ((((mOrdr P pl 0 v.1 v.2.1 v.2.2.1 v.2.2.2).1.1, (mOrdr P pl 0 v.1 v.2.1 v.2.2.1 v.2.2.2).1.2.1, (mOrdr P pl 0 v.1 v.2.1 v.2.2.1 v.2.2.2).1.2.2.1, (mOrdr P pl 0 v.1 v.2.1 v.2.2.1 v.2.2.2).1.2.2.2), mFin pl ((mOrdr P pl 0 v.1 v.2.1 v.2.2.1 v.2.2.2).1.2.2.1)) : MS × Int)) (a₂ := mFlt P pl 81 (A, er, 0, nb)) (fun z : MS × Int => wM J h a L pl z.1.2.2.1 z.1.2.2.2 0 z.1.2.1 z.1.1 K T H S V P) (by symm; rw [← hv5, mFlt_s, if_neg (by omega), if_neg (by assumption)])) dX6_fault_58
    · refine z_aload_n hC dX6_fault_23 rfl 1 rfl ?_
      refine z_geti hC zkX6 iX6_fault_X6 0 rfl 9 (by decide) kX6_fault_1 rfl rfl dX6_fault_24 ?_
      refine z_int (y := iI ((mOrdr P pl 0 v.1 v.2.1 v.2.2.1 v.2.2.2).1.2.2.1)) hC (rfl) ?_
      exact z_iret hC hr rfl () trivial (hvi (Eq.trans (congrArg (fun z : MS × Int => z.2) (show mFlt P pl 81 (A, er, 0, nb) = ((((mOrdr P pl 0 v.1 v.2.1 v.2.2.1 v.2.2.2).1.1, (mOrdr P pl 0 v.1 v.2.1 v.2.2.1 v.2.2.2).1.2.1, (mOrdr P pl 0 v.1 v.2.1 v.2.2.1 v.2.2.2).1.2.2.1, (mOrdr P pl 0 v.1 v.2.1 v.2.2.1 v.2.2.2).1.2.2.2), (mOrdr P pl 0 v.1 v.2.1 v.2.2.1 v.2.2.2).1.2.2.1) : MS × Int) from Eq.symm (by symm; rw [← hv5, mFlt_s, if_pos (by assumption)]))) rfl)) (congrArg (a₁ := ((((mOrdr P pl 0 v.1 v.2.1 v.2.2.1 v.2.2.2).1.1, (mOrdr P pl 0 v.1 v.2.1 v.2.2.1 v.2.2.2).1.2.1, (mOrdr P pl 0 v.1 v.2.1 v.2.2.1 v.2.2.2).1.2.2.1, (mOrdr P pl 0 v.1 v.2.1 v.2.2.1 v.2.2.2).1.2.2.2), (mOrdr P pl 0 v.1 v.2.1 v.2.2.1 v.2.2.2).1.2.2.1) : MS × Int)) (a₂ := mFlt P pl 81 (A, er, 0, nb)) (fun z : MS × Int => wM J h a L pl z.1.2.2.1 z.1.2.2.2 0 z.1.2.1 z.1.1 K T H S V P) (by symm; rw [← hv5, mFlt_s, if_pos (by assumption)])) dX6_fault_27
  · change Z _ _ _ _ _ _ _ _ _ _ _ _ _ _ _ _ (wM J h a L pl v.2.2.1 v.2.2.2 0 v.2.1 v.1 K T H S V P) ([(1, .int (iI 1)), (0, .ref h)]) 12 ([])
    obtain ⟨hv1, hv2, hv3, hv4, hv5⟩ := hP_2
    exfalso
    omega
