set_option maxRecDepth 20000 in
theorem iX6_readsRuns_X6 : ∀ w ∈ u_ws RX6 TX6 13, w ∈ wsX6_readsRuns := zm_places _ [54, 55, 56, 57, 58, 59, 60, 61, 62, 63, 64, 65, 66] (by decide +kernel)
theorem kX6_readsRuns_1 : Cond.fieldLink RX6 28 "StepPairsModel" "pad" "[I" ∈ wsX6_readsRuns := List.mem_of_getElem? (i := 1) rfl
theorem kX6_readsRuns_2 : Cond.fieldLink RX6 141 "StepPairsModel" "spot" "I" ∈ wsX6_readsRuns := List.mem_of_getElem? (i := 2) rfl
theorem kX6_readsRuns_3 : Cond.fieldLink RX6 147 "StepPairsModel" "number" "I" ∈ wsX6_readsRuns := List.mem_of_getElem? (i := 3) rfl
theorem kX6_readsRuns_4 : Cond.fieldLink RX6 161 "StepPairsModel" "isDone" "Z" ∈ wsX6_readsRuns := List.mem_of_getElem? (i := 4) rfl
theorem kX6_readsRuns_5 : Cond.fieldLink RX6 150 "StepPairsModel" "error" "I" ∈ wsX6_readsRuns := List.mem_of_getElem? (i := 5) rfl
abbrev rmX6_readsRuns : Room := { frames := 4, cells := 0, slots := 0, locals := 92 }
set_option maxHeartbeats 4000000 in
set_option maxRecDepth 100000 in
theorem t_X6_readsRuns (l : Launch) (D : va_G) (J : Nat → ClassId) (h : Nat) (a : Nat → Nat) (L pl sp nb dn er : Int) (A K T H S V P : Nat → Int) (hsp : 0 ≤ sp ∧ sp ≤ 80) (hpl : 0 ≤ pl ∧ pl ≤ 80) (hPv : ∀ j, 0 ≤ P j ∧ P j ≤ 126) (hI : InvM A) (her : -5 ≤ er ∧ er ≤ 0) (hdn : 0 ≤ dn ∧ dn ≤ 1) : ZX l yX6_readsRuns wsX6_readsRuns rmX6_readsRuns D J [.ref h] (wM J h a L pl sp nb dn er A K T H S V P) (some (.int (iI ((mRuns P pl dn 81 (A, er, sp, nb)).2)))) (wM J h a L pl ((mRuns P pl dn 81 (A, er, sp, nb)).1.2.2.1) ((mRuns P pl dn 81 (A, er, sp, nb)).1.2.2.2) dn ((mRuns P pl dn 81 (A, er, sp, nb)).1.2.1) ((mRuns P pl dn 81 (A, er, sp, nb)).1.1) K T H S V P) := by
  refine z_met (cc := cX6_readsRuns) (nL := 4) (ret := (some .boolean)) (own := RX6) (by decide) rfl rfl (Nat.le_of_ble_eq_true rfl) (fun p e s m args below meth c hC hr hin => ?_)
  refine z_lv0 (lv' := [(0, .ref h)]) rfl ?_
  refine z_iconst hC dX6_readsRuns_0 ?_
  refine z_istore_n (lv' := [(1, .int (iI 1)), (0, .ref h)]) hC dX6_readsRuns_1 rfl (by decide) rfl ?_
  refine z_lv (lv' := [(1, .int (iI 1)), (0, .ref h)]) [0, 1] rfl ?_
  refine z_loop (α := MS) (fun nn v => InvM v.1 ∧ (-5 ≤ v.2.1 ∧ v.2.1 ≤ 0) ∧ (0 ≤ v.2.2.1 ∧ v.2.2.1 ≤ 80) ∧ 80 < v.2.2.1 + (nn : Int) ∧ mRuns P pl dn nn (v.1, v.2.1, v.2.2.1, v.2.2.2) = mRuns P pl dn 81 (A, er, sp, nb)) (fun nn v => wM J h a L pl v.2.2.1 v.2.2.2 dn v.2.1 v.1 K T H S V P) (fun nn v => [(1, .int (iI 1)), (0, .ref h)]) 2 [] (fun nn v ih_1 hP_2 => ?_) (fun v hP_2 => ?_) 81 (A, er, sp, nb) ⟨hI, her, hsp, by show 80 < sp + ((81 : Nat) : Int); omega, rfl⟩
  · change Z _ _ _ _ _ _ _ _ _ _ _ _ _ _ _ _ (wM J h a L pl v.2.2.1 v.2.2.2 dn v.2.1 v.1 K T H S V P) ([(1, .int (iI 1)), (0, .ref h)]) 2 ([])
    obtain ⟨hv1, hv2, hv3, hv4, hv5⟩ := hP_2
    refine z_iload_n hC dX6_readsRuns_2 rfl 0 rfl ?_
    refine z_if_eq_f (tgt := 118) hC dX6_readsRuns_3 (by decide) ⟨by decide, by decide⟩ (by decide) ?_
    refine z_aload_n hC dX6_readsRuns_6 rfl 1 rfl ?_
    refine z_bipush hC dX6_readsRuns_7 (by decide) ?_
    refine z_bipush hC dX6_readsRuns_9 (by decide) ?_
    refine z_callV (wr := ([] : va_W)) (av := [.int (iI 48), .int (iI 51)]) (st := []) hC (t_X6_isHere l D J h a L pl v.2.2.1 v.2.2.2 dn v.2.1 v.1 K T H S V P 48 51 ⟨by omega, by omega⟩ ⟨by omega, by omega⟩ ⟨by omega, by omega⟩ hpl hPv) gX6_readsRuns_X6_isHere rfl 2 (by decide +kernel) ⟨Nat.le_of_ble_eq_true rfl, Nat.le_of_ble_eq_true rfl⟩ ⟨Nat.le_of_ble_eq_true rfl, Nat.le_of_ble_eq_true rfl⟩ [0, 1, 2, 3, 4, 5, 6, 7] [] rfl rfl rfl (by decide) rfl 0 rfl rfl rfl rfl rfl (Nat.le_of_ble_eq_true rfl) dX6_readsRuns_11 (fun _ _ => ?_)
    refine z_ws (ws' := wM J h a L pl v.2.2.1 v.2.2.2 dn v.2.1 v.1 K T H S V P) rfl ?_
    refine z_st (st' := [.int (iI (mIn (pAt P pl v.2.2.1) 48 51))]) rfl ?_
    have hat_3 := pAt_at (P := P) (pl := pl) (sp := v.2.2.1) hpl ⟨by omega, by omega⟩ hPv
    have hmi_4 := mIn_spec (pAt P pl v.2.2.1) 48 51
    refine z_if_ne (tgt := 19) hC dX6_readsRuns_14 (by decide) (inR_01 (mIn_01 _ _ _)) (fun c_14_5 => ?_) (fun c_14_5 => ?_)
    · refine z_aload_n hC dX6_readsRuns_19 rfl 1 rfl ?_
      refine z_getr hC zkX6 iX6_readsRuns_X6 0 rfl 7 (by decide) kX6_readsRuns_1 rfl rfl dX6_readsRuns_20 ?_
      refine z_aload_n hC dX6_readsRuns_23 rfl 1 rfl ?_
      refine z_geti hC zkX6 iX6_readsRuns_X6 0 rfl 9 (by decide) kX6_readsRuns_2 rfl rfl dX6_readsRuns_24 ?_
      refine z_int (y := iI v.2.2.1) hC (rfl) ?_
      refine z_iald hC 7 rfl 0 rfl (Int.toNat v.2.2.1) (Int.toNat_of_nonneg (by omega)).symm (by omega) (by decide) dX6_readsRuns_27 ?_
      refine z_bipush hC dX6_readsRuns_28 (by decide) ?_
      refine z_isub hC dX6_readsRuns_30 ?_
      refine z_int (y := iI (pAt P pl v.2.2.1 - 48)) hC (congrArg iI (by omega)) ?_
      refine z_istore_n (lv' := [(2, .int (iI (pAt P pl v.2.2.1 - 48))), (1, .int (iI 1)), (0, .ref h)]) hC dX6_readsRuns_31 rfl (by decide) rfl ?_
      refine z_aload_n hC dX6_readsRuns_32 rfl 2 rfl ?_
      refine z_dup hC dX6_readsRuns_33 rfl ?_
      refine z_geti hC zkX6 iX6_readsRuns_X6 0 rfl 9 (by decide) kX6_readsRuns_2 rfl rfl dX6_readsRuns_34 ?_
      refine z_int (y := iI v.2.2.1) hC (rfl) ?_
      refine z_iconst hC dX6_readsRuns_37 ?_
      refine z_iadd hC dX6_readsRuns_38 ?_
      refine z_puti (ws' := wM J h a L pl (v.2.2.1 + 1) v.2.2.2 dn v.2.1 v.1 K T H S V P) hC zkX6 iX6_readsRuns_X6 0 rfl 9 (by decide) kX6_readsRuns_2 rfl rfl rfl rfl rfl rfl dX6_readsRuns_39 rfl ?_
      refine z_aload_n hC dX6_readsRuns_42 rfl 2 rfl ?_
      refine z_bipush hC dX6_readsRuns_43 (by decide) ?_
      refine z_callV (wr := ([] : va_W)) (av := [.int (iI 105)]) (st := []) hC (t_X6_takes l D J h a L pl (v.2.2.1 + 1) v.2.2.2 dn v.2.1 v.1 K T H S V P 105 ⟨by omega, by omega⟩ ⟨by omega, by omega⟩ hpl hPv) gX6_readsRuns_X6_takes rfl 1 (by decide +kernel) ⟨Nat.le_of_ble_eq_true rfl, Nat.le_of_ble_eq_true rfl⟩ ⟨Nat.le_of_ble_eq_true rfl, Nat.le_of_ble_eq_true rfl⟩ [0, 1, 2, 3, 4, 5, 6, 7] [] rfl rfl rfl (by decide) rfl 0 rfl rfl rfl rfl rfl (Nat.le_of_ble_eq_true rfl) dX6_readsRuns_45 (fun _ _ => ?_)
      refine z_ws (ws' := wM J h a L pl (pSk P pl (v.2.2.1 + 1) 105) v.2.2.2 dn v.2.1 v.1 K T H S V P) rfl ?_
      refine z_st (st' := [.int (iI (pSkR P pl (v.2.2.1 + 1) 105))]) rfl ?_
      by_cases hk_6 : pAt P pl (v.2.2.1 + 1) = 105
      · rw [pSkR_1 hk_6, pSk_1 hk_6]
        have hk_6s := pAt_spec P pl (v.2.2.1 + 1)
        have hix : pIxP P pl v.2.2.1 = v.2.2.1 + 1 + 1 := if_pos hk_6
        have hiv : pIxV P pl v.2.2.1 = 1 := if_pos hk_6
        refine z_ws (ws' := wM J h a L pl (v.2.2.1 + 1 + 1) v.2.2.2 dn v.2.1 v.1 K T H S V P) rfl ?_
        refine z_st (st' := [.int (iI 1)]) rfl ?_
        refine z_if_eq_f (tgt := 55) hC dX6_readsRuns_48 (by decide) ⟨by decide, by decide⟩ (by decide) ?_
        refine z_iconst hC dX6_readsRuns_51 ?_
        refine z_goto (tgt := 56) hC dX6_readsRuns_52 (by decide) ?_
        refine z_istore_n (lv' := [(3, .int (iI 1)), (2, .int (iI (pAt P pl v.2.2.1 - 48))), (1, .int (iI 1)), (0, .ref h)]) hC dX6_readsRuns_56 rfl (by decide) rfl ?_
        refine z_aload_n hC dX6_readsRuns_57 rfl 3 rfl ?_
        refine z_iconst hC dX6_readsRuns_58 ?_
        refine z_puti (ws' := wM J h a L pl (v.2.2.1 + 1 + 1) 1 dn v.2.1 v.1 K T H S V P) hC zkX6 iX6_readsRuns_X6 0 rfl 10 (by decide) kX6_readsRuns_3 rfl rfl rfl rfl rfl rfl dX6_readsRuns_59 rfl ?_
        refine z_aload_n hC dX6_readsRuns_62 rfl 3 rfl ?_
        refine z_bipush hC dX6_readsRuns_63 (by decide) ?_
        refine z_callV (wr := ([] : va_W)) (av := [.int (iI 42)]) (st := []) hC (t_X6_takes l D J h a L pl (v.2.2.1 + 1 + 1) 1 dn v.2.1 v.1 K T H S V P 42 ⟨by omega, by omega⟩ ⟨by omega, by omega⟩ hpl hPv) gX6_readsRuns_X6_takes rfl 1 (by decide +kernel) ⟨Nat.le_of_ble_eq_true rfl, Nat.le_of_ble_eq_true rfl⟩ ⟨Nat.le_of_ble_eq_true rfl, Nat.le_of_ble_eq_true rfl⟩ [0, 1, 2, 3, 4, 5, 6, 7] [] rfl rfl rfl (by decide) rfl 0 rfl rfl rfl rfl rfl (Nat.le_of_ble_eq_true rfl) dX6_readsRuns_65 (fun _ _ => ?_)
        refine z_ws (ws' := wM J h a L pl (pSk P pl (v.2.2.1 + 1 + 1) 42) 1 dn v.2.1 v.1 K T H S V P) rfl ?_
        refine z_st (st' := [.int (iI (pSkR P pl (v.2.2.1 + 1 + 1) 42))]) rfl ?_
        by_cases hk_7 : pAt P pl (v.2.2.1 + 1 + 1) = 42
        · rw [pSkR_1 hk_7, pSk_1 hk_7]
          have hk_7s := pAt_spec P pl (v.2.2.1 + 1 + 1)
          refine z_ws (ws' := wM J h a L pl (v.2.2.1 + 1 + 1 + 1) 1 dn v.2.1 v.1 K T H S V P) rfl ?_
          refine z_st (st' := [.int (iI 1)]) rfl ?_
          refine z_if_eq_f (tgt := 80) hC dX6_readsRuns_68 (by decide) ⟨by decide, by decide⟩ (by decide) ?_
          refine z_aload_n hC dX6_readsRuns_71 rfl 3 rfl ?_
          refine z_callV (wr := ([] : va_W)) (av := []) (st := []) hC (t_X6_readsNumber l D J h a L pl (v.2.2.1 + 1 + 1 + 1) 1 dn v.2.1 v.1 K T H S V P  ⟨by omega, by omega⟩ hpl hPv) gX6_readsRuns_X6_readsNumber rfl 0 (by decide +kernel) ⟨Nat.le_of_ble_eq_true rfl, Nat.le_of_ble_eq_true rfl⟩ ⟨Nat.le_of_ble_eq_true rfl, Nat.le_of_ble_eq_true rfl⟩ [0, 1, 2, 3, 4, 5, 6, 7] [] rfl rfl rfl (by decide) rfl 0 rfl rfl rfl rfl rfl (Nat.le_of_ble_eq_true rfl) dX6_readsRuns_72 (fun _ _ => ?_)
          refine z_ws (ws' := wM J h a L pl (pNumP P pl (v.2.2.1 + 1 + 1 + 1)) (if pNumR P pl (v.2.2.1 + 1 + 1 + 1) = 0 then 1 else pNumV P pl (v.2.2.1 + 1 + 1 + 1)) dn v.2.1 v.1 K T H S V P) rfl ?_
          refine z_st (st' := [.int (iI (pNumR P pl (v.2.2.1 + 1 + 1 + 1)))]) rfl ?_
          have hnp := pNumP_in (C := P) (len := pl) (pos := (v.2.2.1 + 1 + 1 + 1)) ⟨by omega, by omega⟩
          have hnv := pNumV_in (C := P) pl (v.2.2.1 + 1 + 1 + 1)
          have hn01 := pNumR_01 P pl (v.2.2.1 + 1 + 1 + 1)
          have hnge := pNumP_ge P pl (v.2.2.1 + 1 + 1 + 1)
          refine z_if_ne (tgt := 80) hC dX6_readsRuns_75 (by decide) (inR_01 (pNumR_01 _ _ _)) (fun c_75_8 => ?_) (fun c_75_8 => ?_)
          · refine z_aload_n hC dX6_readsRuns_80 rfl 3 rfl ?_
            refine z_geti hC zkX6 iX6_readsRuns_X6 0 rfl 11 (by decide) kX6_readsRuns_4 rfl rfl dX6_readsRuns_81 ?_
            refine z_int (y := iI dn) hC (rfl) ?_
            refine z_if_eq (tgt := 108) hC dX6_readsRuns_84 (by decide) (by unfold inR; omega) (fun c_84_9 => ?_) (fun c_84_9 => ?_)
            · refine z_aload_n hC dX6_readsRuns_108 rfl 3 rfl ?_
              refine z_bipush hC dX6_readsRuns_109 (by decide) ?_
              refine z_callV (wr := ([] : va_W)) (av := [.int (iI 44)]) (st := []) hC (t_X6_takes l D J h a L pl (pNumP P pl (v.2.2.1 + 1 + 1 + 1)) (if pNumR P pl (v.2.2.1 + 1 + 1 + 1) = 0 then 1 else pNumV P pl (v.2.2.1 + 1 + 1 + 1)) dn v.2.1 v.1 K T H S V P 44 ⟨by omega, by omega⟩ ⟨by omega, by omega⟩ hpl hPv) gX6_readsRuns_X6_takes rfl 1 (by decide +kernel) ⟨Nat.le_of_ble_eq_true rfl, Nat.le_of_ble_eq_true rfl⟩ ⟨Nat.le_of_ble_eq_true rfl, Nat.le_of_ble_eq_true rfl⟩ [0, 1, 2, 3, 4, 5, 6, 7] [] rfl rfl rfl (by decide) rfl 0 rfl rfl rfl rfl rfl (Nat.le_of_ble_eq_true rfl) dX6_readsRuns_111 (fun _ _ => ?_)
              refine z_ws (ws' := wM J h a L pl (pSk P pl (pNumP P pl (v.2.2.1 + 1 + 1 + 1)) 44) (if pNumR P pl (v.2.2.1 + 1 + 1 + 1) = 0 then 1 else pNumV P pl (v.2.2.1 + 1 + 1 + 1)) dn v.2.1 v.1 K T H S V P) rfl ?_
              refine z_st (st' := [.int (iI (pSkR P pl (pNumP P pl (v.2.2.1 + 1 + 1 + 1)) 44))]) rfl ?_
              by_cases hk_10 : pAt P pl (pNumP P pl (v.2.2.1 + 1 + 1 + 1)) = 44
              · rw [pSkR_1 hk_10, pSk_1 hk_10]
                have hk_10s := pAt_spec P pl (pNumP P pl (v.2.2.1 + 1 + 1 + 1))
                refine z_ws (ws' := wM J h a L pl (pNumP P pl (v.2.2.1 + 1 + 1 + 1) + 1) (if pNumR P pl (v.2.2.1 + 1 + 1 + 1) = 0 then 1 else pNumV P pl (v.2.2.1 + 1 + 1 + 1)) dn v.2.1 v.1 K T H S V P) rfl ?_
                refine z_st (st' := [.int (iI 1)]) rfl ?_
                refine z_istore_n (lv' := [(1, .int (iI 1)), (3, .int (iI 1)), (2, .int (iI (pAt P pl v.2.2.1 - 48))), (0, .ref h)]) hC dX6_readsRuns_114 rfl (by decide) rfl ?_
                refine z_goto (tgt := 2) hC dX6_readsRuns_115 (by decide) ?_
                refine z_lv (lv' := _) [0, 3] rfl ?_
                exact ih_1 (v.1, v.2.1, pNumP P pl (v.2.2.1 + 1 + 1 + 1) + 1, (if pNumR P pl (v.2.2.1 + 1 + 1 + 1) = 0 then 1 else pNumV P pl (v.2.2.1 + 1 + 1 + 1))) ⟨hv1, hv2, (by show 0 ≤ pNumP P pl (v.2.2.1 + 1 + 1 + 1) + 1 ∧ pNumP P pl (v.2.2.1 + 1 + 1 + 1) + 1 ≤ 80; omega), (by show 80 < pNumP P pl (v.2.2.1 + 1 + 1 + 1) + 1 + _; omega), (by rw [← hv5]; exact (mRuns_on (s' := pNumP P pl (v.2.2.1 + 1 + 1 + 1)) (b' := (if pNumR P pl (v.2.2.1 + 1 + 1 + 1) = 0 then 1 else pNumV P pl (v.2.2.1 + 1 + 1 + 1))) (by unfold pRunR; (try rw [hix]); (repeat' split) <;> omega) (by unfold mRunP; (try rw [hix]); (repeat' split) <;> first | rfl | omega) (by unfold mRunN; (try rw [hix]); (repeat' split) <;> first | rfl | omega) (q := pAt P pl v.2.2.1 - 48) (i := 1) (by omega) hiv (B' := v.1) (e' := v.2.1) (by unfold mRunX; (repeat' split) <;> first | rfl | omega) (by assumption)).symm)⟩
              · rw [pSkR_0 hk_10, pSk_0 hk_10]
                have hk_10s := pAt_spec P pl (pNumP P pl (v.2.2.1 + 1 + 1 + 1))
                refine z_ws (ws' := wM J h a L pl (pNumP P pl (v.2.2.1 + 1 + 1 + 1)) (if pNumR P pl (v.2.2.1 + 1 + 1 + 1) = 0 then 1 else pNumV P pl (v.2.2.1 + 1 + 1 + 1)) dn v.2.1 v.1 K T H S V P) rfl ?_
                refine z_st (st' := [.int (iI 0)]) rfl ?_
                refine z_istore_n (lv' := [(1, .int (iI 0)), (3, .int (iI 1)), (2, .int (iI (pAt P pl v.2.2.1 - 48))), (0, .ref h)]) hC dX6_readsRuns_114 rfl (by decide) rfl ?_
                refine z_goto (tgt := 2) hC dX6_readsRuns_115 (by decide) ?_
                refine z_iload_n hC dX6_readsRuns_2 rfl 0 rfl ?_
                refine z_if_eq_t (tgt := 118) hC dX6_readsRuns_3 (by decide) ⟨by decide, by decide⟩ (by decide) ?_
                refine z_iconst hC dX6_readsRuns_118 ?_
                exact z_iret hC hr rfl () trivial (hvi (show (mRuns P pl dn 81 (A, er, sp, nb)).2 = 1 from congrArg (fun z : MS × Int => z.2) (show mRuns P pl dn 81 (A, er, sp, nb) = ((v.1, v.2.1, pNumP P pl (v.2.2.1 + 1 + 1 + 1), (if pNumR P pl (v.2.2.1 + 1 + 1 + 1) = 0 then 1 else pNumV P pl (v.2.2.1 + 1 + 1 + 1))), 1) from (Eq.symm (by rw [← hv5]; exact (mRuns_end (s' := pNumP P pl (v.2.2.1 + 1 + 1 + 1)) (b' := (if pNumR P pl (v.2.2.1 + 1 + 1 + 1) = 0 then 1 else pNumV P pl (v.2.2.1 + 1 + 1 + 1))) (by unfold pRunR; (try rw [hix]); (repeat' split) <;> omega) (by unfold mRunP; (try rw [hix]); (repeat' split) <;> first | rfl | omega) (by unfold mRunN; (try rw [hix]); (repeat' split) <;> first | rfl | omega) (q := pAt P pl v.2.2.1 - 48) (i := 1) (by omega) hiv (B' := v.1) (e' := v.2.1) (by unfold mRunX; (repeat' split) <;> first | rfl | omega) (by assumption)).symm))))) (congrArg (fun z : MS × Int => wM J h a L pl z.1.2.2.1 z.1.2.2.2 dn z.1.2.1 z.1.1 K T H S V P) (show (((v.1, v.2.1, pNumP P pl (v.2.2.1 + 1 + 1 + 1), (if pNumR P pl (v.2.2.1 + 1 + 1 + 1) = 0 then 1 else pNumV P pl (v.2.2.1 + 1 + 1 + 1))), 1) : MS × Int) = mRuns P pl dn 81 (A, er, sp, nb) from (by rw [← hv5]; exact (mRuns_end (s' := pNumP P pl (v.2.2.1 + 1 + 1 + 1)) (b' := (if pNumR P pl (v.2.2.1 + 1 + 1 + 1) = 0 then 1 else pNumV P pl (v.2.2.1 + 1 + 1 + 1))) (by unfold pRunR; (try rw [hix]); (repeat' split) <;> omega) (by unfold mRunP; (try rw [hix]); (repeat' split) <;> first | rfl | omega) (by unfold mRunN; (try rw [hix]); (repeat' split) <;> first | rfl | omega) (q := pAt P pl v.2.2.1 - 48) (i := 1) (by omega) hiv (B' := v.1) (e' := v.2.1) (by unfold mRunX; (repeat' split) <;> first | rfl | omega) (by assumption)).symm))) dX6_readsRuns_119
            · refine z_aload_n hC dX6_readsRuns_87 rfl 3 rfl ?_
              refine z_geti hC zkX6 iX6_readsRuns_X6 0 rfl 12 (by decide) kX6_readsRuns_5 rfl rfl dX6_readsRuns_88 ?_
              refine z_int (y := iI v.2.1) hC (rfl) ?_
              refine z_if_ne (tgt := 108) hC dX6_readsRuns_91 (by decide) (by unfold inR; omega) (fun c_91_11 => ?_) (fun c_91_11 => ?_)
              · refine z_aload_n hC dX6_readsRuns_108 rfl 3 rfl ?_
                refine z_bipush hC dX6_readsRuns_109 (by decide) ?_
                refine z_callV (wr := ([] : va_W)) (av := [.int (iI 44)]) (st := []) hC (t_X6_takes l D J h a L pl (pNumP P pl (v.2.2.1 + 1 + 1 + 1)) (if pNumR P pl (v.2.2.1 + 1 + 1 + 1) = 0 then 1 else pNumV P pl (v.2.2.1 + 1 + 1 + 1)) dn v.2.1 v.1 K T H S V P 44 ⟨by omega, by omega⟩ ⟨by omega, by omega⟩ hpl hPv) gX6_readsRuns_X6_takes rfl 1 (by decide +kernel) ⟨Nat.le_of_ble_eq_true rfl, Nat.le_of_ble_eq_true rfl⟩ ⟨Nat.le_of_ble_eq_true rfl, Nat.le_of_ble_eq_true rfl⟩ [0, 1, 2, 3, 4, 5, 6, 7] [] rfl rfl rfl (by decide) rfl 0 rfl rfl rfl rfl rfl (Nat.le_of_ble_eq_true rfl) dX6_readsRuns_111 (fun _ _ => ?_)
                refine z_ws (ws' := wM J h a L pl (pSk P pl (pNumP P pl (v.2.2.1 + 1 + 1 + 1)) 44) (if pNumR P pl (v.2.2.1 + 1 + 1 + 1) = 0 then 1 else pNumV P pl (v.2.2.1 + 1 + 1 + 1)) dn v.2.1 v.1 K T H S V P) rfl ?_
                refine z_st (st' := [.int (iI (pSkR P pl (pNumP P pl (v.2.2.1 + 1 + 1 + 1)) 44))]) rfl ?_
                by_cases hk_12 : pAt P pl (pNumP P pl (v.2.2.1 + 1 + 1 + 1)) = 44
                · rw [pSkR_1 hk_12, pSk_1 hk_12]
                  have hk_12s := pAt_spec P pl (pNumP P pl (v.2.2.1 + 1 + 1 + 1))
                  refine z_ws (ws' := wM J h a L pl (pNumP P pl (v.2.2.1 + 1 + 1 + 1) + 1) (if pNumR P pl (v.2.2.1 + 1 + 1 + 1) = 0 then 1 else pNumV P pl (v.2.2.1 + 1 + 1 + 1)) dn v.2.1 v.1 K T H S V P) rfl ?_
                  refine z_st (st' := [.int (iI 1)]) rfl ?_
                  refine z_istore_n (lv' := [(1, .int (iI 1)), (3, .int (iI 1)), (2, .int (iI (pAt P pl v.2.2.1 - 48))), (0, .ref h)]) hC dX6_readsRuns_114 rfl (by decide) rfl ?_
                  refine z_goto (tgt := 2) hC dX6_readsRuns_115 (by decide) ?_
                  refine z_lv (lv' := _) [0, 3] rfl ?_
                  exact ih_1 (v.1, v.2.1, pNumP P pl (v.2.2.1 + 1 + 1 + 1) + 1, (if pNumR P pl (v.2.2.1 + 1 + 1 + 1) = 0 then 1 else pNumV P pl (v.2.2.1 + 1 + 1 + 1))) ⟨hv1, hv2, (by show 0 ≤ pNumP P pl (v.2.2.1 + 1 + 1 + 1) + 1 ∧ pNumP P pl (v.2.2.1 + 1 + 1 + 1) + 1 ≤ 80; omega), (by show 80 < pNumP P pl (v.2.2.1 + 1 + 1 + 1) + 1 + _; omega), (by rw [← hv5]; exact (mRuns_on (s' := pNumP P pl (v.2.2.1 + 1 + 1 + 1)) (b' := (if pNumR P pl (v.2.2.1 + 1 + 1 + 1) = 0 then 1 else pNumV P pl (v.2.2.1 + 1 + 1 + 1))) (by unfold pRunR; (try rw [hix]); (repeat' split) <;> omega) (by unfold mRunP; (try rw [hix]); (repeat' split) <;> first | rfl | omega) (by unfold mRunN; (try rw [hix]); (repeat' split) <;> first | rfl | omega) (q := pAt P pl v.2.2.1 - 48) (i := 1) (by omega) hiv (B' := v.1) (e' := v.2.1) (by unfold mRunX; (repeat' split) <;> first | rfl | omega) (by assumption)).symm)⟩
                · rw [pSkR_0 hk_12, pSk_0 hk_12]
                  have hk_12s := pAt_spec P pl (pNumP P pl (v.2.2.1 + 1 + 1 + 1))
                  refine z_ws (ws' := wM J h a L pl (pNumP P pl (v.2.2.1 + 1 + 1 + 1)) (if pNumR P pl (v.2.2.1 + 1 + 1 + 1) = 0 then 1 else pNumV P pl (v.2.2.1 + 1 + 1 + 1)) dn v.2.1 v.1 K T H S V P) rfl ?_
                  refine z_st (st' := [.int (iI 0)]) rfl ?_
                  refine z_istore_n (lv' := [(1, .int (iI 0)), (3, .int (iI 1)), (2, .int (iI (pAt P pl v.2.2.1 - 48))), (0, .ref h)]) hC dX6_readsRuns_114 rfl (by decide) rfl ?_
                  refine z_goto (tgt := 2) hC dX6_readsRuns_115 (by decide) ?_
                  refine z_iload_n hC dX6_readsRuns_2 rfl 0 rfl ?_
                  refine z_if_eq_t (tgt := 118) hC dX6_readsRuns_3 (by decide) ⟨by decide, by decide⟩ (by decide) ?_
                  refine z_iconst hC dX6_readsRuns_118 ?_
                  exact z_iret hC hr rfl () trivial (hvi (show (mRuns P pl dn 81 (A, er, sp, nb)).2 = 1 from congrArg (fun z : MS × Int => z.2) (show mRuns P pl dn 81 (A, er, sp, nb) = ((v.1, v.2.1, pNumP P pl (v.2.2.1 + 1 + 1 + 1), (if pNumR P pl (v.2.2.1 + 1 + 1 + 1) = 0 then 1 else pNumV P pl (v.2.2.1 + 1 + 1 + 1))), 1) from (Eq.symm (by rw [← hv5]; exact (mRuns_end (s' := pNumP P pl (v.2.2.1 + 1 + 1 + 1)) (b' := (if pNumR P pl (v.2.2.1 + 1 + 1 + 1) = 0 then 1 else pNumV P pl (v.2.2.1 + 1 + 1 + 1))) (by unfold pRunR; (try rw [hix]); (repeat' split) <;> omega) (by unfold mRunP; (try rw [hix]); (repeat' split) <;> first | rfl | omega) (by unfold mRunN; (try rw [hix]); (repeat' split) <;> first | rfl | omega) (q := pAt P pl v.2.2.1 - 48) (i := 1) (by omega) hiv (B' := v.1) (e' := v.2.1) (by unfold mRunX; (repeat' split) <;> first | rfl | omega) (by assumption)).symm))))) (congrArg (fun z : MS × Int => wM J h a L pl z.1.2.2.1 z.1.2.2.2 dn z.1.2.1 z.1.1 K T H S V P) (show (((v.1, v.2.1, pNumP P pl (v.2.2.1 + 1 + 1 + 1), (if pNumR P pl (v.2.2.1 + 1 + 1 + 1) = 0 then 1 else pNumV P pl (v.2.2.1 + 1 + 1 + 1))), 1) : MS × Int) = mRuns P pl dn 81 (A, er, sp, nb) from (by rw [← hv5]; exact (mRuns_end (s' := pNumP P pl (v.2.2.1 + 1 + 1 + 1)) (b' := (if pNumR P pl (v.2.2.1 + 1 + 1 + 1) = 0 then 1 else pNumV P pl (v.2.2.1 + 1 + 1 + 1))) (by unfold pRunR; (try rw [hix]); (repeat' split) <;> omega) (by unfold mRunP; (try rw [hix]); (repeat' split) <;> first | rfl | omega) (by unfold mRunN; (try rw [hix]); (repeat' split) <;> first | rfl | omega) (q := pAt P pl v.2.2.1 - 48) (i := 1) (by omega) hiv (B' := v.1) (e' := v.2.1) (by unfold mRunX; (repeat' split) <;> first | rfl | omega) (by assumption)).symm))) dX6_readsRuns_119
              · refine z_aload_n hC dX6_readsRuns_94 rfl 3 rfl ?_
                refine z_aload_n hC dX6_readsRuns_95 rfl 3 rfl ?_
                refine z_iload_n hC dX6_readsRuns_96 rfl 1 rfl ?_
                refine z_iload_n hC dX6_readsRuns_97 rfl 0 rfl ?_
                refine z_aload_n hC dX6_readsRuns_98 rfl 3 rfl ?_
                refine z_geti hC zkX6 iX6_readsRuns_X6 0 rfl 10 (by decide) kX6_readsRuns_3 rfl rfl dX6_readsRuns_99 ?_
                refine z_int (y := iI (if pNumR P pl (v.2.2.1 + 1 + 1 + 1) = 0 then 1 else pNumV P pl (v.2.2.1 + 1 + 1 + 1))) hC (rfl) ?_
                refine z_callV (wr := ([] : va_W)) (av := [.int (iI (pAt P pl v.2.2.1 - 48)), .int (iI 1), .int (iI (if pNumR P pl (v.2.2.1 + 1 + 1 + 1) = 0 then 1 else pNumV P pl (v.2.2.1 + 1 + 1 + 1)))]) (st := [.ref h]) hC (t_X6_doFeed l D J h a L pl (pNumP P pl (v.2.2.1 + 1 + 1 + 1)) (if pNumR P pl (v.2.2.1 + 1 + 1 + 1) = 0 then 1 else pNumV P pl (v.2.2.1 + 1 + 1 + 1)) dn v.2.1 v.1 K T H S V P (pAt P pl v.2.2.1 - 48) 1 (if pNumR P pl (v.2.2.1 + 1 + 1 + 1) = 0 then 1 else pNumV P pl (v.2.2.1 + 1 + 1 + 1)) (by unfold inR; omega) (by unfold inR; omega) (by unfold inR; (repeat' split) <;> omega) hv1) gX6_readsRuns_X6_doFeed rfl 3 (by decide +kernel) ⟨Nat.le_of_ble_eq_true rfl, Nat.le_of_ble_eq_true rfl⟩ ⟨Nat.le_of_ble_eq_true rfl, Nat.le_of_ble_eq_true rfl⟩ [0, 1, 2, 3, 4, 5, 6, 7] [] rfl rfl rfl (by decide) rfl 0 rfl rfl rfl rfl rfl (Nat.le_of_ble_eq_true rfl) dX6_readsRuns_102 (fun _ _ => ?_)
                refine z_ws (ws' := wM J h a L pl (pNumP P pl (v.2.2.1 + 1 + 1 + 1)) (if pNumR P pl (v.2.2.1 + 1 + 1 + 1) = 0 then 1 else pNumV P pl (v.2.2.1 + 1 + 1 + 1)) dn v.2.1 (mFeedA v.1 (pAt P pl v.2.2.1 - 48) 1 (if pNumR P pl (v.2.2.1 + 1 + 1 + 1) = 0 then 1 else pNumV P pl (v.2.2.1 + 1 + 1 + 1))) K T H S V P) rfl ?_
                refine z_st (st' := [.int (iI (mFeedR v.1 (pAt P pl v.2.2.1 - 48) 1 (if pNumR P pl (v.2.2.1 + 1 + 1 + 1) = 0 then 1 else pNumV P pl (v.2.2.1 + 1 + 1 + 1)))), .ref h]) rfl ?_
                refine z_callV (wr := ([] : va_W)) (av := [.int (iI (mFeedR v.1 (pAt P pl v.2.2.1 - 48) 1 (if pNumR P pl (v.2.2.1 + 1 + 1 + 1) = 0 then 1 else pNumV P pl (v.2.2.1 + 1 + 1 + 1))))]) (st := []) hC (t_X6_does l D J h a L pl (pNumP P pl (v.2.2.1 + 1 + 1 + 1)) (if pNumR P pl (v.2.2.1 + 1 + 1 + 1) = 0 then 1 else pNumV P pl (v.2.2.1 + 1 + 1 + 1)) dn v.2.1 (mFeedA v.1 (pAt P pl v.2.2.1 - 48) 1 (if pNumR P pl (v.2.2.1 + 1 + 1 + 1) = 0 then 1 else pNumV P pl (v.2.2.1 + 1 + 1 + 1))) K T H S V P (mFeedR v.1 (pAt P pl v.2.2.1 - 48) 1 (if pNumR P pl (v.2.2.1 + 1 + 1 + 1) = 0 then 1 else pNumV P pl (v.2.2.1 + 1 + 1 + 1))) (inR_of5 mFeedR_in)) gX6_readsRuns_X6_does rfl 1 (by decide +kernel) ⟨Nat.le_of_ble_eq_true rfl, Nat.le_of_ble_eq_true rfl⟩ ⟨Nat.le_of_ble_eq_true rfl, Nat.le_of_ble_eq_true rfl⟩ [0, 1, 2, 3, 4, 5, 6, 7] [] rfl rfl rfl (by decide) rfl 0 rfl rfl rfl rfl rfl (Nat.le_of_ble_eq_true rfl) dX6_readsRuns_105 (fun _ _ => ?_)
                refine z_ws (ws' := wM J h a L pl (pNumP P pl (v.2.2.1 + 1 + 1 + 1)) (if pNumR P pl (v.2.2.1 + 1 + 1 + 1) = 0 then 1 else pNumV P pl (v.2.2.1 + 1 + 1 + 1)) dn (if mFeedR v.1 (pAt P pl v.2.2.1 - 48) 1 (if pNumR P pl (v.2.2.1 + 1 + 1 + 1) = 0 then 1 else pNumV P pl (v.2.2.1 + 1 + 1 + 1)) < 0 then mFeedR v.1 (pAt P pl v.2.2.1 - 48) 1 (if pNumR P pl (v.2.2.1 + 1 + 1 + 1) = 0 then 1 else pNumV P pl (v.2.2.1 + 1 + 1 + 1)) else 0) (mFeedA v.1 (pAt P pl v.2.2.1 - 48) 1 (if pNumR P pl (v.2.2.1 + 1 + 1 + 1) = 0 then 1 else pNumV P pl (v.2.2.1 + 1 + 1 + 1))) K T H S V P) rfl ?_
                refine z_st (st' := []) rfl ?_
                refine z_aload_n hC dX6_readsRuns_108 rfl 3 rfl ?_
                refine z_bipush hC dX6_readsRuns_109 (by decide) ?_
                refine z_callV (wr := ([] : va_W)) (av := [.int (iI 44)]) (st := []) hC (t_X6_takes l D J h a L pl (pNumP P pl (v.2.2.1 + 1 + 1 + 1)) (if pNumR P pl (v.2.2.1 + 1 + 1 + 1) = 0 then 1 else pNumV P pl (v.2.2.1 + 1 + 1 + 1)) dn (if mFeedR v.1 (pAt P pl v.2.2.1 - 48) 1 (if pNumR P pl (v.2.2.1 + 1 + 1 + 1) = 0 then 1 else pNumV P pl (v.2.2.1 + 1 + 1 + 1)) < 0 then mFeedR v.1 (pAt P pl v.2.2.1 - 48) 1 (if pNumR P pl (v.2.2.1 + 1 + 1 + 1) = 0 then 1 else pNumV P pl (v.2.2.1 + 1 + 1 + 1)) else 0) (mFeedA v.1 (pAt P pl v.2.2.1 - 48) 1 (if pNumR P pl (v.2.2.1 + 1 + 1 + 1) = 0 then 1 else pNumV P pl (v.2.2.1 + 1 + 1 + 1))) K T H S V P 44 ⟨by omega, by omega⟩ ⟨by omega, by omega⟩ hpl hPv) gX6_readsRuns_X6_takes rfl 1 (by decide +kernel) ⟨Nat.le_of_ble_eq_true rfl, Nat.le_of_ble_eq_true rfl⟩ ⟨Nat.le_of_ble_eq_true rfl, Nat.le_of_ble_eq_true rfl⟩ [0, 1, 2, 3, 4, 5, 6, 7] [] rfl rfl rfl (by decide) rfl 0 rfl rfl rfl rfl rfl (Nat.le_of_ble_eq_true rfl) dX6_readsRuns_111 (fun _ _ => ?_)
                refine z_ws (ws' := wM J h a L pl (pSk P pl (pNumP P pl (v.2.2.1 + 1 + 1 + 1)) 44) (if pNumR P pl (v.2.2.1 + 1 + 1 + 1) = 0 then 1 else pNumV P pl (v.2.2.1 + 1 + 1 + 1)) dn (if mFeedR v.1 (pAt P pl v.2.2.1 - 48) 1 (if pNumR P pl (v.2.2.1 + 1 + 1 + 1) = 0 then 1 else pNumV P pl (v.2.2.1 + 1 + 1 + 1)) < 0 then mFeedR v.1 (pAt P pl v.2.2.1 - 48) 1 (if pNumR P pl (v.2.2.1 + 1 + 1 + 1) = 0 then 1 else pNumV P pl (v.2.2.1 + 1 + 1 + 1)) else 0) (mFeedA v.1 (pAt P pl v.2.2.1 - 48) 1 (if pNumR P pl (v.2.2.1 + 1 + 1 + 1) = 0 then 1 else pNumV P pl (v.2.2.1 + 1 + 1 + 1))) K T H S V P) rfl ?_
                refine z_st (st' := [.int (iI (pSkR P pl (pNumP P pl (v.2.2.1 + 1 + 1 + 1)) 44))]) rfl ?_
                by_cases hk_13 : pAt P pl (pNumP P pl (v.2.2.1 + 1 + 1 + 1)) = 44
                · rw [pSkR_1 hk_13, pSk_1 hk_13]
                  have hk_13s := pAt_spec P pl (pNumP P pl (v.2.2.1 + 1 + 1 + 1))
                  refine z_ws (ws' := wM J h a L pl (pNumP P pl (v.2.2.1 + 1 + 1 + 1) + 1) (if pNumR P pl (v.2.2.1 + 1 + 1 + 1) = 0 then 1 else pNumV P pl (v.2.2.1 + 1 + 1 + 1)) dn (if mFeedR v.1 (pAt P pl v.2.2.1 - 48) 1 (if pNumR P pl (v.2.2.1 + 1 + 1 + 1) = 0 then 1 else pNumV P pl (v.2.2.1 + 1 + 1 + 1)) < 0 then mFeedR v.1 (pAt P pl v.2.2.1 - 48) 1 (if pNumR P pl (v.2.2.1 + 1 + 1 + 1) = 0 then 1 else pNumV P pl (v.2.2.1 + 1 + 1 + 1)) else 0) (mFeedA v.1 (pAt P pl v.2.2.1 - 48) 1 (if pNumR P pl (v.2.2.1 + 1 + 1 + 1) = 0 then 1 else pNumV P pl (v.2.2.1 + 1 + 1 + 1))) K T H S V P) rfl ?_
                  refine z_st (st' := [.int (iI 1)]) rfl ?_
                  refine z_istore_n (lv' := [(1, .int (iI 1)), (3, .int (iI 1)), (2, .int (iI (pAt P pl v.2.2.1 - 48))), (0, .ref h)]) hC dX6_readsRuns_114 rfl (by decide) rfl ?_
                  refine z_goto (tgt := 2) hC dX6_readsRuns_115 (by decide) ?_
                  refine z_lv (lv' := _) [0, 3] rfl ?_
                  exact ih_1 (mFeedA v.1 (pAt P pl v.2.2.1 - 48) 1 (if pNumR P pl (v.2.2.1 + 1 + 1 + 1) = 0 then 1 else pNumV P pl (v.2.2.1 + 1 + 1 + 1)), (if mFeedR v.1 (pAt P pl v.2.2.1 - 48) 1 (if pNumR P pl (v.2.2.1 + 1 + 1 + 1) = 0 then 1 else pNumV P pl (v.2.2.1 + 1 + 1 + 1)) < 0 then mFeedR v.1 (pAt P pl v.2.2.1 - 48) 1 (if pNumR P pl (v.2.2.1 + 1 + 1 + 1) = 0 then 1 else pNumV P pl (v.2.2.1 + 1 + 1 + 1)) else 0), pNumP P pl (v.2.2.1 + 1 + 1 + 1) + 1, (if pNumR P pl (v.2.2.1 + 1 + 1 + 1) = 0 then 1 else pNumV P pl (v.2.2.1 + 1 + 1 + 1))) ⟨(mFeed_inv hv1), (does_in mFeedR_in), (by show 0 ≤ pNumP P pl (v.2.2.1 + 1 + 1 + 1) + 1 ∧ pNumP P pl (v.2.2.1 + 1 + 1 + 1) + 1 ≤ 80; omega), (by show 80 < pNumP P pl (v.2.2.1 + 1 + 1 + 1) + 1 + _; omega), (by rw [← hv5]; exact (mRuns_on (s' := pNumP P pl (v.2.2.1 + 1 + 1 + 1)) (b' := (if pNumR P pl (v.2.2.1 + 1 + 1 + 1) = 0 then 1 else pNumV P pl (v.2.2.1 + 1 + 1 + 1))) (by unfold pRunR; (try rw [hix]); (repeat' split) <;> omega) (by unfold mRunP; (try rw [hix]); (repeat' split) <;> first | rfl | omega) (by unfold mRunN; (try rw [hix]); (repeat' split) <;> first | rfl | omega) (q := pAt P pl v.2.2.1 - 48) (i := 1) (by omega) hiv (B' := mFeedA v.1 (pAt P pl v.2.2.1 - 48) 1 (if pNumR P pl (v.2.2.1 + 1 + 1 + 1) = 0 then 1 else pNumV P pl (v.2.2.1 + 1 + 1 + 1))) (e' := (if mFeedR v.1 (pAt P pl v.2.2.1 - 48) 1 (if pNumR P pl (v.2.2.1 + 1 + 1 + 1) = 0 then 1 else pNumV P pl (v.2.2.1 + 1 + 1 + 1)) < 0 then mFeedR v.1 (pAt P pl v.2.2.1 - 48) 1 (if pNumR P pl (v.2.2.1 + 1 + 1 + 1) = 0 then 1 else pNumV P pl (v.2.2.1 + 1 + 1 + 1)) else 0)) (by unfold mRunX; (repeat' split) <;> first | rfl | omega) (by assumption)).symm)⟩
                · rw [pSkR_0 hk_13, pSk_0 hk_13]
                  have hk_13s := pAt_spec P pl (pNumP P pl (v.2.2.1 + 1 + 1 + 1))
                  refine z_ws (ws' := wM J h a L pl (pNumP P pl (v.2.2.1 + 1 + 1 + 1)) (if pNumR P pl (v.2.2.1 + 1 + 1 + 1) = 0 then 1 else pNumV P pl (v.2.2.1 + 1 + 1 + 1)) dn (if mFeedR v.1 (pAt P pl v.2.2.1 - 48) 1 (if pNumR P pl (v.2.2.1 + 1 + 1 + 1) = 0 then 1 else pNumV P pl (v.2.2.1 + 1 + 1 + 1)) < 0 then mFeedR v.1 (pAt P pl v.2.2.1 - 48) 1 (if pNumR P pl (v.2.2.1 + 1 + 1 + 1) = 0 then 1 else pNumV P pl (v.2.2.1 + 1 + 1 + 1)) else 0) (mFeedA v.1 (pAt P pl v.2.2.1 - 48) 1 (if pNumR P pl (v.2.2.1 + 1 + 1 + 1) = 0 then 1 else pNumV P pl (v.2.2.1 + 1 + 1 + 1))) K T H S V P) rfl ?_
                  refine z_st (st' := [.int (iI 0)]) rfl ?_
                  refine z_istore_n (lv' := [(1, .int (iI 0)), (3, .int (iI 1)), (2, .int (iI (pAt P pl v.2.2.1 - 48))), (0, .ref h)]) hC dX6_readsRuns_114 rfl (by decide) rfl ?_
                  refine z_goto (tgt := 2) hC dX6_readsRuns_115 (by decide) ?_
                  refine z_iload_n hC dX6_readsRuns_2 rfl 0 rfl ?_
                  refine z_if_eq_t (tgt := 118) hC dX6_readsRuns_3 (by decide) ⟨by decide, by decide⟩ (by decide) ?_
                  refine z_iconst hC dX6_readsRuns_118 ?_
                  exact z_iret hC hr rfl () trivial (hvi (show (mRuns P pl dn 81 (A, er, sp, nb)).2 = 1 from congrArg (fun z : MS × Int => z.2) (show mRuns P pl dn 81 (A, er, sp, nb) = ((mFeedA v.1 (pAt P pl v.2.2.1 - 48) 1 (if pNumR P pl (v.2.2.1 + 1 + 1 + 1) = 0 then 1 else pNumV P pl (v.2.2.1 + 1 + 1 + 1)), (if mFeedR v.1 (pAt P pl v.2.2.1 - 48) 1 (if pNumR P pl (v.2.2.1 + 1 + 1 + 1) = 0 then 1 else pNumV P pl (v.2.2.1 + 1 + 1 + 1)) < 0 then mFeedR v.1 (pAt P pl v.2.2.1 - 48) 1 (if pNumR P pl (v.2.2.1 + 1 + 1 + 1) = 0 then 1 else pNumV P pl (v.2.2.1 + 1 + 1 + 1)) else 0), pNumP P pl (v.2.2.1 + 1 + 1 + 1), (if pNumR P pl (v.2.2.1 + 1 + 1 + 1) = 0 then 1 else pNumV P pl (v.2.2.1 + 1 + 1 + 1))), 1) from (Eq.symm (by rw [← hv5]; exact (mRuns_end (s' := pNumP P pl (v.2.2.1 + 1 + 1 + 1)) (b' := (if pNumR P pl (v.2.2.1 + 1 + 1 + 1) = 0 then 1 else pNumV P pl (v.2.2.1 + 1 + 1 + 1))) (by unfold pRunR; (try rw [hix]); (repeat' split) <;> omega) (by unfold mRunP; (try rw [hix]); (repeat' split) <;> first | rfl | omega) (by unfold mRunN; (try rw [hix]); (repeat' split) <;> first | rfl | omega) (q := pAt P pl v.2.2.1 - 48) (i := 1) (by omega) hiv (B' := mFeedA v.1 (pAt P pl v.2.2.1 - 48) 1 (if pNumR P pl (v.2.2.1 + 1 + 1 + 1) = 0 then 1 else pNumV P pl (v.2.2.1 + 1 + 1 + 1))) (e' := (if mFeedR v.1 (pAt P pl v.2.2.1 - 48) 1 (if pNumR P pl (v.2.2.1 + 1 + 1 + 1) = 0 then 1 else pNumV P pl (v.2.2.1 + 1 + 1 + 1)) < 0 then mFeedR v.1 (pAt P pl v.2.2.1 - 48) 1 (if pNumR P pl (v.2.2.1 + 1 + 1 + 1) = 0 then 1 else pNumV P pl (v.2.2.1 + 1 + 1 + 1)) else 0)) (by unfold mRunX; (repeat' split) <;> first | rfl | omega) (by assumption)).symm))))) (congrArg (fun z : MS × Int => wM J h a L pl z.1.2.2.1 z.1.2.2.2 dn z.1.2.1 z.1.1 K T H S V P) (show (((mFeedA v.1 (pAt P pl v.2.2.1 - 48) 1 (if pNumR P pl (v.2.2.1 + 1 + 1 + 1) = 0 then 1 else pNumV P pl (v.2.2.1 + 1 + 1 + 1)), (if mFeedR v.1 (pAt P pl v.2.2.1 - 48) 1 (if pNumR P pl (v.2.2.1 + 1 + 1 + 1) = 0 then 1 else pNumV P pl (v.2.2.1 + 1 + 1 + 1)) < 0 then mFeedR v.1 (pAt P pl v.2.2.1 - 48) 1 (if pNumR P pl (v.2.2.1 + 1 + 1 + 1) = 0 then 1 else pNumV P pl (v.2.2.1 + 1 + 1 + 1)) else 0), pNumP P pl (v.2.2.1 + 1 + 1 + 1), (if pNumR P pl (v.2.2.1 + 1 + 1 + 1) = 0 then 1 else pNumV P pl (v.2.2.1 + 1 + 1 + 1))), 1) : MS × Int) = mRuns P pl dn 81 (A, er, sp, nb) from (by rw [← hv5]; exact (mRuns_end (s' := pNumP P pl (v.2.2.1 + 1 + 1 + 1)) (b' := (if pNumR P pl (v.2.2.1 + 1 + 1 + 1) = 0 then 1 else pNumV P pl (v.2.2.1 + 1 + 1 + 1))) (by unfold pRunR; (try rw [hix]); (repeat' split) <;> omega) (by unfold mRunP; (try rw [hix]); (repeat' split) <;> first | rfl | omega) (by unfold mRunN; (try rw [hix]); (repeat' split) <;> first | rfl | omega) (q := pAt P pl v.2.2.1 - 48) (i := 1) (by omega) hiv (B' := mFeedA v.1 (pAt P pl v.2.2.1 - 48) 1 (if pNumR P pl (v.2.2.1 + 1 + 1 + 1) = 0 then 1 else pNumV P pl (v.2.2.1 + 1 + 1 + 1))) (e' := (if mFeedR v.1 (pAt P pl v.2.2.1 - 48) 1 (if pNumR P pl (v.2.2.1 + 1 + 1 + 1) = 0 then 1 else pNumV P pl (v.2.2.1 + 1 + 1 + 1)) < 0 then mFeedR v.1 (pAt P pl v.2.2.1 - 48) 1 (if pNumR P pl (v.2.2.1 + 1 + 1 + 1) = 0 then 1 else pNumV P pl (v.2.2.1 + 1 + 1 + 1)) else 0)) (by unfold mRunX; (repeat' split) <;> first | rfl | omega) (by assumption)).symm))) dX6_readsRuns_119
          · refine z_iconst hC dX6_readsRuns_78 ?_
            exact z_iret hC hr rfl () trivial (hvi (show (mRuns P pl dn 81 (A, er, sp, nb)).2 = 0 from congrArg (fun z : MS × Int => z.2) (show mRuns P pl dn 81 (A, er, sp, nb) = ((v.1, v.2.1, pNumP P pl (v.2.2.1 + 1 + 1 + 1), (if pNumR P pl (v.2.2.1 + 1 + 1 + 1) = 0 then 1 else pNumV P pl (v.2.2.1 + 1 + 1 + 1))), 0) from (Eq.symm (by rw [← hv5]; exact (mRuns_no (s' := pNumP P pl (v.2.2.1 + 1 + 1 + 1)) (b' := (if pNumR P pl (v.2.2.1 + 1 + 1 + 1) = 0 then 1 else pNumV P pl (v.2.2.1 + 1 + 1 + 1))) (by unfold pRunR; (try rw [hix]); (repeat' split) <;> first | rfl | omega) (by unfold mRunP; (try rw [hix]); (repeat' split) <;> first | rfl | omega) (by unfold mRunN; (try rw [hix]); (repeat' split) <;> first | rfl | omega)).symm))))) (congrArg (fun z : MS × Int => wM J h a L pl z.1.2.2.1 z.1.2.2.2 dn z.1.2.1 z.1.1 K T H S V P) (show (((v.1, v.2.1, pNumP P pl (v.2.2.1 + 1 + 1 + 1), (if pNumR P pl (v.2.2.1 + 1 + 1 + 1) = 0 then 1 else pNumV P pl (v.2.2.1 + 1 + 1 + 1))), 0) : MS × Int) = mRuns P pl dn 81 (A, er, sp, nb) from (by rw [← hv5]; exact (mRuns_no (s' := pNumP P pl (v.2.2.1 + 1 + 1 + 1)) (b' := (if pNumR P pl (v.2.2.1 + 1 + 1 + 1) = 0 then 1 else pNumV P pl (v.2.2.1 + 1 + 1 + 1))) (by unfold pRunR; (try rw [hix]); (repeat' split) <;> first | rfl | omega) (by unfold mRunP; (try rw [hix]); (repeat' split) <;> first | rfl | omega) (by unfold mRunN; (try rw [hix]); (repeat' split) <;> first | rfl | omega)).symm))) dX6_readsRuns_79
        · rw [pSkR_0 hk_7, pSk_0 hk_7]
          have hk_7s := pAt_spec P pl (v.2.2.1 + 1 + 1)
          refine z_ws (ws' := wM J h a L pl (v.2.2.1 + 1 + 1) 1 dn v.2.1 v.1 K T H S V P) rfl ?_
          refine z_st (st' := [.int (iI 0)]) rfl ?_
          refine z_if_eq_t (tgt := 80) hC dX6_readsRuns_68 (by decide) ⟨by decide, by decide⟩ (by decide) ?_
          refine z_aload_n hC dX6_readsRuns_80 rfl 3 rfl ?_
          refine z_geti hC zkX6 iX6_readsRuns_X6 0 rfl 11 (by decide) kX6_readsRuns_4 rfl rfl dX6_readsRuns_81 ?_
          refine z_int (y := iI dn) hC (rfl) ?_
          refine z_if_eq (tgt := 108) hC dX6_readsRuns_84 (by decide) (by unfold inR; omega) (fun c_84_14 => ?_) (fun c_84_14 => ?_)
          · refine z_aload_n hC dX6_readsRuns_108 rfl 3 rfl ?_
            refine z_bipush hC dX6_readsRuns_109 (by decide) ?_
            refine z_callV (wr := ([] : va_W)) (av := [.int (iI 44)]) (st := []) hC (t_X6_takes l D J h a L pl (v.2.2.1 + 1 + 1) 1 dn v.2.1 v.1 K T H S V P 44 ⟨by omega, by omega⟩ ⟨by omega, by omega⟩ hpl hPv) gX6_readsRuns_X6_takes rfl 1 (by decide +kernel) ⟨Nat.le_of_ble_eq_true rfl, Nat.le_of_ble_eq_true rfl⟩ ⟨Nat.le_of_ble_eq_true rfl, Nat.le_of_ble_eq_true rfl⟩ [0, 1, 2, 3, 4, 5, 6, 7] [] rfl rfl rfl (by decide) rfl 0 rfl rfl rfl rfl rfl (Nat.le_of_ble_eq_true rfl) dX6_readsRuns_111 (fun _ _ => ?_)
            refine z_ws (ws' := wM J h a L pl (pSk P pl (v.2.2.1 + 1 + 1) 44) 1 dn v.2.1 v.1 K T H S V P) rfl ?_
            refine z_st (st' := [.int (iI (pSkR P pl (v.2.2.1 + 1 + 1) 44))]) rfl ?_
            by_cases hk_15 : pAt P pl (v.2.2.1 + 1 + 1) = 44
            · rw [pSkR_1 hk_15, pSk_1 hk_15]
              have hk_15s := pAt_spec P pl (v.2.2.1 + 1 + 1)
              refine z_ws (ws' := wM J h a L pl (v.2.2.1 + 1 + 1 + 1) 1 dn v.2.1 v.1 K T H S V P) rfl ?_
              refine z_st (st' := [.int (iI 1)]) rfl ?_
              refine z_istore_n (lv' := [(1, .int (iI 1)), (3, .int (iI 1)), (2, .int (iI (pAt P pl v.2.2.1 - 48))), (0, .ref h)]) hC dX6_readsRuns_114 rfl (by decide) rfl ?_
              refine z_goto (tgt := 2) hC dX6_readsRuns_115 (by decide) ?_
              refine z_lv (lv' := _) [0, 3] rfl ?_
              exact ih_1 (v.1, v.2.1, v.2.2.1 + 1 + 1 + 1, 1) ⟨hv1, hv2, (by show 0 ≤ v.2.2.1 + 1 + 1 + 1 ∧ v.2.2.1 + 1 + 1 + 1 ≤ 80; omega), (by show 80 < v.2.2.1 + 1 + 1 + 1 + _; omega), (by rw [← hv5]; exact (mRuns_on (s' := v.2.2.1 + 1 + 1) (b' := 1) (by unfold pRunR; (try rw [hix]); (repeat' split) <;> omega) (by unfold mRunP; (try rw [hix]); (repeat' split) <;> first | rfl | omega) (by unfold mRunN; (try rw [hix]); (repeat' split) <;> first | rfl | omega) (q := pAt P pl v.2.2.1 - 48) (i := 1) (by omega) hiv (B' := v.1) (e' := v.2.1) (by unfold mRunX; (repeat' split) <;> first | rfl | omega) (by assumption)).symm)⟩
            · rw [pSkR_0 hk_15, pSk_0 hk_15]
              have hk_15s := pAt_spec P pl (v.2.2.1 + 1 + 1)
              refine z_ws (ws' := wM J h a L pl (v.2.2.1 + 1 + 1) 1 dn v.2.1 v.1 K T H S V P) rfl ?_
              refine z_st (st' := [.int (iI 0)]) rfl ?_
              refine z_istore_n (lv' := [(1, .int (iI 0)), (3, .int (iI 1)), (2, .int (iI (pAt P pl v.2.2.1 - 48))), (0, .ref h)]) hC dX6_readsRuns_114 rfl (by decide) rfl ?_
              refine z_goto (tgt := 2) hC dX6_readsRuns_115 (by decide) ?_
              refine z_iload_n hC dX6_readsRuns_2 rfl 0 rfl ?_
              refine z_if_eq_t (tgt := 118) hC dX6_readsRuns_3 (by decide) ⟨by decide, by decide⟩ (by decide) ?_
              refine z_iconst hC dX6_readsRuns_118 ?_
              exact z_iret hC hr rfl () trivial (hvi (show (mRuns P pl dn 81 (A, er, sp, nb)).2 = 1 from congrArg (fun z : MS × Int => z.2) (show mRuns P pl dn 81 (A, er, sp, nb) = ((v.1, v.2.1, v.2.2.1 + 1 + 1, 1), 1) from (Eq.symm (by rw [← hv5]; exact (mRuns_end (s' := v.2.2.1 + 1 + 1) (b' := 1) (by unfold pRunR; (try rw [hix]); (repeat' split) <;> omega) (by unfold mRunP; (try rw [hix]); (repeat' split) <;> first | rfl | omega) (by unfold mRunN; (try rw [hix]); (repeat' split) <;> first | rfl | omega) (q := pAt P pl v.2.2.1 - 48) (i := 1) (by omega) hiv (B' := v.1) (e' := v.2.1) (by unfold mRunX; (repeat' split) <;> first | rfl | omega) (by assumption)).symm))))) (congrArg (fun z : MS × Int => wM J h a L pl z.1.2.2.1 z.1.2.2.2 dn z.1.2.1 z.1.1 K T H S V P) (show (((v.1, v.2.1, v.2.2.1 + 1 + 1, 1), 1) : MS × Int) = mRuns P pl dn 81 (A, er, sp, nb) from (by rw [← hv5]; exact (mRuns_end (s' := v.2.2.1 + 1 + 1) (b' := 1) (by unfold pRunR; (try rw [hix]); (repeat' split) <;> omega) (by unfold mRunP; (try rw [hix]); (repeat' split) <;> first | rfl | omega) (by unfold mRunN; (try rw [hix]); (repeat' split) <;> first | rfl | omega) (q := pAt P pl v.2.2.1 - 48) (i := 1) (by omega) hiv (B' := v.1) (e' := v.2.1) (by unfold mRunX; (repeat' split) <;> first | rfl | omega) (by assumption)).symm))) dX6_readsRuns_119
          · refine z_aload_n hC dX6_readsRuns_87 rfl 3 rfl ?_
            refine z_geti hC zkX6 iX6_readsRuns_X6 0 rfl 12 (by decide) kX6_readsRuns_5 rfl rfl dX6_readsRuns_88 ?_
            refine z_int (y := iI v.2.1) hC (rfl) ?_
            refine z_if_ne (tgt := 108) hC dX6_readsRuns_91 (by decide) (by unfold inR; omega) (fun c_91_16 => ?_) (fun c_91_16 => ?_)
            · refine z_aload_n hC dX6_readsRuns_108 rfl 3 rfl ?_
              refine z_bipush hC dX6_readsRuns_109 (by decide) ?_
              refine z_callV (wr := ([] : va_W)) (av := [.int (iI 44)]) (st := []) hC (t_X6_takes l D J h a L pl (v.2.2.1 + 1 + 1) 1 dn v.2.1 v.1 K T H S V P 44 ⟨by omega, by omega⟩ ⟨by omega, by omega⟩ hpl hPv) gX6_readsRuns_X6_takes rfl 1 (by decide +kernel) ⟨Nat.le_of_ble_eq_true rfl, Nat.le_of_ble_eq_true rfl⟩ ⟨Nat.le_of_ble_eq_true rfl, Nat.le_of_ble_eq_true rfl⟩ [0, 1, 2, 3, 4, 5, 6, 7] [] rfl rfl rfl (by decide) rfl 0 rfl rfl rfl rfl rfl (Nat.le_of_ble_eq_true rfl) dX6_readsRuns_111 (fun _ _ => ?_)
              refine z_ws (ws' := wM J h a L pl (pSk P pl (v.2.2.1 + 1 + 1) 44) 1 dn v.2.1 v.1 K T H S V P) rfl ?_
              refine z_st (st' := [.int (iI (pSkR P pl (v.2.2.1 + 1 + 1) 44))]) rfl ?_
              by_cases hk_17 : pAt P pl (v.2.2.1 + 1 + 1) = 44
              · rw [pSkR_1 hk_17, pSk_1 hk_17]
                have hk_17s := pAt_spec P pl (v.2.2.1 + 1 + 1)
                refine z_ws (ws' := wM J h a L pl (v.2.2.1 + 1 + 1 + 1) 1 dn v.2.1 v.1 K T H S V P) rfl ?_
                refine z_st (st' := [.int (iI 1)]) rfl ?_
                refine z_istore_n (lv' := [(1, .int (iI 1)), (3, .int (iI 1)), (2, .int (iI (pAt P pl v.2.2.1 - 48))), (0, .ref h)]) hC dX6_readsRuns_114 rfl (by decide) rfl ?_
                refine z_goto (tgt := 2) hC dX6_readsRuns_115 (by decide) ?_
                refine z_lv (lv' := _) [0, 3] rfl ?_
                exact ih_1 (v.1, v.2.1, v.2.2.1 + 1 + 1 + 1, 1) ⟨hv1, hv2, (by show 0 ≤ v.2.2.1 + 1 + 1 + 1 ∧ v.2.2.1 + 1 + 1 + 1 ≤ 80; omega), (by show 80 < v.2.2.1 + 1 + 1 + 1 + _; omega), (by rw [← hv5]; exact (mRuns_on (s' := v.2.2.1 + 1 + 1) (b' := 1) (by unfold pRunR; (try rw [hix]); (repeat' split) <;> omega) (by unfold mRunP; (try rw [hix]); (repeat' split) <;> first | rfl | omega) (by unfold mRunN; (try rw [hix]); (repeat' split) <;> first | rfl | omega) (q := pAt P pl v.2.2.1 - 48) (i := 1) (by omega) hiv (B' := v.1) (e' := v.2.1) (by unfold mRunX; (repeat' split) <;> first | rfl | omega) (by assumption)).symm)⟩
              · rw [pSkR_0 hk_17, pSk_0 hk_17]
                have hk_17s := pAt_spec P pl (v.2.2.1 + 1 + 1)
                refine z_ws (ws' := wM J h a L pl (v.2.2.1 + 1 + 1) 1 dn v.2.1 v.1 K T H S V P) rfl ?_
                refine z_st (st' := [.int (iI 0)]) rfl ?_
                refine z_istore_n (lv' := [(1, .int (iI 0)), (3, .int (iI 1)), (2, .int (iI (pAt P pl v.2.2.1 - 48))), (0, .ref h)]) hC dX6_readsRuns_114 rfl (by decide) rfl ?_
                refine z_goto (tgt := 2) hC dX6_readsRuns_115 (by decide) ?_
                refine z_iload_n hC dX6_readsRuns_2 rfl 0 rfl ?_
                refine z_if_eq_t (tgt := 118) hC dX6_readsRuns_3 (by decide) ⟨by decide, by decide⟩ (by decide) ?_
                refine z_iconst hC dX6_readsRuns_118 ?_
                exact z_iret hC hr rfl () trivial (hvi (show (mRuns P pl dn 81 (A, er, sp, nb)).2 = 1 from congrArg (fun z : MS × Int => z.2) (show mRuns P pl dn 81 (A, er, sp, nb) = ((v.1, v.2.1, v.2.2.1 + 1 + 1, 1), 1) from (Eq.symm (by rw [← hv5]; exact (mRuns_end (s' := v.2.2.1 + 1 + 1) (b' := 1) (by unfold pRunR; (try rw [hix]); (repeat' split) <;> omega) (by unfold mRunP; (try rw [hix]); (repeat' split) <;> first | rfl | omega) (by unfold mRunN; (try rw [hix]); (repeat' split) <;> first | rfl | omega) (q := pAt P pl v.2.2.1 - 48) (i := 1) (by omega) hiv (B' := v.1) (e' := v.2.1) (by unfold mRunX; (repeat' split) <;> first | rfl | omega) (by assumption)).symm))))) (congrArg (fun z : MS × Int => wM J h a L pl z.1.2.2.1 z.1.2.2.2 dn z.1.2.1 z.1.1 K T H S V P) (show (((v.1, v.2.1, v.2.2.1 + 1 + 1, 1), 1) : MS × Int) = mRuns P pl dn 81 (A, er, sp, nb) from (by rw [← hv5]; exact (mRuns_end (s' := v.2.2.1 + 1 + 1) (b' := 1) (by unfold pRunR; (try rw [hix]); (repeat' split) <;> omega) (by unfold mRunP; (try rw [hix]); (repeat' split) <;> first | rfl | omega) (by unfold mRunN; (try rw [hix]); (repeat' split) <;> first | rfl | omega) (q := pAt P pl v.2.2.1 - 48) (i := 1) (by omega) hiv (B' := v.1) (e' := v.2.1) (by unfold mRunX; (repeat' split) <;> first | rfl | omega) (by assumption)).symm))) dX6_readsRuns_119
            · refine z_aload_n hC dX6_readsRuns_94 rfl 3 rfl ?_
              refine z_aload_n hC dX6_readsRuns_95 rfl 3 rfl ?_
              refine z_iload_n hC dX6_readsRuns_96 rfl 1 rfl ?_
              refine z_iload_n hC dX6_readsRuns_97 rfl 0 rfl ?_
              refine z_aload_n hC dX6_readsRuns_98 rfl 3 rfl ?_
              refine z_geti hC zkX6 iX6_readsRuns_X6 0 rfl 10 (by decide) kX6_readsRuns_3 rfl rfl dX6_readsRuns_99 ?_
              refine z_int (y := iI 1) hC (rfl) ?_
              refine z_callV (wr := ([] : va_W)) (av := [.int (iI (pAt P pl v.2.2.1 - 48)), .int (iI 1), .int (iI 1)]) (st := [.ref h]) hC (t_X6_doFeed l D J h a L pl (v.2.2.1 + 1 + 1) 1 dn v.2.1 v.1 K T H S V P (pAt P pl v.2.2.1 - 48) 1 1 (by unfold inR; omega) (by unfold inR; omega) (by unfold inR; (repeat' split) <;> omega) hv1) gX6_readsRuns_X6_doFeed rfl 3 (by decide +kernel) ⟨Nat.le_of_ble_eq_true rfl, Nat.le_of_ble_eq_true rfl⟩ ⟨Nat.le_of_ble_eq_true rfl, Nat.le_of_ble_eq_true rfl⟩ [0, 1, 2, 3, 4, 5, 6, 7] [] rfl rfl rfl (by decide) rfl 0 rfl rfl rfl rfl rfl (Nat.le_of_ble_eq_true rfl) dX6_readsRuns_102 (fun _ _ => ?_)
              refine z_ws (ws' := wM J h a L pl (v.2.2.1 + 1 + 1) 1 dn v.2.1 (mFeedA v.1 (pAt P pl v.2.2.1 - 48) 1 1) K T H S V P) rfl ?_
              refine z_st (st' := [.int (iI (mFeedR v.1 (pAt P pl v.2.2.1 - 48) 1 1)), .ref h]) rfl ?_
              refine z_callV (wr := ([] : va_W)) (av := [.int (iI (mFeedR v.1 (pAt P pl v.2.2.1 - 48) 1 1))]) (st := []) hC (t_X6_does l D J h a L pl (v.2.2.1 + 1 + 1) 1 dn v.2.1 (mFeedA v.1 (pAt P pl v.2.2.1 - 48) 1 1) K T H S V P (mFeedR v.1 (pAt P pl v.2.2.1 - 48) 1 1) (inR_of5 mFeedR_in)) gX6_readsRuns_X6_does rfl 1 (by decide +kernel) ⟨Nat.le_of_ble_eq_true rfl, Nat.le_of_ble_eq_true rfl⟩ ⟨Nat.le_of_ble_eq_true rfl, Nat.le_of_ble_eq_true rfl⟩ [0, 1, 2, 3, 4, 5, 6, 7] [] rfl rfl rfl (by decide) rfl 0 rfl rfl rfl rfl rfl (Nat.le_of_ble_eq_true rfl) dX6_readsRuns_105 (fun _ _ => ?_)
              refine z_ws (ws' := wM J h a L pl (v.2.2.1 + 1 + 1) 1 dn (if mFeedR v.1 (pAt P pl v.2.2.1 - 48) 1 1 < 0 then mFeedR v.1 (pAt P pl v.2.2.1 - 48) 1 1 else 0) (mFeedA v.1 (pAt P pl v.2.2.1 - 48) 1 1) K T H S V P) rfl ?_
              refine z_st (st' := []) rfl ?_
              refine z_aload_n hC dX6_readsRuns_108 rfl 3 rfl ?_
              refine z_bipush hC dX6_readsRuns_109 (by decide) ?_
              refine z_callV (wr := ([] : va_W)) (av := [.int (iI 44)]) (st := []) hC (t_X6_takes l D J h a L pl (v.2.2.1 + 1 + 1) 1 dn (if mFeedR v.1 (pAt P pl v.2.2.1 - 48) 1 1 < 0 then mFeedR v.1 (pAt P pl v.2.2.1 - 48) 1 1 else 0) (mFeedA v.1 (pAt P pl v.2.2.1 - 48) 1 1) K T H S V P 44 ⟨by omega, by omega⟩ ⟨by omega, by omega⟩ hpl hPv) gX6_readsRuns_X6_takes rfl 1 (by decide +kernel) ⟨Nat.le_of_ble_eq_true rfl, Nat.le_of_ble_eq_true rfl⟩ ⟨Nat.le_of_ble_eq_true rfl, Nat.le_of_ble_eq_true rfl⟩ [0, 1, 2, 3, 4, 5, 6, 7] [] rfl rfl rfl (by decide) rfl 0 rfl rfl rfl rfl rfl (Nat.le_of_ble_eq_true rfl) dX6_readsRuns_111 (fun _ _ => ?_)
              refine z_ws (ws' := wM J h a L pl (pSk P pl (v.2.2.1 + 1 + 1) 44) 1 dn (if mFeedR v.1 (pAt P pl v.2.2.1 - 48) 1 1 < 0 then mFeedR v.1 (pAt P pl v.2.2.1 - 48) 1 1 else 0) (mFeedA v.1 (pAt P pl v.2.2.1 - 48) 1 1) K T H S V P) rfl ?_
              refine z_st (st' := [.int (iI (pSkR P pl (v.2.2.1 + 1 + 1) 44))]) rfl ?_
              by_cases hk_18 : pAt P pl (v.2.2.1 + 1 + 1) = 44
              · rw [pSkR_1 hk_18, pSk_1 hk_18]
                have hk_18s := pAt_spec P pl (v.2.2.1 + 1 + 1)
                refine z_ws (ws' := wM J h a L pl (v.2.2.1 + 1 + 1 + 1) 1 dn (if mFeedR v.1 (pAt P pl v.2.2.1 - 48) 1 1 < 0 then mFeedR v.1 (pAt P pl v.2.2.1 - 48) 1 1 else 0) (mFeedA v.1 (pAt P pl v.2.2.1 - 48) 1 1) K T H S V P) rfl ?_
                refine z_st (st' := [.int (iI 1)]) rfl ?_
                refine z_istore_n (lv' := [(1, .int (iI 1)), (3, .int (iI 1)), (2, .int (iI (pAt P pl v.2.2.1 - 48))), (0, .ref h)]) hC dX6_readsRuns_114 rfl (by decide) rfl ?_
                refine z_goto (tgt := 2) hC dX6_readsRuns_115 (by decide) ?_
                refine z_lv (lv' := _) [0, 3] rfl ?_
                exact ih_1 (mFeedA v.1 (pAt P pl v.2.2.1 - 48) 1 1, (if mFeedR v.1 (pAt P pl v.2.2.1 - 48) 1 1 < 0 then mFeedR v.1 (pAt P pl v.2.2.1 - 48) 1 1 else 0), v.2.2.1 + 1 + 1 + 1, 1) ⟨(mFeed_inv hv1), (does_in mFeedR_in), (by show 0 ≤ v.2.2.1 + 1 + 1 + 1 ∧ v.2.2.1 + 1 + 1 + 1 ≤ 80; omega), (by show 80 < v.2.2.1 + 1 + 1 + 1 + _; omega), (by rw [← hv5]; exact (mRuns_on (s' := v.2.2.1 + 1 + 1) (b' := 1) (by unfold pRunR; (try rw [hix]); (repeat' split) <;> omega) (by unfold mRunP; (try rw [hix]); (repeat' split) <;> first | rfl | omega) (by unfold mRunN; (try rw [hix]); (repeat' split) <;> first | rfl | omega) (q := pAt P pl v.2.2.1 - 48) (i := 1) (by omega) hiv (B' := mFeedA v.1 (pAt P pl v.2.2.1 - 48) 1 1) (e' := (if mFeedR v.1 (pAt P pl v.2.2.1 - 48) 1 1 < 0 then mFeedR v.1 (pAt P pl v.2.2.1 - 48) 1 1 else 0)) (by unfold mRunX; (repeat' split) <;> first | rfl | omega) (by assumption)).symm)⟩
              · rw [pSkR_0 hk_18, pSk_0 hk_18]
                have hk_18s := pAt_spec P pl (v.2.2.1 + 1 + 1)
                refine z_ws (ws' := wM J h a L pl (v.2.2.1 + 1 + 1) 1 dn (if mFeedR v.1 (pAt P pl v.2.2.1 - 48) 1 1 < 0 then mFeedR v.1 (pAt P pl v.2.2.1 - 48) 1 1 else 0) (mFeedA v.1 (pAt P pl v.2.2.1 - 48) 1 1) K T H S V P) rfl ?_
                refine z_st (st' := [.int (iI 0)]) rfl ?_
                refine z_istore_n (lv' := [(1, .int (iI 0)), (3, .int (iI 1)), (2, .int (iI (pAt P pl v.2.2.1 - 48))), (0, .ref h)]) hC dX6_readsRuns_114 rfl (by decide) rfl ?_
                refine z_goto (tgt := 2) hC dX6_readsRuns_115 (by decide) ?_
                refine z_iload_n hC dX6_readsRuns_2 rfl 0 rfl ?_
                refine z_if_eq_t (tgt := 118) hC dX6_readsRuns_3 (by decide) ⟨by decide, by decide⟩ (by decide) ?_
                refine z_iconst hC dX6_readsRuns_118 ?_
                exact z_iret hC hr rfl () trivial (hvi (show (mRuns P pl dn 81 (A, er, sp, nb)).2 = 1 from congrArg (fun z : MS × Int => z.2) (show mRuns P pl dn 81 (A, er, sp, nb) = ((mFeedA v.1 (pAt P pl v.2.2.1 - 48) 1 1, (if mFeedR v.1 (pAt P pl v.2.2.1 - 48) 1 1 < 0 then mFeedR v.1 (pAt P pl v.2.2.1 - 48) 1 1 else 0), v.2.2.1 + 1 + 1, 1), 1) from (Eq.symm (by rw [← hv5]; exact (mRuns_end (s' := v.2.2.1 + 1 + 1) (b' := 1) (by unfold pRunR; (try rw [hix]); (repeat' split) <;> omega) (by unfold mRunP; (try rw [hix]); (repeat' split) <;> first | rfl | omega) (by unfold mRunN; (try rw [hix]); (repeat' split) <;> first | rfl | omega) (q := pAt P pl v.2.2.1 - 48) (i := 1) (by omega) hiv (B' := mFeedA v.1 (pAt P pl v.2.2.1 - 48) 1 1) (e' := (if mFeedR v.1 (pAt P pl v.2.2.1 - 48) 1 1 < 0 then mFeedR v.1 (pAt P pl v.2.2.1 - 48) 1 1 else 0)) (by unfold mRunX; (repeat' split) <;> first | rfl | omega) (by assumption)).symm))))) (congrArg (fun z : MS × Int => wM J h a L pl z.1.2.2.1 z.1.2.2.2 dn z.1.2.1 z.1.1 K T H S V P) (show (((mFeedA v.1 (pAt P pl v.2.2.1 - 48) 1 1, (if mFeedR v.1 (pAt P pl v.2.2.1 - 48) 1 1 < 0 then mFeedR v.1 (pAt P pl v.2.2.1 - 48) 1 1 else 0), v.2.2.1 + 1 + 1, 1), 1) : MS × Int) = mRuns P pl dn 81 (A, er, sp, nb) from (by rw [← hv5]; exact (mRuns_end (s' := v.2.2.1 + 1 + 1) (b' := 1) (by unfold pRunR; (try rw [hix]); (repeat' split) <;> omega) (by unfold mRunP; (try rw [hix]); (repeat' split) <;> first | rfl | omega) (by unfold mRunN; (try rw [hix]); (repeat' split) <;> first | rfl | omega) (q := pAt P pl v.2.2.1 - 48) (i := 1) (by omega) hiv (B' := mFeedA v.1 (pAt P pl v.2.2.1 - 48) 1 1) (e' := (if mFeedR v.1 (pAt P pl v.2.2.1 - 48) 1 1 < 0 then mFeedR v.1 (pAt P pl v.2.2.1 - 48) 1 1 else 0)) (by unfold mRunX; (repeat' split) <;> first | rfl | omega) (by assumption)).symm))) dX6_readsRuns_119
      · rw [pSkR_0 hk_6, pSk_0 hk_6]
        have hk_6s := pAt_spec P pl (v.2.2.1 + 1)
        have hix : pIxP P pl v.2.2.1 = v.2.2.1 + 1 := if_neg hk_6
        have hiv : pIxV P pl v.2.2.1 = 0 := if_neg hk_6
        refine z_ws (ws' := wM J h a L pl (v.2.2.1 + 1) v.2.2.2 dn v.2.1 v.1 K T H S V P) rfl ?_
        refine z_st (st' := [.int (iI 0)]) rfl ?_
        refine z_if_eq_t (tgt := 55) hC dX6_readsRuns_48 (by decide) ⟨by decide, by decide⟩ (by decide) ?_
        refine z_iconst hC dX6_readsRuns_55 ?_
        refine z_istore_n (lv' := [(3, .int (iI 0)), (2, .int (iI (pAt P pl v.2.2.1 - 48))), (1, .int (iI 1)), (0, .ref h)]) hC dX6_readsRuns_56 rfl (by decide) rfl ?_
        refine z_aload_n hC dX6_readsRuns_57 rfl 3 rfl ?_
        refine z_iconst hC dX6_readsRuns_58 ?_
        refine z_puti (ws' := wM J h a L pl (v.2.2.1 + 1) 1 dn v.2.1 v.1 K T H S V P) hC zkX6 iX6_readsRuns_X6 0 rfl 10 (by decide) kX6_readsRuns_3 rfl rfl rfl rfl rfl rfl dX6_readsRuns_59 rfl ?_
        refine z_aload_n hC dX6_readsRuns_62 rfl 3 rfl ?_
        refine z_bipush hC dX6_readsRuns_63 (by decide) ?_
        refine z_callV (wr := ([] : va_W)) (av := [.int (iI 42)]) (st := []) hC (t_X6_takes l D J h a L pl (v.2.2.1 + 1) 1 dn v.2.1 v.1 K T H S V P 42 ⟨by omega, by omega⟩ ⟨by omega, by omega⟩ hpl hPv) gX6_readsRuns_X6_takes rfl 1 (by decide +kernel) ⟨Nat.le_of_ble_eq_true rfl, Nat.le_of_ble_eq_true rfl⟩ ⟨Nat.le_of_ble_eq_true rfl, Nat.le_of_ble_eq_true rfl⟩ [0, 1, 2, 3, 4, 5, 6, 7] [] rfl rfl rfl (by decide) rfl 0 rfl rfl rfl rfl rfl (Nat.le_of_ble_eq_true rfl) dX6_readsRuns_65 (fun _ _ => ?_)
        refine z_ws (ws' := wM J h a L pl (pSk P pl (v.2.2.1 + 1) 42) 1 dn v.2.1 v.1 K T H S V P) rfl ?_
        refine z_st (st' := [.int (iI (pSkR P pl (v.2.2.1 + 1) 42))]) rfl ?_
        by_cases hk_19 : pAt P pl (v.2.2.1 + 1) = 42
        · rw [pSkR_1 hk_19, pSk_1 hk_19]
          have hk_19s := pAt_spec P pl (v.2.2.1 + 1)
          refine z_ws (ws' := wM J h a L pl (v.2.2.1 + 1 + 1) 1 dn v.2.1 v.1 K T H S V P) rfl ?_
          refine z_st (st' := [.int (iI 1)]) rfl ?_
          refine z_if_eq_f (tgt := 80) hC dX6_readsRuns_68 (by decide) ⟨by decide, by decide⟩ (by decide) ?_
          refine z_aload_n hC dX6_readsRuns_71 rfl 3 rfl ?_
          refine z_callV (wr := ([] : va_W)) (av := []) (st := []) hC (t_X6_readsNumber l D J h a L pl (v.2.2.1 + 1 + 1) 1 dn v.2.1 v.1 K T H S V P  ⟨by omega, by omega⟩ hpl hPv) gX6_readsRuns_X6_readsNumber rfl 0 (by decide +kernel) ⟨Nat.le_of_ble_eq_true rfl, Nat.le_of_ble_eq_true rfl⟩ ⟨Nat.le_of_ble_eq_true rfl, Nat.le_of_ble_eq_true rfl⟩ [0, 1, 2, 3, 4, 5, 6, 7] [] rfl rfl rfl (by decide) rfl 0 rfl rfl rfl rfl rfl (Nat.le_of_ble_eq_true rfl) dX6_readsRuns_72 (fun _ _ => ?_)
          refine z_ws (ws' := wM J h a L pl (pNumP P pl (v.2.2.1 + 1 + 1)) (if pNumR P pl (v.2.2.1 + 1 + 1) = 0 then 1 else pNumV P pl (v.2.2.1 + 1 + 1)) dn v.2.1 v.1 K T H S V P) rfl ?_
          refine z_st (st' := [.int (iI (pNumR P pl (v.2.2.1 + 1 + 1)))]) rfl ?_
          have hnp := pNumP_in (C := P) (len := pl) (pos := (v.2.2.1 + 1 + 1)) ⟨by omega, by omega⟩
          have hnv := pNumV_in (C := P) pl (v.2.2.1 + 1 + 1)
          have hn01 := pNumR_01 P pl (v.2.2.1 + 1 + 1)
          have hnge := pNumP_ge P pl (v.2.2.1 + 1 + 1)
          refine z_if_ne (tgt := 80) hC dX6_readsRuns_75 (by decide) (inR_01 (pNumR_01 _ _ _)) (fun c_75_20 => ?_) (fun c_75_20 => ?_)
          · refine z_aload_n hC dX6_readsRuns_80 rfl 3 rfl ?_
            refine z_geti hC zkX6 iX6_readsRuns_X6 0 rfl 11 (by decide) kX6_readsRuns_4 rfl rfl dX6_readsRuns_81 ?_
            refine z_int (y := iI dn) hC (rfl) ?_
            refine z_if_eq (tgt := 108) hC dX6_readsRuns_84 (by decide) (by unfold inR; omega) (fun c_84_21 => ?_) (fun c_84_21 => ?_)
            · refine z_aload_n hC dX6_readsRuns_108 rfl 3 rfl ?_
              refine z_bipush hC dX6_readsRuns_109 (by decide) ?_
              refine z_callV (wr := ([] : va_W)) (av := [.int (iI 44)]) (st := []) hC (t_X6_takes l D J h a L pl (pNumP P pl (v.2.2.1 + 1 + 1)) (if pNumR P pl (v.2.2.1 + 1 + 1) = 0 then 1 else pNumV P pl (v.2.2.1 + 1 + 1)) dn v.2.1 v.1 K T H S V P 44 ⟨by omega, by omega⟩ ⟨by omega, by omega⟩ hpl hPv) gX6_readsRuns_X6_takes rfl 1 (by decide +kernel) ⟨Nat.le_of_ble_eq_true rfl, Nat.le_of_ble_eq_true rfl⟩ ⟨Nat.le_of_ble_eq_true rfl, Nat.le_of_ble_eq_true rfl⟩ [0, 1, 2, 3, 4, 5, 6, 7] [] rfl rfl rfl (by decide) rfl 0 rfl rfl rfl rfl rfl (Nat.le_of_ble_eq_true rfl) dX6_readsRuns_111 (fun _ _ => ?_)
              refine z_ws (ws' := wM J h a L pl (pSk P pl (pNumP P pl (v.2.2.1 + 1 + 1)) 44) (if pNumR P pl (v.2.2.1 + 1 + 1) = 0 then 1 else pNumV P pl (v.2.2.1 + 1 + 1)) dn v.2.1 v.1 K T H S V P) rfl ?_
              refine z_st (st' := [.int (iI (pSkR P pl (pNumP P pl (v.2.2.1 + 1 + 1)) 44))]) rfl ?_
              by_cases hk_22 : pAt P pl (pNumP P pl (v.2.2.1 + 1 + 1)) = 44
              · rw [pSkR_1 hk_22, pSk_1 hk_22]
                have hk_22s := pAt_spec P pl (pNumP P pl (v.2.2.1 + 1 + 1))
                refine z_ws (ws' := wM J h a L pl (pNumP P pl (v.2.2.1 + 1 + 1) + 1) (if pNumR P pl (v.2.2.1 + 1 + 1) = 0 then 1 else pNumV P pl (v.2.2.1 + 1 + 1)) dn v.2.1 v.1 K T H S V P) rfl ?_
                refine z_st (st' := [.int (iI 1)]) rfl ?_
                refine z_istore_n (lv' := [(1, .int (iI 1)), (3, .int (iI 0)), (2, .int (iI (pAt P pl v.2.2.1 - 48))), (0, .ref h)]) hC dX6_readsRuns_114 rfl (by decide) rfl ?_
                refine z_goto (tgt := 2) hC dX6_readsRuns_115 (by decide) ?_
                refine z_lv (lv' := _) [0, 3] rfl ?_
                exact ih_1 (v.1, v.2.1, pNumP P pl (v.2.2.1 + 1 + 1) + 1, (if pNumR P pl (v.2.2.1 + 1 + 1) = 0 then 1 else pNumV P pl (v.2.2.1 + 1 + 1))) ⟨hv1, hv2, (by show 0 ≤ pNumP P pl (v.2.2.1 + 1 + 1) + 1 ∧ pNumP P pl (v.2.2.1 + 1 + 1) + 1 ≤ 80; omega), (by show 80 < pNumP P pl (v.2.2.1 + 1 + 1) + 1 + _; omega), (by rw [← hv5]; exact (mRuns_on (s' := pNumP P pl (v.2.2.1 + 1 + 1)) (b' := (if pNumR P pl (v.2.2.1 + 1 + 1) = 0 then 1 else pNumV P pl (v.2.2.1 + 1 + 1))) (by unfold pRunR; (try rw [hix]); (repeat' split) <;> omega) (by unfold mRunP; (try rw [hix]); (repeat' split) <;> first | rfl | omega) (by unfold mRunN; (try rw [hix]); (repeat' split) <;> first | rfl | omega) (q := pAt P pl v.2.2.1 - 48) (i := 0) (by omega) hiv (B' := v.1) (e' := v.2.1) (by unfold mRunX; (repeat' split) <;> first | rfl | omega) (by assumption)).symm)⟩
              · rw [pSkR_0 hk_22, pSk_0 hk_22]
                have hk_22s := pAt_spec P pl (pNumP P pl (v.2.2.1 + 1 + 1))
                refine z_ws (ws' := wM J h a L pl (pNumP P pl (v.2.2.1 + 1 + 1)) (if pNumR P pl (v.2.2.1 + 1 + 1) = 0 then 1 else pNumV P pl (v.2.2.1 + 1 + 1)) dn v.2.1 v.1 K T H S V P) rfl ?_
                refine z_st (st' := [.int (iI 0)]) rfl ?_
                refine z_istore_n (lv' := [(1, .int (iI 0)), (3, .int (iI 0)), (2, .int (iI (pAt P pl v.2.2.1 - 48))), (0, .ref h)]) hC dX6_readsRuns_114 rfl (by decide) rfl ?_
                refine z_goto (tgt := 2) hC dX6_readsRuns_115 (by decide) ?_
                refine z_iload_n hC dX6_readsRuns_2 rfl 0 rfl ?_
                refine z_if_eq_t (tgt := 118) hC dX6_readsRuns_3 (by decide) ⟨by decide, by decide⟩ (by decide) ?_
                refine z_iconst hC dX6_readsRuns_118 ?_
                exact z_iret hC hr rfl () trivial (hvi (show (mRuns P pl dn 81 (A, er, sp, nb)).2 = 1 from congrArg (fun z : MS × Int => z.2) (show mRuns P pl dn 81 (A, er, sp, nb) = ((v.1, v.2.1, pNumP P pl (v.2.2.1 + 1 + 1), (if pNumR P pl (v.2.2.1 + 1 + 1) = 0 then 1 else pNumV P pl (v.2.2.1 + 1 + 1))), 1) from (Eq.symm (by rw [← hv5]; exact (mRuns_end (s' := pNumP P pl (v.2.2.1 + 1 + 1)) (b' := (if pNumR P pl (v.2.2.1 + 1 + 1) = 0 then 1 else pNumV P pl (v.2.2.1 + 1 + 1))) (by unfold pRunR; (try rw [hix]); (repeat' split) <;> omega) (by unfold mRunP; (try rw [hix]); (repeat' split) <;> first | rfl | omega) (by unfold mRunN; (try rw [hix]); (repeat' split) <;> first | rfl | omega) (q := pAt P pl v.2.2.1 - 48) (i := 0) (by omega) hiv (B' := v.1) (e' := v.2.1) (by unfold mRunX; (repeat' split) <;> first | rfl | omega) (by assumption)).symm))))) (congrArg (fun z : MS × Int => wM J h a L pl z.1.2.2.1 z.1.2.2.2 dn z.1.2.1 z.1.1 K T H S V P) (show (((v.1, v.2.1, pNumP P pl (v.2.2.1 + 1 + 1), (if pNumR P pl (v.2.2.1 + 1 + 1) = 0 then 1 else pNumV P pl (v.2.2.1 + 1 + 1))), 1) : MS × Int) = mRuns P pl dn 81 (A, er, sp, nb) from (by rw [← hv5]; exact (mRuns_end (s' := pNumP P pl (v.2.2.1 + 1 + 1)) (b' := (if pNumR P pl (v.2.2.1 + 1 + 1) = 0 then 1 else pNumV P pl (v.2.2.1 + 1 + 1))) (by unfold pRunR; (try rw [hix]); (repeat' split) <;> omega) (by unfold mRunP; (try rw [hix]); (repeat' split) <;> first | rfl | omega) (by unfold mRunN; (try rw [hix]); (repeat' split) <;> first | rfl | omega) (q := pAt P pl v.2.2.1 - 48) (i := 0) (by omega) hiv (B' := v.1) (e' := v.2.1) (by unfold mRunX; (repeat' split) <;> first | rfl | omega) (by assumption)).symm))) dX6_readsRuns_119
            · refine z_aload_n hC dX6_readsRuns_87 rfl 3 rfl ?_
              refine z_geti hC zkX6 iX6_readsRuns_X6 0 rfl 12 (by decide) kX6_readsRuns_5 rfl rfl dX6_readsRuns_88 ?_
              refine z_int (y := iI v.2.1) hC (rfl) ?_
              refine z_if_ne (tgt := 108) hC dX6_readsRuns_91 (by decide) (by unfold inR; omega) (fun c_91_23 => ?_) (fun c_91_23 => ?_)
              · refine z_aload_n hC dX6_readsRuns_108 rfl 3 rfl ?_
                refine z_bipush hC dX6_readsRuns_109 (by decide) ?_
                refine z_callV (wr := ([] : va_W)) (av := [.int (iI 44)]) (st := []) hC (t_X6_takes l D J h a L pl (pNumP P pl (v.2.2.1 + 1 + 1)) (if pNumR P pl (v.2.2.1 + 1 + 1) = 0 then 1 else pNumV P pl (v.2.2.1 + 1 + 1)) dn v.2.1 v.1 K T H S V P 44 ⟨by omega, by omega⟩ ⟨by omega, by omega⟩ hpl hPv) gX6_readsRuns_X6_takes rfl 1 (by decide +kernel) ⟨Nat.le_of_ble_eq_true rfl, Nat.le_of_ble_eq_true rfl⟩ ⟨Nat.le_of_ble_eq_true rfl, Nat.le_of_ble_eq_true rfl⟩ [0, 1, 2, 3, 4, 5, 6, 7] [] rfl rfl rfl (by decide) rfl 0 rfl rfl rfl rfl rfl (Nat.le_of_ble_eq_true rfl) dX6_readsRuns_111 (fun _ _ => ?_)
                refine z_ws (ws' := wM J h a L pl (pSk P pl (pNumP P pl (v.2.2.1 + 1 + 1)) 44) (if pNumR P pl (v.2.2.1 + 1 + 1) = 0 then 1 else pNumV P pl (v.2.2.1 + 1 + 1)) dn v.2.1 v.1 K T H S V P) rfl ?_
                refine z_st (st' := [.int (iI (pSkR P pl (pNumP P pl (v.2.2.1 + 1 + 1)) 44))]) rfl ?_
                by_cases hk_24 : pAt P pl (pNumP P pl (v.2.2.1 + 1 + 1)) = 44
                · rw [pSkR_1 hk_24, pSk_1 hk_24]
                  have hk_24s := pAt_spec P pl (pNumP P pl (v.2.2.1 + 1 + 1))
                  refine z_ws (ws' := wM J h a L pl (pNumP P pl (v.2.2.1 + 1 + 1) + 1) (if pNumR P pl (v.2.2.1 + 1 + 1) = 0 then 1 else pNumV P pl (v.2.2.1 + 1 + 1)) dn v.2.1 v.1 K T H S V P) rfl ?_
                  refine z_st (st' := [.int (iI 1)]) rfl ?_
                  refine z_istore_n (lv' := [(1, .int (iI 1)), (3, .int (iI 0)), (2, .int (iI (pAt P pl v.2.2.1 - 48))), (0, .ref h)]) hC dX6_readsRuns_114 rfl (by decide) rfl ?_
                  refine z_goto (tgt := 2) hC dX6_readsRuns_115 (by decide) ?_
                  refine z_lv (lv' := _) [0, 3] rfl ?_
                  exact ih_1 (v.1, v.2.1, pNumP P pl (v.2.2.1 + 1 + 1) + 1, (if pNumR P pl (v.2.2.1 + 1 + 1) = 0 then 1 else pNumV P pl (v.2.2.1 + 1 + 1))) ⟨hv1, hv2, (by show 0 ≤ pNumP P pl (v.2.2.1 + 1 + 1) + 1 ∧ pNumP P pl (v.2.2.1 + 1 + 1) + 1 ≤ 80; omega), (by show 80 < pNumP P pl (v.2.2.1 + 1 + 1) + 1 + _; omega), (by rw [← hv5]; exact (mRuns_on (s' := pNumP P pl (v.2.2.1 + 1 + 1)) (b' := (if pNumR P pl (v.2.2.1 + 1 + 1) = 0 then 1 else pNumV P pl (v.2.2.1 + 1 + 1))) (by unfold pRunR; (try rw [hix]); (repeat' split) <;> omega) (by unfold mRunP; (try rw [hix]); (repeat' split) <;> first | rfl | omega) (by unfold mRunN; (try rw [hix]); (repeat' split) <;> first | rfl | omega) (q := pAt P pl v.2.2.1 - 48) (i := 0) (by omega) hiv (B' := v.1) (e' := v.2.1) (by unfold mRunX; (repeat' split) <;> first | rfl | omega) (by assumption)).symm)⟩
                · rw [pSkR_0 hk_24, pSk_0 hk_24]
                  have hk_24s := pAt_spec P pl (pNumP P pl (v.2.2.1 + 1 + 1))
                  refine z_ws (ws' := wM J h a L pl (pNumP P pl (v.2.2.1 + 1 + 1)) (if pNumR P pl (v.2.2.1 + 1 + 1) = 0 then 1 else pNumV P pl (v.2.2.1 + 1 + 1)) dn v.2.1 v.1 K T H S V P) rfl ?_
                  refine z_st (st' := [.int (iI 0)]) rfl ?_
                  refine z_istore_n (lv' := [(1, .int (iI 0)), (3, .int (iI 0)), (2, .int (iI (pAt P pl v.2.2.1 - 48))), (0, .ref h)]) hC dX6_readsRuns_114 rfl (by decide) rfl ?_
                  refine z_goto (tgt := 2) hC dX6_readsRuns_115 (by decide) ?_
                  refine z_iload_n hC dX6_readsRuns_2 rfl 0 rfl ?_
                  refine z_if_eq_t (tgt := 118) hC dX6_readsRuns_3 (by decide) ⟨by decide, by decide⟩ (by decide) ?_
                  refine z_iconst hC dX6_readsRuns_118 ?_
                  exact z_iret hC hr rfl () trivial (hvi (show (mRuns P pl dn 81 (A, er, sp, nb)).2 = 1 from congrArg (fun z : MS × Int => z.2) (show mRuns P pl dn 81 (A, er, sp, nb) = ((v.1, v.2.1, pNumP P pl (v.2.2.1 + 1 + 1), (if pNumR P pl (v.2.2.1 + 1 + 1) = 0 then 1 else pNumV P pl (v.2.2.1 + 1 + 1))), 1) from (Eq.symm (by rw [← hv5]; exact (mRuns_end (s' := pNumP P pl (v.2.2.1 + 1 + 1)) (b' := (if pNumR P pl (v.2.2.1 + 1 + 1) = 0 then 1 else pNumV P pl (v.2.2.1 + 1 + 1))) (by unfold pRunR; (try rw [hix]); (repeat' split) <;> omega) (by unfold mRunP; (try rw [hix]); (repeat' split) <;> first | rfl | omega) (by unfold mRunN; (try rw [hix]); (repeat' split) <;> first | rfl | omega) (q := pAt P pl v.2.2.1 - 48) (i := 0) (by omega) hiv (B' := v.1) (e' := v.2.1) (by unfold mRunX; (repeat' split) <;> first | rfl | omega) (by assumption)).symm))))) (congrArg (fun z : MS × Int => wM J h a L pl z.1.2.2.1 z.1.2.2.2 dn z.1.2.1 z.1.1 K T H S V P) (show (((v.1, v.2.1, pNumP P pl (v.2.2.1 + 1 + 1), (if pNumR P pl (v.2.2.1 + 1 + 1) = 0 then 1 else pNumV P pl (v.2.2.1 + 1 + 1))), 1) : MS × Int) = mRuns P pl dn 81 (A, er, sp, nb) from (by rw [← hv5]; exact (mRuns_end (s' := pNumP P pl (v.2.2.1 + 1 + 1)) (b' := (if pNumR P pl (v.2.2.1 + 1 + 1) = 0 then 1 else pNumV P pl (v.2.2.1 + 1 + 1))) (by unfold pRunR; (try rw [hix]); (repeat' split) <;> omega) (by unfold mRunP; (try rw [hix]); (repeat' split) <;> first | rfl | omega) (by unfold mRunN; (try rw [hix]); (repeat' split) <;> first | rfl | omega) (q := pAt P pl v.2.2.1 - 48) (i := 0) (by omega) hiv (B' := v.1) (e' := v.2.1) (by unfold mRunX; (repeat' split) <;> first | rfl | omega) (by assumption)).symm))) dX6_readsRuns_119
              · refine z_aload_n hC dX6_readsRuns_94 rfl 3 rfl ?_
                refine z_aload_n hC dX6_readsRuns_95 rfl 3 rfl ?_
                refine z_iload_n hC dX6_readsRuns_96 rfl 1 rfl ?_
                refine z_iload_n hC dX6_readsRuns_97 rfl 0 rfl ?_
                refine z_aload_n hC dX6_readsRuns_98 rfl 3 rfl ?_
                refine z_geti hC zkX6 iX6_readsRuns_X6 0 rfl 10 (by decide) kX6_readsRuns_3 rfl rfl dX6_readsRuns_99 ?_
                refine z_int (y := iI (if pNumR P pl (v.2.2.1 + 1 + 1) = 0 then 1 else pNumV P pl (v.2.2.1 + 1 + 1))) hC (rfl) ?_
                refine z_callV (wr := ([] : va_W)) (av := [.int (iI (pAt P pl v.2.2.1 - 48)), .int (iI 0), .int (iI (if pNumR P pl (v.2.2.1 + 1 + 1) = 0 then 1 else pNumV P pl (v.2.2.1 + 1 + 1)))]) (st := [.ref h]) hC (t_X6_doFeed l D J h a L pl (pNumP P pl (v.2.2.1 + 1 + 1)) (if pNumR P pl (v.2.2.1 + 1 + 1) = 0 then 1 else pNumV P pl (v.2.2.1 + 1 + 1)) dn v.2.1 v.1 K T H S V P (pAt P pl v.2.2.1 - 48) 0 (if pNumR P pl (v.2.2.1 + 1 + 1) = 0 then 1 else pNumV P pl (v.2.2.1 + 1 + 1)) (by unfold inR; omega) (by unfold inR; omega) (by unfold inR; (repeat' split) <;> omega) hv1) gX6_readsRuns_X6_doFeed rfl 3 (by decide +kernel) ⟨Nat.le_of_ble_eq_true rfl, Nat.le_of_ble_eq_true rfl⟩ ⟨Nat.le_of_ble_eq_true rfl, Nat.le_of_ble_eq_true rfl⟩ [0, 1, 2, 3, 4, 5, 6, 7] [] rfl rfl rfl (by decide) rfl 0 rfl rfl rfl rfl rfl (Nat.le_of_ble_eq_true rfl) dX6_readsRuns_102 (fun _ _ => ?_)
                refine z_ws (ws' := wM J h a L pl (pNumP P pl (v.2.2.1 + 1 + 1)) (if pNumR P pl (v.2.2.1 + 1 + 1) = 0 then 1 else pNumV P pl (v.2.2.1 + 1 + 1)) dn v.2.1 (mFeedA v.1 (pAt P pl v.2.2.1 - 48) 0 (if pNumR P pl (v.2.2.1 + 1 + 1) = 0 then 1 else pNumV P pl (v.2.2.1 + 1 + 1))) K T H S V P) rfl ?_
                refine z_st (st' := [.int (iI (mFeedR v.1 (pAt P pl v.2.2.1 - 48) 0 (if pNumR P pl (v.2.2.1 + 1 + 1) = 0 then 1 else pNumV P pl (v.2.2.1 + 1 + 1)))), .ref h]) rfl ?_
                refine z_callV (wr := ([] : va_W)) (av := [.int (iI (mFeedR v.1 (pAt P pl v.2.2.1 - 48) 0 (if pNumR P pl (v.2.2.1 + 1 + 1) = 0 then 1 else pNumV P pl (v.2.2.1 + 1 + 1))))]) (st := []) hC (t_X6_does l D J h a L pl (pNumP P pl (v.2.2.1 + 1 + 1)) (if pNumR P pl (v.2.2.1 + 1 + 1) = 0 then 1 else pNumV P pl (v.2.2.1 + 1 + 1)) dn v.2.1 (mFeedA v.1 (pAt P pl v.2.2.1 - 48) 0 (if pNumR P pl (v.2.2.1 + 1 + 1) = 0 then 1 else pNumV P pl (v.2.2.1 + 1 + 1))) K T H S V P (mFeedR v.1 (pAt P pl v.2.2.1 - 48) 0 (if pNumR P pl (v.2.2.1 + 1 + 1) = 0 then 1 else pNumV P pl (v.2.2.1 + 1 + 1))) (inR_of5 mFeedR_in)) gX6_readsRuns_X6_does rfl 1 (by decide +kernel) ⟨Nat.le_of_ble_eq_true rfl, Nat.le_of_ble_eq_true rfl⟩ ⟨Nat.le_of_ble_eq_true rfl, Nat.le_of_ble_eq_true rfl⟩ [0, 1, 2, 3, 4, 5, 6, 7] [] rfl rfl rfl (by decide) rfl 0 rfl rfl rfl rfl rfl (Nat.le_of_ble_eq_true rfl) dX6_readsRuns_105 (fun _ _ => ?_)
                refine z_ws (ws' := wM J h a L pl (pNumP P pl (v.2.2.1 + 1 + 1)) (if pNumR P pl (v.2.2.1 + 1 + 1) = 0 then 1 else pNumV P pl (v.2.2.1 + 1 + 1)) dn (if mFeedR v.1 (pAt P pl v.2.2.1 - 48) 0 (if pNumR P pl (v.2.2.1 + 1 + 1) = 0 then 1 else pNumV P pl (v.2.2.1 + 1 + 1)) < 0 then mFeedR v.1 (pAt P pl v.2.2.1 - 48) 0 (if pNumR P pl (v.2.2.1 + 1 + 1) = 0 then 1 else pNumV P pl (v.2.2.1 + 1 + 1)) else 0) (mFeedA v.1 (pAt P pl v.2.2.1 - 48) 0 (if pNumR P pl (v.2.2.1 + 1 + 1) = 0 then 1 else pNumV P pl (v.2.2.1 + 1 + 1))) K T H S V P) rfl ?_
                refine z_st (st' := []) rfl ?_
                refine z_aload_n hC dX6_readsRuns_108 rfl 3 rfl ?_
                refine z_bipush hC dX6_readsRuns_109 (by decide) ?_
                refine z_callV (wr := ([] : va_W)) (av := [.int (iI 44)]) (st := []) hC (t_X6_takes l D J h a L pl (pNumP P pl (v.2.2.1 + 1 + 1)) (if pNumR P pl (v.2.2.1 + 1 + 1) = 0 then 1 else pNumV P pl (v.2.2.1 + 1 + 1)) dn (if mFeedR v.1 (pAt P pl v.2.2.1 - 48) 0 (if pNumR P pl (v.2.2.1 + 1 + 1) = 0 then 1 else pNumV P pl (v.2.2.1 + 1 + 1)) < 0 then mFeedR v.1 (pAt P pl v.2.2.1 - 48) 0 (if pNumR P pl (v.2.2.1 + 1 + 1) = 0 then 1 else pNumV P pl (v.2.2.1 + 1 + 1)) else 0) (mFeedA v.1 (pAt P pl v.2.2.1 - 48) 0 (if pNumR P pl (v.2.2.1 + 1 + 1) = 0 then 1 else pNumV P pl (v.2.2.1 + 1 + 1))) K T H S V P 44 ⟨by omega, by omega⟩ ⟨by omega, by omega⟩ hpl hPv) gX6_readsRuns_X6_takes rfl 1 (by decide +kernel) ⟨Nat.le_of_ble_eq_true rfl, Nat.le_of_ble_eq_true rfl⟩ ⟨Nat.le_of_ble_eq_true rfl, Nat.le_of_ble_eq_true rfl⟩ [0, 1, 2, 3, 4, 5, 6, 7] [] rfl rfl rfl (by decide) rfl 0 rfl rfl rfl rfl rfl (Nat.le_of_ble_eq_true rfl) dX6_readsRuns_111 (fun _ _ => ?_)
                refine z_ws (ws' := wM J h a L pl (pSk P pl (pNumP P pl (v.2.2.1 + 1 + 1)) 44) (if pNumR P pl (v.2.2.1 + 1 + 1) = 0 then 1 else pNumV P pl (v.2.2.1 + 1 + 1)) dn (if mFeedR v.1 (pAt P pl v.2.2.1 - 48) 0 (if pNumR P pl (v.2.2.1 + 1 + 1) = 0 then 1 else pNumV P pl (v.2.2.1 + 1 + 1)) < 0 then mFeedR v.1 (pAt P pl v.2.2.1 - 48) 0 (if pNumR P pl (v.2.2.1 + 1 + 1) = 0 then 1 else pNumV P pl (v.2.2.1 + 1 + 1)) else 0) (mFeedA v.1 (pAt P pl v.2.2.1 - 48) 0 (if pNumR P pl (v.2.2.1 + 1 + 1) = 0 then 1 else pNumV P pl (v.2.2.1 + 1 + 1))) K T H S V P) rfl ?_
                refine z_st (st' := [.int (iI (pSkR P pl (pNumP P pl (v.2.2.1 + 1 + 1)) 44))]) rfl ?_
                by_cases hk_25 : pAt P pl (pNumP P pl (v.2.2.1 + 1 + 1)) = 44
                · rw [pSkR_1 hk_25, pSk_1 hk_25]
                  have hk_25s := pAt_spec P pl (pNumP P pl (v.2.2.1 + 1 + 1))
                  refine z_ws (ws' := wM J h a L pl (pNumP P pl (v.2.2.1 + 1 + 1) + 1) (if pNumR P pl (v.2.2.1 + 1 + 1) = 0 then 1 else pNumV P pl (v.2.2.1 + 1 + 1)) dn (if mFeedR v.1 (pAt P pl v.2.2.1 - 48) 0 (if pNumR P pl (v.2.2.1 + 1 + 1) = 0 then 1 else pNumV P pl (v.2.2.1 + 1 + 1)) < 0 then mFeedR v.1 (pAt P pl v.2.2.1 - 48) 0 (if pNumR P pl (v.2.2.1 + 1 + 1) = 0 then 1 else pNumV P pl (v.2.2.1 + 1 + 1)) else 0) (mFeedA v.1 (pAt P pl v.2.2.1 - 48) 0 (if pNumR P pl (v.2.2.1 + 1 + 1) = 0 then 1 else pNumV P pl (v.2.2.1 + 1 + 1))) K T H S V P) rfl ?_
                  refine z_st (st' := [.int (iI 1)]) rfl ?_
                  refine z_istore_n (lv' := [(1, .int (iI 1)), (3, .int (iI 0)), (2, .int (iI (pAt P pl v.2.2.1 - 48))), (0, .ref h)]) hC dX6_readsRuns_114 rfl (by decide) rfl ?_
                  refine z_goto (tgt := 2) hC dX6_readsRuns_115 (by decide) ?_
                  refine z_lv (lv' := _) [0, 3] rfl ?_
                  exact ih_1 (mFeedA v.1 (pAt P pl v.2.2.1 - 48) 0 (if pNumR P pl (v.2.2.1 + 1 + 1) = 0 then 1 else pNumV P pl (v.2.2.1 + 1 + 1)), (if mFeedR v.1 (pAt P pl v.2.2.1 - 48) 0 (if pNumR P pl (v.2.2.1 + 1 + 1) = 0 then 1 else pNumV P pl (v.2.2.1 + 1 + 1)) < 0 then mFeedR v.1 (pAt P pl v.2.2.1 - 48) 0 (if pNumR P pl (v.2.2.1 + 1 + 1) = 0 then 1 else pNumV P pl (v.2.2.1 + 1 + 1)) else 0), pNumP P pl (v.2.2.1 + 1 + 1) + 1, (if pNumR P pl (v.2.2.1 + 1 + 1) = 0 then 1 else pNumV P pl (v.2.2.1 + 1 + 1))) ⟨(mFeed_inv hv1), (does_in mFeedR_in), (by show 0 ≤ pNumP P pl (v.2.2.1 + 1 + 1) + 1 ∧ pNumP P pl (v.2.2.1 + 1 + 1) + 1 ≤ 80; omega), (by show 80 < pNumP P pl (v.2.2.1 + 1 + 1) + 1 + _; omega), (by rw [← hv5]; exact (mRuns_on (s' := pNumP P pl (v.2.2.1 + 1 + 1)) (b' := (if pNumR P pl (v.2.2.1 + 1 + 1) = 0 then 1 else pNumV P pl (v.2.2.1 + 1 + 1))) (by unfold pRunR; (try rw [hix]); (repeat' split) <;> omega) (by unfold mRunP; (try rw [hix]); (repeat' split) <;> first | rfl | omega) (by unfold mRunN; (try rw [hix]); (repeat' split) <;> first | rfl | omega) (q := pAt P pl v.2.2.1 - 48) (i := 0) (by omega) hiv (B' := mFeedA v.1 (pAt P pl v.2.2.1 - 48) 0 (if pNumR P pl (v.2.2.1 + 1 + 1) = 0 then 1 else pNumV P pl (v.2.2.1 + 1 + 1))) (e' := (if mFeedR v.1 (pAt P pl v.2.2.1 - 48) 0 (if pNumR P pl (v.2.2.1 + 1 + 1) = 0 then 1 else pNumV P pl (v.2.2.1 + 1 + 1)) < 0 then mFeedR v.1 (pAt P pl v.2.2.1 - 48) 0 (if pNumR P pl (v.2.2.1 + 1 + 1) = 0 then 1 else pNumV P pl (v.2.2.1 + 1 + 1)) else 0)) (by unfold mRunX; (repeat' split) <;> first | rfl | omega) (by assumption)).symm)⟩
                · rw [pSkR_0 hk_25, pSk_0 hk_25]
                  have hk_25s := pAt_spec P pl (pNumP P pl (v.2.2.1 + 1 + 1))
                  refine z_ws (ws' := wM J h a L pl (pNumP P pl (v.2.2.1 + 1 + 1)) (if pNumR P pl (v.2.2.1 + 1 + 1) = 0 then 1 else pNumV P pl (v.2.2.1 + 1 + 1)) dn (if mFeedR v.1 (pAt P pl v.2.2.1 - 48) 0 (if pNumR P pl (v.2.2.1 + 1 + 1) = 0 then 1 else pNumV P pl (v.2.2.1 + 1 + 1)) < 0 then mFeedR v.1 (pAt P pl v.2.2.1 - 48) 0 (if pNumR P pl (v.2.2.1 + 1 + 1) = 0 then 1 else pNumV P pl (v.2.2.1 + 1 + 1)) else 0) (mFeedA v.1 (pAt P pl v.2.2.1 - 48) 0 (if pNumR P pl (v.2.2.1 + 1 + 1) = 0 then 1 else pNumV P pl (v.2.2.1 + 1 + 1))) K T H S V P) rfl ?_
                  refine z_st (st' := [.int (iI 0)]) rfl ?_
                  refine z_istore_n (lv' := [(1, .int (iI 0)), (3, .int (iI 0)), (2, .int (iI (pAt P pl v.2.2.1 - 48))), (0, .ref h)]) hC dX6_readsRuns_114 rfl (by decide) rfl ?_
                  refine z_goto (tgt := 2) hC dX6_readsRuns_115 (by decide) ?_
                  refine z_iload_n hC dX6_readsRuns_2 rfl 0 rfl ?_
                  refine z_if_eq_t (tgt := 118) hC dX6_readsRuns_3 (by decide) ⟨by decide, by decide⟩ (by decide) ?_
                  refine z_iconst hC dX6_readsRuns_118 ?_
                  exact z_iret hC hr rfl () trivial (hvi (show (mRuns P pl dn 81 (A, er, sp, nb)).2 = 1 from congrArg (fun z : MS × Int => z.2) (show mRuns P pl dn 81 (A, er, sp, nb) = ((mFeedA v.1 (pAt P pl v.2.2.1 - 48) 0 (if pNumR P pl (v.2.2.1 + 1 + 1) = 0 then 1 else pNumV P pl (v.2.2.1 + 1 + 1)), (if mFeedR v.1 (pAt P pl v.2.2.1 - 48) 0 (if pNumR P pl (v.2.2.1 + 1 + 1) = 0 then 1 else pNumV P pl (v.2.2.1 + 1 + 1)) < 0 then mFeedR v.1 (pAt P pl v.2.2.1 - 48) 0 (if pNumR P pl (v.2.2.1 + 1 + 1) = 0 then 1 else pNumV P pl (v.2.2.1 + 1 + 1)) else 0), pNumP P pl (v.2.2.1 + 1 + 1), (if pNumR P pl (v.2.2.1 + 1 + 1) = 0 then 1 else pNumV P pl (v.2.2.1 + 1 + 1))), 1) from (Eq.symm (by rw [← hv5]; exact (mRuns_end (s' := pNumP P pl (v.2.2.1 + 1 + 1)) (b' := (if pNumR P pl (v.2.2.1 + 1 + 1) = 0 then 1 else pNumV P pl (v.2.2.1 + 1 + 1))) (by unfold pRunR; (try rw [hix]); (repeat' split) <;> omega) (by unfold mRunP; (try rw [hix]); (repeat' split) <;> first | rfl | omega) (by unfold mRunN; (try rw [hix]); (repeat' split) <;> first | rfl | omega) (q := pAt P pl v.2.2.1 - 48) (i := 0) (by omega) hiv (B' := mFeedA v.1 (pAt P pl v.2.2.1 - 48) 0 (if pNumR P pl (v.2.2.1 + 1 + 1) = 0 then 1 else pNumV P pl (v.2.2.1 + 1 + 1))) (e' := (if mFeedR v.1 (pAt P pl v.2.2.1 - 48) 0 (if pNumR P pl (v.2.2.1 + 1 + 1) = 0 then 1 else pNumV P pl (v.2.2.1 + 1 + 1)) < 0 then mFeedR v.1 (pAt P pl v.2.2.1 - 48) 0 (if pNumR P pl (v.2.2.1 + 1 + 1) = 0 then 1 else pNumV P pl (v.2.2.1 + 1 + 1)) else 0)) (by unfold mRunX; (repeat' split) <;> first | rfl | omega) (by assumption)).symm))))) (congrArg (fun z : MS × Int => wM J h a L pl z.1.2.2.1 z.1.2.2.2 dn z.1.2.1 z.1.1 K T H S V P) (show (((mFeedA v.1 (pAt P pl v.2.2.1 - 48) 0 (if pNumR P pl (v.2.2.1 + 1 + 1) = 0 then 1 else pNumV P pl (v.2.2.1 + 1 + 1)), (if mFeedR v.1 (pAt P pl v.2.2.1 - 48) 0 (if pNumR P pl (v.2.2.1 + 1 + 1) = 0 then 1 else pNumV P pl (v.2.2.1 + 1 + 1)) < 0 then mFeedR v.1 (pAt P pl v.2.2.1 - 48) 0 (if pNumR P pl (v.2.2.1 + 1 + 1) = 0 then 1 else pNumV P pl (v.2.2.1 + 1 + 1)) else 0), pNumP P pl (v.2.2.1 + 1 + 1), (if pNumR P pl (v.2.2.1 + 1 + 1) = 0 then 1 else pNumV P pl (v.2.2.1 + 1 + 1))), 1) : MS × Int) = mRuns P pl dn 81 (A, er, sp, nb) from (by rw [← hv5]; exact (mRuns_end (s' := pNumP P pl (v.2.2.1 + 1 + 1)) (b' := (if pNumR P pl (v.2.2.1 + 1 + 1) = 0 then 1 else pNumV P pl (v.2.2.1 + 1 + 1))) (by unfold pRunR; (try rw [hix]); (repeat' split) <;> omega) (by unfold mRunP; (try rw [hix]); (repeat' split) <;> first | rfl | omega) (by unfold mRunN; (try rw [hix]); (repeat' split) <;> first | rfl | omega) (q := pAt P pl v.2.2.1 - 48) (i := 0) (by omega) hiv (B' := mFeedA v.1 (pAt P pl v.2.2.1 - 48) 0 (if pNumR P pl (v.2.2.1 + 1 + 1) = 0 then 1 else pNumV P pl (v.2.2.1 + 1 + 1))) (e' := (if mFeedR v.1 (pAt P pl v.2.2.1 - 48) 0 (if pNumR P pl (v.2.2.1 + 1 + 1) = 0 then 1 else pNumV P pl (v.2.2.1 + 1 + 1)) < 0 then mFeedR v.1 (pAt P pl v.2.2.1 - 48) 0 (if pNumR P pl (v.2.2.1 + 1 + 1) = 0 then 1 else pNumV P pl (v.2.2.1 + 1 + 1)) else 0)) (by unfold mRunX; (repeat' split) <;> first | rfl | omega) (by assumption)).symm))) dX6_readsRuns_119
          · refine z_iconst hC dX6_readsRuns_78 ?_
            exact z_iret hC hr rfl () trivial (hvi (show (mRuns P pl dn 81 (A, er, sp, nb)).2 = 0 from congrArg (fun z : MS × Int => z.2) (show mRuns P pl dn 81 (A, er, sp, nb) = ((v.1, v.2.1, pNumP P pl (v.2.2.1 + 1 + 1), (if pNumR P pl (v.2.2.1 + 1 + 1) = 0 then 1 else pNumV P pl (v.2.2.1 + 1 + 1))), 0) from (Eq.symm (by rw [← hv5]; exact (mRuns_no (s' := pNumP P pl (v.2.2.1 + 1 + 1)) (b' := (if pNumR P pl (v.2.2.1 + 1 + 1) = 0 then 1 else pNumV P pl (v.2.2.1 + 1 + 1))) (by unfold pRunR; (try rw [hix]); (repeat' split) <;> first | rfl | omega) (by unfold mRunP; (try rw [hix]); (repeat' split) <;> first | rfl | omega) (by unfold mRunN; (try rw [hix]); (repeat' split) <;> first | rfl | omega)).symm))))) (congrArg (fun z : MS × Int => wM J h a L pl z.1.2.2.1 z.1.2.2.2 dn z.1.2.1 z.1.1 K T H S V P) (show (((v.1, v.2.1, pNumP P pl (v.2.2.1 + 1 + 1), (if pNumR P pl (v.2.2.1 + 1 + 1) = 0 then 1 else pNumV P pl (v.2.2.1 + 1 + 1))), 0) : MS × Int) = mRuns P pl dn 81 (A, er, sp, nb) from (by rw [← hv5]; exact (mRuns_no (s' := pNumP P pl (v.2.2.1 + 1 + 1)) (b' := (if pNumR P pl (v.2.2.1 + 1 + 1) = 0 then 1 else pNumV P pl (v.2.2.1 + 1 + 1))) (by unfold pRunR; (try rw [hix]); (repeat' split) <;> first | rfl | omega) (by unfold mRunP; (try rw [hix]); (repeat' split) <;> first | rfl | omega) (by unfold mRunN; (try rw [hix]); (repeat' split) <;> first | rfl | omega)).symm))) dX6_readsRuns_79
        · rw [pSkR_0 hk_19, pSk_0 hk_19]
          have hk_19s := pAt_spec P pl (v.2.2.1 + 1)
          refine z_ws (ws' := wM J h a L pl (v.2.2.1 + 1) 1 dn v.2.1 v.1 K T H S V P) rfl ?_
          refine z_st (st' := [.int (iI 0)]) rfl ?_
          refine z_if_eq_t (tgt := 80) hC dX6_readsRuns_68 (by decide) ⟨by decide, by decide⟩ (by decide) ?_
          refine z_aload_n hC dX6_readsRuns_80 rfl 3 rfl ?_
          refine z_geti hC zkX6 iX6_readsRuns_X6 0 rfl 11 (by decide) kX6_readsRuns_4 rfl rfl dX6_readsRuns_81 ?_
          refine z_int (y := iI dn) hC (rfl) ?_
          refine z_if_eq (tgt := 108) hC dX6_readsRuns_84 (by decide) (by unfold inR; omega) (fun c_84_26 => ?_) (fun c_84_26 => ?_)
          · refine z_aload_n hC dX6_readsRuns_108 rfl 3 rfl ?_
            refine z_bipush hC dX6_readsRuns_109 (by decide) ?_
            refine z_callV (wr := ([] : va_W)) (av := [.int (iI 44)]) (st := []) hC (t_X6_takes l D J h a L pl (v.2.2.1 + 1) 1 dn v.2.1 v.1 K T H S V P 44 ⟨by omega, by omega⟩ ⟨by omega, by omega⟩ hpl hPv) gX6_readsRuns_X6_takes rfl 1 (by decide +kernel) ⟨Nat.le_of_ble_eq_true rfl, Nat.le_of_ble_eq_true rfl⟩ ⟨Nat.le_of_ble_eq_true rfl, Nat.le_of_ble_eq_true rfl⟩ [0, 1, 2, 3, 4, 5, 6, 7] [] rfl rfl rfl (by decide) rfl 0 rfl rfl rfl rfl rfl (Nat.le_of_ble_eq_true rfl) dX6_readsRuns_111 (fun _ _ => ?_)
            refine z_ws (ws' := wM J h a L pl (pSk P pl (v.2.2.1 + 1) 44) 1 dn v.2.1 v.1 K T H S V P) rfl ?_
            refine z_st (st' := [.int (iI (pSkR P pl (v.2.2.1 + 1) 44))]) rfl ?_
            by_cases hk_27 : pAt P pl (v.2.2.1 + 1) = 44
            · rw [pSkR_1 hk_27, pSk_1 hk_27]
              have hk_27s := pAt_spec P pl (v.2.2.1 + 1)
              refine z_ws (ws' := wM J h a L pl (v.2.2.1 + 1 + 1) 1 dn v.2.1 v.1 K T H S V P) rfl ?_
              refine z_st (st' := [.int (iI 1)]) rfl ?_
              refine z_istore_n (lv' := [(1, .int (iI 1)), (3, .int (iI 0)), (2, .int (iI (pAt P pl v.2.2.1 - 48))), (0, .ref h)]) hC dX6_readsRuns_114 rfl (by decide) rfl ?_
              refine z_goto (tgt := 2) hC dX6_readsRuns_115 (by decide) ?_
              refine z_lv (lv' := _) [0, 3] rfl ?_
              exact ih_1 (v.1, v.2.1, v.2.2.1 + 1 + 1, 1) ⟨hv1, hv2, (by show 0 ≤ v.2.2.1 + 1 + 1 ∧ v.2.2.1 + 1 + 1 ≤ 80; omega), (by show 80 < v.2.2.1 + 1 + 1 + _; omega), (by rw [← hv5]; exact (mRuns_on (s' := v.2.2.1 + 1) (b' := 1) (by unfold pRunR; (try rw [hix]); (repeat' split) <;> omega) (by unfold mRunP; (try rw [hix]); (repeat' split) <;> first | rfl | omega) (by unfold mRunN; (try rw [hix]); (repeat' split) <;> first | rfl | omega) (q := pAt P pl v.2.2.1 - 48) (i := 0) (by omega) hiv (B' := v.1) (e' := v.2.1) (by unfold mRunX; (repeat' split) <;> first | rfl | omega) (by assumption)).symm)⟩
            · rw [pSkR_0 hk_27, pSk_0 hk_27]
              have hk_27s := pAt_spec P pl (v.2.2.1 + 1)
              refine z_ws (ws' := wM J h a L pl (v.2.2.1 + 1) 1 dn v.2.1 v.1 K T H S V P) rfl ?_
              refine z_st (st' := [.int (iI 0)]) rfl ?_
              refine z_istore_n (lv' := [(1, .int (iI 0)), (3, .int (iI 0)), (2, .int (iI (pAt P pl v.2.2.1 - 48))), (0, .ref h)]) hC dX6_readsRuns_114 rfl (by decide) rfl ?_
              refine z_goto (tgt := 2) hC dX6_readsRuns_115 (by decide) ?_
              refine z_iload_n hC dX6_readsRuns_2 rfl 0 rfl ?_
              refine z_if_eq_t (tgt := 118) hC dX6_readsRuns_3 (by decide) ⟨by decide, by decide⟩ (by decide) ?_
              refine z_iconst hC dX6_readsRuns_118 ?_
              exact z_iret hC hr rfl () trivial (hvi (show (mRuns P pl dn 81 (A, er, sp, nb)).2 = 1 from congrArg (fun z : MS × Int => z.2) (show mRuns P pl dn 81 (A, er, sp, nb) = ((v.1, v.2.1, v.2.2.1 + 1, 1), 1) from (Eq.symm (by rw [← hv5]; exact (mRuns_end (s' := v.2.2.1 + 1) (b' := 1) (by unfold pRunR; (try rw [hix]); (repeat' split) <;> omega) (by unfold mRunP; (try rw [hix]); (repeat' split) <;> first | rfl | omega) (by unfold mRunN; (try rw [hix]); (repeat' split) <;> first | rfl | omega) (q := pAt P pl v.2.2.1 - 48) (i := 0) (by omega) hiv (B' := v.1) (e' := v.2.1) (by unfold mRunX; (repeat' split) <;> first | rfl | omega) (by assumption)).symm))))) (congrArg (fun z : MS × Int => wM J h a L pl z.1.2.2.1 z.1.2.2.2 dn z.1.2.1 z.1.1 K T H S V P) (show (((v.1, v.2.1, v.2.2.1 + 1, 1), 1) : MS × Int) = mRuns P pl dn 81 (A, er, sp, nb) from (by rw [← hv5]; exact (mRuns_end (s' := v.2.2.1 + 1) (b' := 1) (by unfold pRunR; (try rw [hix]); (repeat' split) <;> omega) (by unfold mRunP; (try rw [hix]); (repeat' split) <;> first | rfl | omega) (by unfold mRunN; (try rw [hix]); (repeat' split) <;> first | rfl | omega) (q := pAt P pl v.2.2.1 - 48) (i := 0) (by omega) hiv (B' := v.1) (e' := v.2.1) (by unfold mRunX; (repeat' split) <;> first | rfl | omega) (by assumption)).symm))) dX6_readsRuns_119
          · refine z_aload_n hC dX6_readsRuns_87 rfl 3 rfl ?_
            refine z_geti hC zkX6 iX6_readsRuns_X6 0 rfl 12 (by decide) kX6_readsRuns_5 rfl rfl dX6_readsRuns_88 ?_
            refine z_int (y := iI v.2.1) hC (rfl) ?_
            refine z_if_ne (tgt := 108) hC dX6_readsRuns_91 (by decide) (by unfold inR; omega) (fun c_91_28 => ?_) (fun c_91_28 => ?_)
            · refine z_aload_n hC dX6_readsRuns_108 rfl 3 rfl ?_
              refine z_bipush hC dX6_readsRuns_109 (by decide) ?_
              refine z_callV (wr := ([] : va_W)) (av := [.int (iI 44)]) (st := []) hC (t_X6_takes l D J h a L pl (v.2.2.1 + 1) 1 dn v.2.1 v.1 K T H S V P 44 ⟨by omega, by omega⟩ ⟨by omega, by omega⟩ hpl hPv) gX6_readsRuns_X6_takes rfl 1 (by decide +kernel) ⟨Nat.le_of_ble_eq_true rfl, Nat.le_of_ble_eq_true rfl⟩ ⟨Nat.le_of_ble_eq_true rfl, Nat.le_of_ble_eq_true rfl⟩ [0, 1, 2, 3, 4, 5, 6, 7] [] rfl rfl rfl (by decide) rfl 0 rfl rfl rfl rfl rfl (Nat.le_of_ble_eq_true rfl) dX6_readsRuns_111 (fun _ _ => ?_)
              refine z_ws (ws' := wM J h a L pl (pSk P pl (v.2.2.1 + 1) 44) 1 dn v.2.1 v.1 K T H S V P) rfl ?_
              refine z_st (st' := [.int (iI (pSkR P pl (v.2.2.1 + 1) 44))]) rfl ?_
              by_cases hk_29 : pAt P pl (v.2.2.1 + 1) = 44
              · rw [pSkR_1 hk_29, pSk_1 hk_29]
                have hk_29s := pAt_spec P pl (v.2.2.1 + 1)
                refine z_ws (ws' := wM J h a L pl (v.2.2.1 + 1 + 1) 1 dn v.2.1 v.1 K T H S V P) rfl ?_
                refine z_st (st' := [.int (iI 1)]) rfl ?_
                refine z_istore_n (lv' := [(1, .int (iI 1)), (3, .int (iI 0)), (2, .int (iI (pAt P pl v.2.2.1 - 48))), (0, .ref h)]) hC dX6_readsRuns_114 rfl (by decide) rfl ?_
                refine z_goto (tgt := 2) hC dX6_readsRuns_115 (by decide) ?_
                refine z_lv (lv' := _) [0, 3] rfl ?_
                exact ih_1 (v.1, v.2.1, v.2.2.1 + 1 + 1, 1) ⟨hv1, hv2, (by show 0 ≤ v.2.2.1 + 1 + 1 ∧ v.2.2.1 + 1 + 1 ≤ 80; omega), (by show 80 < v.2.2.1 + 1 + 1 + _; omega), (by rw [← hv5]; exact (mRuns_on (s' := v.2.2.1 + 1) (b' := 1) (by unfold pRunR; (try rw [hix]); (repeat' split) <;> omega) (by unfold mRunP; (try rw [hix]); (repeat' split) <;> first | rfl | omega) (by unfold mRunN; (try rw [hix]); (repeat' split) <;> first | rfl | omega) (q := pAt P pl v.2.2.1 - 48) (i := 0) (by omega) hiv (B' := v.1) (e' := v.2.1) (by unfold mRunX; (repeat' split) <;> first | rfl | omega) (by assumption)).symm)⟩
              · rw [pSkR_0 hk_29, pSk_0 hk_29]
                have hk_29s := pAt_spec P pl (v.2.2.1 + 1)
                refine z_ws (ws' := wM J h a L pl (v.2.2.1 + 1) 1 dn v.2.1 v.1 K T H S V P) rfl ?_
                refine z_st (st' := [.int (iI 0)]) rfl ?_
                refine z_istore_n (lv' := [(1, .int (iI 0)), (3, .int (iI 0)), (2, .int (iI (pAt P pl v.2.2.1 - 48))), (0, .ref h)]) hC dX6_readsRuns_114 rfl (by decide) rfl ?_
                refine z_goto (tgt := 2) hC dX6_readsRuns_115 (by decide) ?_
                refine z_iload_n hC dX6_readsRuns_2 rfl 0 rfl ?_
                refine z_if_eq_t (tgt := 118) hC dX6_readsRuns_3 (by decide) ⟨by decide, by decide⟩ (by decide) ?_
                refine z_iconst hC dX6_readsRuns_118 ?_
                exact z_iret hC hr rfl () trivial (hvi (show (mRuns P pl dn 81 (A, er, sp, nb)).2 = 1 from congrArg (fun z : MS × Int => z.2) (show mRuns P pl dn 81 (A, er, sp, nb) = ((v.1, v.2.1, v.2.2.1 + 1, 1), 1) from (Eq.symm (by rw [← hv5]; exact (mRuns_end (s' := v.2.2.1 + 1) (b' := 1) (by unfold pRunR; (try rw [hix]); (repeat' split) <;> omega) (by unfold mRunP; (try rw [hix]); (repeat' split) <;> first | rfl | omega) (by unfold mRunN; (try rw [hix]); (repeat' split) <;> first | rfl | omega) (q := pAt P pl v.2.2.1 - 48) (i := 0) (by omega) hiv (B' := v.1) (e' := v.2.1) (by unfold mRunX; (repeat' split) <;> first | rfl | omega) (by assumption)).symm))))) (congrArg (fun z : MS × Int => wM J h a L pl z.1.2.2.1 z.1.2.2.2 dn z.1.2.1 z.1.1 K T H S V P) (show (((v.1, v.2.1, v.2.2.1 + 1, 1), 1) : MS × Int) = mRuns P pl dn 81 (A, er, sp, nb) from (by rw [← hv5]; exact (mRuns_end (s' := v.2.2.1 + 1) (b' := 1) (by unfold pRunR; (try rw [hix]); (repeat' split) <;> omega) (by unfold mRunP; (try rw [hix]); (repeat' split) <;> first | rfl | omega) (by unfold mRunN; (try rw [hix]); (repeat' split) <;> first | rfl | omega) (q := pAt P pl v.2.2.1 - 48) (i := 0) (by omega) hiv (B' := v.1) (e' := v.2.1) (by unfold mRunX; (repeat' split) <;> first | rfl | omega) (by assumption)).symm))) dX6_readsRuns_119
            · refine z_aload_n hC dX6_readsRuns_94 rfl 3 rfl ?_
              refine z_aload_n hC dX6_readsRuns_95 rfl 3 rfl ?_
              refine z_iload_n hC dX6_readsRuns_96 rfl 1 rfl ?_
              refine z_iload_n hC dX6_readsRuns_97 rfl 0 rfl ?_
              refine z_aload_n hC dX6_readsRuns_98 rfl 3 rfl ?_
              refine z_geti hC zkX6 iX6_readsRuns_X6 0 rfl 10 (by decide) kX6_readsRuns_3 rfl rfl dX6_readsRuns_99 ?_
              refine z_int (y := iI 1) hC (rfl) ?_
              refine z_callV (wr := ([] : va_W)) (av := [.int (iI (pAt P pl v.2.2.1 - 48)), .int (iI 0), .int (iI 1)]) (st := [.ref h]) hC (t_X6_doFeed l D J h a L pl (v.2.2.1 + 1) 1 dn v.2.1 v.1 K T H S V P (pAt P pl v.2.2.1 - 48) 0 1 (by unfold inR; omega) (by unfold inR; omega) (by unfold inR; (repeat' split) <;> omega) hv1) gX6_readsRuns_X6_doFeed rfl 3 (by decide +kernel) ⟨Nat.le_of_ble_eq_true rfl, Nat.le_of_ble_eq_true rfl⟩ ⟨Nat.le_of_ble_eq_true rfl, Nat.le_of_ble_eq_true rfl⟩ [0, 1, 2, 3, 4, 5, 6, 7] [] rfl rfl rfl (by decide) rfl 0 rfl rfl rfl rfl rfl (Nat.le_of_ble_eq_true rfl) dX6_readsRuns_102 (fun _ _ => ?_)
              refine z_ws (ws' := wM J h a L pl (v.2.2.1 + 1) 1 dn v.2.1 (mFeedA v.1 (pAt P pl v.2.2.1 - 48) 0 1) K T H S V P) rfl ?_
              refine z_st (st' := [.int (iI (mFeedR v.1 (pAt P pl v.2.2.1 - 48) 0 1)), .ref h]) rfl ?_
              refine z_callV (wr := ([] : va_W)) (av := [.int (iI (mFeedR v.1 (pAt P pl v.2.2.1 - 48) 0 1))]) (st := []) hC (t_X6_does l D J h a L pl (v.2.2.1 + 1) 1 dn v.2.1 (mFeedA v.1 (pAt P pl v.2.2.1 - 48) 0 1) K T H S V P (mFeedR v.1 (pAt P pl v.2.2.1 - 48) 0 1) (inR_of5 mFeedR_in)) gX6_readsRuns_X6_does rfl 1 (by decide +kernel) ⟨Nat.le_of_ble_eq_true rfl, Nat.le_of_ble_eq_true rfl⟩ ⟨Nat.le_of_ble_eq_true rfl, Nat.le_of_ble_eq_true rfl⟩ [0, 1, 2, 3, 4, 5, 6, 7] [] rfl rfl rfl (by decide) rfl 0 rfl rfl rfl rfl rfl (Nat.le_of_ble_eq_true rfl) dX6_readsRuns_105 (fun _ _ => ?_)
              refine z_ws (ws' := wM J h a L pl (v.2.2.1 + 1) 1 dn (if mFeedR v.1 (pAt P pl v.2.2.1 - 48) 0 1 < 0 then mFeedR v.1 (pAt P pl v.2.2.1 - 48) 0 1 else 0) (mFeedA v.1 (pAt P pl v.2.2.1 - 48) 0 1) K T H S V P) rfl ?_
              refine z_st (st' := []) rfl ?_
              refine z_aload_n hC dX6_readsRuns_108 rfl 3 rfl ?_
              refine z_bipush hC dX6_readsRuns_109 (by decide) ?_
              refine z_callV (wr := ([] : va_W)) (av := [.int (iI 44)]) (st := []) hC (t_X6_takes l D J h a L pl (v.2.2.1 + 1) 1 dn (if mFeedR v.1 (pAt P pl v.2.2.1 - 48) 0 1 < 0 then mFeedR v.1 (pAt P pl v.2.2.1 - 48) 0 1 else 0) (mFeedA v.1 (pAt P pl v.2.2.1 - 48) 0 1) K T H S V P 44 ⟨by omega, by omega⟩ ⟨by omega, by omega⟩ hpl hPv) gX6_readsRuns_X6_takes rfl 1 (by decide +kernel) ⟨Nat.le_of_ble_eq_true rfl, Nat.le_of_ble_eq_true rfl⟩ ⟨Nat.le_of_ble_eq_true rfl, Nat.le_of_ble_eq_true rfl⟩ [0, 1, 2, 3, 4, 5, 6, 7] [] rfl rfl rfl (by decide) rfl 0 rfl rfl rfl rfl rfl (Nat.le_of_ble_eq_true rfl) dX6_readsRuns_111 (fun _ _ => ?_)
              refine z_ws (ws' := wM J h a L pl (pSk P pl (v.2.2.1 + 1) 44) 1 dn (if mFeedR v.1 (pAt P pl v.2.2.1 - 48) 0 1 < 0 then mFeedR v.1 (pAt P pl v.2.2.1 - 48) 0 1 else 0) (mFeedA v.1 (pAt P pl v.2.2.1 - 48) 0 1) K T H S V P) rfl ?_
              refine z_st (st' := [.int (iI (pSkR P pl (v.2.2.1 + 1) 44))]) rfl ?_
              by_cases hk_30 : pAt P pl (v.2.2.1 + 1) = 44
              · rw [pSkR_1 hk_30, pSk_1 hk_30]
                have hk_30s := pAt_spec P pl (v.2.2.1 + 1)
                refine z_ws (ws' := wM J h a L pl (v.2.2.1 + 1 + 1) 1 dn (if mFeedR v.1 (pAt P pl v.2.2.1 - 48) 0 1 < 0 then mFeedR v.1 (pAt P pl v.2.2.1 - 48) 0 1 else 0) (mFeedA v.1 (pAt P pl v.2.2.1 - 48) 0 1) K T H S V P) rfl ?_
                refine z_st (st' := [.int (iI 1)]) rfl ?_
                refine z_istore_n (lv' := [(1, .int (iI 1)), (3, .int (iI 0)), (2, .int (iI (pAt P pl v.2.2.1 - 48))), (0, .ref h)]) hC dX6_readsRuns_114 rfl (by decide) rfl ?_
                refine z_goto (tgt := 2) hC dX6_readsRuns_115 (by decide) ?_
                refine z_lv (lv' := _) [0, 3] rfl ?_
                exact ih_1 (mFeedA v.1 (pAt P pl v.2.2.1 - 48) 0 1, (if mFeedR v.1 (pAt P pl v.2.2.1 - 48) 0 1 < 0 then mFeedR v.1 (pAt P pl v.2.2.1 - 48) 0 1 else 0), v.2.2.1 + 1 + 1, 1) ⟨(mFeed_inv hv1), (does_in mFeedR_in), (by show 0 ≤ v.2.2.1 + 1 + 1 ∧ v.2.2.1 + 1 + 1 ≤ 80; omega), (by show 80 < v.2.2.1 + 1 + 1 + _; omega), (by rw [← hv5]; exact (mRuns_on (s' := v.2.2.1 + 1) (b' := 1) (by unfold pRunR; (try rw [hix]); (repeat' split) <;> omega) (by unfold mRunP; (try rw [hix]); (repeat' split) <;> first | rfl | omega) (by unfold mRunN; (try rw [hix]); (repeat' split) <;> first | rfl | omega) (q := pAt P pl v.2.2.1 - 48) (i := 0) (by omega) hiv (B' := mFeedA v.1 (pAt P pl v.2.2.1 - 48) 0 1) (e' := (if mFeedR v.1 (pAt P pl v.2.2.1 - 48) 0 1 < 0 then mFeedR v.1 (pAt P pl v.2.2.1 - 48) 0 1 else 0)) (by unfold mRunX; (repeat' split) <;> first | rfl | omega) (by assumption)).symm)⟩
              · rw [pSkR_0 hk_30, pSk_0 hk_30]
                have hk_30s := pAt_spec P pl (v.2.2.1 + 1)
                refine z_ws (ws' := wM J h a L pl (v.2.2.1 + 1) 1 dn (if mFeedR v.1 (pAt P pl v.2.2.1 - 48) 0 1 < 0 then mFeedR v.1 (pAt P pl v.2.2.1 - 48) 0 1 else 0) (mFeedA v.1 (pAt P pl v.2.2.1 - 48) 0 1) K T H S V P) rfl ?_
                refine z_st (st' := [.int (iI 0)]) rfl ?_
                refine z_istore_n (lv' := [(1, .int (iI 0)), (3, .int (iI 0)), (2, .int (iI (pAt P pl v.2.2.1 - 48))), (0, .ref h)]) hC dX6_readsRuns_114 rfl (by decide) rfl ?_
                refine z_goto (tgt := 2) hC dX6_readsRuns_115 (by decide) ?_
                refine z_iload_n hC dX6_readsRuns_2 rfl 0 rfl ?_
                refine z_if_eq_t (tgt := 118) hC dX6_readsRuns_3 (by decide) ⟨by decide, by decide⟩ (by decide) ?_
                refine z_iconst hC dX6_readsRuns_118 ?_
                exact z_iret hC hr rfl () trivial (hvi (show (mRuns P pl dn 81 (A, er, sp, nb)).2 = 1 from congrArg (fun z : MS × Int => z.2) (show mRuns P pl dn 81 (A, er, sp, nb) = ((mFeedA v.1 (pAt P pl v.2.2.1 - 48) 0 1, (if mFeedR v.1 (pAt P pl v.2.2.1 - 48) 0 1 < 0 then mFeedR v.1 (pAt P pl v.2.2.1 - 48) 0 1 else 0), v.2.2.1 + 1, 1), 1) from (Eq.symm (by rw [← hv5]; exact (mRuns_end (s' := v.2.2.1 + 1) (b' := 1) (by unfold pRunR; (try rw [hix]); (repeat' split) <;> omega) (by unfold mRunP; (try rw [hix]); (repeat' split) <;> first | rfl | omega) (by unfold mRunN; (try rw [hix]); (repeat' split) <;> first | rfl | omega) (q := pAt P pl v.2.2.1 - 48) (i := 0) (by omega) hiv (B' := mFeedA v.1 (pAt P pl v.2.2.1 - 48) 0 1) (e' := (if mFeedR v.1 (pAt P pl v.2.2.1 - 48) 0 1 < 0 then mFeedR v.1 (pAt P pl v.2.2.1 - 48) 0 1 else 0)) (by unfold mRunX; (repeat' split) <;> first | rfl | omega) (by assumption)).symm))))) (congrArg (fun z : MS × Int => wM J h a L pl z.1.2.2.1 z.1.2.2.2 dn z.1.2.1 z.1.1 K T H S V P) (show (((mFeedA v.1 (pAt P pl v.2.2.1 - 48) 0 1, (if mFeedR v.1 (pAt P pl v.2.2.1 - 48) 0 1 < 0 then mFeedR v.1 (pAt P pl v.2.2.1 - 48) 0 1 else 0), v.2.2.1 + 1, 1), 1) : MS × Int) = mRuns P pl dn 81 (A, er, sp, nb) from (by rw [← hv5]; exact (mRuns_end (s' := v.2.2.1 + 1) (b' := 1) (by unfold pRunR; (try rw [hix]); (repeat' split) <;> omega) (by unfold mRunP; (try rw [hix]); (repeat' split) <;> first | rfl | omega) (by unfold mRunN; (try rw [hix]); (repeat' split) <;> first | rfl | omega) (q := pAt P pl v.2.2.1 - 48) (i := 0) (by omega) hiv (B' := mFeedA v.1 (pAt P pl v.2.2.1 - 48) 0 1) (e' := (if mFeedR v.1 (pAt P pl v.2.2.1 - 48) 0 1 < 0 then mFeedR v.1 (pAt P pl v.2.2.1 - 48) 0 1 else 0)) (by unfold mRunX; (repeat' split) <;> first | rfl | omega) (by assumption)).symm))) dX6_readsRuns_119
    · refine z_iconst hC dX6_readsRuns_17 ?_
      exact z_iret hC hr rfl () trivial (hvi (show (mRuns P pl dn 81 (A, er, sp, nb)).2 = 0 from congrArg (fun z : MS × Int => z.2) (show mRuns P pl dn 81 (A, er, sp, nb) = ((v.1, v.2.1, v.2.2.1, v.2.2.2), 0) from (Eq.symm (by rw [← hv5]; exact (mRuns_no (s' := v.2.2.1) (b' := v.2.2.2) (by unfold pRunR; (try rw [hix]); (repeat' split) <;> first | rfl | omega) (by unfold mRunP; (try rw [hix]); (repeat' split) <;> first | rfl | omega) (by unfold mRunN; (try rw [hix]); (repeat' split) <;> first | rfl | omega)).symm))))) (congrArg (fun z : MS × Int => wM J h a L pl z.1.2.2.1 z.1.2.2.2 dn z.1.2.1 z.1.1 K T H S V P) (show (((v.1, v.2.1, v.2.2.1, v.2.2.2), 0) : MS × Int) = mRuns P pl dn 81 (A, er, sp, nb) from (by rw [← hv5]; exact (mRuns_no (s' := v.2.2.1) (b' := v.2.2.2) (by unfold pRunR; (try rw [hix]); (repeat' split) <;> first | rfl | omega) (by unfold mRunP; (try rw [hix]); (repeat' split) <;> first | rfl | omega) (by unfold mRunN; (try rw [hix]); (repeat' split) <;> first | rfl | omega)).symm))) dX6_readsRuns_18
  · change Z _ _ _ _ _ _ _ _ _ _ _ _ _ _ _ _ (wM J h a L pl v.2.2.1 v.2.2.2 dn v.2.1 v.1 K T H S V P) ([(1, .int (iI 1)), (0, .ref h)]) 2 ([])
    obtain ⟨hv1, hv2, hv3, hv4, hv5⟩ := hP_2
    exfalso
    omega
