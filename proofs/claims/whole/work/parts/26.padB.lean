set_option maxRecDepth 20000 in
theorem iX3_readRun_X3 : ∀ w ∈ u_ws RX3 TX3 6, w ∈ wsX3_readRun := zm_places _ [20, 21, 22, 23, 24, 25] (by decide +kernel)
theorem kX3_readRun_1 : Cond.fieldLink RX3 55 "StepPairs$Pad" "pair" "I" ∈ wsX3_readRun := List.mem_of_getElem? (i := 1) rfl
theorem kX3_readRun_2 : Cond.fieldLink RX3 32 "StepPairs$Pad" "position" "I" ∈ wsX3_readRun := List.mem_of_getElem? (i := 2) rfl
theorem kX3_readRun_3 : Cond.fieldLink RX3 58 "StepPairs$Pad" "index" "I" ∈ wsX3_readRun := List.mem_of_getElem? (i := 3) rfl
theorem kX3_readRun_4 : Cond.fieldLink RX3 61 "StepPairs$Pad" "number" "I" ∈ wsX3_readRun := List.mem_of_getElem? (i := 4) rfl
abbrev rmX3_readRun : Room := { frames := 2, cells := 0, slots := 0, locals := 41 }
set_option maxHeartbeats 4000000 in
set_option maxRecDepth 100000 in
theorem t_X3_readRun (l : Launch) (D : va_G) (J : Nat → ClassId) (h k : Nat) (len pos pr ix nm : Int) (C : Nat → Int) (hp : 0 ≤ pos ∧ pos ≤ 80) (hl : 0 ≤ len ∧ len ≤ 80) (hCh : ∀ j, 0 ≤ C j ∧ C j ≤ 126) : ZX l yX3_readRun wsX3_readRun rmX3_readRun D J [.ref h] ([cO 2 h [some k, none, none, none, none, none] (padK len pos pr ix nm), cI (J 1) k 80 C]) (some (.int (iI (pRunR C len pos)))) (wPad J h k len ((pRun C len (pos, pr, ix, nm)).1) ((pRun C len (pos, pr, ix, nm)).2.1) ((pRun C len (pos, pr, ix, nm)).2.2.1) ((pRun C len (pos, pr, ix, nm)).2.2.2) C) := by
  refine z_met (cc := cX3_readRun) (nL := 1) (ret := (some .boolean)) (own := RX3) (by decide) rfl rfl (Nat.le_of_ble_eq_true rfl) (fun p e s m args below meth c hC hr hin => ?_)
  refine z_lv0 (lv' := [(0, .ref h)]) rfl ?_
  refine z_aload_n hC dX3_readRun_0 rfl 0 rfl ?_
  refine z_callV (wr := ([] : va_W)) (av := []) (st := []) hC (t_X3_here l D J h k len pos pr ix nm C  ⟨by omega, by omega⟩ hl hCh) gX3_readRun_X3_here rfl 0 (by decide +kernel) ⟨Nat.le_of_ble_eq_true rfl, Nat.le_of_ble_eq_true rfl⟩ ⟨Nat.le_of_ble_eq_true rfl, Nat.le_of_ble_eq_true rfl⟩ [0, 1] [] rfl rfl rfl (by decide) rfl 0 rfl rfl rfl rfl rfl (Nat.le_of_ble_eq_true rfl) dX3_readRun_1 (fun _ _ => ?_)
  refine z_ws (ws' := [cO 2 h [some k, none, none, none, none, none] (padK len pos pr ix nm), cI (J 1) k 80 C]) rfl ?_
  refine z_st (st' := [.int (iI (pAt C len pos))]) rfl ?_
  have hs_1 := pAt_spec C len pos
  have hi_2 := pAt_in hCh len pos
  refine z_bipush hC dX3_readRun_4 (by decide) ?_
  refine z_icmp_lt (tgt := 18) hC dX3_readRun_6 (by decide) (by unfold inR; omega) ⟨by decide, by decide⟩ (fun c_6_3 => ?_) (fun c_6_3 => ?_)
  · refine z_iconst hC dX3_readRun_18 ?_
    exact z_iret hC hr rfl () trivial (hvi (by unfold pRunR pIxP; (repeat' split) <;> first | rfl | omega)) (congrArg (fun z : PS => wPad J h k len z.1 z.2.1 z.2.2.1 z.2.2.2 C) (show ((pos, pr, ix, nm) : PS) = pRun C len (pos, pr, ix, nm) by (try simp only [pRunR, pRun, pIxP, pIxV, pNum]); (repeat' split) <;> first | rfl | omega)) dX3_readRun_19
  · refine z_aload_n hC dX3_readRun_9 rfl 0 rfl ?_
    refine z_callV (wr := ([] : va_W)) (av := []) (st := []) hC (t_X3_here l D J h k len pos pr ix nm C  ⟨by omega, by omega⟩ hl hCh) gX3_readRun_X3_here rfl 0 (by decide +kernel) ⟨Nat.le_of_ble_eq_true rfl, Nat.le_of_ble_eq_true rfl⟩ ⟨Nat.le_of_ble_eq_true rfl, Nat.le_of_ble_eq_true rfl⟩ [0, 1] [] rfl rfl rfl (by decide) rfl 0 rfl rfl rfl rfl rfl (Nat.le_of_ble_eq_true rfl) dX3_readRun_10 (fun _ _ => ?_)
    refine z_ws (ws' := [cO 2 h [some k, none, none, none, none, none] (padK len pos pr ix nm), cI (J 1) k 80 C]) rfl ?_
    refine z_st (st' := [.int (iI (pAt C len pos))]) rfl ?_
    have hs_4 := pAt_spec C len pos
    have hi_5 := pAt_in hCh len pos
    refine z_bipush hC dX3_readRun_13 (by decide) ?_
    refine z_icmp_le (tgt := 20) hC dX3_readRun_15 (by decide) (by unfold inR; omega) ⟨by decide, by decide⟩ (fun c_15_6 => ?_) (fun c_15_6 => ?_)
    · refine z_aload_n hC dX3_readRun_20 rfl 0 rfl ?_
      refine z_aload_n hC dX3_readRun_21 rfl 0 rfl ?_
      refine z_callV (wr := ([] : va_W)) (av := []) (st := [.ref h]) hC (t_X3_here l D J h k len pos pr ix nm C  ⟨by omega, by omega⟩ hl hCh) gX3_readRun_X3_here rfl 0 (by decide +kernel) ⟨Nat.le_of_ble_eq_true rfl, Nat.le_of_ble_eq_true rfl⟩ ⟨Nat.le_of_ble_eq_true rfl, Nat.le_of_ble_eq_true rfl⟩ [0, 1] [] rfl rfl rfl (by decide) rfl 0 rfl rfl rfl rfl rfl (Nat.le_of_ble_eq_true rfl) dX3_readRun_22 (fun _ _ => ?_)
      refine z_ws (ws' := [cO 2 h [some k, none, none, none, none, none] (padK len pos pr ix nm), cI (J 1) k 80 C]) rfl ?_
      refine z_st (st' := [.int (iI (pAt C len pos)), .ref h]) rfl ?_
      have hs_7 := pAt_spec C len pos
      have hi_8 := pAt_in hCh len pos
      refine z_bipush hC dX3_readRun_25 (by decide) ?_
      refine z_isub hC dX3_readRun_27 ?_
      refine z_puti (ws' := [cO 2 h [some k, none, none, none, none, none] (padK len pos ((pAt C len pos) - 48) ix nm), cI (J 1) k 80 C]) hC zkX3 iX3_readRun_X3 0 rfl 3 (by decide) kX3_readRun_1 rfl rfl rfl rfl rfl rfl dX3_readRun_28 rfl ?_
      refine z_aload_n hC dX3_readRun_31 rfl 0 rfl ?_
      refine z_dup hC dX3_readRun_32 rfl ?_
      refine z_geti hC zkX3 iX3_readRun_X3 0 rfl 2 (by decide) kX3_readRun_2 rfl rfl dX3_readRun_33 ?_
      refine z_int (y := iI pos) hC (rfl) ?_
      refine z_iconst hC dX3_readRun_36 ?_
      refine z_iadd hC dX3_readRun_37 ?_
      refine z_puti (ws' := [cO 2 h [some k, none, none, none, none, none] (padK len (pos + 1) ((pAt C len pos) - 48) ix nm), cI (J 1) k 80 C]) hC zkX3 iX3_readRun_X3 0 rfl 2 (by decide) kX3_readRun_2 rfl rfl rfl rfl rfl rfl dX3_readRun_38 rfl ?_
      refine z_aload_n hC dX3_readRun_41 rfl 0 rfl ?_
      refine z_aload_n hC dX3_readRun_42 rfl 0 rfl ?_
      refine z_bipush hC dX3_readRun_43 (by decide) ?_
      refine z_callV (wr := ([] : va_W)) (av := [.int (iI 105)]) (st := [.ref h]) hC (t_X3_skip l D J h k len (pos + 1) ((pAt C len pos) - 48) ix nm C 105 ⟨by decide, by decide⟩ ⟨by omega, by omega⟩ hl hCh) gX3_readRun_X3_skip rfl 1 (by decide +kernel) ⟨Nat.le_of_ble_eq_true rfl, Nat.le_of_ble_eq_true rfl⟩ ⟨Nat.le_of_ble_eq_true rfl, Nat.le_of_ble_eq_true rfl⟩ [0, 1] [] rfl rfl rfl (by decide) rfl 0 rfl rfl rfl rfl rfl (Nat.le_of_ble_eq_true rfl) dX3_readRun_45 (fun _ _ => ?_)
      refine z_ws (ws' := [cO 2 h [some k, none, none, none, none, none] (padK len (pSk C len (pos + 1) 105) ((pAt C len pos) - 48) ix nm), cI (J 1) k 80 C]) rfl ?_
      refine z_st (st' := [.int (iI (pSkR C len (pos + 1) 105)), .ref h]) rfl ?_
      by_cases hk_9 : pAt C len (pos + 1) = 105
      · rw [pSkR_1 hk_9, pSk_1 hk_9]
        have hk_9s := pAt_spec C len (pos + 1)
        refine z_ws (ws' := [cO 2 h [some k, none, none, none, none, none] (padK len (pos + 1 + 1) ((pAt C len pos) - 48) ix nm), cI (J 1) k 80 C]) rfl ?_
        refine z_st (st' := [.int (iI 1), .ref h]) rfl ?_
        refine z_if_eq_f (tgt := 55) hC dX3_readRun_48 (by decide) ⟨by decide, by decide⟩ (by decide) ?_
        refine z_iconst hC dX3_readRun_51 ?_
        refine z_goto (tgt := 56) hC dX3_readRun_52 (by decide) ?_
        refine z_puti (ws' := [cO 2 h [some k, none, none, none, none, none] (padK len (pos + 1 + 1) ((pAt C len pos) - 48) 1 nm), cI (J 1) k 80 C]) hC zkX3 iX3_readRun_X3 0 rfl 4 (by decide) kX3_readRun_3 rfl rfl rfl rfl rfl rfl dX3_readRun_56 rfl ?_
        refine z_aload_n hC dX3_readRun_59 rfl 0 rfl ?_
        refine z_iconst hC dX3_readRun_60 ?_
        refine z_puti (ws' := [cO 2 h [some k, none, none, none, none, none] (padK len (pos + 1 + 1) ((pAt C len pos) - 48) 1 1), cI (J 1) k 80 C]) hC zkX3 iX3_readRun_X3 0 rfl 5 (by decide) kX3_readRun_4 rfl rfl rfl rfl rfl rfl dX3_readRun_61 rfl ?_
        refine z_aload_n hC dX3_readRun_64 rfl 0 rfl ?_
        refine z_bipush hC dX3_readRun_65 (by decide) ?_
        refine z_callV (wr := ([] : va_W)) (av := [.int (iI 42)]) (st := []) hC (t_X3_skip l D J h k len (pos + 1 + 1) ((pAt C len pos) - 48) 1 1 C 42 ⟨by decide, by decide⟩ ⟨by omega, by omega⟩ hl hCh) gX3_readRun_X3_skip rfl 1 (by decide +kernel) ⟨Nat.le_of_ble_eq_true rfl, Nat.le_of_ble_eq_true rfl⟩ ⟨Nat.le_of_ble_eq_true rfl, Nat.le_of_ble_eq_true rfl⟩ [0, 1] [] rfl rfl rfl (by decide) rfl 0 rfl rfl rfl rfl rfl (Nat.le_of_ble_eq_true rfl) dX3_readRun_67 (fun _ _ => ?_)
        refine z_ws (ws' := [cO 2 h [some k, none, none, none, none, none] (padK len (pSk C len (pos + 1 + 1) 42) ((pAt C len pos) - 48) 1 1), cI (J 1) k 80 C]) rfl ?_
        refine z_st (st' := [.int (iI (pSkR C len (pos + 1 + 1) 42))]) rfl ?_
        by_cases hk_10 : pAt C len (pos + 1 + 1) = 42
        · rw [pSkR_1 hk_10, pSk_1 hk_10]
          have hk_10s := pAt_spec C len (pos + 1 + 1)
          refine z_ws (ws' := [cO 2 h [some k, none, none, none, none, none] (padK len (pos + 1 + 1 + 1) ((pAt C len pos) - 48) 1 1), cI (J 1) k 80 C]) rfl ?_
          refine z_st (st' := [.int (iI 1)]) rfl ?_
          refine z_if_eq_f (tgt := 80) hC dX3_readRun_70 (by decide) ⟨by decide, by decide⟩ (by decide) ?_
          refine z_aload_n hC dX3_readRun_73 rfl 0 rfl ?_
          refine z_callV (wr := ([] : va_W)) (av := []) (st := []) hC (t_X3_readNumber l D J h k len (pos + 1 + 1 + 1) ((pAt C len pos) - 48) 1 1 C  ⟨by omega, by omega⟩ hl hCh) gX3_readRun_X3_readNumber rfl 0 (by decide +kernel) ⟨Nat.le_of_ble_eq_true rfl, Nat.le_of_ble_eq_true rfl⟩ ⟨Nat.le_of_ble_eq_true rfl, Nat.le_of_ble_eq_true rfl⟩ [0, 1] [] rfl rfl rfl (by decide) rfl 0 rfl rfl rfl rfl rfl (Nat.le_of_ble_eq_true rfl) dX3_readRun_74 (fun _ _ => ?_)
          refine z_ws (ws' := [cO 2 h [some k, none, none, none, none, none] (padK len ((pNum C len (pos + 1 + 1 + 1, (pAt C len pos) - 48, 1, 1)).1) ((pNum C len (pos + 1 + 1 + 1, (pAt C len pos) - 48, 1, 1)).2.1) ((pNum C len (pos + 1 + 1 + 1, (pAt C len pos) - 48, 1, 1)).2.2.1) ((pNum C len (pos + 1 + 1 + 1, (pAt C len pos) - 48, 1, 1)).2.2.2)), cI (J 1) k 80 C]) rfl ?_
          refine z_st (st' := [.int (iI (pNumR C len (pos + 1 + 1 + 1)))]) rfl ?_
          have hnr_11 := pNumR_01 C len (pos + 1 + 1 + 1)
          refine z_if_eq (tgt := 84) hC dX3_readRun_77 (by decide) (inR_01 (pNumR_01 _ _ _)) (fun c_77_12 => ?_) (fun c_77_12 => ?_)
          · refine z_iconst hC dX3_readRun_84 ?_
            exact z_iret hC hr rfl () trivial (hvi (by unfold pRunR pIxP; (repeat' split) <;> first | rfl | omega)) (congrArg (fun z : PS => wPad J h k len z.1 z.2.1 z.2.2.1 z.2.2.2 C) (show (((pNum C len (pos + 1 + 1 + 1, (pAt C len pos) - 48, 1, 1)).1, (pNum C len (pos + 1 + 1 + 1, (pAt C len pos) - 48, 1, 1)).2.1, (pNum C len (pos + 1 + 1 + 1, (pAt C len pos) - 48, 1, 1)).2.2.1, (pNum C len (pos + 1 + 1 + 1, (pAt C len pos) - 48, 1, 1)).2.2.2) : PS) = pRun C len (pos, pr, ix, nm) by (try simp only [pRunR, pRun, pIxP, pIxV, pNum]); (repeat' split) <;> first | rfl | omega)) dX3_readRun_85
          · refine z_iconst hC dX3_readRun_80 ?_
            refine z_goto (tgt := 85) hC dX3_readRun_81 (by decide) ?_
            exact z_iret hC hr rfl () trivial (hvi (by unfold pRunR pIxP; (repeat' split) <;> first | rfl | omega)) (congrArg (fun z : PS => wPad J h k len z.1 z.2.1 z.2.2.1 z.2.2.2 C) (show (((pNum C len (pos + 1 + 1 + 1, (pAt C len pos) - 48, 1, 1)).1, (pNum C len (pos + 1 + 1 + 1, (pAt C len pos) - 48, 1, 1)).2.1, (pNum C len (pos + 1 + 1 + 1, (pAt C len pos) - 48, 1, 1)).2.2.1, (pNum C len (pos + 1 + 1 + 1, (pAt C len pos) - 48, 1, 1)).2.2.2) : PS) = pRun C len (pos, pr, ix, nm) by (try simp only [pRunR, pRun, pIxP, pIxV, pNum]); (repeat' split) <;> first | rfl | omega)) dX3_readRun_85
        · rw [pSkR_0 hk_10, pSk_0 hk_10]
          have hk_10s := pAt_spec C len (pos + 1 + 1)
          refine z_ws (ws' := [cO 2 h [some k, none, none, none, none, none] (padK len (pos + 1 + 1) ((pAt C len pos) - 48) 1 1), cI (J 1) k 80 C]) rfl ?_
          refine z_st (st' := [.int (iI 0)]) rfl ?_
          refine z_if_eq_t (tgt := 80) hC dX3_readRun_70 (by decide) ⟨by decide, by decide⟩ (by decide) ?_
          refine z_iconst hC dX3_readRun_80 ?_
          refine z_goto (tgt := 85) hC dX3_readRun_81 (by decide) ?_
          exact z_iret hC hr rfl () trivial (hvi (by unfold pRunR pIxP; (repeat' split) <;> first | rfl | omega)) (congrArg (fun z : PS => wPad J h k len z.1 z.2.1 z.2.2.1 z.2.2.2 C) (show ((pos + 1 + 1, (pAt C len pos) - 48, 1, 1) : PS) = pRun C len (pos, pr, ix, nm) by (try simp only [pRunR, pRun, pIxP, pIxV, pNum]); (repeat' split) <;> first | rfl | omega)) dX3_readRun_85
      · rw [pSkR_0 hk_9, pSk_0 hk_9]
        have hk_9s := pAt_spec C len (pos + 1)
        refine z_ws (ws' := [cO 2 h [some k, none, none, none, none, none] (padK len (pos + 1) ((pAt C len pos) - 48) ix nm), cI (J 1) k 80 C]) rfl ?_
        refine z_st (st' := [.int (iI 0), .ref h]) rfl ?_
        refine z_if_eq_t (tgt := 55) hC dX3_readRun_48 (by decide) ⟨by decide, by decide⟩ (by decide) ?_
        refine z_iconst hC dX3_readRun_55 ?_
        refine z_puti (ws' := [cO 2 h [some k, none, none, none, none, none] (padK len (pos + 1) ((pAt C len pos) - 48) 0 nm), cI (J 1) k 80 C]) hC zkX3 iX3_readRun_X3 0 rfl 4 (by decide) kX3_readRun_3 rfl rfl rfl rfl rfl rfl dX3_readRun_56 rfl ?_
        refine z_aload_n hC dX3_readRun_59 rfl 0 rfl ?_
        refine z_iconst hC dX3_readRun_60 ?_
        refine z_puti (ws' := [cO 2 h [some k, none, none, none, none, none] (padK len (pos + 1) ((pAt C len pos) - 48) 0 1), cI (J 1) k 80 C]) hC zkX3 iX3_readRun_X3 0 rfl 5 (by decide) kX3_readRun_4 rfl rfl rfl rfl rfl rfl dX3_readRun_61 rfl ?_
        refine z_aload_n hC dX3_readRun_64 rfl 0 rfl ?_
        refine z_bipush hC dX3_readRun_65 (by decide) ?_
        refine z_callV (wr := ([] : va_W)) (av := [.int (iI 42)]) (st := []) hC (t_X3_skip l D J h k len (pos + 1) ((pAt C len pos) - 48) 0 1 C 42 ⟨by decide, by decide⟩ ⟨by omega, by omega⟩ hl hCh) gX3_readRun_X3_skip rfl 1 (by decide +kernel) ⟨Nat.le_of_ble_eq_true rfl, Nat.le_of_ble_eq_true rfl⟩ ⟨Nat.le_of_ble_eq_true rfl, Nat.le_of_ble_eq_true rfl⟩ [0, 1] [] rfl rfl rfl (by decide) rfl 0 rfl rfl rfl rfl rfl (Nat.le_of_ble_eq_true rfl) dX3_readRun_67 (fun _ _ => ?_)
        refine z_ws (ws' := [cO 2 h [some k, none, none, none, none, none] (padK len (pSk C len (pos + 1) 42) ((pAt C len pos) - 48) 0 1), cI (J 1) k 80 C]) rfl ?_
        refine z_st (st' := [.int (iI (pSkR C len (pos + 1) 42))]) rfl ?_
        by_cases hk_13 : pAt C len (pos + 1) = 42
        · rw [pSkR_1 hk_13, pSk_1 hk_13]
          have hk_13s := pAt_spec C len (pos + 1)
          refine z_ws (ws' := [cO 2 h [some k, none, none, none, none, none] (padK len (pos + 1 + 1) ((pAt C len pos) - 48) 0 1), cI (J 1) k 80 C]) rfl ?_
          refine z_st (st' := [.int (iI 1)]) rfl ?_
          refine z_if_eq_f (tgt := 80) hC dX3_readRun_70 (by decide) ⟨by decide, by decide⟩ (by decide) ?_
          refine z_aload_n hC dX3_readRun_73 rfl 0 rfl ?_
          refine z_callV (wr := ([] : va_W)) (av := []) (st := []) hC (t_X3_readNumber l D J h k len (pos + 1 + 1) ((pAt C len pos) - 48) 0 1 C  ⟨by omega, by omega⟩ hl hCh) gX3_readRun_X3_readNumber rfl 0 (by decide +kernel) ⟨Nat.le_of_ble_eq_true rfl, Nat.le_of_ble_eq_true rfl⟩ ⟨Nat.le_of_ble_eq_true rfl, Nat.le_of_ble_eq_true rfl⟩ [0, 1] [] rfl rfl rfl (by decide) rfl 0 rfl rfl rfl rfl rfl (Nat.le_of_ble_eq_true rfl) dX3_readRun_74 (fun _ _ => ?_)
          refine z_ws (ws' := [cO 2 h [some k, none, none, none, none, none] (padK len ((pNum C len (pos + 1 + 1, (pAt C len pos) - 48, 0, 1)).1) ((pNum C len (pos + 1 + 1, (pAt C len pos) - 48, 0, 1)).2.1) ((pNum C len (pos + 1 + 1, (pAt C len pos) - 48, 0, 1)).2.2.1) ((pNum C len (pos + 1 + 1, (pAt C len pos) - 48, 0, 1)).2.2.2)), cI (J 1) k 80 C]) rfl ?_
          refine z_st (st' := [.int (iI (pNumR C len (pos + 1 + 1)))]) rfl ?_
          have hnr_14 := pNumR_01 C len (pos + 1 + 1)
          refine z_if_eq (tgt := 84) hC dX3_readRun_77 (by decide) (inR_01 (pNumR_01 _ _ _)) (fun c_77_15 => ?_) (fun c_77_15 => ?_)
          · refine z_iconst hC dX3_readRun_84 ?_
            exact z_iret hC hr rfl () trivial (hvi (by unfold pRunR pIxP; (repeat' split) <;> first | rfl | omega)) (congrArg (fun z : PS => wPad J h k len z.1 z.2.1 z.2.2.1 z.2.2.2 C) (show (((pNum C len (pos + 1 + 1, (pAt C len pos) - 48, 0, 1)).1, (pNum C len (pos + 1 + 1, (pAt C len pos) - 48, 0, 1)).2.1, (pNum C len (pos + 1 + 1, (pAt C len pos) - 48, 0, 1)).2.2.1, (pNum C len (pos + 1 + 1, (pAt C len pos) - 48, 0, 1)).2.2.2) : PS) = pRun C len (pos, pr, ix, nm) by (try simp only [pRunR, pRun, pIxP, pIxV, pNum]); (repeat' split) <;> first | rfl | omega)) dX3_readRun_85
          · refine z_iconst hC dX3_readRun_80 ?_
            refine z_goto (tgt := 85) hC dX3_readRun_81 (by decide) ?_
            exact z_iret hC hr rfl () trivial (hvi (by unfold pRunR pIxP; (repeat' split) <;> first | rfl | omega)) (congrArg (fun z : PS => wPad J h k len z.1 z.2.1 z.2.2.1 z.2.2.2 C) (show (((pNum C len (pos + 1 + 1, (pAt C len pos) - 48, 0, 1)).1, (pNum C len (pos + 1 + 1, (pAt C len pos) - 48, 0, 1)).2.1, (pNum C len (pos + 1 + 1, (pAt C len pos) - 48, 0, 1)).2.2.1, (pNum C len (pos + 1 + 1, (pAt C len pos) - 48, 0, 1)).2.2.2) : PS) = pRun C len (pos, pr, ix, nm) by (try simp only [pRunR, pRun, pIxP, pIxV, pNum]); (repeat' split) <;> first | rfl | omega)) dX3_readRun_85
        · rw [pSkR_0 hk_13, pSk_0 hk_13]
          have hk_13s := pAt_spec C len (pos + 1)
          refine z_ws (ws' := [cO 2 h [some k, none, none, none, none, none] (padK len (pos + 1) ((pAt C len pos) - 48) 0 1), cI (J 1) k 80 C]) rfl ?_
          refine z_st (st' := [.int (iI 0)]) rfl ?_
          refine z_if_eq_t (tgt := 80) hC dX3_readRun_70 (by decide) ⟨by decide, by decide⟩ (by decide) ?_
          refine z_iconst hC dX3_readRun_80 ?_
          refine z_goto (tgt := 85) hC dX3_readRun_81 (by decide) ?_
          exact z_iret hC hr rfl () trivial (hvi (by unfold pRunR pIxP; (repeat' split) <;> first | rfl | omega)) (congrArg (fun z : PS => wPad J h k len z.1 z.2.1 z.2.2.1 z.2.2.2 C) (show ((pos + 1, (pAt C len pos) - 48, 0, 1) : PS) = pRun C len (pos, pr, ix, nm) by (try simp only [pRunR, pRun, pIxP, pIxV, pNum]); (repeat' split) <;> first | rfl | omega)) dX3_readRun_85
    · refine z_iconst hC dX3_readRun_18 ?_
      exact z_iret hC hr rfl () trivial (hvi (by unfold pRunR pIxP; (repeat' split) <;> first | rfl | omega)) (congrArg (fun z : PS => wPad J h k len z.1 z.2.1 z.2.2.1 z.2.2.2 C) (show ((pos, pr, ix, nm) : PS) = pRun C len (pos, pr, ix, nm) by (try simp only [pRunR, pRun, pIxP, pIxV, pNum]); (repeat' split) <;> first | rfl | omega)) dX3_readRun_19
abbrev rmX3_readRuns : Room := { frames := 3, cells := 0, slots := 0, locals := 61 }
set_option maxHeartbeats 4000000 in
set_option maxRecDepth 100000 in
theorem t_X3_readRuns (l : Launch) (D : va_G) (J : Nat → ClassId) (h k : Nat) (len pos pr ix nm : Int) (C : Nat → Int) (hp : 0 ≤ pos ∧ pos ≤ 80) (hl : 0 ≤ len ∧ len ≤ 80) (hCh : ∀ j, 0 ≤ C j ∧ C j ≤ 126) : ZX l yX3_readRuns wsX3_readRuns rmX3_readRuns D J [.ref h] ([cO 2 h [some k, none, none, none, none, none] (padK len pos pr ix nm), cI (J 1) k 80 C]) (some (.int (iI ((pRuns C len 80 (pos, pr, ix, nm)).2)))) (wPad J h k len ((pRuns C len 80 (pos, pr, ix, nm)).1.1) ((pRuns C len 80 (pos, pr, ix, nm)).1.2.1) ((pRuns C len 80 (pos, pr, ix, nm)).1.2.2.1) ((pRuns C len 80 (pos, pr, ix, nm)).1.2.2.2) C) := by
  refine z_met (cc := cX3_readRuns) (nL := 2) (ret := (some .boolean)) (own := RX3) (by decide) rfl rfl (Nat.le_of_ble_eq_true rfl) (fun p e s m args below meth c hC hr hin => ?_)
  refine z_lv0 (lv' := [(0, .ref h)]) rfl ?_
  refine z_iconst hC dX3_readRuns_0 ?_
  refine z_istore_n (lv' := [(1, .int (iI 0)), (0, .ref h)]) hC dX3_readRuns_1 rfl (by decide) rfl ?_
  refine z_lv (lv' := [(1, .int (iI 0)), (0, .ref h)]) [0, 1] rfl ?_
  refine z_loop (α := Nat × PS) (fun nn v => (v.1 : Int) + (nn : Int) = 80 ∧ (0 ≤ v.2.1 ∧ v.2.1 ≤ 80) ∧ pRuns C len nn v.2 = pRuns C len 80 (pos, pr, ix, nm)) (fun nn v => [cO 2 h [some k, none, none, none, none, none] (padK len v.2.1 v.2.2.1 v.2.2.2.1 v.2.2.2.2), cI (J 1) k 80 C]) (fun nn v => [(1, .int (iI (v.1 : Int))), (0, .ref h)]) 2 [] (fun nn v ih_1 hP_2 => ?_) (fun v hP_2 => ?_) 80 (0, (pos, pr, ix, nm)) ⟨by show ((0 : Nat) : Int) + ((80 : Nat) : Int) = 80; omega, hp, rfl⟩
  · change Z _ _ _ _ _ _ _ _ _ _ _ _ _ _ _ _ ([cO 2 h [some k, none, none, none, none, none] (padK len v.2.1 v.2.2.1 v.2.2.2.1 v.2.2.2.2), cI (J 1) k 80 C]) ([(1, .int (iI (v.1 : Int))), (0, .ref h)]) 2 ([])
    obtain ⟨hv1, hv2, hv3⟩ := hP_2
    rw [pRuns_s] at hv3
    refine z_iload_n hC dX3_readRuns_2 rfl 0 rfl ?_
    refine z_bipush hC dX3_readRuns_3 (by decide) ?_
    refine z_icmp_ge_f (tgt := 34) hC dX3_readRuns_5 (by decide) (by unfold inR; omega) ⟨by decide, by decide⟩ (by omega) ?_
    refine z_aload_n hC dX3_readRuns_8 rfl 1 rfl ?_
    refine z_callV (wr := ([] : va_W)) (av := []) (st := []) hC (t_X3_readRun l D J h k len v.2.1 v.2.2.1 v.2.2.2.1 v.2.2.2.2 C  ⟨by omega, by omega⟩ hl hCh) gX3_readRuns_X3_readRun rfl 0 (by decide +kernel) ⟨Nat.le_of_ble_eq_true rfl, Nat.le_of_ble_eq_true rfl⟩ ⟨Nat.le_of_ble_eq_true rfl, Nat.le_of_ble_eq_true rfl⟩ [0, 1] [] rfl rfl rfl (by decide) rfl 0 rfl rfl rfl rfl rfl (Nat.le_of_ble_eq_true rfl) dX3_readRuns_9 (fun _ _ => ?_)
    refine z_ws (ws' := [cO 2 h [some k, none, none, none, none, none] (padK len ((pRun C len (v.2.1, v.2.2.1, v.2.2.2.1, v.2.2.2.2)).1) ((pRun C len (v.2.1, v.2.2.1, v.2.2.2.1, v.2.2.2.2)).2.1) ((pRun C len (v.2.1, v.2.2.1, v.2.2.2.1, v.2.2.2.2)).2.2.1) ((pRun C len (v.2.1, v.2.2.1, v.2.2.2.1, v.2.2.2.2)).2.2.2)), cI (J 1) k 80 C]) rfl ?_
    refine z_st (st' := [.int (iI (pRunR C len v.2.1))]) rfl ?_
    have hri_3 := pRun_in (C := C) (len := len) (s := (v.2.1, v.2.2.1, v.2.2.2.1, v.2.2.2.2)) ⟨by omega, by omega⟩
    refine z_if_ne (tgt := 17) hC dX3_readRuns_12 (by decide) (inR_01 (pRunR_01 _ _ _)) (fun c_12_4 => ?_) (fun c_12_4 => ?_)
    · refine z_aload_n hC dX3_readRuns_17 rfl 1 rfl ?_
      refine z_bipush hC dX3_readRuns_18 (by decide) ?_
      refine z_callV (wr := ([] : va_W)) (av := [.int (iI 44)]) (st := []) hC (t_X3_skip l D J h k len ((pRun C len (v.2.1, v.2.2.1, v.2.2.2.1, v.2.2.2.2)).1) ((pRun C len (v.2.1, v.2.2.1, v.2.2.2.1, v.2.2.2.2)).2.1) ((pRun C len (v.2.1, v.2.2.1, v.2.2.2.1, v.2.2.2.2)).2.2.1) ((pRun C len (v.2.1, v.2.2.1, v.2.2.2.1, v.2.2.2.2)).2.2.2) C 44 ⟨by decide, by decide⟩ ⟨by omega, by omega⟩ hl hCh) gX3_readRuns_X3_skip rfl 1 (by decide +kernel) ⟨Nat.le_of_ble_eq_true rfl, Nat.le_of_ble_eq_true rfl⟩ ⟨Nat.le_of_ble_eq_true rfl, Nat.le_of_ble_eq_true rfl⟩ [0, 1] [] rfl rfl rfl (by decide) rfl 0 rfl rfl rfl rfl rfl (Nat.le_of_ble_eq_true rfl) dX3_readRuns_20 (fun _ _ => ?_)
      refine z_ws (ws' := [cO 2 h [some k, none, none, none, none, none] (padK len (pSk C len ((pRun C len (v.2.1, v.2.2.1, v.2.2.2.1, v.2.2.2.2)).1) 44) ((pRun C len (v.2.1, v.2.2.1, v.2.2.2.1, v.2.2.2.2)).2.1) ((pRun C len (v.2.1, v.2.2.1, v.2.2.2.1, v.2.2.2.2)).2.2.1) ((pRun C len (v.2.1, v.2.2.1, v.2.2.2.1, v.2.2.2.2)).2.2.2)), cI (J 1) k 80 C]) rfl ?_
      refine z_st (st' := [.int (iI (pSkR C len ((pRun C len (v.2.1, v.2.2.1, v.2.2.2.1, v.2.2.2.2)).1) 44))]) rfl ?_
      by_cases hk_5 : pAt C len ((pRun C len (v.2.1, v.2.2.1, v.2.2.2.1, v.2.2.2.2)).1) = 44
      · rw [pSkR_1 hk_5, pSk_1 hk_5]
        have hk_5s := pAt_spec C len ((pRun C len (v.2.1, v.2.2.1, v.2.2.2.1, v.2.2.2.2)).1)
        refine z_ws (ws' := [cO 2 h [some k, none, none, none, none, none] (padK len ((pRun C len (v.2.1, v.2.2.1, v.2.2.2.1, v.2.2.2.2)).1 + 1) ((pRun C len (v.2.1, v.2.2.1, v.2.2.2.1, v.2.2.2.2)).2.1) ((pRun C len (v.2.1, v.2.2.1, v.2.2.2.1, v.2.2.2.2)).2.2.1) ((pRun C len (v.2.1, v.2.2.1, v.2.2.2.1, v.2.2.2.2)).2.2.2)), cI (J 1) k 80 C]) rfl ?_
        refine z_st (st' := [.int (iI 1)]) rfl ?_
        refine z_if_ne_t (tgt := 28) hC dX3_readRuns_23 (by decide) ⟨by decide, by decide⟩ (by decide) ?_
        refine z_iinc (lv' := [(1, .int (iI ((v.1 : Int) + 1))), (0, .ref h)]) hC dX3_readRuns_28 0 rfl (by decide) rfl ?_
        refine z_goto (tgt := 2) hC dX3_readRuns_31 (by decide) ?_
        refine z_lv (lv' := _) [0, 1] rfl ?_
        exact ih_1 (v.1 + 1, ((pRun C len (v.2.1, v.2.2.1, v.2.2.2.1, v.2.2.2.2)).1 + 1, (pRun C len (v.2.1, v.2.2.1, v.2.2.2.1, v.2.2.2.2)).2)) (by refine ⟨by show ((v.1 + 1 : Nat) : Int) + _ = _; omega, ⟨by show 0 ≤ (pRun C len (v.2.1, v.2.2.1, v.2.2.2.1, v.2.2.2.2)).1 + 1; omega, by show (pRun C len (v.2.1, v.2.2.1, v.2.2.2.1, v.2.2.2.2)).1 + 1 ≤ 80; omega⟩, ?_⟩; rw [← hv3]; (repeat' split) <;> first | rfl | omega)
      · rw [pSkR_0 hk_5, pSk_0 hk_5]
        have hk_5s := pAt_spec C len ((pRun C len (v.2.1, v.2.2.1, v.2.2.2.1, v.2.2.2.2)).1)
        refine z_ws (ws' := [cO 2 h [some k, none, none, none, none, none] (padK len ((pRun C len (v.2.1, v.2.2.1, v.2.2.2.1, v.2.2.2.2)).1) ((pRun C len (v.2.1, v.2.2.1, v.2.2.2.1, v.2.2.2.2)).2.1) ((pRun C len (v.2.1, v.2.2.1, v.2.2.2.1, v.2.2.2.2)).2.2.1) ((pRun C len (v.2.1, v.2.2.1, v.2.2.2.1, v.2.2.2.2)).2.2.2)), cI (J 1) k 80 C]) rfl ?_
        refine z_st (st' := [.int (iI 0)]) rfl ?_
        refine z_if_ne_f (tgt := 28) hC dX3_readRuns_23 (by decide) ⟨by decide, by decide⟩ (by decide) ?_
        refine z_iconst hC dX3_readRuns_26 ?_
        exact z_iret hC hr rfl () trivial (hvi (by rw [← hv3]; (repeat' split) <;> first | rfl | omega)) (congrArg (fun z : PS => wPad J h k len z.1 z.2.1 z.2.2.1 z.2.2.2 C) (show (((pRun C len (v.2.1, v.2.2.1, v.2.2.2.1, v.2.2.2.2)).1, (pRun C len (v.2.1, v.2.2.1, v.2.2.2.1, v.2.2.2.2)).2.1, (pRun C len (v.2.1, v.2.2.1, v.2.2.2.1, v.2.2.2.2)).2.2.1, (pRun C len (v.2.1, v.2.2.1, v.2.2.2.1, v.2.2.2.2)).2.2.2) : PS) = (pRuns C len 80 (pos, pr, ix, nm)).1 by (rw [← hv3]; (repeat' split) <;> first | rfl | omega))) dX3_readRuns_27
    · refine z_iconst hC dX3_readRuns_15 ?_
      exact z_iret hC hr rfl () trivial (hvi (by rw [← hv3]; (repeat' split) <;> first | rfl | omega)) (congrArg (fun z : PS => wPad J h k len z.1 z.2.1 z.2.2.1 z.2.2.2 C) (show (((pRun C len (v.2.1, v.2.2.1, v.2.2.2.1, v.2.2.2.2)).1, (pRun C len (v.2.1, v.2.2.1, v.2.2.2.1, v.2.2.2.2)).2.1, (pRun C len (v.2.1, v.2.2.1, v.2.2.2.1, v.2.2.2.2)).2.2.1, (pRun C len (v.2.1, v.2.2.1, v.2.2.2.1, v.2.2.2.2)).2.2.2) : PS) = (pRuns C len 80 (pos, pr, ix, nm)).1 by (rw [← hv3]; (repeat' split) <;> first | rfl | omega))) dX3_readRuns_16
  · change Z _ _ _ _ _ _ _ _ _ _ _ _ _ _ _ _ ([cO 2 h [some k, none, none, none, none, none] (padK len v.2.1 v.2.2.1 v.2.2.2.1 v.2.2.2.2), cI (J 1) k 80 C]) ([(1, .int (iI (v.1 : Int))), (0, .ref h)]) 2 ([])
    obtain ⟨hv1, hv2, hv3⟩ := hP_2
    refine z_iload_n hC dX3_readRuns_2 rfl 0 rfl ?_
    refine z_bipush hC dX3_readRuns_3 (by decide) ?_
    refine z_icmp_ge_t (tgt := 34) hC dX3_readRuns_5 (by decide) (by unfold inR; omega) ⟨by decide, by decide⟩ (by omega) ?_
    refine z_iconst hC dX3_readRuns_34 ?_
    exact z_iret hC hr rfl () trivial (hvi (by rw [← hv3]; (repeat' split) <;> first | rfl | omega)) (congrArg (fun z : PS => wPad J h k len z.1 z.2.1 z.2.2.1 z.2.2.2 C) (show ((v.2.1, v.2.2.1, v.2.2.2.1, v.2.2.2.2) : PS) = (pRuns C len 80 (pos, pr, ix, nm)).1 by (rw [← hv3]; (repeat' split) <;> first | rfl | omega))) dX3_readRuns_35
abbrev rmX3_readOrder : Room := { frames := 4, cells := 0, slots := 0, locals := 82 }
set_option maxHeartbeats 4000000 in
set_option maxRecDepth 100000 in
theorem t_X3_readOrder (l : Launch) (D : va_G) (J : Nat → ClassId) (h k : Nat) (len pos pr ix nm : Int) (C : Nat → Int) (hp : 0 ≤ pos ∧ pos ≤ 80) (hl : 0 ≤ len ∧ len ≤ 80) (hCh : ∀ j, 0 ≤ C j ∧ C j ≤ 126) : ZX l yX3_readOrder wsX3_readOrder rmX3_readOrder D J [.ref h] ([cO 2 h [some k, none, none, none, none, none] (padK len pos pr ix nm), cI (J 1) k 80 C]) (some (.int (iI ((pOrd C len (pos, pr, ix, nm)).2)))) (wPad J h k len ((pOrd C len (pos, pr, ix, nm)).1.1) ((pOrd C len (pos, pr, ix, nm)).1.2.1) ((pOrd C len (pos, pr, ix, nm)).1.2.2.1) ((pOrd C len (pos, pr, ix, nm)).1.2.2.2) C) := by
  refine z_met (cc := cX3_readOrder) (nL := 1) (ret := (some .boolean)) (own := RX3) (by decide) rfl rfl (Nat.le_of_ble_eq_true rfl) (fun p e s m args below meth c hC hr hin => ?_)
  refine z_lv0 (lv' := [(0, .ref h)]) rfl ?_
  refine z_aload_n hC dX3_readOrder_0 rfl 0 rfl ?_
  refine z_bipush hC dX3_readOrder_1 (by decide) ?_
  refine z_callV (wr := ([] : va_W)) (av := [.int (iI 122)]) (st := []) hC (t_X3_skip l D J h k len pos pr ix nm C 122 ⟨by decide, by decide⟩ ⟨by omega, by omega⟩ hl hCh) gX3_readOrder_X3_skip rfl 1 (by decide +kernel) ⟨Nat.le_of_ble_eq_true rfl, Nat.le_of_ble_eq_true rfl⟩ ⟨Nat.le_of_ble_eq_true rfl, Nat.le_of_ble_eq_true rfl⟩ [0, 1] [] rfl rfl rfl (by decide) rfl 0 rfl rfl rfl rfl rfl (Nat.le_of_ble_eq_true rfl) dX3_readOrder_3 (fun _ _ => ?_)
  refine z_ws (ws' := [cO 2 h [some k, none, none, none, none, none] (padK len (pSk C len pos 122) pr ix nm), cI (J 1) k 80 C]) rfl ?_
  refine z_st (st' := [.int (iI (pSkR C len pos 122))]) rfl ?_
  by_cases hk_1 : pAt C len pos = 122
  · rw [pSkR_1 hk_1, pSk_1 hk_1]
    have hk_1s := pAt_spec C len pos
    refine z_ws (ws' := [cO 2 h [some k, none, none, none, none, none] (padK len (pos + 1) pr ix nm), cI (J 1) k 80 C]) rfl ?_
    refine z_st (st' := [.int (iI 1)]) rfl ?_
    refine z_if_eq_f (tgt := 11) hC dX3_readOrder_6 (by decide) ⟨by decide, by decide⟩ (by decide) ?_
    refine z_iconst hC dX3_readOrder_9 ?_
    exact z_iret hC hr rfl () trivial (hvi (by (unfold pOrd; (try dsimp only); (repeat' split) <;> first | rfl | omega))) (congrArg (fun z : PS => wPad J h k len z.1 z.2.1 z.2.2.1 z.2.2.2 C) (show ((pos + 1, pr, ix, nm) : PS) = (pOrd C len (pos, pr, ix, nm)).1 by (unfold pOrd; (try dsimp only); (repeat' split) <;> first | rfl | omega))) dX3_readOrder_10
  · rw [pSkR_0 hk_1, pSk_0 hk_1]
    have hk_1s := pAt_spec C len pos
    refine z_ws (ws' := [cO 2 h [some k, none, none, none, none, none] (padK len pos pr ix nm), cI (J 1) k 80 C]) rfl ?_
    refine z_st (st' := [.int (iI 0)]) rfl ?_
    refine z_if_eq_t (tgt := 11) hC dX3_readOrder_6 (by decide) ⟨by decide, by decide⟩ (by decide) ?_
    refine z_aload_n hC dX3_readOrder_11 rfl 0 rfl ?_
    refine z_bipush hC dX3_readOrder_12 (by decide) ?_
    refine z_callV (wr := ([] : va_W)) (av := [.int (iI 110)]) (st := []) hC (t_X3_skip l D J h k len pos pr ix nm C 110 ⟨by decide, by decide⟩ ⟨by omega, by omega⟩ hl hCh) gX3_readOrder_X3_skip rfl 1 (by decide +kernel) ⟨Nat.le_of_ble_eq_true rfl, Nat.le_of_ble_eq_true rfl⟩ ⟨Nat.le_of_ble_eq_true rfl, Nat.le_of_ble_eq_true rfl⟩ [0, 1] [] rfl rfl rfl (by decide) rfl 0 rfl rfl rfl rfl rfl (Nat.le_of_ble_eq_true rfl) dX3_readOrder_14 (fun _ _ => ?_)
    refine z_ws (ws' := [cO 2 h [some k, none, none, none, none, none] (padK len (pSk C len pos 110) pr ix nm), cI (J 1) k 80 C]) rfl ?_
    refine z_st (st' := [.int (iI (pSkR C len pos 110))]) rfl ?_
    by_cases hk_2 : pAt C len pos = 110
    · rw [pSkR_1 hk_2, pSk_1 hk_2]
      have hk_2s := pAt_spec C len pos
      refine z_ws (ws' := [cO 2 h [some k, none, none, none, none, none] (padK len (pos + 1) pr ix nm), cI (J 1) k 80 C]) rfl ?_
      refine z_st (st' := [.int (iI 1)]) rfl ?_
      refine z_if_eq_f (tgt := 25) hC dX3_readOrder_17 (by decide) ⟨by decide, by decide⟩ (by decide) ?_
      refine z_aload_n hC dX3_readOrder_20 rfl 0 rfl ?_
      refine z_callV (wr := ([] : va_W)) (av := []) (st := []) hC (t_X3_readDigit l D J h k len (pos + 1) pr ix nm C  ⟨by omega, by omega⟩ hl hCh) gX3_readOrder_X3_readDigit rfl 0 (by decide +kernel) ⟨Nat.le_of_ble_eq_true rfl, Nat.le_of_ble_eq_true rfl⟩ ⟨Nat.le_of_ble_eq_true rfl, Nat.le_of_ble_eq_true rfl⟩ [0, 1] [] rfl rfl rfl (by decide) rfl 0 rfl rfl rfl rfl rfl (Nat.le_of_ble_eq_true rfl) dX3_readOrder_21 (fun _ _ => ?_)
      refine z_ws (ws' := [cO 2 h [some k, none, none, none, none, none] (padK len ((pDig C len (pos + 1, pr, ix, nm)).1) ((pDig C len (pos + 1, pr, ix, nm)).2.1) ((pDig C len (pos + 1, pr, ix, nm)).2.2.1) ((pDig C len (pos + 1, pr, ix, nm)).2.2.2)), cI (J 1) k 80 C]) rfl ?_
      refine z_st (st' := [.int (iI (pDigR C len (pos + 1)))]) rfl ?_
      exact z_iret hC hr (nar_bool (pDigR_01 _ _ _)) () trivial (hvi (by (unfold pOrd; (try dsimp only); (repeat' split) <;> first | rfl | omega))) (congrArg (fun z : PS => wPad J h k len z.1 z.2.1 z.2.2.1 z.2.2.2 C) (show (((pDig C len (pos + 1, pr, ix, nm)).1, (pDig C len (pos + 1, pr, ix, nm)).2.1, (pDig C len (pos + 1, pr, ix, nm)).2.2.1, (pDig C len (pos + 1, pr, ix, nm)).2.2.2) : PS) = (pOrd C len (pos, pr, ix, nm)).1 by (unfold pOrd; (try dsimp only); (repeat' split) <;> first | rfl | omega))) dX3_readOrder_24
    · rw [pSkR_0 hk_2, pSk_0 hk_2]
      have hk_2s := pAt_spec C len pos
      refine z_ws (ws' := [cO 2 h [some k, none, none, none, none, none] (padK len pos pr ix nm), cI (J 1) k 80 C]) rfl ?_
      refine z_st (st' := [.int (iI 0)]) rfl ?_
      refine z_if_eq_t (tgt := 25) hC dX3_readOrder_17 (by decide) ⟨by decide, by decide⟩ (by decide) ?_
      refine z_aload_n hC dX3_readOrder_25 rfl 0 rfl ?_
      refine z_bipush hC dX3_readOrder_26 (by decide) ?_
      refine z_callV (wr := ([] : va_W)) (av := [.int (iI 102)]) (st := []) hC (t_X3_skip l D J h k len pos pr ix nm C 102 ⟨by decide, by decide⟩ ⟨by omega, by omega⟩ hl hCh) gX3_readOrder_X3_skip rfl 1 (by decide +kernel) ⟨Nat.le_of_ble_eq_true rfl, Nat.le_of_ble_eq_true rfl⟩ ⟨Nat.le_of_ble_eq_true rfl, Nat.le_of_ble_eq_true rfl⟩ [0, 1] [] rfl rfl rfl (by decide) rfl 0 rfl rfl rfl rfl rfl (Nat.le_of_ble_eq_true rfl) dX3_readOrder_28 (fun _ _ => ?_)
      refine z_ws (ws' := [cO 2 h [some k, none, none, none, none, none] (padK len (pSk C len pos 102) pr ix nm), cI (J 1) k 80 C]) rfl ?_
      refine z_st (st' := [.int (iI (pSkR C len pos 102))]) rfl ?_
      by_cases hk_3 : pAt C len pos = 102
      · rw [pSkR_1 hk_3, pSk_1 hk_3]
        have hk_3s := pAt_spec C len pos
        refine z_ws (ws' := [cO 2 h [some k, none, none, none, none, none] (padK len (pos + 1) pr ix nm), cI (J 1) k 80 C]) rfl ?_
        refine z_st (st' := [.int (iI 1)]) rfl ?_
        refine z_if_ne_t (tgt := 43) hC dX3_readOrder_31 (by decide) ⟨by decide, by decide⟩ (by decide) ?_
        refine z_aload_n hC dX3_readOrder_43 rfl 0 rfl ?_
        refine z_callV (wr := ([] : va_W)) (av := []) (st := []) hC (t_X3_readNumber l D J h k len (pos + 1) pr ix nm C  ⟨by omega, by omega⟩ hl hCh) gX3_readOrder_X3_readNumber rfl 0 (by decide +kernel) ⟨Nat.le_of_ble_eq_true rfl, Nat.le_of_ble_eq_true rfl⟩ ⟨Nat.le_of_ble_eq_true rfl, Nat.le_of_ble_eq_true rfl⟩ [0, 1] [] rfl rfl rfl (by decide) rfl 0 rfl rfl rfl rfl rfl (Nat.le_of_ble_eq_true rfl) dX3_readOrder_44 (fun _ _ => ?_)
        refine z_ws (ws' := [cO 2 h [some k, none, none, none, none, none] (padK len ((pNum C len (pos + 1, pr, ix, nm)).1) ((pNum C len (pos + 1, pr, ix, nm)).2.1) ((pNum C len (pos + 1, pr, ix, nm)).2.2.1) ((pNum C len (pos + 1, pr, ix, nm)).2.2.2)), cI (J 1) k 80 C]) rfl ?_
        refine z_st (st' := [.int (iI (pNumR C len (pos + 1)))]) rfl ?_
        have hnr_4 := pNumR_01 C len (pos + 1)
        exact z_iret hC hr (nar_bool (pNumR_01 _ _ _)) () trivial (hvi (by (unfold pOrd; (try dsimp only); (repeat' split) <;> first | rfl | omega))) (congrArg (fun z : PS => wPad J h k len z.1 z.2.1 z.2.2.1 z.2.2.2 C) (show (((pNum C len (pos + 1, pr, ix, nm)).1, (pNum C len (pos + 1, pr, ix, nm)).2.1, (pNum C len (pos + 1, pr, ix, nm)).2.2.1, (pNum C len (pos + 1, pr, ix, nm)).2.2.2) : PS) = (pOrd C len (pos, pr, ix, nm)).1 by (unfold pOrd; (try dsimp only); (repeat' split) <;> first | rfl | omega))) dX3_readOrder_47
      · rw [pSkR_0 hk_3, pSk_0 hk_3]
        have hk_3s := pAt_spec C len pos
        refine z_ws (ws' := [cO 2 h [some k, none, none, none, none, none] (padK len pos pr ix nm), cI (J 1) k 80 C]) rfl ?_
        refine z_st (st' := [.int (iI 0)]) rfl ?_
        refine z_if_ne_f (tgt := 43) hC dX3_readOrder_31 (by decide) ⟨by decide, by decide⟩ (by decide) ?_
        refine z_aload_n hC dX3_readOrder_34 rfl 0 rfl ?_
        refine z_bipush hC dX3_readOrder_35 (by decide) ?_
        refine z_callV (wr := ([] : va_W)) (av := [.int (iI 98)]) (st := []) hC (t_X3_skip l D J h k len pos pr ix nm C 98 ⟨by decide, by decide⟩ ⟨by omega, by omega⟩ hl hCh) gX3_readOrder_X3_skip rfl 1 (by decide +kernel) ⟨Nat.le_of_ble_eq_true rfl, Nat.le_of_ble_eq_true rfl⟩ ⟨Nat.le_of_ble_eq_true rfl, Nat.le_of_ble_eq_true rfl⟩ [0, 1] [] rfl rfl rfl (by decide) rfl 0 rfl rfl rfl rfl rfl (Nat.le_of_ble_eq_true rfl) dX3_readOrder_37 (fun _ _ => ?_)
        refine z_ws (ws' := [cO 2 h [some k, none, none, none, none, none] (padK len (pSk C len pos 98) pr ix nm), cI (J 1) k 80 C]) rfl ?_
        refine z_st (st' := [.int (iI (pSkR C len pos 98))]) rfl ?_
        by_cases hk_5 : pAt C len pos = 98
        · rw [pSkR_1 hk_5, pSk_1 hk_5]
          have hk_5s := pAt_spec C len pos
          refine z_ws (ws' := [cO 2 h [some k, none, none, none, none, none] (padK len (pos + 1) pr ix nm), cI (J 1) k 80 C]) rfl ?_
          refine z_st (st' := [.int (iI 1)]) rfl ?_
          refine z_if_eq_f (tgt := 48) hC dX3_readOrder_40 (by decide) ⟨by decide, by decide⟩ (by decide) ?_
          refine z_aload_n hC dX3_readOrder_43 rfl 0 rfl ?_
          refine z_callV (wr := ([] : va_W)) (av := []) (st := []) hC (t_X3_readNumber l D J h k len (pos + 1) pr ix nm C  ⟨by omega, by omega⟩ hl hCh) gX3_readOrder_X3_readNumber rfl 0 (by decide +kernel) ⟨Nat.le_of_ble_eq_true rfl, Nat.le_of_ble_eq_true rfl⟩ ⟨Nat.le_of_ble_eq_true rfl, Nat.le_of_ble_eq_true rfl⟩ [0, 1] [] rfl rfl rfl (by decide) rfl 0 rfl rfl rfl rfl rfl (Nat.le_of_ble_eq_true rfl) dX3_readOrder_44 (fun _ _ => ?_)
          refine z_ws (ws' := [cO 2 h [some k, none, none, none, none, none] (padK len ((pNum C len (pos + 1, pr, ix, nm)).1) ((pNum C len (pos + 1, pr, ix, nm)).2.1) ((pNum C len (pos + 1, pr, ix, nm)).2.2.1) ((pNum C len (pos + 1, pr, ix, nm)).2.2.2)), cI (J 1) k 80 C]) rfl ?_
          refine z_st (st' := [.int (iI (pNumR C len (pos + 1)))]) rfl ?_
          have hnr_6 := pNumR_01 C len (pos + 1)
          exact z_iret hC hr (nar_bool (pNumR_01 _ _ _)) () trivial (hvi (by (unfold pOrd; (try dsimp only); (repeat' split) <;> first | rfl | omega))) (congrArg (fun z : PS => wPad J h k len z.1 z.2.1 z.2.2.1 z.2.2.2 C) (show (((pNum C len (pos + 1, pr, ix, nm)).1, (pNum C len (pos + 1, pr, ix, nm)).2.1, (pNum C len (pos + 1, pr, ix, nm)).2.2.1, (pNum C len (pos + 1, pr, ix, nm)).2.2.2) : PS) = (pOrd C len (pos, pr, ix, nm)).1 by (unfold pOrd; (try dsimp only); (repeat' split) <;> first | rfl | omega))) dX3_readOrder_47
        · rw [pSkR_0 hk_5, pSk_0 hk_5]
          have hk_5s := pAt_spec C len pos
          refine z_ws (ws' := [cO 2 h [some k, none, none, none, none, none] (padK len pos pr ix nm), cI (J 1) k 80 C]) rfl ?_
          refine z_st (st' := [.int (iI 0)]) rfl ?_
          refine z_if_eq_t (tgt := 48) hC dX3_readOrder_40 (by decide) ⟨by decide, by decide⟩ (by decide) ?_
          refine z_aload_n hC dX3_readOrder_48 rfl 0 rfl ?_
          refine z_callV (wr := ([] : va_W)) (av := []) (st := []) hC (t_X3_readRuns l D J h k len pos pr ix nm C  ⟨by omega, by omega⟩ hl hCh) gX3_readOrder_X3_readRuns rfl 0 (by decide +kernel) ⟨Nat.le_of_ble_eq_true rfl, Nat.le_of_ble_eq_true rfl⟩ ⟨Nat.le_of_ble_eq_true rfl, Nat.le_of_ble_eq_true rfl⟩ [0, 1] [] rfl rfl rfl (by decide) rfl 0 rfl rfl rfl rfl rfl (Nat.le_of_ble_eq_true rfl) dX3_readOrder_49 (fun _ _ => ?_)
          refine z_ws (ws' := [cO 2 h [some k, none, none, none, none, none] (padK len ((pRuns C len 80 (pos, pr, ix, nm)).1.1) ((pRuns C len 80 (pos, pr, ix, nm)).1.2.1) ((pRuns C len 80 (pos, pr, ix, nm)).1.2.2.1) ((pRuns C len 80 (pos, pr, ix, nm)).1.2.2.2)), cI (J 1) k 80 C]) rfl ?_
          refine z_st (st' := [.int (iI ((pRuns C len 80 (pos, pr, ix, nm)).2))]) rfl ?_
          exact z_iret hC hr (nar_bool ((pRuns_in 80 _ hp).2)) () trivial (hvi (by (unfold pOrd; (try dsimp only); (repeat' split) <;> first | rfl | omega))) (congrArg (fun z : PS => wPad J h k len z.1 z.2.1 z.2.2.1 z.2.2.2 C) (show (((pRuns C len 80 (pos, pr, ix, nm)).1.1, (pRuns C len 80 (pos, pr, ix, nm)).1.2.1, (pRuns C len 80 (pos, pr, ix, nm)).1.2.2.1, (pRuns C len 80 (pos, pr, ix, nm)).1.2.2.2) : PS) = (pOrd C len (pos, pr, ix, nm)).1 by (unfold pOrd; (try dsimp only); (repeat' split) <;> first | rfl | omega))) dX3_readOrder_52
set_option maxRecDepth 20000 in
theorem iX3_firstFault_X3 : ∀ w ∈ u_ws RX3 TX3 6, w ∈ wsX3_firstFault := zm_places _ [40, 41, 42, 43, 44, 45] (by decide +kernel)
theorem kX3_firstFault_1 : Cond.fieldLink RX3 32 "StepPairs$Pad" "position" "I" ∈ wsX3_firstFault := List.mem_of_getElem? (i := 1) rfl
theorem kX3_firstFault_2 : Cond.fieldLink RX3 21 "StepPairs$Pad" "length" "I" ∈ wsX3_firstFault := List.mem_of_getElem? (i := 2) rfl
abbrev rmX3_firstFault : Room := { frames := 5, cells := 0, slots := 0, locals := 102 }
set_option maxHeartbeats 4000000 in
set_option maxRecDepth 100000 in
theorem t_X3_firstFault (l : Launch) (D : va_G) (J : Nat → ClassId) (h k : Nat) (len pos pr ix nm : Int) (C : Nat → Int) (hl : 0 ≤ len ∧ len ≤ 80) (hCh : ∀ j, 0 ≤ C j ∧ C j ≤ 126) : ZX l yX3_firstFault wsX3_firstFault rmX3_firstFault D J [.ref h] ([cO 2 h [some k, none, none, none, none, none] (padK len pos pr ix nm), cI (J 1) k 80 C]) (some (.int (iI ((pFault C len 81 (0, pr, ix, nm)).2)))) (wPad J h k len ((pFault C len 81 (0, pr, ix, nm)).1.1) ((pFault C len 81 (0, pr, ix, nm)).1.2.1) ((pFault C len 81 (0, pr, ix, nm)).1.2.2.1) ((pFault C len 81 (0, pr, ix, nm)).1.2.2.2) C) := by
  refine z_met (cc := cX3_firstFault) (nL := 2) (ret := (some .int)) (own := RX3) (by decide) rfl rfl (Nat.le_of_ble_eq_true rfl) (fun p e s m args below meth c hC hr hin => ?_)
  refine z_lv0 (lv' := [(0, .ref h)]) rfl ?_
  refine z_aload_n hC dX3_firstFault_0 rfl 0 rfl ?_
  refine z_callV (wr := ([] : va_W)) (av := []) (st := []) hC (t_X3_begin l D J h k len pos pr ix nm C  ) gX3_firstFault_X3_begin rfl 0 (by decide +kernel) ⟨Nat.le_of_ble_eq_true rfl, Nat.le_of_ble_eq_true rfl⟩ ⟨Nat.le_of_ble_eq_true rfl, Nat.le_of_ble_eq_true rfl⟩ [0, 1] [] rfl rfl rfl (by decide) rfl 0 rfl rfl rfl rfl rfl (Nat.le_of_ble_eq_true rfl) dX3_firstFault_1 (fun _ _ => ?_)
  refine z_ws (ws' := [cO 2 h [some k, none, none, none, none, none] (padK len 0 pr ix nm), cI (J 1) k 80 C]) rfl ?_
  refine z_st (st' := []) rfl ?_
  refine z_iconst hC dX3_firstFault_4 ?_
  refine z_istore_n (lv' := [(1, .int (iI 0)), (0, .ref h)]) hC dX3_firstFault_5 rfl (by decide) rfl ?_
  refine z_lv (lv' := [(1, .int (iI 0)), (0, .ref h)]) [0, 1] rfl ?_
  refine z_loop (α := Nat × PS) (fun nn v => (v.1 : Int) + (nn : Int) = 81 ∧ (0 ≤ v.2.1 ∧ v.2.1 ≤ 80) ∧ pFault C len nn v.2 = pFault C len 81 (0, pr, ix, nm)) (fun nn v => [cO 2 h [some k, none, none, none, none, none] (padK len v.2.1 v.2.2.1 v.2.2.2.1 v.2.2.2.2), cI (J 1) k 80 C]) (fun nn v => [(1, .int (iI (v.1 : Int))), (0, .ref h)]) 6 [] (fun nn v ih_1 hP_2 => ?_) (fun v hP_2 => ?_) 81 (0, (0, pr, ix, nm)) ⟨by show ((0 : Nat) : Int) + ((81 : Nat) : Int) = 81; omega, ⟨Int.le_refl 0, by show (0 : Int) ≤ 80; omega⟩, rfl⟩
  · change Z _ _ _ _ _ _ _ _ _ _ _ _ _ _ _ _ ([cO 2 h [some k, none, none, none, none, none] (padK len v.2.1 v.2.2.1 v.2.2.2.1 v.2.2.2.2), cI (J 1) k 80 C]) ([(1, .int (iI (v.1 : Int))), (0, .ref h)]) 6 ([])
    obtain ⟨hv1, hv2, hv3⟩ := hP_2
    rw [show v.2 = (v.2.1, v.2.2.1, v.2.2.2.1, v.2.2.2.2) from rfl, pFault_s] at hv3
    refine z_iload_n hC dX3_firstFault_6 rfl 0 rfl ?_
    refine z_bipush hC dX3_firstFault_7 (by decide) ?_
    refine z_icmp_gt_f (tgt := 42) hC dX3_firstFault_9 (by decide) (by unfold inR; omega) ⟨by decide, by decide⟩ (by omega) ?_
    refine z_aload_n hC dX3_firstFault_12 rfl 1 rfl ?_
    refine z_callV (wr := ([] : va_W)) (av := []) (st := []) hC (t_X3_readOrder l D J h k len v.2.1 v.2.2.1 v.2.2.2.1 v.2.2.2.2 C  ⟨by omega, by omega⟩ hl hCh) gX3_firstFault_X3_readOrder rfl 0 (by decide +kernel) ⟨Nat.le_of_ble_eq_true rfl, Nat.le_of_ble_eq_true rfl⟩ ⟨Nat.le_of_ble_eq_true rfl, Nat.le_of_ble_eq_true rfl⟩ [0, 1] [] rfl rfl rfl (by decide) rfl 0 rfl rfl rfl rfl rfl (Nat.le_of_ble_eq_true rfl) dX3_firstFault_13 (fun _ _ => ?_)
    refine z_ws (ws' := [cO 2 h [some k, none, none, none, none, none] (padK len ((pOrd C len (v.2.1, v.2.2.1, v.2.2.2.1, v.2.2.2.2)).1.1) ((pOrd C len (v.2.1, v.2.2.1, v.2.2.2.1, v.2.2.2.2)).1.2.1) ((pOrd C len (v.2.1, v.2.2.1, v.2.2.2.1, v.2.2.2.2)).1.2.2.1) ((pOrd C len (v.2.1, v.2.2.1, v.2.2.2.1, v.2.2.2.2)).1.2.2.2)), cI (J 1) k 80 C]) rfl ?_
    refine z_st (st' := [.int (iI ((pOrd C len (v.2.1, v.2.2.1, v.2.2.2.1, v.2.2.2.2)).2))]) rfl ?_
    have hoi_3 := (pOrd_in (C := C) (len := len) (s := (v.2.1, v.2.2.1, v.2.2.2.1, v.2.2.2.2)) ⟨by omega, by omega⟩).1
    refine z_if_ne (tgt := 24) hC dX3_firstFault_16 (by decide) (inR_01 (pOrd_in (by exact ⟨by omega, by omega⟩)).2) (fun c_16_4 => ?_) (fun c_16_4 => ?_)
    · refine z_aload_n hC dX3_firstFault_24 rfl 1 rfl ?_
      refine z_bipush hC dX3_firstFault_25 (by decide) ?_
      refine z_callV (wr := ([] : va_W)) (av := [.int (iI 59)]) (st := []) hC (t_X3_skip l D J h k len ((pOrd C len (v.2.1, v.2.2.1, v.2.2.2.1, v.2.2.2.2)).1.1) ((pOrd C len (v.2.1, v.2.2.1, v.2.2.2.1, v.2.2.2.2)).1.2.1) ((pOrd C len (v.2.1, v.2.2.1, v.2.2.2.1, v.2.2.2.2)).1.2.2.1) ((pOrd C len (v.2.1, v.2.2.1, v.2.2.2.1, v.2.2.2.2)).1.2.2.2) C 59 ⟨by decide, by decide⟩ ⟨by omega, by omega⟩ hl hCh) gX3_firstFault_X3_skip rfl 1 (by decide +kernel) ⟨Nat.le_of_ble_eq_true rfl, Nat.le_of_ble_eq_true rfl⟩ ⟨Nat.le_of_ble_eq_true rfl, Nat.le_of_ble_eq_true rfl⟩ [0, 1] [] rfl rfl rfl (by decide) rfl 0 rfl rfl rfl rfl rfl (Nat.le_of_ble_eq_true rfl) dX3_firstFault_27 (fun _ _ => ?_)
      refine z_ws (ws' := [cO 2 h [some k, none, none, none, none, none] (padK len (pSk C len ((pOrd C len (v.2.1, v.2.2.1, v.2.2.2.1, v.2.2.2.2)).1.1) 59) ((pOrd C len (v.2.1, v.2.2.1, v.2.2.2.1, v.2.2.2.2)).1.2.1) ((pOrd C len (v.2.1, v.2.2.1, v.2.2.2.1, v.2.2.2.2)).1.2.2.1) ((pOrd C len (v.2.1, v.2.2.1, v.2.2.2.1, v.2.2.2.2)).1.2.2.2)), cI (J 1) k 80 C]) rfl ?_
      refine z_st (st' := [.int (iI (pSkR C len ((pOrd C len (v.2.1, v.2.2.1, v.2.2.2.1, v.2.2.2.2)).1.1) 59))]) rfl ?_
      by_cases hk_5 : pAt C len ((pOrd C len (v.2.1, v.2.2.1, v.2.2.2.1, v.2.2.2.2)).1.1) = 59
      · rw [pSkR_1 hk_5, pSk_1 hk_5]
        have hk_5s := pAt_spec C len ((pOrd C len (v.2.1, v.2.2.1, v.2.2.2.1, v.2.2.2.2)).1.1)
        refine z_ws (ws' := [cO 2 h [some k, none, none, none, none, none] (padK len ((pOrd C len (v.2.1, v.2.2.1, v.2.2.2.1, v.2.2.2.2)).1.1 + 1) ((pOrd C len (v.2.1, v.2.2.1, v.2.2.2.1, v.2.2.2.2)).1.2.1) ((pOrd C len (v.2.1, v.2.2.1, v.2.2.2.1, v.2.2.2.2)).1.2.2.1) ((pOrd C len (v.2.1, v.2.2.1, v.2.2.2.1, v.2.2.2.2)).1.2.2.2)), cI (J 1) k 80 C]) rfl ?_
        refine z_st (st' := [.int (iI 1)]) rfl ?_
        refine z_if_ne_t (tgt := 36) hC dX3_firstFault_30 (by decide) ⟨by decide, by decide⟩ (by decide) ?_
        refine z_iinc (lv' := [(1, .int (iI ((v.1 : Int) + 1))), (0, .ref h)]) hC dX3_firstFault_36 0 rfl (by decide) rfl ?_
        refine z_goto (tgt := 6) hC dX3_firstFault_39 (by decide) ?_
        refine z_lv (lv' := _) [0, 1] rfl ?_
        exact ih_1 (v.1 + 1, ((pOrd C len (v.2.1, v.2.2.1, v.2.2.2.1, v.2.2.2.2)).1.1 + 1, (pOrd C len (v.2.1, v.2.2.1, v.2.2.2.1, v.2.2.2.2)).1.2)) (by refine ⟨by show ((v.1 + 1 : Nat) : Int) + _ = _; omega, ⟨by show 0 ≤ (pOrd C len (v.2.1, v.2.2.1, v.2.2.2.1, v.2.2.2.2)).1.1 + 1; omega, by show (pOrd C len (v.2.1, v.2.2.1, v.2.2.2.1, v.2.2.2.2)).1.1 + 1 ≤ 80; omega⟩, ?_⟩; rw [← hv3]; (repeat' split) <;> first | rfl | omega)
      · rw [pSkR_0 hk_5, pSk_0 hk_5]
        have hk_5s := pAt_spec C len ((pOrd C len (v.2.1, v.2.2.1, v.2.2.2.1, v.2.2.2.2)).1.1)
        refine z_ws (ws' := [cO 2 h [some k, none, none, none, none, none] (padK len ((pOrd C len (v.2.1, v.2.2.1, v.2.2.2.1, v.2.2.2.2)).1.1) ((pOrd C len (v.2.1, v.2.2.1, v.2.2.2.1, v.2.2.2.2)).1.2.1) ((pOrd C len (v.2.1, v.2.2.1, v.2.2.2.1, v.2.2.2.2)).1.2.2.1) ((pOrd C len (v.2.1, v.2.2.1, v.2.2.2.1, v.2.2.2.2)).1.2.2.2)), cI (J 1) k 80 C]) rfl ?_
        refine z_st (st' := [.int (iI 0)]) rfl ?_
        refine z_if_ne_f (tgt := 36) hC dX3_firstFault_30 (by decide) ⟨by decide, by decide⟩ (by decide) ?_
        refine z_goto (tgt := 42) hC dX3_firstFault_33 (by decide) ?_
        refine z_aload_n hC dX3_firstFault_42 rfl 1 rfl ?_
        refine z_geti hC zkX3 iX3_firstFault_X3 0 rfl 2 (by decide) kX3_firstFault_1 rfl rfl dX3_firstFault_43 ?_
        refine z_int (y := iI ((pOrd C len (v.2.1, v.2.2.1, v.2.2.2.1, v.2.2.2.2)).1.1)) hC (rfl) ?_
        refine z_aload_n hC dX3_firstFault_46 rfl 1 rfl ?_
        refine z_geti hC zkX3 iX3_firstFault_X3 0 rfl 1 (by decide) kX3_firstFault_2 rfl rfl dX3_firstFault_47 ?_
        refine z_int (y := iI len) hC (rfl) ?_
        refine z_icmp_ge (tgt := 60) hC dX3_firstFault_50 (by decide) (by unfold inR; omega) (by unfold inR; omega) (fun c_50_6 => ?_) (fun c_50_6 => ?_)
        · refine z_bipush hC dX3_firstFault_60 (by decide) ?_
          exact z_iret hC hr rfl () trivial (hvi (by (rw [← hv3] <;> ((try simp only [pFin]); (repeat' split) <;> first | rfl | omega)))) (congrArg (fun z : PS => wPad J h k len z.1 z.2.1 z.2.2.1 z.2.2.2 C) (show (((pOrd C len (v.2.1, v.2.2.1, v.2.2.2.1, v.2.2.2.2)).1.1, (pOrd C len (v.2.1, v.2.2.1, v.2.2.2.1, v.2.2.2.2)).1.2.1, (pOrd C len (v.2.1, v.2.2.1, v.2.2.2.1, v.2.2.2.2)).1.2.2.1, (pOrd C len (v.2.1, v.2.2.1, v.2.2.2.1, v.2.2.2.2)).1.2.2.2) : PS) = (pFault C len 81 (0, pr, ix, nm)).1 by (rw [← hv3] <;> ((try simp only [pFin]); (repeat' split) <;> first | rfl | omega)))) dX3_firstFault_62
        · refine z_aload_n hC dX3_firstFault_53 rfl 1 rfl ?_
          refine z_geti hC zkX3 iX3_firstFault_X3 0 rfl 2 (by decide) kX3_firstFault_1 rfl rfl dX3_firstFault_54 ?_
          refine z_int (y := iI ((pOrd C len (v.2.1, v.2.2.1, v.2.2.2.1, v.2.2.2.2)).1.1)) hC (rfl) ?_
          refine z_goto (tgt := 62) hC dX3_firstFault_57 (by decide) ?_
          exact z_iret hC hr rfl () trivial (hvi (by (rw [← hv3] <;> ((try simp only [pFin]); (repeat' split) <;> first | rfl | omega)))) (congrArg (fun z : PS => wPad J h k len z.1 z.2.1 z.2.2.1 z.2.2.2 C) (show (((pOrd C len (v.2.1, v.2.2.1, v.2.2.2.1, v.2.2.2.2)).1.1, (pOrd C len (v.2.1, v.2.2.1, v.2.2.2.1, v.2.2.2.2)).1.2.1, (pOrd C len (v.2.1, v.2.2.1, v.2.2.2.1, v.2.2.2.2)).1.2.2.1, (pOrd C len (v.2.1, v.2.2.1, v.2.2.2.1, v.2.2.2.2)).1.2.2.2) : PS) = (pFault C len 81 (0, pr, ix, nm)).1 by (rw [← hv3] <;> ((try simp only [pFin]); (repeat' split) <;> first | rfl | omega)))) dX3_firstFault_62
    · refine z_aload_n hC dX3_firstFault_19 rfl 1 rfl ?_
      refine z_geti hC zkX3 iX3_firstFault_X3 0 rfl 2 (by decide) kX3_firstFault_1 rfl rfl dX3_firstFault_20 ?_
      refine z_int (y := iI ((pOrd C len (v.2.1, v.2.2.1, v.2.2.2.1, v.2.2.2.2)).1.1)) hC (rfl) ?_
      exact z_iret hC hr rfl () trivial (hvi (by (rw [← hv3] <;> ((try simp only [pFin]); (repeat' split) <;> first | rfl | omega)))) (congrArg (fun z : PS => wPad J h k len z.1 z.2.1 z.2.2.1 z.2.2.2 C) (show (((pOrd C len (v.2.1, v.2.2.1, v.2.2.2.1, v.2.2.2.2)).1.1, (pOrd C len (v.2.1, v.2.2.1, v.2.2.2.1, v.2.2.2.2)).1.2.1, (pOrd C len (v.2.1, v.2.2.1, v.2.2.2.1, v.2.2.2.2)).1.2.2.1, (pOrd C len (v.2.1, v.2.2.1, v.2.2.2.1, v.2.2.2.2)).1.2.2.2) : PS) = (pFault C len 81 (0, pr, ix, nm)).1 by (rw [← hv3] <;> ((try simp only [pFin]); (repeat' split) <;> first | rfl | omega)))) dX3_firstFault_23
  · change Z _ _ _ _ _ _ _ _ _ _ _ _ _ _ _ _ ([cO 2 h [some k, none, none, none, none, none] (padK len v.2.1 v.2.2.1 v.2.2.2.1 v.2.2.2.2), cI (J 1) k 80 C]) ([(1, .int (iI (v.1 : Int))), (0, .ref h)]) 6 ([])
    obtain ⟨hv1, hv2, hv3⟩ := hP_2
    have hv4 : (v.2, pFin len v.2.1) = pFault C len 81 (0, pr, ix, nm) := hv3
    refine z_iload_n hC dX3_firstFault_6 rfl 0 rfl ?_
    refine z_bipush hC dX3_firstFault_7 (by decide) ?_
    refine z_icmp_gt_t (tgt := 42) hC dX3_firstFault_9 (by decide) (by unfold inR; omega) ⟨by decide, by decide⟩ (by omega) ?_
    refine z_aload_n hC dX3_firstFault_42 rfl 1 rfl ?_
    refine z_geti hC zkX3 iX3_firstFault_X3 0 rfl 2 (by decide) kX3_firstFault_1 rfl rfl dX3_firstFault_43 ?_
    refine z_int (y := iI v.2.1) hC (rfl) ?_
    refine z_aload_n hC dX3_firstFault_46 rfl 1 rfl ?_
    refine z_geti hC zkX3 iX3_firstFault_X3 0 rfl 1 (by decide) kX3_firstFault_2 rfl rfl dX3_firstFault_47 ?_
    refine z_int (y := iI len) hC (rfl) ?_
    refine z_icmp_ge (tgt := 60) hC dX3_firstFault_50 (by decide) (by unfold inR; omega) (by unfold inR; omega) (fun c_50_7 => ?_) (fun c_50_7 => ?_)
    · refine z_bipush hC dX3_firstFault_60 (by decide) ?_
      exact z_iret hC hr rfl () trivial (hvi (by (rw [← hv4] <;> ((try simp only [pFin]); (repeat' split) <;> first | rfl | omega)))) (congrArg (fun z : PS => wPad J h k len z.1 z.2.1 z.2.2.1 z.2.2.2 C) (show ((v.2.1, v.2.2.1, v.2.2.2.1, v.2.2.2.2) : PS) = (pFault C len 81 (0, pr, ix, nm)).1 by (rw [← hv4] <;> ((try simp only [pFin]); (repeat' split) <;> first | rfl | omega)))) dX3_firstFault_62
    · refine z_aload_n hC dX3_firstFault_53 rfl 1 rfl ?_
      refine z_geti hC zkX3 iX3_firstFault_X3 0 rfl 2 (by decide) kX3_firstFault_1 rfl rfl dX3_firstFault_54 ?_
      refine z_int (y := iI v.2.1) hC (rfl) ?_
      refine z_goto (tgt := 62) hC dX3_firstFault_57 (by decide) ?_
      exact z_iret hC hr rfl () trivial (hvi (by (rw [← hv4] <;> ((try simp only [pFin]); (repeat' split) <;> first | rfl | omega)))) (congrArg (fun z : PS => wPad J h k len z.1 z.2.1 z.2.2.1 z.2.2.2 C) (show ((v.2.1, v.2.2.1, v.2.2.2.1, v.2.2.2.2) : PS) = (pFault C len 81 (0, pr, ix, nm)).1 by (rw [← hv4] <;> ((try simp only [pFin]); (repeat' split) <;> first | rfl | omega)))) dX3_firstFault_62
