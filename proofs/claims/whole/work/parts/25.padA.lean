set_option maxRecDepth 20000 in
theorem iX3_begin_X3 : ∀ w ∈ u_ws RX3 TX3 6, w ∈ wsX3_begin := zm_places _ [2, 3, 4, 5, 6, 7] (by decide +kernel)
theorem kX3_begin_1 : Cond.fieldLink RX3 32 "StepPairs$Pad" "position" "I" ∈ wsX3_begin := List.mem_of_getElem? (i := 1) rfl
abbrev rmX3_begin : Room := { frames := 0, cells := 0, slots := 0, locals := 0 }
set_option maxHeartbeats 4000000 in
set_option maxRecDepth 100000 in
theorem t_X3_begin (l : Launch) (D : va_G) (J : Nat → ClassId) (h k : Nat) (len pos pr ix nm : Int) (C : Nat → Int)  : ZX l yX3_begin wsX3_begin rmX3_begin D J [.ref h] ([cO 2 h [some k, none, none, none, none, none] (padK len pos pr ix nm), cI (J 1) k 80 C]) none (wPad J h k len 0 pr ix nm C) := by
  refine z_met (cc := cX3_begin) (nL := 1) (ret := none) (own := RX3) (by decide) rfl rfl (Nat.le_of_ble_eq_true rfl) (fun p e s m args below meth c hC hr hin => ?_)
  refine z_lv0 (lv' := [(0, .ref h)]) rfl ?_
  refine z_aload_n hC dX3_begin_0 rfl 0 rfl ?_
  refine z_iconst hC dX3_begin_1 ?_
  refine z_puti (ws' := [cO 2 h [some k, none, none, none, none, none] (padK len 0 pr ix nm), cI (J 1) k 80 C]) hC zkX3 iX3_begin_X3 0 rfl 2 (by decide) kX3_begin_1 rfl rfl rfl rfl rfl rfl dX3_begin_2 rfl ?_
  exact z_vret hC hr () trivial rfl (rfl) dX3_begin_5
set_option maxRecDepth 20000 in
theorem iX3_empty_X3 : ∀ w ∈ u_ws RX3 TX3 6, w ∈ wsX3_empty := zm_places _ [2, 3, 4, 5, 6, 7] (by decide +kernel)
theorem kX3_empty_1 : Cond.fieldLink RX3 21 "StepPairs$Pad" "length" "I" ∈ wsX3_empty := List.mem_of_getElem? (i := 1) rfl
abbrev rmX3_empty : Room := { frames := 0, cells := 0, slots := 0, locals := 0 }
set_option maxHeartbeats 4000000 in
set_option maxRecDepth 100000 in
theorem t_X3_empty (l : Launch) (D : va_G) (J : Nat → ClassId) (h k : Nat) (len pos pr ix nm : Int) (C : Nat → Int)  : ZX l yX3_empty wsX3_empty rmX3_empty D J [.ref h] ([cO 2 h [some k, none, none, none, none, none] (padK len pos pr ix nm), cI (J 1) k 80 C]) (some (.int (iI (len)))) (wPad J h k 0 pos pr ix nm C) := by
  refine z_met (cc := cX3_empty) (nL := 2) (ret := (some .int)) (own := RX3) (by decide) rfl rfl (Nat.le_of_ble_eq_true rfl) (fun p e s m args below meth c hC hr hin => ?_)
  refine z_lv0 (lv' := [(0, .ref h)]) rfl ?_
  refine z_aload_n hC dX3_empty_0 rfl 0 rfl ?_
  refine z_geti hC zkX3 iX3_empty_X3 0 rfl 1 (by decide) kX3_empty_1 rfl rfl dX3_empty_1 ?_
  refine z_int (y := iI len) hC (rfl) ?_
  refine z_istore_n (lv' := [(1, .int (iI len)), (0, .ref h)]) hC dX3_empty_4 rfl (by decide) rfl ?_
  refine z_aload_n hC dX3_empty_5 rfl 1 rfl ?_
  refine z_iconst hC dX3_empty_6 ?_
  refine z_puti (ws' := [cO 2 h [some k, none, none, none, none, none] (padK 0 pos pr ix nm), cI (J 1) k 80 C]) hC zkX3 iX3_empty_X3 0 rfl 1 (by decide) kX3_empty_1 rfl rfl rfl rfl rfl rfl dX3_empty_7 rfl ?_
  refine z_iload_n hC dX3_empty_10 rfl 0 rfl ?_
  exact z_iret hC hr rfl () trivial (rfl) (rfl) dX3_empty_11
set_option maxRecDepth 20000 in
theorem iX3_here_X3 : ∀ w ∈ u_ws RX3 TX3 6, w ∈ wsX3_here := zm_places _ [4, 5, 6, 7, 8, 9] (by decide +kernel)
theorem kX3_here_1 : Cond.fieldLink RX3 32 "StepPairs$Pad" "position" "I" ∈ wsX3_here := List.mem_of_getElem? (i := 1) rfl
theorem kX3_here_2 : Cond.fieldLink RX3 21 "StepPairs$Pad" "length" "I" ∈ wsX3_here := List.mem_of_getElem? (i := 2) rfl
theorem kX3_here_3 : Cond.fieldLink RX3 9 "StepPairs$Pad" "characters" "[C" ∈ wsX3_here := List.mem_of_getElem? (i := 3) rfl
abbrev rmX3_here : Room := { frames := 0, cells := 0, slots := 0, locals := 0 }
set_option maxHeartbeats 4000000 in
set_option maxRecDepth 100000 in
theorem t_X3_here (l : Launch) (D : va_G) (J : Nat → ClassId) (h k : Nat) (len pos pr ix nm : Int) (C : Nat → Int) (hp : 0 ≤ pos ∧ pos ≤ 80) (hl : 0 ≤ len ∧ len ≤ 80) (hCh : ∀ j, 0 ≤ C j ∧ C j ≤ 126) : ZX l yX3_here wsX3_here rmX3_here D J [.ref h] ([cO 2 h [some k, none, none, none, none, none] (padK len pos pr ix nm), cI (J 1) k 80 C]) (some (.int (iI (pAt C len pos)))) (wPad J h k len pos pr ix nm C) := by
  refine z_met (cc := cX3_here) (nL := 1) (ret := (some .char)) (own := RX3) (by decide) rfl rfl (Nat.le_of_ble_eq_true rfl) (fun p e s m args below meth c hC hr hin => ?_)
  refine z_lv0 (lv' := [(0, .ref h)]) rfl ?_
  refine z_aload_n hC dX3_here_0 rfl 0 rfl ?_
  refine z_geti hC zkX3 iX3_here_X3 0 rfl 2 (by decide) kX3_here_1 rfl rfl dX3_here_1 ?_
  refine z_int (y := iI pos) hC (rfl) ?_
  refine z_if_lt (tgt := 39) hC dX3_here_4 (by decide) (by unfold inR; omega) (fun c_4_1 => ?_) (fun c_4_1 => ?_)
  · refine z_iconst hC dX3_here_39 ?_
    exact z_iret hC hr rfl () trivial (hvi (by unfold pAt; (repeat' split) <;> first | rfl | omega)) (rfl) dX3_here_40
  · refine z_aload_n hC dX3_here_7 rfl 0 rfl ?_
    refine z_geti hC zkX3 iX3_here_X3 0 rfl 2 (by decide) kX3_here_1 rfl rfl dX3_here_8 ?_
    refine z_int (y := iI pos) hC (rfl) ?_
    refine z_aload_n hC dX3_here_11 rfl 0 rfl ?_
    refine z_geti hC zkX3 iX3_here_X3 0 rfl 1 (by decide) kX3_here_2 rfl rfl dX3_here_12 ?_
    refine z_int (y := iI len) hC (rfl) ?_
    refine z_icmp_ge (tgt := 39) hC dX3_here_15 (by decide) (by unfold inR; omega) (by unfold inR; omega) (fun c_15_2 => ?_) (fun c_15_2 => ?_)
    · refine z_iconst hC dX3_here_39 ?_
      exact z_iret hC hr rfl () trivial (hvi (by unfold pAt; (repeat' split) <;> first | rfl | omega)) (rfl) dX3_here_40
    · refine z_aload_n hC dX3_here_18 rfl 0 rfl ?_
      refine z_geti hC zkX3 iX3_here_X3 0 rfl 2 (by decide) kX3_here_1 rfl rfl dX3_here_19 ?_
      refine z_int (y := iI pos) hC (rfl) ?_
      refine z_bipush hC dX3_here_22 (by decide) ?_
      refine z_icmp_ge (tgt := 39) hC dX3_here_24 (by decide) (by unfold inR; omega) ⟨by decide, by decide⟩ (fun c_24_3 => ?_) (fun c_24_3 => ?_)
      · refine z_iconst hC dX3_here_39 ?_
        exact z_iret hC hr rfl () trivial (hvi (by unfold pAt; (repeat' split) <;> first | rfl | omega)) (rfl) dX3_here_40
      · refine z_aload_n hC dX3_here_27 rfl 0 rfl ?_
        refine z_getr hC zkX3 iX3_here_X3 0 rfl 0 (by decide) kX3_here_3 rfl rfl dX3_here_28 ?_
        refine z_aload_n hC dX3_here_31 rfl 0 rfl ?_
        refine z_geti hC zkX3 iX3_here_X3 0 rfl 2 (by decide) kX3_here_1 rfl rfl dX3_here_32 ?_
        refine z_int (y := iI pos) hC (rfl) ?_
        refine z_cald hC 1 rfl 1 rfl (Int.toNat pos) (Int.toNat_of_nonneg (by omega)).symm (by omega) (by decide) dX3_here_35 ?_
        refine z_goto (tgt := 40) hC dX3_here_36 (by decide) ?_
        exact z_iret hC hr (nar_char (by have q := hCh pos.toNat; omega)) () trivial (hvi (by unfold pAt; (repeat' split) <;> first | rfl | omega)) (rfl) dX3_here_40
set_option maxRecDepth 20000 in
theorem iX3_skip_X3 : ∀ w ∈ u_ws RX3 TX3 6, w ∈ wsX3_skip := zm_places _ [9, 10, 11, 12, 13, 14] (by decide +kernel)
theorem kX3_skip_1 : Cond.fieldLink RX3 32 "StepPairs$Pad" "position" "I" ∈ wsX3_skip := List.mem_of_getElem? (i := 1) rfl
abbrev rmX3_skip : Room := { frames := 1, cells := 0, slots := 0, locals := 20 }
set_option maxHeartbeats 4000000 in
set_option maxRecDepth 100000 in
theorem t_X3_skip (l : Launch) (D : va_G) (J : Nat → ClassId) (h k : Nat) (len pos pr ix nm : Int) (C : Nat → Int) (ch : Int) (hch : 1 ≤ ch ∧ ch ≤ 126) (hp : 0 ≤ pos ∧ pos ≤ 80) (hl : 0 ≤ len ∧ len ≤ 80) (hCh : ∀ j, 0 ≤ C j ∧ C j ≤ 126) : ZX l yX3_skip wsX3_skip rmX3_skip D J [.ref h, .int (iI ch)] ([cO 2 h [some k, none, none, none, none, none] (padK len pos pr ix nm), cI (J 1) k 80 C]) (some (.int (iI (pSkR C len pos ch)))) (wPad J h k len (pSk C len pos ch) pr ix nm C) := by
  refine z_met (cc := cX3_skip) (nL := 2) (ret := (some .boolean)) (own := RX3) (by decide) rfl rfl (Nat.le_of_ble_eq_true rfl) (fun p e s m args below meth c hC hr hin => ?_)
  refine z_lv0 (lv' := [(0, .ref h), (1, .int (iI ch))]) rfl ?_
  refine z_aload_n hC dX3_skip_0 rfl 0 rfl ?_
  refine z_callV (wr := ([] : va_W)) (av := []) (st := []) hC (t_X3_here l D J h k len pos pr ix nm C  ⟨by omega, by omega⟩ hl hCh) gX3_skip_X3_here rfl 0 (by decide +kernel) ⟨Nat.le_of_ble_eq_true rfl, Nat.le_of_ble_eq_true rfl⟩ ⟨Nat.le_of_ble_eq_true rfl, Nat.le_of_ble_eq_true rfl⟩ [0, 1] [] rfl rfl rfl (by decide) rfl 0 rfl rfl rfl rfl rfl (Nat.le_of_ble_eq_true rfl) dX3_skip_1 (fun _ _ => ?_)
  refine z_ws (ws' := [cO 2 h [some k, none, none, none, none, none] (padK len pos pr ix nm), cI (J 1) k 80 C]) rfl ?_
  refine z_st (st' := [.int (iI (pAt C len pos))]) rfl ?_
  have hs_1 := pAt_spec C len pos
  have hi_2 := pAt_in hCh len pos
  refine z_iload_n hC dX3_skip_4 rfl 1 rfl ?_
  refine z_icmp_eq (tgt := 10) hC dX3_skip_5 (by decide) (by unfold inR; omega) (by unfold inR; omega) (fun c_5_3 => ?_) (fun c_5_3 => ?_)
  · refine z_aload_n hC dX3_skip_10 rfl 0 rfl ?_
    refine z_dup hC dX3_skip_11 rfl ?_
    refine z_geti hC zkX3 iX3_skip_X3 0 rfl 2 (by decide) kX3_skip_1 rfl rfl dX3_skip_12 ?_
    refine z_int (y := iI pos) hC (rfl) ?_
    refine z_iconst hC dX3_skip_15 ?_
    refine z_iadd hC dX3_skip_16 ?_
    refine z_puti (ws' := [cO 2 h [some k, none, none, none, none, none] (padK len (pos + 1) pr ix nm), cI (J 1) k 80 C]) hC zkX3 iX3_skip_X3 0 rfl 2 (by decide) kX3_skip_1 rfl rfl rfl rfl rfl rfl dX3_skip_17 rfl ?_
    refine z_iconst hC dX3_skip_20 ?_
    exact z_iret hC hr rfl () trivial (hvi (by unfold pSkR; split <;> first | rfl | omega)) (congrArg (fun z => wPad J h k len z pr ix nm C) (by unfold pSk; split <;> first | rfl | omega)) dX3_skip_21
  · refine z_iconst hC dX3_skip_8 ?_
    exact z_iret hC hr rfl () trivial (hvi (by unfold pSkR; split <;> first | rfl | omega)) (congrArg (fun z => wPad J h k len z pr ix nm C) (by unfold pSk; split <;> first | rfl | omega)) dX3_skip_9
set_option maxRecDepth 20000 in
theorem iX3_readDigit_X3 : ∀ w ∈ u_ws RX3 TX3 6, w ∈ wsX3_readDigit := zm_places _ [10, 11, 12, 13, 14, 15] (by decide +kernel)
theorem kX3_readDigit_1 : Cond.fieldLink RX3 61 "StepPairs$Pad" "number" "I" ∈ wsX3_readDigit := List.mem_of_getElem? (i := 1) rfl
theorem kX3_readDigit_2 : Cond.fieldLink RX3 32 "StepPairs$Pad" "position" "I" ∈ wsX3_readDigit := List.mem_of_getElem? (i := 2) rfl
abbrev rmX3_readDigit : Room := { frames := 1, cells := 0, slots := 0, locals := 20 }
set_option maxHeartbeats 4000000 in
set_option maxRecDepth 100000 in
theorem t_X3_readDigit (l : Launch) (D : va_G) (J : Nat → ClassId) (h k : Nat) (len pos pr ix nm : Int) (C : Nat → Int) (hp : 0 ≤ pos ∧ pos ≤ 80) (hl : 0 ≤ len ∧ len ≤ 80) (hCh : ∀ j, 0 ≤ C j ∧ C j ≤ 126) : ZX l yX3_readDigit wsX3_readDigit rmX3_readDigit D J [.ref h] ([cO 2 h [some k, none, none, none, none, none] (padK len pos pr ix nm), cI (J 1) k 80 C]) (some (.int (iI (pDigR C len pos)))) (wPad J h k len ((pDig C len (pos, pr, ix, nm)).1) ((pDig C len (pos, pr, ix, nm)).2.1) ((pDig C len (pos, pr, ix, nm)).2.2.1) ((pDig C len (pos, pr, ix, nm)).2.2.2) C) := by
  refine z_met (cc := cX3_readDigit) (nL := 1) (ret := (some .boolean)) (own := RX3) (by decide) rfl rfl (Nat.le_of_ble_eq_true rfl) (fun p e s m args below meth c hC hr hin => ?_)
  refine z_lv0 (lv' := [(0, .ref h)]) rfl ?_
  refine z_aload_n hC dX3_readDigit_0 rfl 0 rfl ?_
  refine z_callV (wr := ([] : va_W)) (av := []) (st := []) hC (t_X3_here l D J h k len pos pr ix nm C  ⟨by omega, by omega⟩ hl hCh) gX3_readDigit_X3_here rfl 0 (by decide +kernel) ⟨Nat.le_of_ble_eq_true rfl, Nat.le_of_ble_eq_true rfl⟩ ⟨Nat.le_of_ble_eq_true rfl, Nat.le_of_ble_eq_true rfl⟩ [0, 1] [] rfl rfl rfl (by decide) rfl 0 rfl rfl rfl rfl rfl (Nat.le_of_ble_eq_true rfl) dX3_readDigit_1 (fun _ _ => ?_)
  refine z_ws (ws' := [cO 2 h [some k, none, none, none, none, none] (padK len pos pr ix nm), cI (J 1) k 80 C]) rfl ?_
  refine z_st (st' := [.int (iI (pAt C len pos))]) rfl ?_
  have hs_1 := pAt_spec C len pos
  have hi_2 := pAt_in hCh len pos
  refine z_bipush hC dX3_readDigit_4 (by decide) ?_
  refine z_icmp_lt (tgt := 18) hC dX3_readDigit_6 (by decide) (by unfold inR; omega) ⟨by decide, by decide⟩ (fun c_6_3 => ?_) (fun c_6_3 => ?_)
  · refine z_iconst hC dX3_readDigit_18 ?_
    exact z_iret hC hr rfl () trivial (hvi (by unfold pDigR; (repeat' split) <;> first | rfl | omega)) (congrArg (fun z : PS => wPad J h k len z.1 z.2.1 z.2.2.1 z.2.2.2 C) (show ((pos, pr, ix, nm) : PS) = pDig C len (pos, pr, ix, nm) by unfold pDig pDigR; (try dsimp only); (repeat' split) <;> first | rfl | omega)) dX3_readDigit_19
  · refine z_aload_n hC dX3_readDigit_9 rfl 0 rfl ?_
    refine z_callV (wr := ([] : va_W)) (av := []) (st := []) hC (t_X3_here l D J h k len pos pr ix nm C  ⟨by omega, by omega⟩ hl hCh) gX3_readDigit_X3_here rfl 0 (by decide +kernel) ⟨Nat.le_of_ble_eq_true rfl, Nat.le_of_ble_eq_true rfl⟩ ⟨Nat.le_of_ble_eq_true rfl, Nat.le_of_ble_eq_true rfl⟩ [0, 1] [] rfl rfl rfl (by decide) rfl 0 rfl rfl rfl rfl rfl (Nat.le_of_ble_eq_true rfl) dX3_readDigit_10 (fun _ _ => ?_)
    refine z_ws (ws' := [cO 2 h [some k, none, none, none, none, none] (padK len pos pr ix nm), cI (J 1) k 80 C]) rfl ?_
    refine z_st (st' := [.int (iI (pAt C len pos))]) rfl ?_
    have hs_4 := pAt_spec C len pos
    have hi_5 := pAt_in hCh len pos
    refine z_bipush hC dX3_readDigit_13 (by decide) ?_
    refine z_icmp_le (tgt := 20) hC dX3_readDigit_15 (by decide) (by unfold inR; omega) ⟨by decide, by decide⟩ (fun c_15_6 => ?_) (fun c_15_6 => ?_)
    · refine z_aload_n hC dX3_readDigit_20 rfl 0 rfl ?_
      refine z_aload_n hC dX3_readDigit_21 rfl 0 rfl ?_
      refine z_callV (wr := ([] : va_W)) (av := []) (st := [.ref h]) hC (t_X3_here l D J h k len pos pr ix nm C  ⟨by omega, by omega⟩ hl hCh) gX3_readDigit_X3_here rfl 0 (by decide +kernel) ⟨Nat.le_of_ble_eq_true rfl, Nat.le_of_ble_eq_true rfl⟩ ⟨Nat.le_of_ble_eq_true rfl, Nat.le_of_ble_eq_true rfl⟩ [0, 1] [] rfl rfl rfl (by decide) rfl 0 rfl rfl rfl rfl rfl (Nat.le_of_ble_eq_true rfl) dX3_readDigit_22 (fun _ _ => ?_)
      refine z_ws (ws' := [cO 2 h [some k, none, none, none, none, none] (padK len pos pr ix nm), cI (J 1) k 80 C]) rfl ?_
      refine z_st (st' := [.int (iI (pAt C len pos)), .ref h]) rfl ?_
      have hs_7 := pAt_spec C len pos
      have hi_8 := pAt_in hCh len pos
      refine z_bipush hC dX3_readDigit_25 (by decide) ?_
      refine z_isub hC dX3_readDigit_27 ?_
      refine z_puti (ws' := [cO 2 h [some k, none, none, none, none, none] (padK len pos pr ix ((pAt C len pos) - 48)), cI (J 1) k 80 C]) hC zkX3 iX3_readDigit_X3 0 rfl 5 (by decide) kX3_readDigit_1 rfl rfl rfl rfl rfl rfl dX3_readDigit_28 rfl ?_
      refine z_aload_n hC dX3_readDigit_31 rfl 0 rfl ?_
      refine z_dup hC dX3_readDigit_32 rfl ?_
      refine z_geti hC zkX3 iX3_readDigit_X3 0 rfl 2 (by decide) kX3_readDigit_2 rfl rfl dX3_readDigit_33 ?_
      refine z_int (y := iI pos) hC (rfl) ?_
      refine z_iconst hC dX3_readDigit_36 ?_
      refine z_iadd hC dX3_readDigit_37 ?_
      refine z_puti (ws' := [cO 2 h [some k, none, none, none, none, none] (padK len (pos + 1) pr ix ((pAt C len pos) - 48)), cI (J 1) k 80 C]) hC zkX3 iX3_readDigit_X3 0 rfl 2 (by decide) kX3_readDigit_2 rfl rfl rfl rfl rfl rfl dX3_readDigit_38 rfl ?_
      refine z_iconst hC dX3_readDigit_41 ?_
      exact z_iret hC hr rfl () trivial (hvi (by unfold pDigR; (repeat' split) <;> first | rfl | omega)) (congrArg (fun z : PS => wPad J h k len z.1 z.2.1 z.2.2.1 z.2.2.2 C) (show ((pos + 1, pr, ix, (pAt C len pos) - 48) : PS) = pDig C len (pos, pr, ix, nm) by unfold pDig pDigR; (try dsimp only); (repeat' split) <;> first | rfl | omega)) dX3_readDigit_42
    · refine z_iconst hC dX3_readDigit_18 ?_
      exact z_iret hC hr rfl () trivial (hvi (by unfold pDigR; (repeat' split) <;> first | rfl | omega)) (congrArg (fun z : PS => wPad J h k len z.1 z.2.1 z.2.2.1 z.2.2.2 C) (show ((pos, pr, ix, nm) : PS) = pDig C len (pos, pr, ix, nm) by unfold pDig pDigR; (try dsimp only); (repeat' split) <;> first | rfl | omega)) dX3_readDigit_19
set_option maxRecDepth 20000 in
theorem iX3_readNumber_X3 : ∀ w ∈ u_ws RX3 TX3 6, w ∈ wsX3_readNumber := zm_places _ [10, 11, 12, 13, 14, 15] (by decide +kernel)
theorem kX3_readNumber_1 : Cond.fieldLink RX3 61 "StepPairs$Pad" "number" "I" ∈ wsX3_readNumber := List.mem_of_getElem? (i := 1) rfl
theorem kX3_readNumber_2 : Cond.fieldLink RX3 32 "StepPairs$Pad" "position" "I" ∈ wsX3_readNumber := List.mem_of_getElem? (i := 2) rfl
abbrev rmX3_readNumber : Room := { frames := 1, cells := 0, slots := 0, locals := 20 }
set_option maxHeartbeats 4000000 in
set_option maxRecDepth 100000 in
theorem t_X3_readNumber (l : Launch) (D : va_G) (J : Nat → ClassId) (h k : Nat) (len pos pr ix nm : Int) (C : Nat → Int) (hp : 0 ≤ pos ∧ pos ≤ 80) (hl : 0 ≤ len ∧ len ≤ 80) (hCh : ∀ j, 0 ≤ C j ∧ C j ≤ 126) : ZX l yX3_readNumber wsX3_readNumber rmX3_readNumber D J [.ref h] ([cO 2 h [some k, none, none, none, none, none] (padK len pos pr ix nm), cI (J 1) k 80 C]) (some (.int (iI (pNumR C len pos)))) (wPad J h k len ((pNum C len (pos, pr, ix, nm)).1) ((pNum C len (pos, pr, ix, nm)).2.1) ((pNum C len (pos, pr, ix, nm)).2.2.1) ((pNum C len (pos, pr, ix, nm)).2.2.2) C) := by
  refine z_met (cc := cX3_readNumber) (nL := 2) (ret := (some .boolean)) (own := RX3) (by decide) rfl rfl (Nat.le_of_ble_eq_true rfl) (fun p e s m args below meth c hC hr hin => ?_)
  refine z_lv0 (lv' := [(0, .ref h)]) rfl ?_
  refine z_aload_n hC dX3_readNumber_0 rfl 0 rfl ?_
  refine z_iconst hC dX3_readNumber_1 ?_
  refine z_puti (ws' := [cO 2 h [some k, none, none, none, none, none] (padK len pos pr ix 0), cI (J 1) k 80 C]) hC zkX3 iX3_readNumber_X3 0 rfl 5 (by decide) kX3_readNumber_1 rfl rfl rfl rfl rfl rfl dX3_readNumber_2 rfl ?_
  refine z_aload_n hC dX3_readNumber_5 rfl 0 rfl ?_
  refine z_callV (wr := ([] : va_W)) (av := []) (st := []) hC (t_X3_here l D J h k len pos pr ix 0 C  ⟨by omega, by omega⟩ hl hCh) gX3_readNumber_X3_here rfl 0 (by decide +kernel) ⟨Nat.le_of_ble_eq_true rfl, Nat.le_of_ble_eq_true rfl⟩ ⟨Nat.le_of_ble_eq_true rfl, Nat.le_of_ble_eq_true rfl⟩ [0, 1] [] rfl rfl rfl (by decide) rfl 0 rfl rfl rfl rfl rfl (Nat.le_of_ble_eq_true rfl) dX3_readNumber_6 (fun _ _ => ?_)
  refine z_ws (ws' := [cO 2 h [some k, none, none, none, none, none] (padK len pos pr ix 0), cI (J 1) k 80 C]) rfl ?_
  refine z_st (st' := [.int (iI (pAt C len pos))]) rfl ?_
  have hs_1 := pAt_spec C len pos
  have hi_2 := pAt_in hCh len pos
  refine z_bipush hC dX3_readNumber_9 (by decide) ?_
  refine z_icmp_ne (tgt := 26) hC dX3_readNumber_11 (by decide) (by unfold inR; omega) ⟨by decide, by decide⟩ (fun c_11_3 => ?_) (fun c_11_3 => ?_)
  · refine z_iconst hC dX3_readNumber_26 ?_
    refine z_istore_n (lv' := [(1, .int (iI 0)), (0, .ref h)]) hC dX3_readNumber_27 rfl (by decide) rfl ?_
    refine z_iload_n hC dX3_readNumber_28 rfl 0 rfl ?_
    refine z_iconst hC dX3_readNumber_29 ?_
    refine z_icmp_ge_f (tgt := 86) hC dX3_readNumber_30 (by decide) ⟨by decide, by decide⟩ ⟨by decide, by decide⟩ (by decide) ?_
    refine z_aload_n hC dX3_readNumber_33 rfl 1 rfl ?_
    refine z_callV (wr := ([] : va_W)) (av := []) (st := []) hC (t_X3_here l D J h k len pos pr ix 0 C  ⟨by omega, by omega⟩ hl hCh) gX3_readNumber_X3_here rfl 0 (by decide +kernel) ⟨Nat.le_of_ble_eq_true rfl, Nat.le_of_ble_eq_true rfl⟩ ⟨Nat.le_of_ble_eq_true rfl, Nat.le_of_ble_eq_true rfl⟩ [0, 1] [] rfl rfl rfl (by decide) rfl 0 rfl rfl rfl rfl rfl (Nat.le_of_ble_eq_true rfl) dX3_readNumber_34 (fun _ _ => ?_)
    refine z_ws (ws' := [cO 2 h [some k, none, none, none, none, none] (padK len pos pr ix 0), cI (J 1) k 80 C]) rfl ?_
    refine z_st (st' := [.int (iI (pAt C len pos))]) rfl ?_
    have hs_4 := pAt_spec C len pos
    have hi_5 := pAt_in hCh len pos
    refine z_bipush hC dX3_readNumber_37 (by decide) ?_
    refine z_icmp_lt (tgt := 86) hC dX3_readNumber_39 (by decide) (by unfold inR; omega) ⟨by decide, by decide⟩ (fun c_39_6 => ?_) (fun c_39_6 => ?_)
    · refine z_iload_n hC dX3_readNumber_86 rfl 0 rfl ?_
      refine z_if_le_t (tgt := 94) hC dX3_readNumber_87 (by decide) ⟨by decide, by decide⟩ (by decide) ?_
      refine z_iconst hC dX3_readNumber_94 ?_
      exact z_iret hC hr rfl () trivial (hvi (by unfold pNumR; (repeat' split) <;> first | rfl | omega)) (congrArg (fun z : PS => wPad J h k len z.1 z.2.1 z.2.2.1 z.2.2.2 C) (show ((pos, pr, ix, 0) : PS) = pNum C len (pos, pr, ix, nm) by unfold pNum pNumP pNumV; (try dsimp only); (repeat' split) <;> first | rfl | omega)) dX3_readNumber_95
    · refine z_aload_n hC dX3_readNumber_42 rfl 1 rfl ?_
      refine z_callV (wr := ([] : va_W)) (av := []) (st := []) hC (t_X3_here l D J h k len pos pr ix 0 C  ⟨by omega, by omega⟩ hl hCh) gX3_readNumber_X3_here rfl 0 (by decide +kernel) ⟨Nat.le_of_ble_eq_true rfl, Nat.le_of_ble_eq_true rfl⟩ ⟨Nat.le_of_ble_eq_true rfl, Nat.le_of_ble_eq_true rfl⟩ [0, 1] [] rfl rfl rfl (by decide) rfl 0 rfl rfl rfl rfl rfl (Nat.le_of_ble_eq_true rfl) dX3_readNumber_43 (fun _ _ => ?_)
      refine z_ws (ws' := [cO 2 h [some k, none, none, none, none, none] (padK len pos pr ix 0), cI (J 1) k 80 C]) rfl ?_
      refine z_st (st' := [.int (iI (pAt C len pos))]) rfl ?_
      have hs_7 := pAt_spec C len pos
      have hi_8 := pAt_in hCh len pos
      refine z_bipush hC dX3_readNumber_46 (by decide) ?_
      refine z_icmp_gt (tgt := 86) hC dX3_readNumber_48 (by decide) (by unfold inR; omega) ⟨by decide, by decide⟩ (fun c_48_9 => ?_) (fun c_48_9 => ?_)
      · refine z_iload_n hC dX3_readNumber_86 rfl 0 rfl ?_
        refine z_if_le_t (tgt := 94) hC dX3_readNumber_87 (by decide) ⟨by decide, by decide⟩ (by decide) ?_
        refine z_iconst hC dX3_readNumber_94 ?_
        exact z_iret hC hr rfl () trivial (hvi (by unfold pNumR; (repeat' split) <;> first | rfl | omega)) (congrArg (fun z : PS => wPad J h k len z.1 z.2.1 z.2.2.1 z.2.2.2 C) (show ((pos, pr, ix, 0) : PS) = pNum C len (pos, pr, ix, nm) by unfold pNum pNumP pNumV; (try dsimp only); (repeat' split) <;> first | rfl | omega)) dX3_readNumber_95
      · refine z_aload_n hC dX3_readNumber_51 rfl 1 rfl ?_
        refine z_bipush hC dX3_readNumber_52 (by decide) ?_
        refine z_aload_n hC dX3_readNumber_54 rfl 1 rfl ?_
        refine z_geti hC zkX3 iX3_readNumber_X3 0 rfl 5 (by decide) kX3_readNumber_1 rfl rfl dX3_readNumber_55 ?_
        refine z_int (y := iI 0) hC (rfl) ?_
        refine z_imul hC dX3_readNumber_58 ?_
        refine z_int (y := iI 0) hC (by decide) ?_
        refine z_aload_n hC dX3_readNumber_59 rfl 1 rfl ?_
        refine z_callV (wr := ([] : va_W)) (av := []) (st := [.int (iI 0), .ref h]) hC (t_X3_here l D J h k len pos pr ix 0 C  ⟨by omega, by omega⟩ hl hCh) gX3_readNumber_X3_here rfl 0 (by decide +kernel) ⟨Nat.le_of_ble_eq_true rfl, Nat.le_of_ble_eq_true rfl⟩ ⟨Nat.le_of_ble_eq_true rfl, Nat.le_of_ble_eq_true rfl⟩ [0, 1] [] rfl rfl rfl (by decide) rfl 0 rfl rfl rfl rfl rfl (Nat.le_of_ble_eq_true rfl) dX3_readNumber_60 (fun _ _ => ?_)
        refine z_ws (ws' := [cO 2 h [some k, none, none, none, none, none] (padK len pos pr ix 0), cI (J 1) k 80 C]) rfl ?_
        refine z_st (st' := [.int (iI (pAt C len pos)), .int (iI 0), .ref h]) rfl ?_
        have hs_10 := pAt_spec C len pos
        have hi_11 := pAt_in hCh len pos
        refine z_iadd hC dX3_readNumber_63 ?_
        refine z_bipush hC dX3_readNumber_64 (by decide) ?_
        refine z_isub hC dX3_readNumber_66 ?_
        refine z_puti (ws' := [cO 2 h [some k, none, none, none, none, none] (padK len pos pr ix ((0 + (pAt C len pos)) - 48)), cI (J 1) k 80 C]) hC zkX3 iX3_readNumber_X3 0 rfl 5 (by decide) kX3_readNumber_1 rfl rfl rfl rfl rfl rfl dX3_readNumber_67 rfl ?_
        refine z_aload_n hC dX3_readNumber_70 rfl 1 rfl ?_
        refine z_dup hC dX3_readNumber_71 rfl ?_
        refine z_geti hC zkX3 iX3_readNumber_X3 0 rfl 2 (by decide) kX3_readNumber_2 rfl rfl dX3_readNumber_72 ?_
        refine z_int (y := iI pos) hC (rfl) ?_
        refine z_iconst hC dX3_readNumber_75 ?_
        refine z_iadd hC dX3_readNumber_76 ?_
        refine z_puti (ws' := [cO 2 h [some k, none, none, none, none, none] (padK len (pos + 1) pr ix ((0 + (pAt C len pos)) - 48)), cI (J 1) k 80 C]) hC zkX3 iX3_readNumber_X3 0 rfl 2 (by decide) kX3_readNumber_2 rfl rfl rfl rfl rfl rfl dX3_readNumber_77 rfl ?_
        refine z_iinc (lv' := [(1, .int (iI 1)), (0, .ref h)]) hC dX3_readNumber_80 0 rfl (by decide) rfl ?_
        refine z_goto (tgt := 28) hC dX3_readNumber_83 (by decide) ?_
        refine z_iload_n hC dX3_readNumber_28 rfl 0 rfl ?_
        refine z_iconst hC dX3_readNumber_29 ?_
        refine z_icmp_ge_f (tgt := 86) hC dX3_readNumber_30 (by decide) ⟨by decide, by decide⟩ ⟨by decide, by decide⟩ (by decide) ?_
        refine z_aload_n hC dX3_readNumber_33 rfl 1 rfl ?_
        refine z_callV (wr := ([] : va_W)) (av := []) (st := []) hC (t_X3_here l D J h k len (pos + 1) pr ix ((0 + (pAt C len pos)) - 48) C  ⟨by omega, by omega⟩ hl hCh) gX3_readNumber_X3_here rfl 0 (by decide +kernel) ⟨Nat.le_of_ble_eq_true rfl, Nat.le_of_ble_eq_true rfl⟩ ⟨Nat.le_of_ble_eq_true rfl, Nat.le_of_ble_eq_true rfl⟩ [0, 1] [] rfl rfl rfl (by decide) rfl 0 rfl rfl rfl rfl rfl (Nat.le_of_ble_eq_true rfl) dX3_readNumber_34 (fun _ _ => ?_)
        refine z_ws (ws' := [cO 2 h [some k, none, none, none, none, none] (padK len (pos + 1) pr ix ((0 + (pAt C len pos)) - 48)), cI (J 1) k 80 C]) rfl ?_
        refine z_st (st' := [.int (iI (pAt C len (pos + 1)))]) rfl ?_
        have hs_12 := pAt_spec C len (pos + 1)
        have hi_13 := pAt_in hCh len (pos + 1)
        refine z_bipush hC dX3_readNumber_37 (by decide) ?_
        refine z_icmp_lt (tgt := 86) hC dX3_readNumber_39 (by decide) (by unfold inR; omega) ⟨by decide, by decide⟩ (fun c_39_14 => ?_) (fun c_39_14 => ?_)
        · refine z_iload_n hC dX3_readNumber_86 rfl 0 rfl ?_
          refine z_if_le_f (tgt := 94) hC dX3_readNumber_87 (by decide) ⟨by decide, by decide⟩ (by decide) ?_
          refine z_iconst hC dX3_readNumber_90 ?_
          refine z_goto (tgt := 95) hC dX3_readNumber_91 (by decide) ?_
          exact z_iret hC hr rfl () trivial (hvi (by unfold pNumR; (repeat' split) <;> first | rfl | omega)) (congrArg (fun z : PS => wPad J h k len z.1 z.2.1 z.2.2.1 z.2.2.2 C) (show ((pos + 1, pr, ix, (0 + (pAt C len pos)) - 48) : PS) = pNum C len (pos, pr, ix, nm) by unfold pNum pNumP pNumV; (try dsimp only); (repeat' split) <;> first | rfl | omega)) dX3_readNumber_95
        · refine z_aload_n hC dX3_readNumber_42 rfl 1 rfl ?_
          refine z_callV (wr := ([] : va_W)) (av := []) (st := []) hC (t_X3_here l D J h k len (pos + 1) pr ix ((0 + (pAt C len pos)) - 48) C  ⟨by omega, by omega⟩ hl hCh) gX3_readNumber_X3_here rfl 0 (by decide +kernel) ⟨Nat.le_of_ble_eq_true rfl, Nat.le_of_ble_eq_true rfl⟩ ⟨Nat.le_of_ble_eq_true rfl, Nat.le_of_ble_eq_true rfl⟩ [0, 1] [] rfl rfl rfl (by decide) rfl 0 rfl rfl rfl rfl rfl (Nat.le_of_ble_eq_true rfl) dX3_readNumber_43 (fun _ _ => ?_)
          refine z_ws (ws' := [cO 2 h [some k, none, none, none, none, none] (padK len (pos + 1) pr ix ((0 + (pAt C len pos)) - 48)), cI (J 1) k 80 C]) rfl ?_
          refine z_st (st' := [.int (iI (pAt C len (pos + 1)))]) rfl ?_
          have hs_15 := pAt_spec C len (pos + 1)
          have hi_16 := pAt_in hCh len (pos + 1)
          refine z_bipush hC dX3_readNumber_46 (by decide) ?_
          refine z_icmp_gt (tgt := 86) hC dX3_readNumber_48 (by decide) (by unfold inR; omega) ⟨by decide, by decide⟩ (fun c_48_17 => ?_) (fun c_48_17 => ?_)
          · refine z_iload_n hC dX3_readNumber_86 rfl 0 rfl ?_
            refine z_if_le_f (tgt := 94) hC dX3_readNumber_87 (by decide) ⟨by decide, by decide⟩ (by decide) ?_
            refine z_iconst hC dX3_readNumber_90 ?_
            refine z_goto (tgt := 95) hC dX3_readNumber_91 (by decide) ?_
            exact z_iret hC hr rfl () trivial (hvi (by unfold pNumR; (repeat' split) <;> first | rfl | omega)) (congrArg (fun z : PS => wPad J h k len z.1 z.2.1 z.2.2.1 z.2.2.2 C) (show ((pos + 1, pr, ix, (0 + (pAt C len pos)) - 48) : PS) = pNum C len (pos, pr, ix, nm) by unfold pNum pNumP pNumV; (try dsimp only); (repeat' split) <;> first | rfl | omega)) dX3_readNumber_95
          · refine z_aload_n hC dX3_readNumber_51 rfl 1 rfl ?_
            refine z_bipush hC dX3_readNumber_52 (by decide) ?_
            refine z_aload_n hC dX3_readNumber_54 rfl 1 rfl ?_
            refine z_geti hC zkX3 iX3_readNumber_X3 0 rfl 5 (by decide) kX3_readNumber_1 rfl rfl dX3_readNumber_55 ?_
            refine z_int (y := iI ((0 + (pAt C len pos)) - 48)) hC (rfl) ?_
            refine z_imul hC dX3_readNumber_58 ?_
            refine z_aload_n hC dX3_readNumber_59 rfl 1 rfl ?_
            refine z_callV (wr := ([] : va_W)) (av := []) (st := [.int (iI (10 * ((0 + (pAt C len pos)) - 48))), .ref h]) hC (t_X3_here l D J h k len (pos + 1) pr ix ((0 + (pAt C len pos)) - 48) C  ⟨by omega, by omega⟩ hl hCh) gX3_readNumber_X3_here rfl 0 (by decide +kernel) ⟨Nat.le_of_ble_eq_true rfl, Nat.le_of_ble_eq_true rfl⟩ ⟨Nat.le_of_ble_eq_true rfl, Nat.le_of_ble_eq_true rfl⟩ [0, 1] [] rfl rfl rfl (by decide) rfl 0 rfl rfl rfl rfl rfl (Nat.le_of_ble_eq_true rfl) dX3_readNumber_60 (fun _ _ => ?_)
            refine z_ws (ws' := [cO 2 h [some k, none, none, none, none, none] (padK len (pos + 1) pr ix ((0 + (pAt C len pos)) - 48)), cI (J 1) k 80 C]) rfl ?_
            refine z_st (st' := [.int (iI (pAt C len (pos + 1))), .int (iI (10 * ((0 + (pAt C len pos)) - 48))), .ref h]) rfl ?_
            have hs_18 := pAt_spec C len (pos + 1)
            have hi_19 := pAt_in hCh len (pos + 1)
            refine z_iadd hC dX3_readNumber_63 ?_
            refine z_bipush hC dX3_readNumber_64 (by decide) ?_
            refine z_isub hC dX3_readNumber_66 ?_
            refine z_puti (ws' := [cO 2 h [some k, none, none, none, none, none] (padK len (pos + 1) pr ix (((10 * ((0 + (pAt C len pos)) - 48)) + (pAt C len (pos + 1))) - 48)), cI (J 1) k 80 C]) hC zkX3 iX3_readNumber_X3 0 rfl 5 (by decide) kX3_readNumber_1 rfl rfl rfl rfl rfl rfl dX3_readNumber_67 rfl ?_
            refine z_aload_n hC dX3_readNumber_70 rfl 1 rfl ?_
            refine z_dup hC dX3_readNumber_71 rfl ?_
            refine z_geti hC zkX3 iX3_readNumber_X3 0 rfl 2 (by decide) kX3_readNumber_2 rfl rfl dX3_readNumber_72 ?_
            refine z_int (y := iI (pos + 1)) hC (rfl) ?_
            refine z_iconst hC dX3_readNumber_75 ?_
            refine z_iadd hC dX3_readNumber_76 ?_
            refine z_puti (ws' := [cO 2 h [some k, none, none, none, none, none] (padK len ((pos + 1) + 1) pr ix (((10 * ((0 + (pAt C len pos)) - 48)) + (pAt C len (pos + 1))) - 48)), cI (J 1) k 80 C]) hC zkX3 iX3_readNumber_X3 0 rfl 2 (by decide) kX3_readNumber_2 rfl rfl rfl rfl rfl rfl dX3_readNumber_77 rfl ?_
            refine z_iinc (lv' := [(1, .int (iI 2)), (0, .ref h)]) hC dX3_readNumber_80 0 rfl (by decide) rfl ?_
            refine z_goto (tgt := 28) hC dX3_readNumber_83 (by decide) ?_
            refine z_iload_n hC dX3_readNumber_28 rfl 0 rfl ?_
            refine z_iconst hC dX3_readNumber_29 ?_
            refine z_icmp_ge_f (tgt := 86) hC dX3_readNumber_30 (by decide) ⟨by decide, by decide⟩ ⟨by decide, by decide⟩ (by decide) ?_
            refine z_aload_n hC dX3_readNumber_33 rfl 1 rfl ?_
            refine z_callV (wr := ([] : va_W)) (av := []) (st := []) hC (t_X3_here l D J h k len ((pos + 1) + 1) pr ix (((10 * ((0 + (pAt C len pos)) - 48)) + (pAt C len (pos + 1))) - 48) C  ⟨by omega, by omega⟩ hl hCh) gX3_readNumber_X3_here rfl 0 (by decide +kernel) ⟨Nat.le_of_ble_eq_true rfl, Nat.le_of_ble_eq_true rfl⟩ ⟨Nat.le_of_ble_eq_true rfl, Nat.le_of_ble_eq_true rfl⟩ [0, 1] [] rfl rfl rfl (by decide) rfl 0 rfl rfl rfl rfl rfl (Nat.le_of_ble_eq_true rfl) dX3_readNumber_34 (fun _ _ => ?_)
            refine z_ws (ws' := [cO 2 h [some k, none, none, none, none, none] (padK len ((pos + 1) + 1) pr ix (((10 * ((0 + (pAt C len pos)) - 48)) + (pAt C len (pos + 1))) - 48)), cI (J 1) k 80 C]) rfl ?_
            refine z_st (st' := [.int (iI (pAt C len ((pos + 1) + 1)))]) rfl ?_
            have hs_20 := pAt_spec C len ((pos + 1) + 1)
            have hi_21 := pAt_in hCh len ((pos + 1) + 1)
            refine z_bipush hC dX3_readNumber_37 (by decide) ?_
            refine z_icmp_lt (tgt := 86) hC dX3_readNumber_39 (by decide) (by unfold inR; omega) ⟨by decide, by decide⟩ (fun c_39_22 => ?_) (fun c_39_22 => ?_)
            · refine z_iload_n hC dX3_readNumber_86 rfl 0 rfl ?_
              refine z_if_le_f (tgt := 94) hC dX3_readNumber_87 (by decide) ⟨by decide, by decide⟩ (by decide) ?_
              refine z_iconst hC dX3_readNumber_90 ?_
              refine z_goto (tgt := 95) hC dX3_readNumber_91 (by decide) ?_
              exact z_iret hC hr rfl () trivial (hvi (by unfold pNumR; (repeat' split) <;> first | rfl | omega)) (congrArg (fun z : PS => wPad J h k len z.1 z.2.1 z.2.2.1 z.2.2.2 C) (show (((pos + 1) + 1, pr, ix, ((10 * ((0 + (pAt C len pos)) - 48)) + (pAt C len (pos + 1))) - 48) : PS) = pNum C len (pos, pr, ix, nm) by unfold pNum pNumP pNumV; (try dsimp only); (repeat' split) <;> first | rfl | omega)) dX3_readNumber_95
            · refine z_aload_n hC dX3_readNumber_42 rfl 1 rfl ?_
              refine z_callV (wr := ([] : va_W)) (av := []) (st := []) hC (t_X3_here l D J h k len ((pos + 1) + 1) pr ix (((10 * ((0 + (pAt C len pos)) - 48)) + (pAt C len (pos + 1))) - 48) C  ⟨by omega, by omega⟩ hl hCh) gX3_readNumber_X3_here rfl 0 (by decide +kernel) ⟨Nat.le_of_ble_eq_true rfl, Nat.le_of_ble_eq_true rfl⟩ ⟨Nat.le_of_ble_eq_true rfl, Nat.le_of_ble_eq_true rfl⟩ [0, 1] [] rfl rfl rfl (by decide) rfl 0 rfl rfl rfl rfl rfl (Nat.le_of_ble_eq_true rfl) dX3_readNumber_43 (fun _ _ => ?_)
              refine z_ws (ws' := [cO 2 h [some k, none, none, none, none, none] (padK len ((pos + 1) + 1) pr ix (((10 * ((0 + (pAt C len pos)) - 48)) + (pAt C len (pos + 1))) - 48)), cI (J 1) k 80 C]) rfl ?_
              refine z_st (st' := [.int (iI (pAt C len ((pos + 1) + 1)))]) rfl ?_
              have hs_23 := pAt_spec C len ((pos + 1) + 1)
              have hi_24 := pAt_in hCh len ((pos + 1) + 1)
              refine z_bipush hC dX3_readNumber_46 (by decide) ?_
              refine z_icmp_gt (tgt := 86) hC dX3_readNumber_48 (by decide) (by unfold inR; omega) ⟨by decide, by decide⟩ (fun c_48_25 => ?_) (fun c_48_25 => ?_)
              · refine z_iload_n hC dX3_readNumber_86 rfl 0 rfl ?_
                refine z_if_le_f (tgt := 94) hC dX3_readNumber_87 (by decide) ⟨by decide, by decide⟩ (by decide) ?_
                refine z_iconst hC dX3_readNumber_90 ?_
                refine z_goto (tgt := 95) hC dX3_readNumber_91 (by decide) ?_
                exact z_iret hC hr rfl () trivial (hvi (by unfold pNumR; (repeat' split) <;> first | rfl | omega)) (congrArg (fun z : PS => wPad J h k len z.1 z.2.1 z.2.2.1 z.2.2.2 C) (show (((pos + 1) + 1, pr, ix, ((10 * ((0 + (pAt C len pos)) - 48)) + (pAt C len (pos + 1))) - 48) : PS) = pNum C len (pos, pr, ix, nm) by unfold pNum pNumP pNumV; (try dsimp only); (repeat' split) <;> first | rfl | omega)) dX3_readNumber_95
              · refine z_aload_n hC dX3_readNumber_51 rfl 1 rfl ?_
                refine z_bipush hC dX3_readNumber_52 (by decide) ?_
                refine z_aload_n hC dX3_readNumber_54 rfl 1 rfl ?_
                refine z_geti hC zkX3 iX3_readNumber_X3 0 rfl 5 (by decide) kX3_readNumber_1 rfl rfl dX3_readNumber_55 ?_
                refine z_int (y := iI (((10 * ((0 + (pAt C len pos)) - 48)) + (pAt C len (pos + 1))) - 48)) hC (rfl) ?_
                refine z_imul hC dX3_readNumber_58 ?_
                refine z_aload_n hC dX3_readNumber_59 rfl 1 rfl ?_
                refine z_callV (wr := ([] : va_W)) (av := []) (st := [.int (iI (10 * (((10 * ((0 + (pAt C len pos)) - 48)) + (pAt C len (pos + 1))) - 48))), .ref h]) hC (t_X3_here l D J h k len ((pos + 1) + 1) pr ix (((10 * ((0 + (pAt C len pos)) - 48)) + (pAt C len (pos + 1))) - 48) C  ⟨by omega, by omega⟩ hl hCh) gX3_readNumber_X3_here rfl 0 (by decide +kernel) ⟨Nat.le_of_ble_eq_true rfl, Nat.le_of_ble_eq_true rfl⟩ ⟨Nat.le_of_ble_eq_true rfl, Nat.le_of_ble_eq_true rfl⟩ [0, 1] [] rfl rfl rfl (by decide) rfl 0 rfl rfl rfl rfl rfl (Nat.le_of_ble_eq_true rfl) dX3_readNumber_60 (fun _ _ => ?_)
                refine z_ws (ws' := [cO 2 h [some k, none, none, none, none, none] (padK len ((pos + 1) + 1) pr ix (((10 * ((0 + (pAt C len pos)) - 48)) + (pAt C len (pos + 1))) - 48)), cI (J 1) k 80 C]) rfl ?_
                refine z_st (st' := [.int (iI (pAt C len ((pos + 1) + 1))), .int (iI (10 * (((10 * ((0 + (pAt C len pos)) - 48)) + (pAt C len (pos + 1))) - 48))), .ref h]) rfl ?_
                have hs_26 := pAt_spec C len ((pos + 1) + 1)
                have hi_27 := pAt_in hCh len ((pos + 1) + 1)
                refine z_iadd hC dX3_readNumber_63 ?_
                refine z_bipush hC dX3_readNumber_64 (by decide) ?_
                refine z_isub hC dX3_readNumber_66 ?_
                refine z_puti (ws' := [cO 2 h [some k, none, none, none, none, none] (padK len ((pos + 1) + 1) pr ix (((10 * (((10 * ((0 + (pAt C len pos)) - 48)) + (pAt C len (pos + 1))) - 48)) + (pAt C len ((pos + 1) + 1))) - 48)), cI (J 1) k 80 C]) hC zkX3 iX3_readNumber_X3 0 rfl 5 (by decide) kX3_readNumber_1 rfl rfl rfl rfl rfl rfl dX3_readNumber_67 rfl ?_
                refine z_aload_n hC dX3_readNumber_70 rfl 1 rfl ?_
                refine z_dup hC dX3_readNumber_71 rfl ?_
                refine z_geti hC zkX3 iX3_readNumber_X3 0 rfl 2 (by decide) kX3_readNumber_2 rfl rfl dX3_readNumber_72 ?_
                refine z_int (y := iI ((pos + 1) + 1)) hC (rfl) ?_
                refine z_iconst hC dX3_readNumber_75 ?_
                refine z_iadd hC dX3_readNumber_76 ?_
                refine z_puti (ws' := [cO 2 h [some k, none, none, none, none, none] (padK len (((pos + 1) + 1) + 1) pr ix (((10 * (((10 * ((0 + (pAt C len pos)) - 48)) + (pAt C len (pos + 1))) - 48)) + (pAt C len ((pos + 1) + 1))) - 48)), cI (J 1) k 80 C]) hC zkX3 iX3_readNumber_X3 0 rfl 2 (by decide) kX3_readNumber_2 rfl rfl rfl rfl rfl rfl dX3_readNumber_77 rfl ?_
                refine z_iinc (lv' := [(1, .int (iI 3)), (0, .ref h)]) hC dX3_readNumber_80 0 rfl (by decide) rfl ?_
                refine z_goto (tgt := 28) hC dX3_readNumber_83 (by decide) ?_
                refine z_iload_n hC dX3_readNumber_28 rfl 0 rfl ?_
                refine z_iconst hC dX3_readNumber_29 ?_
                refine z_icmp_ge_t (tgt := 86) hC dX3_readNumber_30 (by decide) ⟨by decide, by decide⟩ ⟨by decide, by decide⟩ (by decide) ?_
                refine z_iload_n hC dX3_readNumber_86 rfl 0 rfl ?_
                refine z_if_le_f (tgt := 94) hC dX3_readNumber_87 (by decide) ⟨by decide, by decide⟩ (by decide) ?_
                refine z_iconst hC dX3_readNumber_90 ?_
                refine z_goto (tgt := 95) hC dX3_readNumber_91 (by decide) ?_
                exact z_iret hC hr rfl () trivial (hvi (by unfold pNumR; (repeat' split) <;> first | rfl | omega)) (congrArg (fun z : PS => wPad J h k len z.1 z.2.1 z.2.2.1 z.2.2.2 C) (show ((((pos + 1) + 1) + 1, pr, ix, ((10 * (((10 * ((0 + (pAt C len pos)) - 48)) + (pAt C len (pos + 1))) - 48)) + (pAt C len ((pos + 1) + 1))) - 48) : PS) = pNum C len (pos, pr, ix, nm) by unfold pNum pNumP pNumV; (try dsimp only); (repeat' split) <;> first | rfl | omega)) dX3_readNumber_95
  · refine z_aload_n hC dX3_readNumber_14 rfl 0 rfl ?_
    refine z_dup hC dX3_readNumber_15 rfl ?_
    refine z_geti hC zkX3 iX3_readNumber_X3 0 rfl 2 (by decide) kX3_readNumber_2 rfl rfl dX3_readNumber_16 ?_
    refine z_int (y := iI pos) hC (rfl) ?_
    refine z_iconst hC dX3_readNumber_19 ?_
    refine z_iadd hC dX3_readNumber_20 ?_
    refine z_puti (ws' := [cO 2 h [some k, none, none, none, none, none] (padK len (pos + 1) pr ix 0), cI (J 1) k 80 C]) hC zkX3 iX3_readNumber_X3 0 rfl 2 (by decide) kX3_readNumber_2 rfl rfl rfl rfl rfl rfl dX3_readNumber_21 rfl ?_
    refine z_iconst hC dX3_readNumber_24 ?_
    exact z_iret hC hr rfl () trivial (hvi (by unfold pNumR; (repeat' split) <;> first | rfl | omega)) (congrArg (fun z : PS => wPad J h k len z.1 z.2.1 z.2.2.1 z.2.2.2 C) (show ((pos + 1, pr, ix, 0) : PS) = pNum C len (pos, pr, ix, nm) by unfold pNum pNumP pNumV; (try dsimp only); (repeat' split) <;> first | rfl | omega)) dX3_readNumber_25
