set_option maxRecDepth 20000 in
theorem iX6_isHere_X6 : ∀ w ∈ u_ws RX6 TX6 13, w ∈ wsX6_isHere := zm_places _ [8, 9, 10, 11, 12, 13, 14, 15, 16, 17, 18, 19, 20] (by decide +kernel)
theorem kX6_isHere_1 : Cond.fieldLink RX6 141 "StepPairsModel" "spot" "I" ∈ wsX6_isHere := List.mem_of_getElem? (i := 1) rfl
theorem kX6_isHere_2 : Cond.fieldLink RX6 109 "StepPairsModel" "padLong" "I" ∈ wsX6_isHere := List.mem_of_getElem? (i := 2) rfl
theorem kX6_isHere_3 : Cond.fieldLink RX6 28 "StepPairsModel" "pad" "[I" ∈ wsX6_isHere := List.mem_of_getElem? (i := 3) rfl
abbrev rmX6_isHere : Room := { frames := 1, cells := 0, slots := 0, locals := 25 }
set_option maxHeartbeats 4000000 in
set_option maxRecDepth 100000 in
theorem t_X6_isHere (l : Launch) (D : va_G) (J : Nat → ClassId) (h : Nat) (a : Nat → Nat) (L pl sp nb dn er : Int) (A K T H S V P : Nat → Int) (lo hi : Int) (hlo : 1 ≤ lo ∧ lo ≤ 200) (hhi : 1 ≤ hi ∧ hi ≤ 200) (hsp : 0 ≤ sp ∧ sp ≤ 80) (hpl : 0 ≤ pl ∧ pl ≤ 80) (hPv : ∀ j, 0 ≤ P j ∧ P j ≤ 126) : ZX l yX6_isHere wsX6_isHere rmX6_isHere D J [.ref h, .int (iI lo), .int (iI hi)] (wM J h a L pl sp nb dn er A K T H S V P) (some (.int (iI (mIn (pAt P pl sp) lo hi)))) (wM J h a L pl sp nb dn er A K T H S V P) := by
  have hat := pAt_at hpl hsp hPv
  refine z_met (cc := cX6_isHere) (nL := 3) (ret := (some .boolean)) (own := RX6) (by decide) rfl rfl (Nat.le_of_ble_eq_true rfl) (fun p e s m args below meth c hC hr hin => ?_)
  refine z_lv0 (lv' := [(0, .ref h), (1, .int (iI lo)), (2, .int (iI hi))]) rfl ?_
  refine z_aload_n hC dX6_isHere_0 rfl 0 rfl ?_
  refine z_geti hC zkX6 iX6_isHere_X6 0 rfl 9 (by decide) kX6_isHere_1 rfl rfl dX6_isHere_1 ?_
  refine z_int (y := iI sp) hC (rfl) ?_
  refine z_aload_n hC dX6_isHere_4 rfl 0 rfl ?_
  refine z_geti hC zkX6 iX6_isHere_X6 0 rfl 8 (by decide) kX6_isHere_2 rfl rfl dX6_isHere_5 ?_
  refine z_int (y := iI pl) hC (rfl) ?_
  refine z_icmp_ge (tgt := 35) hC dX6_isHere_8 (by decide) (by unfold inR; omega) (by unfold inR; omega) (fun c_8_1 => ?_) (fun c_8_1 => ?_)
  · refine z_iconst hC dX6_isHere_35 ?_
    exact z_iret hC hr rfl () trivial (hvi (by have hmi := mIn_spec (pAt P pl sp) lo hi; omega)) (rfl) dX6_isHere_36
  · refine z_aload_n hC dX6_isHere_11 rfl 0 rfl ?_
    refine z_getr hC zkX6 iX6_isHere_X6 0 rfl 7 (by decide) kX6_isHere_3 rfl rfl dX6_isHere_12 ?_
    refine z_aload_n hC dX6_isHere_15 rfl 0 rfl ?_
    refine z_geti hC zkX6 iX6_isHere_X6 0 rfl 9 (by decide) kX6_isHere_1 rfl rfl dX6_isHere_16 ?_
    refine z_int (y := iI sp) hC (rfl) ?_
    refine z_iald hC 7 rfl 0 rfl (Int.toNat sp) (Int.toNat_of_nonneg (by omega)).symm (by omega) (by decide) dX6_isHere_19 ?_
    refine z_i2l (v := lI (P (Int.toNat sp))) hC dX6_isHere_20 (iI_l (by unfold inR; omega)) ?_
    refine z_iload_n hC dX6_isHere_21 rfl 1 rfl ?_
    refine z_i2l (v := lI lo) hC dX6_isHere_22 (iI_l (by unfold inR; omega)) ?_
    refine z_iload_n hC dX6_isHere_23 rfl 2 rfl ?_
    refine z_i2l (v := lI hi) hC dX6_isHere_24 (iI_l (by unfold inR; omega)) ?_
    refine z_callS (wr := wM J h a L pl sp nb dn er A K T H S V P) (av := [.long (lI (P (Int.toNat sp))), .long (lI lo), .long (lI hi)]) (st := []) hC (t_X6_in l D J (P (Int.toNat sp)) lo hi (by unfold inL; omega) (by unfold inL; omega) (by unfold inL; omega)) gX6_isHere_X6_in rfl 3 (by decide +kernel) ⟨Nat.le_of_ble_eq_true rfl, Nat.le_of_ble_eq_true rfl⟩ ⟨Nat.le_of_ble_eq_true rfl, Nat.le_of_ble_eq_true rfl⟩ [] [0, 1, 2, 3, 4, 5, 6, 7] rfl rfl rfl (by decide) rfl rfl rfl (Nat.le_of_ble_eq_true rfl) dX6_isHere_25 (fun _ _ => ?_)
    refine z_ws (ws' := wM J h a L pl sp nb dn er A K T H S V P) rfl ?_
    refine z_st (st' := [.int (iI (mIn (P (Int.toNat sp)) lo hi))]) rfl ?_
    have hin_2 := mIn_spec (P (Int.toNat sp)) lo hi
    refine z_if_eq (tgt := 35) hC dX6_isHere_28 (by decide) (inR_01 (mIn_01 _ _ _)) (fun c_28_3 => ?_) (fun c_28_3 => ?_)
    · refine z_iconst hC dX6_isHere_35 ?_
      exact z_iret hC hr rfl () trivial (hvi (by have hmi := mIn_spec (pAt P pl sp) lo hi; omega)) (rfl) dX6_isHere_36
    · refine z_iconst hC dX6_isHere_31 ?_
      refine z_goto (tgt := 36) hC dX6_isHere_32 (by decide) ?_
      exact z_iret hC hr rfl () trivial (hvi (by have hmi := mIn_spec (pAt P pl sp) lo hi; omega)) (rfl) dX6_isHere_36
set_option maxRecDepth 20000 in
theorem iX6_takes_X6 : ∀ w ∈ u_ws RX6 TX6 13, w ∈ wsX6_takes := zm_places _ [12, 13, 14, 15, 16, 17, 18, 19, 20, 21, 22, 23, 24] (by decide +kernel)
theorem kX6_takes_1 : Cond.fieldLink RX6 141 "StepPairsModel" "spot" "I" ∈ wsX6_takes := List.mem_of_getElem? (i := 1) rfl
abbrev rmX6_takes : Room := { frames := 2, cells := 0, slots := 0, locals := 47 }
set_option maxHeartbeats 4000000 in
set_option maxRecDepth 100000 in
theorem t_X6_takes (l : Launch) (D : va_G) (J : Nat → ClassId) (h : Nat) (a : Nat → Nat) (L pl sp nb dn er : Int) (A K T H S V P : Nat → Int) (ch : Int) (hch : 1 ≤ ch ∧ ch ≤ 200) (hsp : 0 ≤ sp ∧ sp ≤ 80) (hpl : 0 ≤ pl ∧ pl ≤ 80) (hPv : ∀ j, 0 ≤ P j ∧ P j ≤ 126) : ZX l yX6_takes wsX6_takes rmX6_takes D J [.ref h, .int (iI ch)] (wM J h a L pl sp nb dn er A K T H S V P) (some (.int (iI (pSkR P pl sp ch)))) (wM J h a L pl (pSk P pl sp ch) nb dn er A K T H S V P) := by
  refine z_met (cc := cX6_takes) (nL := 3) (ret := (some .boolean)) (own := RX6) (by decide) rfl rfl (Nat.le_of_ble_eq_true rfl) (fun p e s m args below meth c hC hr hin => ?_)
  refine z_lv0 (lv' := [(0, .ref h), (1, .int (iI ch))]) rfl ?_
  refine z_aload_n hC dX6_takes_0 rfl 0 rfl ?_
  refine z_iload_n hC dX6_takes_1 rfl 1 rfl ?_
  refine z_iload_n hC dX6_takes_2 rfl 1 rfl ?_
  refine z_callV (wr := ([] : va_W)) (av := [.int (iI ch), .int (iI ch)]) (st := []) hC (t_X6_isHere l D J h a L pl sp nb dn er A K T H S V P ch ch ⟨by omega, by omega⟩ ⟨by omega, by omega⟩ ⟨by omega, by omega⟩ hpl hPv) gX6_takes_X6_isHere rfl 2 (by decide +kernel) ⟨Nat.le_of_ble_eq_true rfl, Nat.le_of_ble_eq_true rfl⟩ ⟨Nat.le_of_ble_eq_true rfl, Nat.le_of_ble_eq_true rfl⟩ [0, 1, 2, 3, 4, 5, 6, 7] [] rfl rfl rfl (by decide) rfl 0 rfl rfl rfl rfl rfl (Nat.le_of_ble_eq_true rfl) dX6_takes_3 (fun _ _ => ?_)
  refine z_ws (ws' := wM J h a L pl sp nb dn er A K T H S V P) rfl ?_
  refine z_st (st' := [.int (iI (mIn (pAt P pl sp) ch ch))]) rfl ?_
  have hat_1 := pAt_at (P := P) (pl := pl) (sp := sp) hpl ⟨by omega, by omega⟩ hPv
  have hmi_2 := mIn_spec (pAt P pl sp) ch ch
  refine z_istore_n (lv' := [(2, .int (iI (mIn (pAt P pl sp) ch ch))), (0, .ref h), (1, .int (iI ch))]) hC dX6_takes_6 rfl (by decide) rfl ?_
  refine z_aload_n hC dX6_takes_7 rfl 1 rfl ?_
  refine z_dup hC dX6_takes_8 rfl ?_
  refine z_geti hC zkX6 iX6_takes_X6 0 rfl 9 (by decide) kX6_takes_1 rfl rfl dX6_takes_9 ?_
  refine z_int (y := iI sp) hC (rfl) ?_
  refine z_iload_n hC dX6_takes_12 rfl 0 rfl ?_
  refine z_if_eq (tgt := 20) hC dX6_takes_13 (by decide) (inR_01 (mIn_01 _ _ _)) (fun c_13_3 => ?_) (fun c_13_3 => ?_)
  · refine z_iconst hC dX6_takes_20 ?_
    refine z_iadd hC dX6_takes_21 ?_
    refine z_puti (ws' := wM J h a L pl (sp + 0) nb dn er A K T H S V P) hC zkX6 iX6_takes_X6 0 rfl 9 (by decide) kX6_takes_1 rfl rfl rfl rfl rfl rfl dX6_takes_22 rfl ?_
    refine z_iload_n hC dX6_takes_25 rfl 0 rfl ?_
    exact z_iret hC hr (nar_bl (mIn_01 _ _ _)) () trivial (hvi (mIn_sk P pl sp ch).symm) (congrArg (fun z => wM J h a L pl z nb dn er A K T H S V P) (by unfold pSk; (repeat' split) <;> omega)) dX6_takes_26
  · refine z_iconst hC dX6_takes_16 ?_
    refine z_goto (tgt := 21) hC dX6_takes_17 (by decide) ?_
    refine z_iadd hC dX6_takes_21 ?_
    refine z_puti (ws' := wM J h a L pl (sp + 1) nb dn er A K T H S V P) hC zkX6 iX6_takes_X6 0 rfl 9 (by decide) kX6_takes_1 rfl rfl rfl rfl rfl rfl dX6_takes_22 rfl ?_
    refine z_iload_n hC dX6_takes_25 rfl 0 rfl ?_
    exact z_iret hC hr (nar_bl (mIn_01 _ _ _)) () trivial (hvi (mIn_sk P pl sp ch).symm) (congrArg (fun z => wM J h a L pl z nb dn er A K T H S V P) (by unfold pSk; (repeat' split) <;> omega)) dX6_takes_26
set_option maxRecDepth 20000 in
theorem iX6_readsNumber_X6 : ∀ w ∈ u_ws RX6 TX6 13, w ∈ wsX6_readsNumber := zm_places _ [13, 14, 15, 16, 17, 18, 19, 20, 21, 22, 23, 24, 25] (by decide +kernel)
theorem kX6_readsNumber_1 : Cond.fieldLink RX6 28 "StepPairsModel" "pad" "[I" ∈ wsX6_readsNumber := List.mem_of_getElem? (i := 1) rfl
theorem kX6_readsNumber_2 : Cond.fieldLink RX6 141 "StepPairsModel" "spot" "I" ∈ wsX6_readsNumber := List.mem_of_getElem? (i := 2) rfl
theorem kX6_readsNumber_3 : Cond.fieldLink RX6 147 "StepPairsModel" "number" "I" ∈ wsX6_readsNumber := List.mem_of_getElem? (i := 3) rfl
abbrev rmX6_readsNumber : Room := { frames := 2, cells := 0, slots := 0, locals := 47 }
set_option maxHeartbeats 4000000 in
set_option maxRecDepth 100000 in
theorem t_X6_readsNumber (l : Launch) (D : va_G) (J : Nat → ClassId) (h : Nat) (a : Nat → Nat) (L pl sp nb dn er : Int) (A K T H S V P : Nat → Int) (hsp : 0 ≤ sp ∧ sp ≤ 80) (hpl : 0 ≤ pl ∧ pl ≤ 80) (hPv : ∀ j, 0 ≤ P j ∧ P j ≤ 126) : ZX l yX6_readsNumber wsX6_readsNumber rmX6_readsNumber D J [.ref h] (wM J h a L pl sp nb dn er A K T H S V P) (some (.int (iI (pNumR P pl sp)))) (wM J h a L pl (pNumP P pl sp) (if pNumR P pl sp = 0 then nb else pNumV P pl sp) dn er A K T H S V P) := by
  refine z_met (cc := cX6_readsNumber) (nL := 1) (ret := (some .boolean)) (own := RX6) (by decide) rfl rfl (Nat.le_of_ble_eq_true rfl) (fun p e s m args below meth c hC hr hin => ?_)
  refine z_lv0 (lv' := [(0, .ref h)]) rfl ?_
  refine z_aload_n hC dX6_readsNumber_0 rfl 0 rfl ?_
  refine z_bipush hC dX6_readsNumber_1 (by decide) ?_
  refine z_bipush hC dX6_readsNumber_3 (by decide) ?_
  refine z_callV (wr := ([] : va_W)) (av := [.int (iI 48), .int (iI 57)]) (st := []) hC (t_X6_isHere l D J h a L pl sp nb dn er A K T H S V P 48 57 ⟨by omega, by omega⟩ ⟨by omega, by omega⟩ ⟨by omega, by omega⟩ hpl hPv) gX6_readsNumber_X6_isHere rfl 2 (by decide +kernel) ⟨Nat.le_of_ble_eq_true rfl, Nat.le_of_ble_eq_true rfl⟩ ⟨Nat.le_of_ble_eq_true rfl, Nat.le_of_ble_eq_true rfl⟩ [0, 1, 2, 3, 4, 5, 6, 7] [] rfl rfl rfl (by decide) rfl 0 rfl rfl rfl rfl rfl (Nat.le_of_ble_eq_true rfl) dX6_readsNumber_5 (fun _ _ => ?_)
  refine z_ws (ws' := wM J h a L pl sp nb dn er A K T H S V P) rfl ?_
  refine z_st (st' := [.int (iI (mIn (pAt P pl sp) 48 57))]) rfl ?_
  have hat_1 := pAt_at (P := P) (pl := pl) (sp := sp) hpl ⟨by omega, by omega⟩ hPv
  have hmi_2 := mIn_spec (pAt P pl sp) 48 57
  refine z_if_ne (tgt := 13) hC dX6_readsNumber_8 (by decide) (inR_01 (mIn_01 _ _ _)) (fun c_8_3 => ?_) (fun c_8_3 => ?_)
  · refine z_aload_n hC dX6_readsNumber_13 rfl 0 rfl ?_
    refine z_aload_n hC dX6_readsNumber_14 rfl 0 rfl ?_
    refine z_getr hC zkX6 iX6_readsNumber_X6 0 rfl 7 (by decide) kX6_readsNumber_1 rfl rfl dX6_readsNumber_15 ?_
    refine z_aload_n hC dX6_readsNumber_18 rfl 0 rfl ?_
    refine z_geti hC zkX6 iX6_readsNumber_X6 0 rfl 9 (by decide) kX6_readsNumber_2 rfl rfl dX6_readsNumber_19 ?_
    refine z_int (y := iI sp) hC (rfl) ?_
    refine z_iald hC 7 rfl 0 rfl (Int.toNat sp) (Int.toNat_of_nonneg (by omega)).symm (by omega) (by decide) dX6_readsNumber_22 ?_
    refine z_bipush hC dX6_readsNumber_23 (by decide) ?_
    refine z_isub hC dX6_readsNumber_25 ?_
    refine z_puti (ws' := wM J h a L pl sp ((P (Int.toNat sp)) - 48) dn er A K T H S V P) hC zkX6 iX6_readsNumber_X6 0 rfl 10 (by decide) kX6_readsNumber_3 rfl rfl rfl rfl rfl rfl dX6_readsNumber_26 rfl ?_
    refine z_aload_n hC dX6_readsNumber_29 rfl 0 rfl ?_
    refine z_dup hC dX6_readsNumber_30 rfl ?_
    refine z_geti hC zkX6 iX6_readsNumber_X6 0 rfl 9 (by decide) kX6_readsNumber_2 rfl rfl dX6_readsNumber_31 ?_
    refine z_int (y := iI sp) hC (rfl) ?_
    refine z_iconst hC dX6_readsNumber_34 ?_
    refine z_iadd hC dX6_readsNumber_35 ?_
    refine z_puti (ws' := wM J h a L pl (sp + 1) ((P (Int.toNat sp)) - 48) dn er A K T H S V P) hC zkX6 iX6_readsNumber_X6 0 rfl 9 (by decide) kX6_readsNumber_2 rfl rfl rfl rfl rfl rfl dX6_readsNumber_36 rfl ?_
    refine z_aload_n hC dX6_readsNumber_39 rfl 0 rfl ?_
    refine z_geti hC zkX6 iX6_readsNumber_X6 0 rfl 10 (by decide) kX6_readsNumber_3 rfl rfl dX6_readsNumber_40 ?_
    refine z_int (y := iI ((P (Int.toNat sp)) - 48)) hC (rfl) ?_
    refine z_if_le (tgt := 120) hC dX6_readsNumber_43 (by decide) (by unfold inR; omega) (fun c_43_4 => ?_) (fun c_43_4 => ?_)
    · refine z_iconst hC dX6_readsNumber_120 ?_
      exact z_iret hC hr rfl () trivial (hvi (by unfold pNumR; (repeat' split) <;> omega)) (congrArg (fun z : Int × Int => wM J h a L pl z.1 z.2 dn er A K T H S V P) (show ((sp + 1, (P (Int.toNat sp)) - 48) : Int × Int) = (pNumP P pl sp, if pNumR P pl sp = 0 then nb else pNumV P pl sp) from Prod.ext (by show _ = pNumP P pl sp; unfold pNumP; (repeat' split) <;> omega) (by show _ = (if pNumR P pl sp = 0 then nb else pNumV P pl sp); unfold pNumR pNumV; (repeat' split) <;> omega))) dX6_readsNumber_121
    · refine z_aload_n hC dX6_readsNumber_46 rfl 0 rfl ?_
      refine z_bipush hC dX6_readsNumber_47 (by decide) ?_
      refine z_bipush hC dX6_readsNumber_49 (by decide) ?_
      refine z_callV (wr := ([] : va_W)) (av := [.int (iI 48), .int (iI 57)]) (st := []) hC (t_X6_isHere l D J h a L pl (sp + 1) ((P (Int.toNat sp)) - 48) dn er A K T H S V P 48 57 ⟨by omega, by omega⟩ ⟨by omega, by omega⟩ ⟨by omega, by omega⟩ hpl hPv) gX6_readsNumber_X6_isHere rfl 2 (by decide +kernel) ⟨Nat.le_of_ble_eq_true rfl, Nat.le_of_ble_eq_true rfl⟩ ⟨Nat.le_of_ble_eq_true rfl, Nat.le_of_ble_eq_true rfl⟩ [0, 1, 2, 3, 4, 5, 6, 7] [] rfl rfl rfl (by decide) rfl 0 rfl rfl rfl rfl rfl (Nat.le_of_ble_eq_true rfl) dX6_readsNumber_51 (fun _ _ => ?_)
      refine z_ws (ws' := wM J h a L pl (sp + 1) ((P (Int.toNat sp)) - 48) dn er A K T H S V P) rfl ?_
      refine z_st (st' := [.int (iI (mIn (pAt P pl (sp + 1)) 48 57))]) rfl ?_
      have hat_5 := pAt_at (P := P) (pl := pl) (sp := sp + 1) hpl ⟨by omega, by omega⟩ hPv
      have hmi_6 := mIn_spec (pAt P pl (sp + 1)) 48 57
      refine z_if_eq (tgt := 120) hC dX6_readsNumber_54 (by decide) (inR_01 (mIn_01 _ _ _)) (fun c_54_7 => ?_) (fun c_54_7 => ?_)
      · refine z_iconst hC dX6_readsNumber_120 ?_
        exact z_iret hC hr rfl () trivial (hvi (by unfold pNumR; (repeat' split) <;> omega)) (congrArg (fun z : Int × Int => wM J h a L pl z.1 z.2 dn er A K T H S V P) (show ((sp + 1, (P (Int.toNat sp)) - 48) : Int × Int) = (pNumP P pl sp, if pNumR P pl sp = 0 then nb else pNumV P pl sp) from Prod.ext (by show _ = pNumP P pl sp; unfold pNumP; (repeat' split) <;> omega) (by show _ = (if pNumR P pl sp = 0 then nb else pNumV P pl sp); unfold pNumR pNumV; (repeat' split) <;> omega))) dX6_readsNumber_121
      · refine z_bipush hC dX6_readsNumber_57 (by decide) ?_
        refine z_aload_n hC dX6_readsNumber_59 rfl 0 rfl ?_
        refine z_geti hC zkX6 iX6_readsNumber_X6 0 rfl 10 (by decide) kX6_readsNumber_3 rfl rfl dX6_readsNumber_60 ?_
        refine z_int (y := iI ((P (Int.toNat sp)) - 48)) hC (rfl) ?_
        refine z_imul hC dX6_readsNumber_63 ?_
        refine z_aload_n hC dX6_readsNumber_64 rfl 0 rfl ?_
        refine z_getr hC zkX6 iX6_readsNumber_X6 0 rfl 7 (by decide) kX6_readsNumber_1 rfl rfl dX6_readsNumber_65 ?_
        refine z_aload_n hC dX6_readsNumber_68 rfl 0 rfl ?_
        refine z_geti hC zkX6 iX6_readsNumber_X6 0 rfl 9 (by decide) kX6_readsNumber_2 rfl rfl dX6_readsNumber_69 ?_
        refine z_int (y := iI (sp + 1)) hC (rfl) ?_
        refine z_iald hC 7 rfl 0 rfl (Int.toNat (sp + 1)) (Int.toNat_of_nonneg (by omega)).symm (by omega) (by decide) dX6_readsNumber_72 ?_
        refine z_iadd hC dX6_readsNumber_73 ?_
        refine z_bipush hC dX6_readsNumber_74 (by decide) ?_
        refine z_isub hC dX6_readsNumber_76 ?_
        refine z_sipush hC dX6_readsNumber_77 (by decide) ?_
        refine z_icmp_gt_f (tgt := 120) hC dX6_readsNumber_80 (by decide) (by unfold inR; omega) ⟨by decide, by decide⟩ (by omega) ?_
        refine z_aload_n hC dX6_readsNumber_83 rfl 0 rfl ?_
        refine z_bipush hC dX6_readsNumber_84 (by decide) ?_
        refine z_aload_n hC dX6_readsNumber_86 rfl 0 rfl ?_
        refine z_geti hC zkX6 iX6_readsNumber_X6 0 rfl 10 (by decide) kX6_readsNumber_3 rfl rfl dX6_readsNumber_87 ?_
        refine z_int (y := iI ((P (Int.toNat sp)) - 48)) hC (rfl) ?_
        refine z_imul hC dX6_readsNumber_90 ?_
        refine z_aload_n hC dX6_readsNumber_91 rfl 0 rfl ?_
        refine z_getr hC zkX6 iX6_readsNumber_X6 0 rfl 7 (by decide) kX6_readsNumber_1 rfl rfl dX6_readsNumber_92 ?_
        refine z_aload_n hC dX6_readsNumber_95 rfl 0 rfl ?_
        refine z_geti hC zkX6 iX6_readsNumber_X6 0 rfl 9 (by decide) kX6_readsNumber_2 rfl rfl dX6_readsNumber_96 ?_
        refine z_int (y := iI (sp + 1)) hC (rfl) ?_
        refine z_iald hC 7 rfl 0 rfl (Int.toNat (sp + 1)) (Int.toNat_of_nonneg (by omega)).symm (by omega) (by decide) dX6_readsNumber_99 ?_
        refine z_iadd hC dX6_readsNumber_100 ?_
        refine z_bipush hC dX6_readsNumber_101 (by decide) ?_
        refine z_isub hC dX6_readsNumber_103 ?_
        refine z_puti (ws' := wM J h a L pl (sp + 1) (((10 * ((P (Int.toNat sp)) - 48)) + (P (Int.toNat (sp + 1)))) - 48) dn er A K T H S V P) hC zkX6 iX6_readsNumber_X6 0 rfl 10 (by decide) kX6_readsNumber_3 rfl rfl rfl rfl rfl rfl dX6_readsNumber_104 rfl ?_
        refine z_aload_n hC dX6_readsNumber_107 rfl 0 rfl ?_
        refine z_dup hC dX6_readsNumber_108 rfl ?_
        refine z_geti hC zkX6 iX6_readsNumber_X6 0 rfl 9 (by decide) kX6_readsNumber_2 rfl rfl dX6_readsNumber_109 ?_
        refine z_int (y := iI (sp + 1)) hC (rfl) ?_
        refine z_iconst hC dX6_readsNumber_112 ?_
        refine z_iadd hC dX6_readsNumber_113 ?_
        refine z_puti (ws' := wM J h a L pl ((sp + 1) + 1) (((10 * ((P (Int.toNat sp)) - 48)) + (P (Int.toNat (sp + 1)))) - 48) dn er A K T H S V P) hC zkX6 iX6_readsNumber_X6 0 rfl 9 (by decide) kX6_readsNumber_2 rfl rfl rfl rfl rfl rfl dX6_readsNumber_114 rfl ?_
        refine z_goto (tgt := 39) hC dX6_readsNumber_117 (by decide) ?_
        refine z_aload_n hC dX6_readsNumber_39 rfl 0 rfl ?_
        refine z_geti hC zkX6 iX6_readsNumber_X6 0 rfl 10 (by decide) kX6_readsNumber_3 rfl rfl dX6_readsNumber_40 ?_
        refine z_int (y := iI (((10 * ((P (Int.toNat sp)) - 48)) + (P (Int.toNat (sp + 1)))) - 48)) hC (rfl) ?_
        refine z_if_le_f (tgt := 120) hC dX6_readsNumber_43 (by decide) (by unfold inR; omega) (by omega) ?_
        refine z_aload_n hC dX6_readsNumber_46 rfl 0 rfl ?_
        refine z_bipush hC dX6_readsNumber_47 (by decide) ?_
        refine z_bipush hC dX6_readsNumber_49 (by decide) ?_
        refine z_callV (wr := ([] : va_W)) (av := [.int (iI 48), .int (iI 57)]) (st := []) hC (t_X6_isHere l D J h a L pl ((sp + 1) + 1) (((10 * ((P (Int.toNat sp)) - 48)) + (P (Int.toNat (sp + 1)))) - 48) dn er A K T H S V P 48 57 ⟨by omega, by omega⟩ ⟨by omega, by omega⟩ ⟨by omega, by omega⟩ hpl hPv) gX6_readsNumber_X6_isHere rfl 2 (by decide +kernel) ⟨Nat.le_of_ble_eq_true rfl, Nat.le_of_ble_eq_true rfl⟩ ⟨Nat.le_of_ble_eq_true rfl, Nat.le_of_ble_eq_true rfl⟩ [0, 1, 2, 3, 4, 5, 6, 7] [] rfl rfl rfl (by decide) rfl 0 rfl rfl rfl rfl rfl (Nat.le_of_ble_eq_true rfl) dX6_readsNumber_51 (fun _ _ => ?_)
        refine z_ws (ws' := wM J h a L pl ((sp + 1) + 1) (((10 * ((P (Int.toNat sp)) - 48)) + (P (Int.toNat (sp + 1)))) - 48) dn er A K T H S V P) rfl ?_
        refine z_st (st' := [.int (iI (mIn (pAt P pl ((sp + 1) + 1)) 48 57))]) rfl ?_
        have hat_8 := pAt_at (P := P) (pl := pl) (sp := (sp + 1) + 1) hpl ⟨by omega, by omega⟩ hPv
        have hmi_9 := mIn_spec (pAt P pl ((sp + 1) + 1)) 48 57
        refine z_if_eq (tgt := 120) hC dX6_readsNumber_54 (by decide) (inR_01 (mIn_01 _ _ _)) (fun c_54_10 => ?_) (fun c_54_10 => ?_)
        · refine z_iconst hC dX6_readsNumber_120 ?_
          exact z_iret hC hr rfl () trivial (hvi (by unfold pNumR; (repeat' split) <;> omega)) (congrArg (fun z : Int × Int => wM J h a L pl z.1 z.2 dn er A K T H S V P) (show (((sp + 1) + 1, ((10 * ((P (Int.toNat sp)) - 48)) + (P (Int.toNat (sp + 1)))) - 48) : Int × Int) = (pNumP P pl sp, if pNumR P pl sp = 0 then nb else pNumV P pl sp) from Prod.ext (by show _ = pNumP P pl sp; unfold pNumP; (repeat' split) <;> omega) (by show _ = (if pNumR P pl sp = 0 then nb else pNumV P pl sp); unfold pNumR pNumV; (repeat' split) <;> omega))) dX6_readsNumber_121
        · refine z_bipush hC dX6_readsNumber_57 (by decide) ?_
          refine z_aload_n hC dX6_readsNumber_59 rfl 0 rfl ?_
          refine z_geti hC zkX6 iX6_readsNumber_X6 0 rfl 10 (by decide) kX6_readsNumber_3 rfl rfl dX6_readsNumber_60 ?_
          refine z_int (y := iI (((10 * ((P (Int.toNat sp)) - 48)) + (P (Int.toNat (sp + 1)))) - 48)) hC (rfl) ?_
          refine z_imul hC dX6_readsNumber_63 ?_
          refine z_aload_n hC dX6_readsNumber_64 rfl 0 rfl ?_
          refine z_getr hC zkX6 iX6_readsNumber_X6 0 rfl 7 (by decide) kX6_readsNumber_1 rfl rfl dX6_readsNumber_65 ?_
          refine z_aload_n hC dX6_readsNumber_68 rfl 0 rfl ?_
          refine z_geti hC zkX6 iX6_readsNumber_X6 0 rfl 9 (by decide) kX6_readsNumber_2 rfl rfl dX6_readsNumber_69 ?_
          refine z_int (y := iI ((sp + 1) + 1)) hC (rfl) ?_
          refine z_iald hC 7 rfl 0 rfl (Int.toNat ((sp + 1) + 1)) (Int.toNat_of_nonneg (by omega)).symm (by omega) (by decide) dX6_readsNumber_72 ?_
          refine z_iadd hC dX6_readsNumber_73 ?_
          refine z_bipush hC dX6_readsNumber_74 (by decide) ?_
          refine z_isub hC dX6_readsNumber_76 ?_
          refine z_sipush hC dX6_readsNumber_77 (by decide) ?_
          refine z_icmp_gt_f (tgt := 120) hC dX6_readsNumber_80 (by decide) (by unfold inR; omega) ⟨by decide, by decide⟩ (by omega) ?_
          refine z_aload_n hC dX6_readsNumber_83 rfl 0 rfl ?_
          refine z_bipush hC dX6_readsNumber_84 (by decide) ?_
          refine z_aload_n hC dX6_readsNumber_86 rfl 0 rfl ?_
          refine z_geti hC zkX6 iX6_readsNumber_X6 0 rfl 10 (by decide) kX6_readsNumber_3 rfl rfl dX6_readsNumber_87 ?_
          refine z_int (y := iI (((10 * ((P (Int.toNat sp)) - 48)) + (P (Int.toNat (sp + 1)))) - 48)) hC (rfl) ?_
          refine z_imul hC dX6_readsNumber_90 ?_
          refine z_aload_n hC dX6_readsNumber_91 rfl 0 rfl ?_
          refine z_getr hC zkX6 iX6_readsNumber_X6 0 rfl 7 (by decide) kX6_readsNumber_1 rfl rfl dX6_readsNumber_92 ?_
          refine z_aload_n hC dX6_readsNumber_95 rfl 0 rfl ?_
          refine z_geti hC zkX6 iX6_readsNumber_X6 0 rfl 9 (by decide) kX6_readsNumber_2 rfl rfl dX6_readsNumber_96 ?_
          refine z_int (y := iI ((sp + 1) + 1)) hC (rfl) ?_
          refine z_iald hC 7 rfl 0 rfl (Int.toNat ((sp + 1) + 1)) (Int.toNat_of_nonneg (by omega)).symm (by omega) (by decide) dX6_readsNumber_99 ?_
          refine z_iadd hC dX6_readsNumber_100 ?_
          refine z_bipush hC dX6_readsNumber_101 (by decide) ?_
          refine z_isub hC dX6_readsNumber_103 ?_
          refine z_puti (ws' := wM J h a L pl ((sp + 1) + 1) (((10 * (((10 * ((P (Int.toNat sp)) - 48)) + (P (Int.toNat (sp + 1)))) - 48)) + (P (Int.toNat ((sp + 1) + 1)))) - 48) dn er A K T H S V P) hC zkX6 iX6_readsNumber_X6 0 rfl 10 (by decide) kX6_readsNumber_3 rfl rfl rfl rfl rfl rfl dX6_readsNumber_104 rfl ?_
          refine z_aload_n hC dX6_readsNumber_107 rfl 0 rfl ?_
          refine z_dup hC dX6_readsNumber_108 rfl ?_
          refine z_geti hC zkX6 iX6_readsNumber_X6 0 rfl 9 (by decide) kX6_readsNumber_2 rfl rfl dX6_readsNumber_109 ?_
          refine z_int (y := iI ((sp + 1) + 1)) hC (rfl) ?_
          refine z_iconst hC dX6_readsNumber_112 ?_
          refine z_iadd hC dX6_readsNumber_113 ?_
          refine z_puti (ws' := wM J h a L pl (((sp + 1) + 1) + 1) (((10 * (((10 * ((P (Int.toNat sp)) - 48)) + (P (Int.toNat (sp + 1)))) - 48)) + (P (Int.toNat ((sp + 1) + 1)))) - 48) dn er A K T H S V P) hC zkX6 iX6_readsNumber_X6 0 rfl 9 (by decide) kX6_readsNumber_2 rfl rfl rfl rfl rfl rfl dX6_readsNumber_114 rfl ?_
          refine z_goto (tgt := 39) hC dX6_readsNumber_117 (by decide) ?_
          refine z_aload_n hC dX6_readsNumber_39 rfl 0 rfl ?_
          refine z_geti hC zkX6 iX6_readsNumber_X6 0 rfl 10 (by decide) kX6_readsNumber_3 rfl rfl dX6_readsNumber_40 ?_
          refine z_int (y := iI (((10 * (((10 * ((P (Int.toNat sp)) - 48)) + (P (Int.toNat (sp + 1)))) - 48)) + (P (Int.toNat ((sp + 1) + 1)))) - 48)) hC (rfl) ?_
          refine z_if_le_f (tgt := 120) hC dX6_readsNumber_43 (by decide) (by unfold inR; omega) (by omega) ?_
          refine z_aload_n hC dX6_readsNumber_46 rfl 0 rfl ?_
          refine z_bipush hC dX6_readsNumber_47 (by decide) ?_
          refine z_bipush hC dX6_readsNumber_49 (by decide) ?_
          refine z_callV (wr := ([] : va_W)) (av := [.int (iI 48), .int (iI 57)]) (st := []) hC (t_X6_isHere l D J h a L pl (((sp + 1) + 1) + 1) (((10 * (((10 * ((P (Int.toNat sp)) - 48)) + (P (Int.toNat (sp + 1)))) - 48)) + (P (Int.toNat ((sp + 1) + 1)))) - 48) dn er A K T H S V P 48 57 ⟨by omega, by omega⟩ ⟨by omega, by omega⟩ ⟨by omega, by omega⟩ hpl hPv) gX6_readsNumber_X6_isHere rfl 2 (by decide +kernel) ⟨Nat.le_of_ble_eq_true rfl, Nat.le_of_ble_eq_true rfl⟩ ⟨Nat.le_of_ble_eq_true rfl, Nat.le_of_ble_eq_true rfl⟩ [0, 1, 2, 3, 4, 5, 6, 7] [] rfl rfl rfl (by decide) rfl 0 rfl rfl rfl rfl rfl (Nat.le_of_ble_eq_true rfl) dX6_readsNumber_51 (fun _ _ => ?_)
          refine z_ws (ws' := wM J h a L pl (((sp + 1) + 1) + 1) (((10 * (((10 * ((P (Int.toNat sp)) - 48)) + (P (Int.toNat (sp + 1)))) - 48)) + (P (Int.toNat ((sp + 1) + 1)))) - 48) dn er A K T H S V P) rfl ?_
          refine z_st (st' := [.int (iI (mIn (pAt P pl (((sp + 1) + 1) + 1)) 48 57))]) rfl ?_
          have hat_11 := pAt_at (P := P) (pl := pl) (sp := ((sp + 1) + 1) + 1) hpl ⟨by omega, by omega⟩ hPv
          have hmi_12 := mIn_spec (pAt P pl (((sp + 1) + 1) + 1)) 48 57
          refine z_if_eq (tgt := 120) hC dX6_readsNumber_54 (by decide) (inR_01 (mIn_01 _ _ _)) (fun c_54_13 => ?_) (fun c_54_13 => ?_)
          · refine z_iconst hC dX6_readsNumber_120 ?_
            exact z_iret hC hr rfl () trivial (hvi (by unfold pNumR; (repeat' split) <;> omega)) (congrArg (fun z : Int × Int => wM J h a L pl z.1 z.2 dn er A K T H S V P) (show ((((sp + 1) + 1) + 1, ((10 * (((10 * ((P (Int.toNat sp)) - 48)) + (P (Int.toNat (sp + 1)))) - 48)) + (P (Int.toNat ((sp + 1) + 1)))) - 48) : Int × Int) = (pNumP P pl sp, if pNumR P pl sp = 0 then nb else pNumV P pl sp) from Prod.ext (by show _ = pNumP P pl sp; unfold pNumP; (repeat' split) <;> omega) (by show _ = (if pNumR P pl sp = 0 then nb else pNumV P pl sp); unfold pNumR pNumV; (repeat' split) <;> omega))) dX6_readsNumber_121
          · refine z_bipush hC dX6_readsNumber_57 (by decide) ?_
            refine z_aload_n hC dX6_readsNumber_59 rfl 0 rfl ?_
            refine z_geti hC zkX6 iX6_readsNumber_X6 0 rfl 10 (by decide) kX6_readsNumber_3 rfl rfl dX6_readsNumber_60 ?_
            refine z_int (y := iI (((10 * (((10 * ((P (Int.toNat sp)) - 48)) + (P (Int.toNat (sp + 1)))) - 48)) + (P (Int.toNat ((sp + 1) + 1)))) - 48)) hC (rfl) ?_
            refine z_imul hC dX6_readsNumber_63 ?_
            refine z_aload_n hC dX6_readsNumber_64 rfl 0 rfl ?_
            refine z_getr hC zkX6 iX6_readsNumber_X6 0 rfl 7 (by decide) kX6_readsNumber_1 rfl rfl dX6_readsNumber_65 ?_
            refine z_aload_n hC dX6_readsNumber_68 rfl 0 rfl ?_
            refine z_geti hC zkX6 iX6_readsNumber_X6 0 rfl 9 (by decide) kX6_readsNumber_2 rfl rfl dX6_readsNumber_69 ?_
            refine z_int (y := iI (((sp + 1) + 1) + 1)) hC (rfl) ?_
            refine z_iald hC 7 rfl 0 rfl (Int.toNat (((sp + 1) + 1) + 1)) (Int.toNat_of_nonneg (by omega)).symm (by omega) (by decide) dX6_readsNumber_72 ?_
            refine z_iadd hC dX6_readsNumber_73 ?_
            refine z_bipush hC dX6_readsNumber_74 (by decide) ?_
            refine z_isub hC dX6_readsNumber_76 ?_
            refine z_sipush hC dX6_readsNumber_77 (by decide) ?_
            refine z_icmp_gt_t (tgt := 120) hC dX6_readsNumber_80 (by decide) (by unfold inR; omega) ⟨by decide, by decide⟩ (by omega) ?_
            refine z_iconst hC dX6_readsNumber_120 ?_
            exact z_iret hC hr rfl () trivial (hvi (by unfold pNumR; (repeat' split) <;> omega)) (congrArg (fun z : Int × Int => wM J h a L pl z.1 z.2 dn er A K T H S V P) (show ((((sp + 1) + 1) + 1, ((10 * (((10 * ((P (Int.toNat sp)) - 48)) + (P (Int.toNat (sp + 1)))) - 48)) + (P (Int.toNat ((sp + 1) + 1)))) - 48) : Int × Int) = (pNumP P pl sp, if pNumR P pl sp = 0 then nb else pNumV P pl sp) from Prod.ext (by show _ = pNumP P pl sp; unfold pNumP; (repeat' split) <;> omega) (by show _ = (if pNumR P pl sp = 0 then nb else pNumV P pl sp); unfold pNumR pNumV; (repeat' split) <;> omega))) dX6_readsNumber_121
  · refine z_iconst hC dX6_readsNumber_11 ?_
    exact z_iret hC hr rfl () trivial (hvi (by unfold pNumR; (repeat' split) <;> omega)) (congrArg (fun z : Int × Int => wM J h a L pl z.1 z.2 dn er A K T H S V P) (show ((sp, nb) : Int × Int) = (pNumP P pl sp, if pNumR P pl sp = 0 then nb else pNumV P pl sp) from Prod.ext (by show _ = pNumP P pl sp; unfold pNumP; (repeat' split) <;> omega) (by show _ = (if pNumR P pl sp = 0 then nb else pNumV P pl sp); unfold pNumR pNumV; (repeat' split) <;> omega))) dX6_readsNumber_12
