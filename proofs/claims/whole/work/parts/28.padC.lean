set_option maxRecDepth 20000 in
theorem iX3_append_X3 : ∀ w ∈ u_ws RX3 TX3 6, w ∈ wsX3_append := zm_places _ [6, 7, 8, 9, 10, 11] (by decide +kernel)
theorem kX3_append_4 : Cond.fieldLink RX3 21 "StepPairs$Pad" "length" "I" ∈ wsX3_append := List.mem_of_getElem? (i := 4) rfl
theorem kX3_append_5 : Cond.fieldLink RX3 9 "StepPairs$Pad" "characters" "[C" ∈ wsX3_append := List.mem_of_getElem? (i := 5) rfl
theorem kX3_append_1 : Cond.constantLong RX3 15 (255) ∈ wsX3_append := List.mem_of_getElem? (i := 1) rfl
theorem kX3_append_2 : Cond.constantLong RX3 17 (33) ∈ wsX3_append := List.mem_of_getElem? (i := 2) rfl
theorem kX3_append_3 : Cond.constantLong RX3 19 (126) ∈ wsX3_append := List.mem_of_getElem? (i := 3) rfl
abbrev rmX3_append : Room := { frames := 0, cells := 0, slots := 0, locals := 0 }
set_option maxHeartbeats 4000000 in
set_option maxRecDepth 100000 in
theorem t_X3_append (l : Launch) (D : va_G) (J : Nat → ClassId) (h k : Nat) (len pos pr ix nm : Int) (C : Nat → Int) (X : Nat) (hX : X < 2 ^ 64) (hl : 0 ≤ len ∧ len ≤ 80) : ZX l yX3_append wsX3_append rmX3_append D J [.ref h, .long (lI (X : Int))] ([cO 2 h [some k, none, none, none, none, none] (padK len pos pr ix nm), cI (J 1) k 80 C]) (some (.int (iI (aR X len)))) (wPad J h k (aLen X len) pos pr ix nm (aC X C len)) := by
  refine z_met (cc := cX3_append) (nL := 8) (ret := (some .int)) (own := RX3) (by decide) rfl rfl (Nat.le_of_ble_eq_true rfl) (fun p e s m args below meth c hC hr hin => ?_)
  refine z_lv0 (lv' := [(0, .ref h), (1, .long (lI (X : Int)))]) rfl ?_
  refine z_iconst hC dX3_append_0 ?_
  refine z_istore_n (lv' := [(3, .int (iI 0)), (0, .ref h), (1, .long (lI (X : Int)))]) hC dX3_append_1 rfl (by decide) rfl ?_
  refine z_join (α := Int) (fun m => m = aScan 8 X 0 ∧ 0 ≤ m ∧ m ≤ 8) (fun m => [cO 2 h [some k, none, none, none, none, none] (padK len pos pr ix nm), cI (J 1) k 80 C]) (fun m => [(3, .int (iI m)), (1, .long (lI (X : Int))), (0, .ref h)]) 60 (fun m => []) (fun m hm => ?_) (fun K_1 => ?_)
  · change Z _ _ _ _ _ _ _ _ _ _ _ _ _ _ _ _ ([cO 2 h [some k, none, none, none, none, none] (padK len pos pr ix nm), cI (J 1) k 80 C]) ([(3, .int (iI m)), (1, .long (lI (X : Int))), (0, .ref h)]) 60 ([])
    obtain ⟨hm1, hm2, hm3⟩ := hm
    refine z_iload_n hC dX3_append_60 rfl 0 rfl ?_
    refine z_if_ne (tgt := 67) hC dX3_append_61 (by decide) (by unfold inR; omega) (fun c_61_2 => ?_) (fun c_61_2 => ?_)
    · refine z_iload_n hC dX3_append_67 rfl 0 rfl ?_
      refine z_bipush hC dX3_append_68 (by decide) ?_
      refine z_aload_n hC dX3_append_70 rfl 2 rfl ?_
      refine z_geti hC zkX3 iX3_append_X3 0 rfl 1 (by decide) kX3_append_4 rfl rfl dX3_append_71 ?_
      refine z_int (y := iI len) hC (rfl) ?_
      refine z_isub hC dX3_append_74 ?_
      refine z_icmp_le (tgt := 81) hC dX3_append_75 (by decide) (by unfold inR; omega) (by unfold inR; omega) (fun c_75_3 => ?_) (fun c_75_3 => ?_)
      · refine z_iload_n hC dX3_append_81 rfl 0 rfl ?_
        refine z_iconst hC dX3_append_82 ?_
        refine z_isub hC dX3_append_83 ?_
        refine z_istore (lv' := [(4, .int (iI (m - 1))), (3, .int (iI m)), (1, .long (lI (X : Int))), (0, .ref h)]) hC dX3_append_84 (by decide) rfl ?_
        refine z_lv (lv' := [(4, .int (iI (m - 1))), (3, .int (iI m)), (1, .long (lI (X : Int))), (0, .ref h)]) [0, 1, 2, 3] rfl ?_
        refine z_lv0 (lv' := [(4, .int (iI (m - 1 - ((0 : Nat) : Int)))), (3, .int (iI m)), (1, .long (lI (X : Int))), (0, .ref h)]) (congrArg (fun z : Int => ([(4, .int (iI z)), (3, .int (iI m)), (1, .long (lI (X : Int))), (0, .ref h)] : List (Nat × Value))) (show m - 1 = m - 1 - ((0 : Nat) : Int) by omega)) ?_
        refine z_ws (ws' := [cO 2 h [some k, none, none, none, none, none] (padK (len + ((0 : Nat) : Int)) pos pr ix nm), cI (J 1) k 80 (aChr X (Int.toNat m) C len 0)]) (by rw [show len + ((0 : Nat) : Int) = len by omega]; rfl) ?_
        refine z_loop (α := Nat) (fun nn j => (j : Int) + (nn : Int) = m) (fun nn j => [cO 2 h [some k, none, none, none, none, none] (padK (len + (j : Int)) pos pr ix nm), cI (J 1) k 80 (aChr X (Int.toNat m) C len j)]) (fun nn j => [(4, .int (iI (m - 1 - (j : Int)))), (3, .int (iI m)), (1, .long (lI (X : Int))), (0, .ref h)]) 86 [] (fun nn j ih_4 hP_5 => ?_) (fun j hP_5 => ?_) (Int.toNat m) 0 (by show ((0 : Nat) : Int) + _ = _; omega)
        · change Z _ _ _ _ _ _ _ _ _ _ _ _ _ _ _ _ ([cO 2 h [some k, none, none, none, none, none] (padK (len + (j : Int)) pos pr ix nm), cI (J 1) k 80 (aChr X (Int.toNat m) C len j)]) ([(4, .int (iI (m - 1 - (j : Int)))), (3, .int (iI m)), (1, .long (lI (X : Int))), (0, .ref h)]) 86 ([])
          refine z_iload hC dX3_append_86 0 rfl ?_
          refine z_if_lt_f (tgt := 145) hC dX3_append_88 (by decide) (by unfold inR; omega) (by omega) ?_
          refine z_aload_n hC dX3_append_91 rfl 3 rfl ?_
          refine z_geti hC zkX3 iX3_append_X3 0 rfl 1 (by decide) kX3_append_4 rfl rfl dX3_append_92 ?_
          refine z_int (y := iI (len + (j : Int))) hC (rfl) ?_
          refine z_if_lt_f (tgt := 139) hC dX3_append_95 (by decide) (by unfold inR; omega) (by omega) ?_
          refine z_aload_n hC dX3_append_98 rfl 3 rfl ?_
          refine z_geti hC zkX3 iX3_append_X3 0 rfl 1 (by decide) kX3_append_4 rfl rfl dX3_append_99 ?_
          refine z_int (y := iI (len + (j : Int))) hC (rfl) ?_
          refine z_bipush hC dX3_append_102 (by decide) ?_
          refine z_icmp_ge_f (tgt := 139) hC dX3_append_104 (by decide) (by unfold inR; omega) ⟨by decide, by decide⟩ (by omega) ?_
          refine z_aload_n hC dX3_append_107 rfl 3 rfl ?_
          refine z_getr hC zkX3 iX3_append_X3 0 rfl 0 (by decide) kX3_append_5 rfl rfl dX3_append_108 ?_
          refine z_aload_n hC dX3_append_111 rfl 3 rfl ?_
          refine z_geti hC zkX3 iX3_append_X3 0 rfl 1 (by decide) kX3_append_4 rfl rfl dX3_append_112 ?_
          refine z_int (y := iI (len + (j : Int))) hC (rfl) ?_
          refine z_lload_n hC dX3_append_115 rfl 2 rfl ?_
          refine z_bipush hC dX3_append_116 (by decide) ?_
          refine z_iload hC dX3_append_118 0 rfl ?_
          refine z_imul hC dX3_append_120 ?_
          refine z_int (y := iI ((8 * (Int.toNat m - 1 - j) : Nat) : Int)) hC (congrArg iI (by omega)) ?_
          refine z_lushr (v := lI ((X / 2 ^ (8 * (Int.toNat m - 1 - j)) : Nat) : Int)) hC dX3_append_121 (l_shr (k := 8 * (Int.toNat m - 1 - j)) hX (by omega)) ?_
          refine z_ldc2 hC kX3_append_1 dX3_append_122 ?_
          refine z_long (y := lI 255) hC (by decide) ?_
          refine z_land (v := lI (((X / 2 ^ (8 * (Int.toNat m - 1 - j))) % 256 : Nat) : Int)) hC dX3_append_125 (l_and255 (div64 hX _)) ?_
          refine z_l2i (v := iI (((X / 2 ^ (8 * (Int.toNat m - 1 - j))) % 256 : Nat) : Int)) hC dX3_append_126 (l_l2i _) ?_
          refine z_i2c (v := iI (((X / 2 ^ (8 * (Int.toNat m - 1 - j))) % 256 : Nat) : Int)) hC dX3_append_127 (l_i2c ⟨by omega, by omega⟩) ?_
          refine z_cast (ws' := [cO 2 h [some k, none, none, none, none, none] (padK (len + (j : Int)) pos pr ix nm), cI (J 1) k 80 (updZ (aChr X (Int.toNat m) C len j) (Int.toNat (len + (j : Int))) (((X / 2 ^ (8 * (Int.toNat m - 1 - j))) % 256 : Nat) : Int))]) hC 1 rfl 1 rfl (Int.toNat (len + (j : Int))) (Int.toNat_of_nonneg (by omega)).symm (by omega) (by decide) (vnar_char ⟨by omega, by omega⟩) dX3_append_128 rfl ?_
          refine z_aload_n hC dX3_append_129 rfl 3 rfl ?_
          refine z_dup hC dX3_append_130 rfl ?_
          refine z_geti hC zkX3 iX3_append_X3 0 rfl 1 (by decide) kX3_append_4 rfl rfl dX3_append_131 ?_
          refine z_int (y := iI (len + (j : Int))) hC (rfl) ?_
          refine z_iconst hC dX3_append_134 ?_
          refine z_iadd hC dX3_append_135 ?_
          refine z_puti (ws' := [cO 2 h [some k, none, none, none, none, none] (padK ((len + (j : Int)) + 1) pos pr ix nm), cI (J 1) k 80 (updZ (aChr X (Int.toNat m) C len j) (Int.toNat (len + (j : Int))) (((X / 2 ^ (8 * (Int.toNat m - 1 - j))) % 256 : Nat) : Int))]) hC zkX3 iX3_append_X3 0 rfl 1 (by decide) kX3_append_4 rfl rfl rfl rfl rfl rfl dX3_append_136 rfl ?_
          refine z_iinc (lv' := [(4, .int (iI ((m - 1 - (j : Int)) + (-1)))), (3, .int (iI m)), (1, .long (lI (X : Int))), (0, .ref h)]) hC dX3_append_139 0 rfl (by decide) rfl ?_
          refine z_goto (tgt := 86) hC dX3_append_142 (by decide) ?_
          refine z_lv0 (lv' := [(4, .int (iI (m - 1 - ((j + 1 : Nat) : Int)))), (3, .int (iI m)), (1, .long (lI (X : Int))), (0, .ref h)]) (congrArg (fun z : Int => ([(4, .int (iI z)), (3, .int (iI m)), (1, .long (lI (X : Int))), (0, .ref h)] : List (Nat × Value))) (show (m - 1 - (j : Int)) + (-1) = m - 1 - ((j + 1 : Nat) : Int) by omega)) ?_
          refine z_ws (ws' := [cO 2 h [some k, none, none, none, none, none] (padK (len + ((j + 1 : Nat) : Int)) pos pr ix nm), cI (J 1) k 80 (aChr X (Int.toNat m) C len (j + 1))]) (by rw [show len + (j : Int) + 1 = len + ((j + 1 : Nat) : Int) by omega]; rfl) ?_
          refine z_lv (lv' := _) [0, 1, 2, 3] rfl ?_
          exact ih_4 (j + 1) (by omega)
        · change Z _ _ _ _ _ _ _ _ _ _ _ _ _ _ _ _ ([cO 2 h [some k, none, none, none, none, none] (padK (len + (j : Int)) pos pr ix nm), cI (J 1) k 80 (aChr X (Int.toNat m) C len j)]) ([(4, .int (iI (m - 1 - (j : Int)))), (3, .int (iI m)), (1, .long (lI (X : Int))), (0, .ref h)]) 86 ([])
          have hj : j = Int.toNat m := by omega
          refine z_iload hC dX3_append_86 0 rfl ?_
          refine z_if_lt_t (tgt := 145) hC dX3_append_88 (by decide) (by unfold inR; omega) (by omega) ?_
          refine z_aload_n hC dX3_append_145 rfl 3 rfl ?_
          refine z_geti hC zkX3 iX3_append_X3 0 rfl 1 (by decide) kX3_append_4 rfl rfl dX3_append_146 ?_
          refine z_int (y := iI (len + (j : Int))) hC (rfl) ?_
          exact z_iret hC hr rfl () trivial (hvi (by have hok : aOk X len = 0 := (by unfold aOk; rw [if_neg (by omega), if_neg (by omega), if_pos (by omega)]); subst hj; simp only [aR, hok]; rw [← hm1]; (try simp only [if_true]); omega)) (congrArg (fun z : Int × (Nat → Int) => wPad J h k z.1 pos pr ix nm z.2) (show ((len + (j : Int), (aChr X (Int.toNat m) C len j)) : Int × (Nat → Int)) = (aLen X len, aC X C len) from (by have hok : aOk X len = 0 := (by unfold aOk; rw [if_neg (by omega), if_neg (by omega), if_pos (by omega)]); subst hj; simp only [aLen, aC, hok]; rw [← hm1]; (try simp only [if_true]); (rw [show ((Int.toNat m : Nat) : Int) = m by omega])))) dX3_append_149
      · refine z_bipush hC dX3_append_78 (by decide) ?_
        exact z_iret hC hr rfl () trivial (hvi (by have hok : aOk X len = -4 := (by unfold aOk; rw [if_neg (by omega), if_neg (by omega), if_neg (by omega)]); simp only [aR, hok]; rfl)) (congrArg (fun z : Int × (Nat → Int) => wPad J h k z.1 pos pr ix nm z.2) (show ((len, C) : Int × (Nat → Int)) = (aLen X len, aC X C len) from (by have hok : aOk X len = -4 := (by unfold aOk; rw [if_neg (by omega), if_neg (by omega), if_neg (by omega)]); simp only [aLen, aC, hok]; rfl))) dX3_append_80
    · refine z_bipush hC dX3_append_64 (by decide) ?_
      exact z_iret hC hr rfl () trivial (hvi (by have hok : aOk X len = -2 := (by unfold aOk; rw [if_neg (by omega), if_pos (by omega)]); simp only [aR, hok]; rfl)) (congrArg (fun z : Int × (Nat → Int) => wPad J h k z.1 pos pr ix nm z.2) (show ((len, C) : Int × (Nat → Int)) = (aLen X len, aC X C len) from (by have hok : aOk X len = -2 := (by unfold aOk; rw [if_neg (by omega), if_pos (by omega)]); simp only [aLen, aC, hok]; rfl))) dX3_append_66
  · skip
    refine z_lload_n hC dX3_append_2 rfl 2 rfl ?_
    refine z_lstore (lv' := [(4, .long (lI (X : Int))), (3, .int (iI 0)), (0, .ref h), (1, .long (lI (X : Int)))]) hC dX3_append_3 (by decide) rfl ?_
    refine z_lv (lv' := [(4, .long (lI (X : Int))), (3, .int (iI 0)), (1, .long (lI (X : Int))), (0, .ref h)]) [0, 1, 3, 2] rfl ?_
    refine z_loop (α := Nat × Nat) (fun nn v => (v.1 : Int) + (nn : Int) = 8 ∧ v.2 < 2 ^ 64 ∧ aScan nn v.2 v.1 = aScan 8 X 0) (fun nn v => [cO 2 h [some k, none, none, none, none, none] (padK len pos pr ix nm), cI (J 1) k 80 C]) (fun nn v => [(4, .long (lI (v.2 : Int))), (3, .int (iI (v.1 : Int))), (1, .long (lI (X : Int))), (0, .ref h)]) 5 [] (fun nn v ih_6 hP_7 => ?_) (fun v hP_7 => ?_) 8 (0, X) ⟨by show ((0 : Nat) : Int) + ((8 : Nat) : Int) = 8; omega, hX, rfl⟩
    · change Z _ _ _ _ _ _ _ _ _ _ _ _ _ _ _ _ ([cO 2 h [some k, none, none, none, none, none] (padK len pos pr ix nm), cI (J 1) k 80 C]) ([(4, .long (lI (v.2 : Int))), (3, .int (iI (v.1 : Int))), (1, .long (lI (X : Int))), (0, .ref h)]) 5 ([])
      obtain ⟨hv1, hv2, hv3⟩ := hP_7
      refine z_lload hC dX3_append_5 0 rfl ?_
      refine z_lconst (v := lI 0) hC dX3_append_7 (by decide) ?_
      refine z_lcmp (v := sgn0 v.2) hC dX3_append_8 (l_cmp0 hv2) ?_
      have hsg_8 := sgn0_spec v.2
      refine z_if_eq (tgt := 60) hC dX3_append_9 (by decide) (inR_sgn0 _) (fun c_9_9 => ?_) (fun c_9_9 => ?_)
      · refine z_lv (lv' := _) [1, 2, 3] rfl ?_
        exact K_1 (v.1 : Int) (by refine ⟨?_, by omega, by omega⟩; first | exact hv3 | (rw [← hv3, aScan_s, if_pos (by omega)]))
      · refine z_iload_n hC dX3_append_12 rfl 1 rfl ?_
        refine z_bipush hC dX3_append_13 (by decide) ?_
        refine z_icmp_ge_f (tgt := 60) hC dX3_append_15 (by decide) (by unfold inR; omega) ⟨by decide, by decide⟩ (by omega) ?_
        refine z_lload hC dX3_append_18 0 rfl ?_
        refine z_ldc2 hC kX3_append_1 dX3_append_20 ?_
        refine z_long (y := lI 255) hC (by decide) ?_
        refine z_land (v := lI ((v.2 % 256 : Nat) : Int)) hC dX3_append_23 (l_and255 hv2) ?_
        refine z_lstore (lv' := [(6, .long (lI ((v.2 % 256 : Nat) : Int))), (4, .long (lI (v.2 : Int))), (3, .int (iI (v.1 : Int))), (1, .long (lI (X : Int))), (0, .ref h)]) hC dX3_append_24 (by decide) rfl ?_
        refine z_lload hC dX3_append_26 0 rfl ?_
        refine z_ldc2 hC kX3_append_2 dX3_append_28 ?_
        refine z_long (y := lI 33) hC (by decide) ?_
        refine z_lcmp (v := sgnZ ((v.2 % 256 : Nat) : Int) 33) hC dX3_append_31 (l_cmp (by unfold inL; omega) (by unfold inL; omega)) ?_
        have hsg_10 := sgnZ_spec ((v.2 % 256 : Nat) : Int) 33
        refine z_if_lt (tgt := 44) hC dX3_append_32 (by decide) (inR_sgn _ _) (fun c_32_11 => ?_) (fun c_32_11 => ?_)
        · refine z_bipush hC dX3_append_44 (by decide) ?_
          exact z_iret hC hr rfl () trivial (hvi (by have hok : aOk X len = -2 := (by unfold aOk; rw [if_pos (by rw [← hv3, aScan_s]; (repeat' split) <;> first | rfl | omega)]); simp only [aR, hok]; rfl)) (congrArg (fun z : Int × (Nat → Int) => wPad J h k z.1 pos pr ix nm z.2) (show ((len, C) : Int × (Nat → Int)) = (aLen X len, aC X C len) from (by have hok : aOk X len = -2 := (by unfold aOk; rw [if_pos (by rw [← hv3, aScan_s]; (repeat' split) <;> first | rfl | omega)]); simp only [aLen, aC, hok]; rfl))) dX3_append_46
        · refine z_lload hC dX3_append_35 0 rfl ?_
          refine z_ldc2 hC kX3_append_3 dX3_append_37 ?_
          refine z_long (y := lI 126) hC (by decide) ?_
          refine z_lcmp (v := sgnZ ((v.2 % 256 : Nat) : Int) 126) hC dX3_append_40 (l_cmp (by unfold inL; omega) (by unfold inL; omega)) ?_
          have hsg_12 := sgnZ_spec ((v.2 % 256 : Nat) : Int) 126
          refine z_if_le (tgt := 47) hC dX3_append_41 (by decide) (inR_sgn _ _) (fun c_41_13 => ?_) (fun c_41_13 => ?_)
          · refine z_iinc (lv' := [(3, .int (iI ((v.1 : Int) + 1))), (6, .long (lI ((v.2 % 256 : Nat) : Int))), (4, .long (lI (v.2 : Int))), (1, .long (lI (X : Int))), (0, .ref h)]) hC dX3_append_47 2 rfl (by decide) rfl ?_
            refine z_lload hC dX3_append_50 2 rfl ?_
            refine z_bipush hC dX3_append_52 (by decide) ?_
            refine z_lushr (v := lI ((v.2 / 2 ^ 8 : Nat) : Int)) hC dX3_append_54 (l_shr (k := 8) hv2 (by omega)) ?_
            refine z_lstore (lv' := [(4, .long (lI ((v.2 / 2 ^ 8 : Nat) : Int))), (3, .int (iI ((v.1 : Int) + 1))), (6, .long (lI ((v.2 % 256 : Nat) : Int))), (1, .long (lI (X : Int))), (0, .ref h)]) hC dX3_append_55 (by decide) rfl ?_
            refine z_goto (tgt := 5) hC dX3_append_57 (by decide) ?_
            refine z_lv (lv' := _) [0, 1, 3, 4] rfl ?_
            exact ih_6 (v.1 + 1, v.2 / 2 ^ 8) ⟨by show ((v.1 + 1 : Nat) : Int) + _ = _; omega, div64 hv2 8, by rw [← hv3, aScan_s, if_neg (by omega), if_neg (by omega), if_neg (by omega)]; rfl⟩
          · refine z_bipush hC dX3_append_44 (by decide) ?_
            exact z_iret hC hr rfl () trivial (hvi (by have hok : aOk X len = -2 := (by unfold aOk; rw [if_pos (by rw [← hv3, aScan_s]; (repeat' split) <;> first | rfl | omega)]); simp only [aR, hok]; rfl)) (congrArg (fun z : Int × (Nat → Int) => wPad J h k z.1 pos pr ix nm z.2) (show ((len, C) : Int × (Nat → Int)) = (aLen X len, aC X C len) from (by have hok : aOk X len = -2 := (by unfold aOk; rw [if_pos (by rw [← hv3, aScan_s]; (repeat' split) <;> first | rfl | omega)]); simp only [aLen, aC, hok]; rfl))) dX3_append_46
    · change Z _ _ _ _ _ _ _ _ _ _ _ _ _ _ _ _ ([cO 2 h [some k, none, none, none, none, none] (padK len pos pr ix nm), cI (J 1) k 80 C]) ([(4, .long (lI (v.2 : Int))), (3, .int (iI (v.1 : Int))), (1, .long (lI (X : Int))), (0, .ref h)]) 5 ([])
      obtain ⟨hv1, hv2, hv3⟩ := hP_7
      refine z_lload hC dX3_append_5 0 rfl ?_
      refine z_lconst (v := lI 0) hC dX3_append_7 (by decide) ?_
      refine z_lcmp (v := sgn0 v.2) hC dX3_append_8 (l_cmp0 hv2) ?_
      have hsg_14 := sgn0_spec v.2
      refine z_if_eq (tgt := 60) hC dX3_append_9 (by decide) (inR_sgn0 _) (fun c_9_15 => ?_) (fun c_9_15 => ?_)
      · refine z_lv (lv' := _) [1, 2, 3] rfl ?_
        exact K_1 (v.1 : Int) (by refine ⟨?_, by omega, by omega⟩; first | exact hv3 | (rw [← hv3, aScan_s, if_pos (by omega)]))
      · refine z_iload_n hC dX3_append_12 rfl 1 rfl ?_
        refine z_bipush hC dX3_append_13 (by decide) ?_
        refine z_icmp_ge_t (tgt := 60) hC dX3_append_15 (by decide) (by unfold inR; omega) ⟨by decide, by decide⟩ (by omega) ?_
        refine z_lv (lv' := _) [1, 2, 3] rfl ?_
        exact K_1 (v.1 : Int) (by refine ⟨?_, by omega, by omega⟩; first | exact hv3 | (rw [← hv3, aScan_s, if_pos (by omega)]))
