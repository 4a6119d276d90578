set_option maxRecDepth 20000 in
theorem iX6_put_X6 : ∀ w ∈ u_ws RX6 TX6 13, w ∈ wsX6_put := zm_places _ [10, 11, 12, 13, 14, 15, 16, 17, 18, 19, 20, 21, 22] (by decide +kernel)
theorem kX6_put_4 : Cond.fieldLink RX6 109 "StepPairsModel" "padLong" "I" ∈ wsX6_put := List.mem_of_getElem? (i := 4) rfl
theorem kX6_put_5 : Cond.fieldLink RX6 28 "StepPairsModel" "pad" "[I" ∈ wsX6_put := List.mem_of_getElem? (i := 5) rfl
theorem kX6_put_1 : Cond.constantLong RX6 135 (255) ∈ wsX6_put := List.mem_of_getElem? (i := 1) rfl
theorem kX6_put_2 : Cond.constantLong RX6 137 (33) ∈ wsX6_put := List.mem_of_getElem? (i := 2) rfl
theorem kX6_put_3 : Cond.constantLong RX6 139 (126) ∈ wsX6_put := List.mem_of_getElem? (i := 3) rfl
abbrev rmX6_put : Room := { frames := 1, cells := 0, slots := 0, locals := 25 }
set_option maxHeartbeats 4000000 in
set_option maxRecDepth 100000 in
theorem t_X6_put (l : Launch) (D : va_G) (J : Nat → ClassId) (h : Nat) (a : Nat → Nat) (L pl sp nb dn er : Int) (A K T H S V P : Nat → Int) (X : Nat) (hX : X < 2 ^ 64) (hpl : 0 ≤ pl ∧ pl ≤ 80) : ZX l yX6_put wsX6_put rmX6_put D J [.ref h, .long (lI (X : Int))] (wM J h a L pl sp nb dn er A K T H S V P) (some (.int (iI (mPutR X pl)))) (wM J h a L (mPutL X pl) sp nb dn er A K T H S V (mPutP X P pl)) := by
  refine z_met (cc := cX6_put) (nL := 8) (ret := (some .int)) (own := RX6) (by decide) rfl rfl (Nat.le_of_ble_eq_true rfl) (fun p e s m args below meth c hC hr hin => ?_)
  refine z_lv0 (lv' := [(0, .ref h), (1, .long (lI (X : Int)))]) rfl ?_
  refine z_iconst hC dX6_put_0 ?_
  refine z_istore_n (lv' := [(3, .int (iI 0)), (0, .ref h), (1, .long (lI (X : Int)))]) hC dX6_put_1 rfl (by decide) rfl ?_
  refine z_join (α := Int × Nat × Int) (fun u => u = mSc 8 X 0 1 ∧ (0 ≤ u.1 ∧ u.1 ≤ 8) ∧ u.2.1 < 2 ^ 64 ∧ (u.2.2 = 0 ∨ u.2.2 = 1)) (fun u => wM J h a L pl sp nb dn er A K T H S V P) (fun u => [(5, .long (lI (u.2.1 : Int))), (4, .int (iI u.2.2)), (3, .int (iI u.1)), (1, .long (lI (X : Int))), (0, .ref h)]) 68 (fun u => []) (fun u hu => ?_) (fun K_1 => ?_)
  · change Z _ _ _ _ _ _ _ _ _ _ _ _ _ _ _ _ (wM J h a L pl sp nb dn er A K T H S V P) ([(5, .long (lI (u.2.1 : Int))), (4, .int (iI u.2.2)), (3, .int (iI u.1)), (1, .long (lI (X : Int))), (0, .ref h)]) 68 ([])
    obtain ⟨hu1, hu2, hu3, hu4⟩ := hu
    refine z_iload_n hC dX6_put_68 rfl 2 rfl ?_
    refine z_if_eq (tgt := 84) hC dX6_put_69 (by decide) (by unfold inR; omega) (fun c_69_2 => ?_) (fun c_69_2 => ?_)
    · refine z_bipush hC dX6_put_84 (by decide) ?_
      exact z_iret hC hr rfl () trivial (hvi (by have hok : mPutOk X pl = -2 := (by unfold mPutOk; rw [← hu1]; (repeat' split) <;> first | rfl | omega); unfold mPutR; rw [hok]; rfl)) (by have hok : mPutOk X pl = -2 := (by unfold mPutOk; rw [← hu1]; (repeat' split) <;> first | rfl | omega); unfold mPutL mPutP; simp only [hok]; rfl) dX6_put_86
    · refine z_lload hC dX6_put_72 0 rfl ?_
      refine z_lconst (v := lI 0) hC dX6_put_74 (by decide) ?_
      refine z_lcmp (v := sgn0 u.2.1) hC dX6_put_75 (l_cmp0 hu3) ?_
      have hsg_3 := sgn0_spec u.2.1
      refine z_if_ne (tgt := 84) hC dX6_put_76 (by decide) (inR_sgn0 _) (fun c_76_4 => ?_) (fun c_76_4 => ?_)
      · refine z_bipush hC dX6_put_84 (by decide) ?_
        exact z_iret hC hr rfl () trivial (hvi (by have hok : mPutOk X pl = -2 := (by unfold mPutOk; rw [← hu1]; (repeat' split) <;> first | rfl | omega); unfold mPutR; rw [hok]; rfl)) (by have hok : mPutOk X pl = -2 := (by unfold mPutOk; rw [← hu1]; (repeat' split) <;> first | rfl | omega); unfold mPutL mPutP; simp only [hok]; rfl) dX6_put_86
      · refine z_iload hC dX6_put_79 1 rfl ?_
        refine z_if_ne (tgt := 87) hC dX6_put_81 (by decide) (by unfold inR; omega) (fun c_81_5 => ?_) (fun c_81_5 => ?_)
        · refine z_aload_n hC dX6_put_87 rfl 4 rfl ?_
          refine z_geti hC zkX6 iX6_put_X6 0 rfl 8 (by decide) kX6_put_4 rfl rfl dX6_put_88 ?_
          refine z_int (y := iI pl) hC (rfl) ?_
          refine z_iload_n hC dX6_put_91 rfl 2 rfl ?_
          refine z_iadd hC dX6_put_92 ?_
          refine z_bipush hC dX6_put_93 (by decide) ?_
          refine z_icmp_le (tgt := 101) hC dX6_put_95 (by decide) (by unfold inR; omega) ⟨by decide, by decide⟩ (fun c_95_6 => ?_) (fun c_95_6 => ?_)
          · refine z_iload_n hC dX6_put_101 rfl 2 rfl ?_
            refine z_iconst hC dX6_put_102 ?_
            refine z_isub hC dX6_put_103 ?_
            refine z_istore (lv' := [(7, .int (iI (u.1 - 1))), (5, .long (lI (u.2.1 : Int))), (4, .int (iI u.2.2)), (3, .int (iI u.1)), (1, .long (lI (X : Int))), (0, .ref h)]) hC dX6_put_104 (by decide) rfl ?_
            refine z_lv (lv' := [(7, .int (iI (u.1 - 1))), (5, .long (lI (u.2.1 : Int))), (4, .int (iI u.2.2)), (3, .int (iI u.1)), (1, .long (lI (X : Int))), (0, .ref h)]) [0, 1, 2, 3, 4, 5] rfl ?_
            refine z_lv0 (lv' := [(7, .int (iI (u.1 - 1 - ((0 : Nat) : Int)))), (5, .long (lI (u.2.1 : Int))), (4, .int (iI u.2.2)), (3, .int (iI u.1)), (1, .long (lI (X : Int))), (0, .ref h)]) (by rw [show u.1 - 1 - ((0 : Nat) : Int) = u.1 - 1 by omega]) ?_
            refine z_ws (ws' := wM J h a L (pl + ((0 : Nat) : Int)) sp nb dn er A K T H S V (aChr X (Int.toNat u.1) P pl 0)) (by rw [show pl + ((0 : Nat) : Int) = pl by omega]; rfl) ?_
            refine z_loop (α := Nat) (fun nn j => (j : Int) + (nn : Int) = u.1) (fun nn j => wM J h a L (pl + (j : Int)) sp nb dn er A K T H S V (aChr X (Int.toNat u.1) P pl j)) (fun nn j => [(7, .int (iI (u.1 - 1 - (j : Int)))), (5, .long (lI (u.2.1 : Int))), (4, .int (iI u.2.2)), (3, .int (iI u.1)), (1, .long (lI (X : Int))), (0, .ref h)]) 106 [] (fun nn j ih_7 hP_8 => ?_) (fun j hP_8 => ?_) (Int.toNat u.1) 0 (by show ((0 : Nat) : Int) + _ = _; omega)
            · change Z _ _ _ _ _ _ _ _ _ _ _ _ _ _ _ _ (wM J h a L (pl + (j : Int)) sp nb dn er A K T H S V (aChr X (Int.toNat u.1) P pl j)) ([(7, .int (iI (u.1 - 1 - (j : Int)))), (5, .long (lI (u.2.1 : Int))), (4, .int (iI u.2.2)), (3, .int (iI u.1)), (1, .long (lI (X : Int))), (0, .ref h)]) 106 ([])
              refine z_iload hC dX6_put_106 0 rfl ?_
              refine z_if_lt_f (tgt := 148) hC dX6_put_108 (by decide) (by unfold inR; omega) (by omega) ?_
              refine z_aload_n hC dX6_put_111 rfl 5 rfl ?_
              refine z_getr hC zkX6 iX6_put_X6 0 rfl 7 (by decide) kX6_put_5 rfl rfl dX6_put_112 ?_
              refine z_aload_n hC dX6_put_115 rfl 5 rfl ?_
              refine z_geti hC zkX6 iX6_put_X6 0 rfl 8 (by decide) kX6_put_4 rfl rfl dX6_put_116 ?_
              refine z_int (y := iI (pl + (j : Int))) hC (rfl) ?_
              refine z_lload_n hC dX6_put_119 rfl 4 rfl ?_
              refine z_bipush hC dX6_put_120 (by decide) ?_
              refine z_iload hC dX6_put_122 0 rfl ?_
              refine z_imul hC dX6_put_124 ?_
              refine z_int (y := iI ((8 * (Int.toNat u.1 - 1 - j) : Nat) : Int)) hC (congrArg iI (by omega)) ?_
              refine z_lushr (v := lI ((X / 2 ^ (8 * (Int.toNat u.1 - 1 - j)) : Nat) : Int)) hC dX6_put_125 (l_shr (k := 8 * (Int.toNat u.1 - 1 - j)) hX (by omega)) ?_
              refine z_ldc2 hC kX6_put_1 dX6_put_126 ?_
              refine z_long (y := lI 255) hC (by decide) ?_
              refine z_land (v := lI (((X / 2 ^ (8 * (Int.toNat u.1 - 1 - j))) % 256 : Nat) : Int)) hC dX6_put_129 (l_and255 (div64 hX _)) ?_
              refine z_l2i (v := iI (((X / 2 ^ (8 * (Int.toNat u.1 - 1 - j))) % 256 : Nat) : Int)) hC dX6_put_130 (l_l2i _) ?_
              refine z_iast (ws' := wM J h a L (pl + (j : Int)) sp nb dn er A K T H S V (updZ (aChr X (Int.toNat u.1) P pl j) (Int.toNat (pl + (j : Int))) (((X / 2 ^ (8 * (Int.toNat u.1 - 1 - j))) % 256 : Nat) : Int))) hC 7 rfl 0 rfl (Int.toNat (pl + (j : Int))) (Int.toNat_of_nonneg (by omega)).symm (by omega) (by decide) dX6_put_131 rfl ?_
              refine z_aload_n hC dX6_put_132 rfl 5 rfl ?_
              refine z_dup hC dX6_put_133 rfl ?_
              refine z_geti hC zkX6 iX6_put_X6 0 rfl 8 (by decide) kX6_put_4 rfl rfl dX6_put_134 ?_
              refine z_int (y := iI (pl + (j : Int))) hC (rfl) ?_
              refine z_iconst hC dX6_put_137 ?_
              refine z_iadd hC dX6_put_138 ?_
              refine z_puti (ws' := wM J h a L ((pl + (j : Int)) + 1) sp nb dn er A K T H S V (updZ (aChr X (Int.toNat u.1) P pl j) (Int.toNat (pl + (j : Int))) (((X / 2 ^ (8 * (Int.toNat u.1 - 1 - j))) % 256 : Nat) : Int))) hC zkX6 iX6_put_X6 0 rfl 8 (by decide) kX6_put_4 rfl rfl rfl rfl rfl rfl dX6_put_139 rfl ?_
              refine z_iinc (lv' := [(7, .int (iI ((u.1 - 1 - (j : Int)) + (-1)))), (5, .long (lI (u.2.1 : Int))), (4, .int (iI u.2.2)), (3, .int (iI u.1)), (1, .long (lI (X : Int))), (0, .ref h)]) hC dX6_put_142 0 rfl (by decide) rfl ?_
              refine z_goto (tgt := 106) hC dX6_put_145 (by decide) ?_
              refine z_lv0 (lv' := [(7, .int (iI (u.1 - 1 - ((j + 1 : Nat) : Int)))), (5, .long (lI (u.2.1 : Int))), (4, .int (iI u.2.2)), (3, .int (iI u.1)), (1, .long (lI (X : Int))), (0, .ref h)]) (by rw [show u.1 - 1 - ((j + 1 : Nat) : Int) = (u.1 - 1 - (j : Int)) + (-1) by omega]) ?_
              refine z_ws (ws' := wM J h a L (pl + ((j + 1 : Nat) : Int)) sp nb dn er A K T H S V (aChr X (Int.toNat u.1) P pl (j + 1))) (by rw [show pl + ((j + 1 : Nat) : Int) = pl + (j : Int) + 1 by omega]; rfl) ?_
              refine z_lv (lv' := _) [0, 1, 2, 3, 4, 5] rfl ?_
              exact ih_7 (j + 1) (by omega)
            · change Z _ _ _ _ _ _ _ _ _ _ _ _ _ _ _ _ (wM J h a L (pl + (j : Int)) sp nb dn er A K T H S V (aChr X (Int.toNat u.1) P pl j)) ([(7, .int (iI (u.1 - 1 - (j : Int)))), (5, .long (lI (u.2.1 : Int))), (4, .int (iI u.2.2)), (3, .int (iI u.1)), (1, .long (lI (X : Int))), (0, .ref h)]) 106 ([])
              have hj : j = Int.toNat u.1 := by omega
              refine z_iload hC dX6_put_106 0 rfl ?_
              refine z_if_lt_t (tgt := 148) hC dX6_put_108 (by decide) (by unfold inR; omega) (by omega) ?_
              refine z_aload_n hC dX6_put_148 rfl 5 rfl ?_
              refine z_geti hC zkX6 iX6_put_X6 0 rfl 8 (by decide) kX6_put_4 rfl rfl dX6_put_149 ?_
              refine z_int (y := iI (pl + (j : Int))) hC (rfl) ?_
              exact z_iret hC hr rfl () trivial (hvi (by have hok : mPutOk X pl = 0 := (by unfold mPutOk; rw [← hu1]; (repeat' split) <;> first | rfl | omega); unfold mPutR; rw [hok]; rw [if_pos rfl, ← hu1]; omega)) (by subst hj; have hok : mPutOk X pl = 0 := (by unfold mPutOk; rw [← hu1]; (repeat' split) <;> first | rfl | omega); unfold mPutL mPutP; simp only [hok]; rw [← hu1]; (try simp only [if_true]); rw [show pl + ((u.1.toNat : Nat) : Int) = pl + u.1 by omega]) dX6_put_152
          · refine z_bipush hC dX6_put_98 (by decide) ?_
            exact z_iret hC hr rfl () trivial (hvi (by have hok : mPutOk X pl = -4 := (by unfold mPutOk; rw [← hu1]; (repeat' split) <;> first | rfl | omega); unfold mPutR; rw [hok]; rfl)) (by have hok : mPutOk X pl = -4 := (by unfold mPutOk; rw [← hu1]; (repeat' split) <;> first | rfl | omega); unfold mPutL mPutP; simp only [hok]; rfl) dX6_put_100
        · refine z_bipush hC dX6_put_84 (by decide) ?_
          exact z_iret hC hr rfl () trivial (hvi (by have hok : mPutOk X pl = -2 := (by unfold mPutOk; rw [← hu1]; (repeat' split) <;> first | rfl | omega); unfold mPutR; rw [hok]; rfl)) (by have hok : mPutOk X pl = -2 := (by unfold mPutOk; rw [← hu1]; (repeat' split) <;> first | rfl | omega); unfold mPutL mPutP; simp only [hok]; rfl) dX6_put_86
  · skip
    refine z_iconst hC dX6_put_2 ?_
    refine z_istore (lv' := [(4, .int (iI 1)), (3, .int (iI 0)), (0, .ref h), (1, .long (lI (X : Int)))]) hC dX6_put_3 (by decide) rfl ?_
    refine z_lload_n hC dX6_put_5 rfl 3 rfl ?_
    refine z_lstore (lv' := [(5, .long (lI (X : Int))), (4, .int (iI 1)), (3, .int (iI 0)), (0, .ref h), (1, .long (lI (X : Int)))]) hC dX6_put_6 (by decide) rfl ?_
    refine z_lv (lv' := [(5, .long (lI (X : Int))), (4, .int (iI 1)), (3, .int (iI 0)), (1, .long (lI (X : Int))), (0, .ref h)]) [0, 1, 2, 4, 3] rfl ?_
    refine z_loop (α := Nat × Nat × Int) (fun nn v => (v.1 : Int) + (nn : Int) = 8 ∧ v.2.1 < 2 ^ 64 ∧ (v.2.2 = 0 ∨ v.2.2 = 1) ∧ mSc nn v.2.1 v.1 v.2.2 = mSc 8 X 0 1) (fun nn v => wM J h a L pl sp nb dn er A K T H S V P) (fun nn v => [(5, .long (lI (v.2.1 : Int))), (4, .int (iI v.2.2)), (3, .int (iI (v.1 : Int))), (1, .long (lI (X : Int))), (0, .ref h)]) 8 [] (fun nn v ih_9 hP_10 => ?_) (fun v hP_10 => ?_) 8 (0, X, 1) ⟨by show ((0 : Nat) : Int) + ((8 : Nat) : Int) = 8; omega, hX, Or.inr rfl, rfl⟩
    · change Z _ _ _ _ _ _ _ _ _ _ _ _ _ _ _ _ (wM J h a L pl sp nb dn er A K T H S V P) ([(5, .long (lI (v.2.1 : Int))), (4, .int (iI v.2.2)), (3, .int (iI (v.1 : Int))), (1, .long (lI (X : Int))), (0, .ref h)]) 8 ([])
      obtain ⟨hv1, hv2, hv3, hv4⟩ := hP_10
      refine z_iload_n hC dX6_put_8 rfl 2 rfl ?_
      refine z_bipush hC dX6_put_9 (by decide) ?_
      refine z_icmp_ge_f (tgt := 68) hC dX6_put_11 (by decide) (by unfold inR; omega) ⟨by decide, by decide⟩ (by omega) ?_
      refine z_lload hC dX6_put_14 0 rfl ?_
      refine z_ldc2 hC kX6_put_1 dX6_put_16 ?_
      refine z_long (y := lI 255) hC (by decide) ?_
      refine z_land (v := lI ((v.2.1 % 256 : Nat) : Int)) hC dX6_put_19 (l_and255 hv2) ?_
      refine z_lconst (v := lI 0) hC dX6_put_20 (by decide) ?_
      refine z_lcmp (v := sgnZ ((v.2.1 % 256 : Nat) : Int) 0) hC dX6_put_21 (l_cmp (by unfold inL; omega) (by unfold inL; omega)) ?_
      have hsg_11 := sgnZ_spec ((v.2.1 % 256 : Nat) : Int) 0
      refine z_if_eq (tgt := 68) hC dX6_put_22 (by decide) (inR_sgn _ _) (fun c_22_12 => ?_) (fun c_22_12 => ?_)
      · refine z_lv (lv' := _) [0, 1, 2, 3, 4] rfl ?_
        exact K_1 ((v.1 : Int), v.2.1, v.2.2) ⟨(by first | exact hv4 | (rw [← hv4, mSc_s, if_pos (by omega)])), ⟨by show 0 ≤ (v.1 : Int); omega, by show (v.1 : Int) ≤ 8; omega⟩, hv2, hv3⟩
      · refine z_iload hC dX6_put_25 1 rfl ?_
        refine z_if_eq (tgt := 52) hC dX6_put_27 (by decide) (by unfold inR; omega) (fun c_27_13 => ?_) (fun c_27_13 => ?_)
        · refine z_iconst hC dX6_put_52 ?_
          refine z_istore (lv' := [(4, .int (iI 0)), (5, .long (lI (v.2.1 : Int))), (3, .int (iI (v.1 : Int))), (1, .long (lI (X : Int))), (0, .ref h)]) hC dX6_put_53 (by decide) rfl ?_
          refine z_lload hC dX6_put_55 1 rfl ?_
          refine z_bipush hC dX6_put_57 (by decide) ?_
          refine z_lushr (v := lI ((v.2.1 / 2 ^ 8 : Nat) : Int)) hC dX6_put_59 (l_shr (k := 8) hv2 (by omega)) ?_
          refine z_lstore (lv' := [(5, .long (lI ((v.2.1 / 2 ^ 8 : Nat) : Int))), (4, .int (iI 0)), (3, .int (iI (v.1 : Int))), (1, .long (lI (X : Int))), (0, .ref h)]) hC dX6_put_60 (by decide) rfl ?_
          refine z_iinc (lv' := [(3, .int (iI ((v.1 : Int) + 1))), (5, .long (lI ((v.2.1 / 2 ^ 8 : Nat) : Int))), (4, .int (iI 0)), (1, .long (lI (X : Int))), (0, .ref h)]) hC dX6_put_62 2 rfl (by decide) rfl ?_
          refine z_goto (tgt := 8) hC dX6_put_65 (by decide) ?_
          refine z_lv (lv' := _) [1, 2, 0, 3, 4] rfl ?_
          exact ih_9 (v.1 + 1, v.2.1 / 2 ^ 8, 0) ⟨by show ((v.1 + 1 : Nat) : Int) + _ = _; omega, div64 hv2 8, by show 0 = 0 ∨ 0 = 1; omega, by rw [← hv4, mSc_s, if_neg (by omega)]; (repeat' split) <;> first | rfl | omega⟩
        · refine z_lload hC dX6_put_30 0 rfl ?_
          refine z_ldc2 hC kX6_put_1 dX6_put_32 ?_
          refine z_long (y := lI 255) hC (by decide) ?_
          refine z_land (v := lI ((v.2.1 % 256 : Nat) : Int)) hC dX6_put_35 (l_and255 hv2) ?_
          refine z_ldc2 hC kX6_put_2 dX6_put_36 ?_
          refine z_long (y := lI 33) hC (by decide) ?_
          refine z_ldc2 hC kX6_put_3 dX6_put_39 ?_
          refine z_long (y := lI 126) hC (by decide) ?_
          refine z_callS (wr := wM J h a L pl sp nb dn er A K T H S V P) (av := [.long (lI ((v.2.1 % 256 : Nat) : Int)), .long (lI 33), .long (lI 126)]) (st := []) hC (t_X6_in l D J ((v.2.1 % 256 : Nat) : Int) 33 126 (by unfold inL; omega) (by unfold inL; omega) (by unfold inL; omega)) gX6_put_X6_in rfl 3 (by decide +kernel) ⟨Nat.le_of_ble_eq_true rfl, Nat.le_of_ble_eq_true rfl⟩ ⟨Nat.le_of_ble_eq_true rfl, Nat.le_of_ble_eq_true rfl⟩ [] [0, 1, 2, 3, 4, 5, 6, 7] rfl rfl rfl (by decide) rfl rfl rfl (Nat.le_of_ble_eq_true rfl) dX6_put_42 (fun _ _ => ?_)
          refine z_ws (ws' := wM J h a L pl sp nb dn er A K T H S V P) rfl ?_
          refine z_st (st' := [.int (iI (mIn ((v.2.1 % 256 : Nat) : Int) 33 126))]) rfl ?_
          have hin_14 := mIn_spec ((v.2.1 % 256 : Nat) : Int) 33 126
          refine z_if_eq (tgt := 52) hC dX6_put_45 (by decide) (inR_01 (mIn_01 _ _ _)) (fun c_45_15 => ?_) (fun c_45_15 => ?_)
          · refine z_iconst hC dX6_put_52 ?_
            refine z_istore (lv' := [(4, .int (iI 0)), (5, .long (lI (v.2.1 : Int))), (3, .int (iI (v.1 : Int))), (1, .long (lI (X : Int))), (0, .ref h)]) hC dX6_put_53 (by decide) rfl ?_
            refine z_lload hC dX6_put_55 1 rfl ?_
            refine z_bipush hC dX6_put_57 (by decide) ?_
            refine z_lushr (v := lI ((v.2.1 / 2 ^ 8 : Nat) : Int)) hC dX6_put_59 (l_shr (k := 8) hv2 (by omega)) ?_
            refine z_lstore (lv' := [(5, .long (lI ((v.2.1 / 2 ^ 8 : Nat) : Int))), (4, .int (iI 0)), (3, .int (iI (v.1 : Int))), (1, .long (lI (X : Int))), (0, .ref h)]) hC dX6_put_60 (by decide) rfl ?_
            refine z_iinc (lv' := [(3, .int (iI ((v.1 : Int) + 1))), (5, .long (lI ((v.2.1 / 2 ^ 8 : Nat) : Int))), (4, .int (iI 0)), (1, .long (lI (X : Int))), (0, .ref h)]) hC dX6_put_62 2 rfl (by decide) rfl ?_
            refine z_goto (tgt := 8) hC dX6_put_65 (by decide) ?_
            refine z_lv (lv' := _) [1, 2, 0, 3, 4] rfl ?_
            exact ih_9 (v.1 + 1, v.2.1 / 2 ^ 8, 0) ⟨by show ((v.1 + 1 : Nat) : Int) + _ = _; omega, div64 hv2 8, by show 0 = 0 ∨ 0 = 1; omega, by rw [← hv4, mSc_s, if_neg (by omega)]; (repeat' split) <;> first | rfl | omega⟩
          · refine z_iconst hC dX6_put_48 ?_
            refine z_goto (tgt := 53) hC dX6_put_49 (by decide) ?_
            refine z_istore (lv' := [(4, .int (iI 1)), (5, .long (lI (v.2.1 : Int))), (3, .int (iI (v.1 : Int))), (1, .long (lI (X : Int))), (0, .ref h)]) hC dX6_put_53 (by decide) rfl ?_
            refine z_lload hC dX6_put_55 1 rfl ?_
            refine z_bipush hC dX6_put_57 (by decide) ?_
            refine z_lushr (v := lI ((v.2.1 / 2 ^ 8 : Nat) : Int)) hC dX6_put_59 (l_shr (k := 8) hv2 (by omega)) ?_
            refine z_lstore (lv' := [(5, .long (lI ((v.2.1 / 2 ^ 8 : Nat) : Int))), (4, .int (iI 1)), (3, .int (iI (v.1 : Int))), (1, .long (lI (X : Int))), (0, .ref h)]) hC dX6_put_60 (by decide) rfl ?_
            refine z_iinc (lv' := [(3, .int (iI ((v.1 : Int) + 1))), (5, .long (lI ((v.2.1 / 2 ^ 8 : Nat) : Int))), (4, .int (iI 1)), (1, .long (lI (X : Int))), (0, .ref h)]) hC dX6_put_62 2 rfl (by decide) rfl ?_
            refine z_goto (tgt := 8) hC dX6_put_65 (by decide) ?_
            refine z_lv (lv' := _) [1, 2, 0, 3, 4] rfl ?_
            exact ih_9 (v.1 + 1, v.2.1 / 2 ^ 8, 1) ⟨by show ((v.1 + 1 : Nat) : Int) + _ = _; omega, div64 hv2 8, by show 1 = 0 ∨ 1 = 1; omega, by rw [← hv4, mSc_s, if_neg (by omega)]; (repeat' split) <;> first | rfl | omega⟩
    · change Z _ _ _ _ _ _ _ _ _ _ _ _ _ _ _ _ (wM J h a L pl sp nb dn er A K T H S V P) ([(5, .long (lI (v.2.1 : Int))), (4, .int (iI v.2.2)), (3, .int (iI (v.1 : Int))), (1, .long (lI (X : Int))), (0, .ref h)]) 8 ([])
      obtain ⟨hv1, hv2, hv3, hv4⟩ := hP_10
      refine z_iload_n hC dX6_put_8 rfl 2 rfl ?_
      refine z_bipush hC dX6_put_9 (by decide) ?_
      refine z_icmp_ge_t (tgt := 68) hC dX6_put_11 (by decide) (by unfold inR; omega) ⟨by decide, by decide⟩ (by omega) ?_
      refine z_lv (lv' := _) [0, 1, 2, 3, 4] rfl ?_
      exact K_1 ((v.1 : Int), v.2.1, v.2.2) ⟨(by first | exact hv4 | (rw [← hv4, mSc_s, if_pos (by omega)])), ⟨by show 0 ≤ (v.1 : Int); omega, by show (v.1 : Int) ≤ 8; omega⟩, hv2, hv3⟩
