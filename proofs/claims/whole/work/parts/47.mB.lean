set_option maxRecDepth 20000 in
theorem iX6_steps_X6 : ∀ w ∈ u_ws RX6 TX6 13, w ∈ wsX6_steps := zm_places _ [2, 3, 4, 5, 6, 7, 8, 9, 10, 11, 12, 13, 14] (by decide +kernel)
theorem kX6_steps_1 : Cond.fieldLink RX6 7 "StepPairsModel" "all" "[I" ∈ wsX6_steps := List.mem_of_getElem? (i := 1) rfl
abbrev rmX6_steps : Room := { frames := 0, cells := 0, slots := 0, locals := 0 }
set_option maxHeartbeats 4000000 in
set_option maxRecDepth 100000 in
theorem t_X6_steps (l : Launch) (D : va_G) (J : Nat → ClassId) (h : Nat) (a : Nat → Nat) (L pl sp nb dn er : Int) (A K T H S V P : Nat → Int) (d : Int) (hd : d = 1 ∨ d = 2) (hI : InvM A) : ZX l yX6_steps wsX6_steps rmX6_steps D J [.ref h, .int (iI d)] (wM J h a L pl sp nb dn er A K T H S V P) none (wM J h a L pl sp nb dn er (mSteps A d) K T H S V P) := by
  obtain ⟨m0, m1, m2, m3, m4, m5, m6, m7, m8, m9, m10, m13, m14, m15, m16, m17, m18, m19, m20, mg⟩ := id hI
  refine z_met (cc := cX6_steps) (nL := 3) (ret := none) (own := RX6) (by decide) rfl rfl (Nat.le_of_ble_eq_true rfl) (fun p e s m args below meth c hC hr hin => ?_)
  refine z_lv0 (lv' := [(0, .ref h), (1, .int (iI d))]) rfl ?_
  refine z_iload_n hC dX6_steps_0 rfl 1 rfl ?_
  refine z_iconst hC dX6_steps_1 ?_
  refine z_icmp_ne (tgt := 9) hC dX6_steps_2 (by decide) (by unfold inR; omega) ⟨by decide, by decide⟩ (fun c_2_1 => ?_) (fun c_2_1 => ?_)
  · refine z_iconst hC dX6_steps_9 ?_
    refine z_istore_n (lv' := [(2, .int (iI (-1))), (0, .ref h), (1, .int (iI d))]) hC dX6_steps_10 rfl (by decide) rfl ?_
    refine z_aload_n hC dX6_steps_11 rfl 1 rfl ?_
    refine z_getr hC zkX6 iX6_steps_X6 0 rfl 0 (by decide) kX6_steps_1 rfl rfl dX6_steps_12 ?_
    refine z_bipush hC dX6_steps_15 (by decide) ?_
    refine z_aload_n hC dX6_steps_17 rfl 1 rfl ?_
    refine z_getr hC zkX6 iX6_steps_X6 0 rfl 0 (by decide) kX6_steps_1 rfl rfl dX6_steps_18 ?_
    refine z_bipush hC dX6_steps_21 (by decide) ?_
    refine z_iald hC 1 rfl 0 rfl 6 rfl (by decide) (by decide) dX6_steps_23 ?_
    refine z_iload_n hC dX6_steps_24 rfl 0 rfl ?_
    refine z_iadd hC dX6_steps_25 ?_
    refine z_aload_n hC dX6_steps_26 rfl 1 rfl ?_
    refine z_getr hC zkX6 iX6_steps_X6 0 rfl 0 (by decide) kX6_steps_1 rfl rfl dX6_steps_27 ?_
    refine z_iconst hC dX6_steps_30 ?_
    refine z_iald hC 1 rfl 0 rfl 1 rfl (by decide) (by decide) dX6_steps_31 ?_
    refine z_iadd hC dX6_steps_32 ?_
    refine z_aload_n hC dX6_steps_33 rfl 1 rfl ?_
    refine z_getr hC zkX6 iX6_steps_X6 0 rfl 0 (by decide) kX6_steps_1 rfl rfl dX6_steps_34 ?_
    refine z_iconst hC dX6_steps_37 ?_
    refine z_iald hC 1 rfl 0 rfl 1 rfl (by decide) (by decide) dX6_steps_38 ?_
    refine z_irem hC dX6_steps_39 (by omega) (by omega) (by omega) (by omega) ?_
    refine z_iast (ws' := wM J h a L pl sp nb dn er (updZ A 6 ((((A 6) + (-1)) + (A 1)) % (A 1))) K T H S V P) hC 1 rfl 0 rfl 6 rfl (by decide) (by decide) dX6_steps_40 rfl ?_
    refine z_aload_n hC dX6_steps_41 rfl 1 rfl ?_
    refine z_getr hC zkX6 iX6_steps_X6 0 rfl 0 (by decide) kX6_steps_1 rfl rfl dX6_steps_42 ?_
    refine z_bipush hC dX6_steps_45 (by decide) ?_
    refine z_aload_n hC dX6_steps_47 rfl 1 rfl ?_
    refine z_getr hC zkX6 iX6_steps_X6 0 rfl 0 (by decide) kX6_steps_1 rfl rfl dX6_steps_48 ?_
    refine z_bipush hC dX6_steps_51 (by decide) ?_
    refine z_iald hC 1 rfl 0 rfl 7 rfl (by decide) (by decide) dX6_steps_53 ?_
    refine z_int (y := iI (A 7)) hC rfl ?_
    refine z_iload_n hC dX6_steps_54 rfl 0 rfl ?_
    refine z_iadd hC dX6_steps_55 ?_
    refine z_aload_n hC dX6_steps_56 rfl 1 rfl ?_
    refine z_getr hC zkX6 iX6_steps_X6 0 rfl 0 (by decide) kX6_steps_1 rfl rfl dX6_steps_57 ?_
    refine z_iconst hC dX6_steps_60 ?_
    refine z_iald hC 1 rfl 0 rfl 0 rfl (by decide) (by decide) dX6_steps_61 ?_
    refine z_int (y := iI (A 0)) hC rfl ?_
    refine z_iadd hC dX6_steps_62 ?_
    refine z_aload_n hC dX6_steps_63 rfl 1 rfl ?_
    refine z_getr hC zkX6 iX6_steps_X6 0 rfl 0 (by decide) kX6_steps_1 rfl rfl dX6_steps_64 ?_
    refine z_iconst hC dX6_steps_67 ?_
    refine z_iald hC 1 rfl 0 rfl 0 rfl (by decide) (by decide) dX6_steps_68 ?_
    refine z_int (y := iI (A 0)) hC rfl ?_
    refine z_irem hC dX6_steps_69 (by omega) (by omega) (by omega) (by omega) ?_
    refine z_iast (ws' := wM J h a L pl sp nb dn er (updZ (updZ A 6 ((((A 6) + (-1)) + (A 1)) % (A 1))) 7 ((((A 7) + (-1)) + (A 0)) % (A 0))) K T H S V P) hC 1 rfl 0 rfl 7 rfl (by decide) (by decide) dX6_steps_70 rfl ?_
    refine z_aload_n hC dX6_steps_71 rfl 1 rfl ?_
    refine z_getr hC zkX6 iX6_steps_X6 0 rfl 0 (by decide) kX6_steps_1 rfl rfl dX6_steps_72 ?_
    refine z_bipush hC dX6_steps_75 (by decide) ?_
    refine z_aload_n hC dX6_steps_77 rfl 1 rfl ?_
    refine z_getr hC zkX6 iX6_steps_X6 0 rfl 0 (by decide) kX6_steps_1 rfl rfl dX6_steps_78 ?_
    refine z_bipush hC dX6_steps_81 (by decide) ?_
    refine z_iald hC 1 rfl 0 rfl 18 rfl (by decide) (by decide) dX6_steps_83 ?_
    refine z_int (y := iI (A 18)) hC rfl ?_
    refine z_iast (ws' := wM J h a L pl sp nb dn er (updZ (updZ (updZ A 6 ((((A 6) + (-1)) + (A 1)) % (A 1))) 7 ((((A 7) + (-1)) + (A 0)) % (A 0))) 19 (A 18)) K T H S V P) hC 1 rfl 0 rfl 19 rfl (by decide) (by decide) dX6_steps_84 rfl ?_
    refine z_aload_n hC dX6_steps_85 rfl 1 rfl ?_
    refine z_getr hC zkX6 iX6_steps_X6 0 rfl 0 (by decide) kX6_steps_1 rfl rfl dX6_steps_86 ?_
    refine z_bipush hC dX6_steps_89 (by decide) ?_
    refine z_aload_n hC dX6_steps_91 rfl 1 rfl ?_
    refine z_getr hC zkX6 iX6_steps_X6 0 rfl 0 (by decide) kX6_steps_1 rfl rfl dX6_steps_92 ?_
    refine z_bipush hC dX6_steps_95 (by decide) ?_
    refine z_iald hC 1 rfl 0 rfl 9 rfl (by decide) (by decide) dX6_steps_97 ?_
    refine z_int (y := iI (A 9)) hC rfl ?_
    refine z_iast (ws' := wM J h a L pl sp nb dn er (updZ (updZ (updZ (updZ A 6 ((((A 6) + (-1)) + (A 1)) % (A 1))) 7 ((((A 7) + (-1)) + (A 0)) % (A 0))) 19 (A 18)) 20 (A 9)) K T H S V P) hC 1 rfl 0 rfl 20 rfl (by decide) (by decide) dX6_steps_98 rfl ?_
    refine z_aload_n hC dX6_steps_99 rfl 1 rfl ?_
    refine z_getr hC zkX6 iX6_steps_X6 0 rfl 0 (by decide) kX6_steps_1 rfl rfl dX6_steps_100 ?_
    refine z_bipush hC dX6_steps_103 (by decide) ?_
    refine z_aload_n hC dX6_steps_105 rfl 1 rfl ?_
    refine z_getr hC zkX6 iX6_steps_X6 0 rfl 0 (by decide) kX6_steps_1 rfl rfl dX6_steps_106 ?_
    refine z_iconst hC dX6_steps_109 ?_
    refine z_iald hC 1 rfl 0 rfl 5 rfl (by decide) (by decide) dX6_steps_110 ?_
    refine z_int (y := iI (A 5)) hC rfl ?_
    refine z_iast (ws' := wM J h a L pl sp nb dn er (updZ (updZ (updZ (updZ (updZ A 6 ((((A 6) + (-1)) + (A 1)) % (A 1))) 7 ((((A 7) + (-1)) + (A 0)) % (A 0))) 19 (A 18)) 20 (A 9)) 18 (A 5)) K T H S V P) hC 1 rfl 0 rfl 18 rfl (by decide) (by decide) dX6_steps_111 rfl ?_
    refine z_aload_n hC dX6_steps_112 rfl 1 rfl ?_
    refine z_getr hC zkX6 iX6_steps_X6 0 rfl 0 (by decide) kX6_steps_1 rfl rfl dX6_steps_113 ?_
    refine z_bipush hC dX6_steps_116 (by decide) ?_
    refine z_iload_n hC dX6_steps_118 rfl 2 rfl ?_
    refine z_iast (ws' := wM J h a L pl sp nb dn er (updZ (updZ (updZ (updZ (updZ (updZ A 6 ((((A 6) + (-1)) + (A 1)) % (A 1))) 7 ((((A 7) + (-1)) + (A 0)) % (A 0))) 19 (A 18)) 20 (A 9)) 18 (A 5)) 9 d) K T H S V P) hC 1 rfl 0 rfl 9 rfl (by decide) (by decide) dX6_steps_119 rfl ?_
    refine z_aload_n hC dX6_steps_120 rfl 1 rfl ?_
    refine z_getr hC zkX6 iX6_steps_X6 0 rfl 0 (by decide) kX6_steps_1 rfl rfl dX6_steps_121 ?_
    refine z_iload_n hC dX6_steps_124 rfl 2 rfl ?_
    refine z_iconst hC dX6_steps_125 ?_
    refine z_icmp_ne_t (tgt := 134) hC dX6_steps_126 (by decide) (by unfold inR; omega) ⟨by decide, by decide⟩ (by omega) ?_
    refine z_bipush hC dX6_steps_134 (by decide) ?_
    refine z_dup2 hC dX6_steps_136 rfl rfl ?_
    refine z_iald hC 1 rfl 0 rfl 11 rfl (by decide) (by decide) dX6_steps_137 ?_
    refine z_int (y := iI (A 11)) hC rfl ?_
    refine z_iconst hC dX6_steps_138 ?_
    refine z_iadd hC dX6_steps_139 ?_
    refine z_iast (ws' := wM J h a L pl sp nb dn er (updZ (updZ (updZ (updZ (updZ (updZ (updZ A 6 ((((A 6) + (-1)) + (A 1)) % (A 1))) 7 ((((A 7) + (-1)) + (A 0)) % (A 0))) 19 (A 18)) 20 (A 9)) 18 (A 5)) 9 d) 11 ((A 11) + 1)) K T H S V P) hC 1 rfl 0 rfl 11 rfl (by decide) (by decide) dX6_steps_140 rfl ?_
    exact z_vret hC hr () trivial rfl (congrArg (fun z => wM J h a L pl sp nb dn er z K T H S V P) (by unfold mSteps; first | rw [if_pos (by assumption)] | rw [if_neg (by omega)])) dX6_steps_141
  · refine z_iconst hC dX6_steps_5 ?_
    refine z_goto (tgt := 10) hC dX6_steps_6 (by decide) ?_
    refine z_istore_n (lv' := [(2, .int (iI 1)), (0, .ref h), (1, .int (iI d))]) hC dX6_steps_10 rfl (by decide) rfl ?_
    refine z_aload_n hC dX6_steps_11 rfl 1 rfl ?_
    refine z_getr hC zkX6 iX6_steps_X6 0 rfl 0 (by decide) kX6_steps_1 rfl rfl dX6_steps_12 ?_
    refine z_bipush hC dX6_steps_15 (by decide) ?_
    refine z_aload_n hC dX6_steps_17 rfl 1 rfl ?_
    refine z_getr hC zkX6 iX6_steps_X6 0 rfl 0 (by decide) kX6_steps_1 rfl rfl dX6_steps_18 ?_
    refine z_bipush hC dX6_steps_21 (by decide) ?_
    refine z_iald hC 1 rfl 0 rfl 6 rfl (by decide) (by decide) dX6_steps_23 ?_
    refine z_iload_n hC dX6_steps_24 rfl 0 rfl ?_
    refine z_iadd hC dX6_steps_25 ?_
    refine z_aload_n hC dX6_steps_26 rfl 1 rfl ?_
    refine z_getr hC zkX6 iX6_steps_X6 0 rfl 0 (by decide) kX6_steps_1 rfl rfl dX6_steps_27 ?_
    refine z_iconst hC dX6_steps_30 ?_
    refine z_iald hC 1 rfl 0 rfl 1 rfl (by decide) (by decide) dX6_steps_31 ?_
    refine z_iadd hC dX6_steps_32 ?_
    refine z_aload_n hC dX6_steps_33 rfl 1 rfl ?_
    refine z_getr hC zkX6 iX6_steps_X6 0 rfl 0 (by decide) kX6_steps_1 rfl rfl dX6_steps_34 ?_
    refine z_iconst hC dX6_steps_37 ?_
    refine z_iald hC 1 rfl 0 rfl 1 rfl (by decide) (by decide) dX6_steps_38 ?_
    refine z_irem hC dX6_steps_39 (by omega) (by omega) (by omega) (by omega) ?_
    refine z_iast (ws' := wM J h a L pl sp nb dn er (updZ A 6 ((((A 6) + 1) + (A 1)) % (A 1))) K T H S V P) hC 1 rfl 0 rfl 6 rfl (by decide) (by decide) dX6_steps_40 rfl ?_
    refine z_aload_n hC dX6_steps_41 rfl 1 rfl ?_
    refine z_getr hC zkX6 iX6_steps_X6 0 rfl 0 (by decide) kX6_steps_1 rfl rfl dX6_steps_42 ?_
    refine z_bipush hC dX6_steps_45 (by decide) ?_
    refine z_aload_n hC dX6_steps_47 rfl 1 rfl ?_
    refine z_getr hC zkX6 iX6_steps_X6 0 rfl 0 (by decide) kX6_steps_1 rfl rfl dX6_steps_48 ?_
    refine z_bipush hC dX6_steps_51 (by decide) ?_
    refine z_iald hC 1 rfl 0 rfl 7 rfl (by decide) (by decide) dX6_steps_53 ?_
    refine z_int (y := iI (A 7)) hC rfl ?_
    refine z_iload_n hC dX6_steps_54 rfl 0 rfl ?_
    refine z_iadd hC dX6_steps_55 ?_
    refine z_aload_n hC dX6_steps_56 rfl 1 rfl ?_
    refine z_getr hC zkX6 iX6_steps_X6 0 rfl 0 (by decide) kX6_steps_1 rfl rfl dX6_steps_57 ?_
    refine z_iconst hC dX6_steps_60 ?_
    refine z_iald hC 1 rfl 0 rfl 0 rfl (by decide) (by decide) dX6_steps_61 ?_
    refine z_int (y := iI (A 0)) hC rfl ?_
    refine z_iadd hC dX6_steps_62 ?_
    refine z_aload_n hC dX6_steps_63 rfl 1 rfl ?_
    refine z_getr hC zkX6 iX6_steps_X6 0 rfl 0 (by decide) kX6_steps_1 rfl rfl dX6_steps_64 ?_
    refine z_iconst hC dX6_steps_67 ?_
    refine z_iald hC 1 rfl 0 rfl 0 rfl (by decide) (by decide) dX6_steps_68 ?_
    refine z_int (y := iI (A 0)) hC rfl ?_
    refine z_irem hC dX6_steps_69 (by omega) (by omega) (by omega) (by omega) ?_
    refine z_iast (ws' := wM J h a L pl sp nb dn er (updZ (updZ A 6 ((((A 6) + 1) + (A 1)) % (A 1))) 7 ((((A 7) + 1) + (A 0)) % (A 0))) K T H S V P) hC 1 rfl 0 rfl 7 rfl (by decide) (by decide) dX6_steps_70 rfl ?_
    refine z_aload_n hC dX6_steps_71 rfl 1 rfl ?_
    refine z_getr hC zkX6 iX6_steps_X6 0 rfl 0 (by decide) kX6_steps_1 rfl rfl dX6_steps_72 ?_
    refine z_bipush hC dX6_steps_75 (by decide) ?_
    refine z_aload_n hC dX6_steps_77 rfl 1 rfl ?_
    refine z_getr hC zkX6 iX6_steps_X6 0 rfl 0 (by decide) kX6_steps_1 rfl rfl dX6_steps_78 ?_
    refine z_bipush hC dX6_steps_81 (by decide) ?_
    refine z_iald hC 1 rfl 0 rfl 18 rfl (by decide) (by decide) dX6_steps_83 ?_
    refine z_int (y := iI (A 18)) hC rfl ?_
    refine z_iast (ws' := wM J h a L pl sp nb dn er (updZ (updZ (updZ A 6 ((((A 6) + 1) + (A 1)) % (A 1))) 7 ((((A 7) + 1) + (A 0)) % (A 0))) 19 (A 18)) K T H S V P) hC 1 rfl 0 rfl 19 rfl (by decide) (by decide) dX6_steps_84 rfl ?_
    refine z_aload_n hC dX6_steps_85 rfl 1 rfl ?_
    refine z_getr hC zkX6 iX6_steps_X6 0 rfl 0 (by decide) kX6_steps_1 rfl rfl dX6_steps_86 ?_
    refine z_bipush hC dX6_steps_89 (by decide) ?_
    refine z_aload_n hC dX6_steps_91 rfl 1 rfl ?_
    refine z_getr hC zkX6 iX6_steps_X6 0 rfl 0 (by decide) kX6_steps_1 rfl rfl dX6_steps_92 ?_
    refine z_bipush hC dX6_steps_95 (by decide) ?_
    refine z_iald hC 1 rfl 0 rfl 9 rfl (by decide) (by decide) dX6_steps_97 ?_
    refine z_int (y := iI (A 9)) hC rfl ?_
    refine z_iast (ws' := wM J h a L pl sp nb dn er (updZ (updZ (updZ (updZ A 6 ((((A 6) + 1) + (A 1)) % (A 1))) 7 ((((A 7) + 1) + (A 0)) % (A 0))) 19 (A 18)) 20 (A 9)) K T H S V P) hC 1 rfl 0 rfl 20 rfl (by decide) (by decide) dX6_steps_98 rfl ?_
    refine z_aload_n hC dX6_steps_99 rfl 1 rfl ?_
    refine z_getr hC zkX6 iX6_steps_X6 0 rfl 0 (by decide) kX6_steps_1 rfl rfl dX6_steps_100 ?_
    refine z_bipush hC dX6_steps_103 (by decide) ?_
    refine z_aload_n hC dX6_steps_105 rfl 1 rfl ?_
    refine z_getr hC zkX6 iX6_steps_X6 0 rfl 0 (by decide) kX6_steps_1 rfl rfl dX6_steps_106 ?_
    refine z_iconst hC dX6_steps_109 ?_
    refine z_iald hC 1 rfl 0 rfl 5 rfl (by decide) (by decide) dX6_steps_110 ?_
    refine z_int (y := iI (A 5)) hC rfl ?_
    refine z_iast (ws' := wM J h a L pl sp nb dn er (updZ (updZ (updZ (updZ (updZ A 6 ((((A 6) + 1) + (A 1)) % (A 1))) 7 ((((A 7) + 1) + (A 0)) % (A 0))) 19 (A 18)) 20 (A 9)) 18 (A 5)) K T H S V P) hC 1 rfl 0 rfl 18 rfl (by decide) (by decide) dX6_steps_111 rfl ?_
    refine z_aload_n hC dX6_steps_112 rfl 1 rfl ?_
    refine z_getr hC zkX6 iX6_steps_X6 0 rfl 0 (by decide) kX6_steps_1 rfl rfl dX6_steps_113 ?_
    refine z_bipush hC dX6_steps_116 (by decide) ?_
    refine z_iload_n hC dX6_steps_118 rfl 2 rfl ?_
    refine z_iast (ws' := wM J h a L pl sp nb dn er (updZ (updZ (updZ (updZ (updZ (updZ A 6 ((((A 6) + 1) + (A 1)) % (A 1))) 7 ((((A 7) + 1) + (A 0)) % (A 0))) 19 (A 18)) 20 (A 9)) 18 (A 5)) 9 d) K T H S V P) hC 1 rfl 0 rfl 9 rfl (by decide) (by decide) dX6_steps_119 rfl ?_
    refine z_aload_n hC dX6_steps_120 rfl 1 rfl ?_
    refine z_getr hC zkX6 iX6_steps_X6 0 rfl 0 (by decide) kX6_steps_1 rfl rfl dX6_steps_121 ?_
    refine z_iload_n hC dX6_steps_124 rfl 2 rfl ?_
    refine z_iconst hC dX6_steps_125 ?_
    refine z_icmp_ne_f (tgt := 134) hC dX6_steps_126 (by decide) (by unfold inR; omega) ⟨by decide, by decide⟩ (by omega) ?_
    refine z_bipush hC dX6_steps_129 (by decide) ?_
    refine z_goto (tgt := 136) hC dX6_steps_131 (by decide) ?_
    refine z_dup2 hC dX6_steps_136 rfl rfl ?_
    refine z_iald hC 1 rfl 0 rfl 10 rfl (by decide) (by decide) dX6_steps_137 ?_
    refine z_int (y := iI (A 10)) hC rfl ?_
    refine z_iconst hC dX6_steps_138 ?_
    refine z_iadd hC dX6_steps_139 ?_
    refine z_iast (ws' := wM J h a L pl sp nb dn er (updZ (updZ (updZ (updZ (updZ (updZ (updZ A 6 ((((A 6) + 1) + (A 1)) % (A 1))) 7 ((((A 7) + 1) + (A 0)) % (A 0))) 19 (A 18)) 20 (A 9)) 18 (A 5)) 9 d) 10 ((A 10) + 1)) K T H S V P) hC 1 rfl 0 rfl 10 rfl (by decide) (by decide) dX6_steps_140 rfl ?_
    exact z_vret hC hr () trivial rfl (congrArg (fun z => wM J h a L pl sp nb dn er z K T H S V P) (by unfold mSteps; first | rw [if_pos (by assumption)] | rw [if_neg (by omega)])) dX6_steps_141
set_option maxRecDepth 20000 in
theorem iX6_rises_X6 : ∀ w ∈ u_ws RX6 TX6 13, w ∈ wsX6_rises := zm_places _ [2, 3, 4, 5, 6, 7, 8, 9, 10, 11, 12, 13, 14] (by decide +kernel)
theorem kX6_rises_1 : Cond.fieldLink RX6 7 "StepPairsModel" "all" "[I" ∈ wsX6_rises := List.mem_of_getElem? (i := 1) rfl
abbrev rmX6_rises : Room := { frames := 0, cells := 0, slots := 0, locals := 0 }
set_option maxHeartbeats 4000000 in
set_option maxRecDepth 100000 in
theorem t_X6_rises (l : Launch) (D : va_G) (J : Nat → ClassId) (h : Nat) (a : Nat → Nat) (L pl sp nb dn er : Int) (A K T H S V P : Nat → Int) (h4 : 0 ≤ A 4 ∧ A 4 ≤ 2) (h7 : 0 ≤ A 7 ∧ A 7 ≤ 400) : ZX l yX6_rises wsX6_rises rmX6_rises D J [.ref h] (wM J h a L pl sp nb dn er A K T H S V P) none (wM J h a L pl sp nb dn er (mRise A) K T H S V P) := by
  refine z_met (cc := cX6_rises) (nL := 1) (ret := none) (own := RX6) (by decide) rfl rfl (Nat.le_of_ble_eq_true rfl) (fun p e s m args below meth c hC hr hin => ?_)
  refine z_lv0 (lv' := [(0, .ref h)]) rfl ?_
  refine z_aload_n hC dX6_rises_0 rfl 0 rfl ?_
  refine z_getr hC zkX6 iX6_rises_X6 0 rfl 0 (by decide) kX6_rises_1 rfl rfl dX6_rises_1 ?_
  refine z_iconst hC dX6_rises_4 ?_
  refine z_iald hC 1 rfl 0 rfl 4 rfl (by decide) (by decide) dX6_rises_5 ?_
  refine z_iconst hC dX6_rises_6 ?_
  refine z_icmp_ne (tgt := 46) hC dX6_rises_7 (by decide) (by unfold inR; omega) ⟨by decide, by decide⟩ (fun c_7_1 => ?_) (fun c_7_1 => ?_)
  · refine z_aload_n hC dX6_rises_46 rfl 0 rfl ?_
    refine z_getr hC zkX6 iX6_rises_X6 0 rfl 0 (by decide) kX6_rises_1 rfl rfl dX6_rises_47 ?_
    refine z_iconst hC dX6_rises_50 ?_
    refine z_iald hC 1 rfl 0 rfl 4 rfl (by decide) (by decide) dX6_rises_51 ?_
    refine z_iconst hC dX6_rises_52 ?_
    refine z_icmp_ne (tgt := 72) hC dX6_rises_53 (by decide) (by unfold inR; omega) ⟨by decide, by decide⟩ (fun c_53_2 => ?_) (fun c_53_2 => ?_)
    · exact z_vret hC hr () trivial rfl (congrArg (fun z => wM J h a L pl sp nb dn er z K T H S V P) (by unfold mRise; (repeat' split) <;> first | rfl | omega)) dX6_rises_72
    · refine z_aload_n hC dX6_rises_56 rfl 0 rfl ?_
      refine z_getr hC zkX6 iX6_rises_X6 0 rfl 0 (by decide) kX6_rises_1 rfl rfl dX6_rises_57 ?_
      refine z_bipush hC dX6_rises_60 (by decide) ?_
      refine z_iconst hC dX6_rises_62 ?_
      refine z_iast (ws' := wM J h a L pl sp nb dn er (updZ A 7 0) K T H S V P) hC 1 rfl 0 rfl 7 rfl (by decide) (by decide) dX6_rises_63 rfl ?_
      refine z_aload_n hC dX6_rises_64 rfl 0 rfl ?_
      refine z_getr hC zkX6 iX6_rises_X6 0 rfl 0 (by decide) kX6_rises_1 rfl rfl dX6_rises_65 ?_
      refine z_bipush hC dX6_rises_68 (by decide) ?_
      refine z_iconst hC dX6_rises_70 ?_
      refine z_iast (ws' := wM J h a L pl sp nb dn er (updZ (updZ A 7 0) 6 0) K T H S V P) hC 1 rfl 0 rfl 6 rfl (by decide) (by decide) dX6_rises_71 rfl ?_
      exact z_vret hC hr () trivial rfl (congrArg (fun z => wM J h a L pl sp nb dn er z K T H S V P) (by unfold mRise; (repeat' split) <;> first | rfl | omega)) dX6_rises_72
  · refine z_aload_n hC dX6_rises_10 rfl 0 rfl ?_
    refine z_getr hC zkX6 iX6_rises_X6 0 rfl 0 (by decide) kX6_rises_1 rfl rfl dX6_rises_11 ?_
    refine z_bipush hC dX6_rises_14 (by decide) ?_
    refine z_dup2 hC dX6_rises_16 rfl rfl ?_
    refine z_iald hC 1 rfl 0 rfl 13 rfl (by decide) (by decide) dX6_rises_17 ?_
    refine z_aload_n hC dX6_rises_18 rfl 0 rfl ?_
    refine z_getr hC zkX6 iX6_rises_X6 0 rfl 0 (by decide) kX6_rises_1 rfl rfl dX6_rises_19 ?_
    refine z_bipush hC dX6_rises_22 (by decide) ?_
    refine z_iald hC 1 rfl 0 rfl 7 rfl (by decide) (by decide) dX6_rises_24 ?_
    refine z_if_eq (tgt := 32) hC dX6_rises_25 (by decide) (by unfold inR; omega) (fun c_25_3 => ?_) (fun c_25_3 => ?_)
    · refine z_iconst hC dX6_rises_32 ?_
      refine z_iadd hC dX6_rises_33 ?_
      refine z_iast (ws' := wM J h a L pl sp nb dn er (updZ A 13 ((A 13) + 0)) K T H S V P) hC 1 rfl 0 rfl 13 rfl (by decide) (by decide) dX6_rises_34 rfl ?_
      refine z_aload_n hC dX6_rises_35 rfl 0 rfl ?_
      refine z_getr hC zkX6 iX6_rises_X6 0 rfl 0 (by decide) kX6_rises_1 rfl rfl dX6_rises_36 ?_
      refine z_bipush hC dX6_rises_39 (by decide) ?_
      refine z_iconst hC dX6_rises_41 ?_
      refine z_iast (ws' := wM J h a L pl sp nb dn er (updZ (updZ A 13 ((A 13) + 0)) 7 0) K T H S V P) hC 1 rfl 0 rfl 7 rfl (by decide) (by decide) dX6_rises_42 rfl ?_
      refine z_goto (tgt := 72) hC dX6_rises_43 (by decide) ?_
      exact z_vret hC hr () trivial rfl (congrArg (fun z => wM J h a L pl sp nb dn er z K T H S V P) (by unfold mRise; (repeat' split) <;> first | rfl | omega)) dX6_rises_72
    · refine z_iconst hC dX6_rises_28 ?_
      refine z_goto (tgt := 33) hC dX6_rises_29 (by decide) ?_
      refine z_iadd hC dX6_rises_33 ?_
      refine z_iast (ws' := wM J h a L pl sp nb dn er (updZ A 13 ((A 13) + 1)) K T H S V P) hC 1 rfl 0 rfl 13 rfl (by decide) (by decide) dX6_rises_34 rfl ?_
      refine z_aload_n hC dX6_rises_35 rfl 0 rfl ?_
      refine z_getr hC zkX6 iX6_rises_X6 0 rfl 0 (by decide) kX6_rises_1 rfl rfl dX6_rises_36 ?_
      refine z_bipush hC dX6_rises_39 (by decide) ?_
      refine z_iconst hC dX6_rises_41 ?_
      refine z_iast (ws' := wM J h a L pl sp nb dn er (updZ (updZ A 13 ((A 13) + 1)) 7 0) K T H S V P) hC 1 rfl 0 rfl 7 rfl (by decide) (by decide) dX6_rises_42 rfl ?_
      refine z_goto (tgt := 72) hC dX6_rises_43 (by decide) ?_
      exact z_vret hC hr () trivial rfl (congrArg (fun z => wM J h a L pl sp nb dn er z K T H S V P) (by unfold mRise; (repeat' split) <;> first | rfl | omega)) dX6_rises_72
