set_option maxRecDepth 20000 in
theorem iX1_tick_X1 : ∀ w ∈ u_ws RX1 TX1 16, w ∈ wsX1_tick := zm_places _ [44, 45, 46, 47, 48, 49, 50, 51, 52, 53, 54, 55, 56, 57, 58, 59] (by decide +kernel)
theorem kX1_tick_2 : Cond.fieldLink RX1 46 "StepPairs$Encoder" "run" "I" ∈ wsX1_tick := List.mem_of_getElem? (i := 2) rfl
theorem kX1_tick_3 : Cond.fieldLink RX1 40 "StepPairs$Encoder" "latestPair" "I" ∈ wsX1_tick := List.mem_of_getElem? (i := 3) rfl
theorem kX1_tick_1 : Cond.fieldLink RX1 43 "StepPairs$Encoder" "latestIndex" "I" ∈ wsX1_tick := List.mem_of_getElem? (i := 1) rfl
theorem kX1_tick_6 : Cond.fieldLink RX1 27 "StepPairs$Encoder" "ticks" "I" ∈ wsX1_tick := List.mem_of_getElem? (i := 6) rfl
theorem kX1_tick_7 : Cond.fieldLink RX1 15 "StepPairs$Encoder" "log" "[I" ∈ wsX1_tick := List.mem_of_getElem? (i := 7) rfl
theorem kX1_tick_4 : Cond.fieldLink RX1 37 "StepPairs$Encoder" "seen" "I" ∈ wsX1_tick := List.mem_of_getElem? (i := 4) rfl
theorem kX1_tick_5 : Cond.fieldLink RX1 58 "StepPairs$Encoder" "illegal" "I" ∈ wsX1_tick := List.mem_of_getElem? (i := 5) rfl
abbrev rmX1_tick : Room := { frames := 2, cells := 0, slots := 0, locals := 43 }
set_option maxHeartbeats 4000000 in
set_option maxRecDepth 100000 in
theorem t_X1_tick (l : Launch) (D : va_G) (J : Nat → ClassId) (h0 h1 h2 : Nat) (E : Enc) (q i0 : Int) (hI : InvE E) (hq : 0 ≤ q ∧ q ≤ 3) (hi : 0 ≤ i0 ∧ i0 ≤ 1) : ZX l yX1_tick wsX1_tick rmX1_tick D J [.ref h0, .int (iI q), .int (iI i0)] (wE J h0 h1 h2 E) (some (.int (iI (cDeed E.1 E.2.1 q)))) (wE J h0 h1 h2 (cTick E q i0)) := by
  obtain ⟨hE2, hE3, hE4, hE5, hE6, hE7, hE8, hE9, hE10, hE13, hE14, hE15, hs0, hs1, hs2, hs3, hs4, hg⟩ := id hI
  refine z_met (cc := cX1_tick) (nL := 6) (ret := (some .int)) (own := RX1) (by decide) rfl rfl (Nat.le_of_ble_eq_true rfl) (fun p e s m args below meth c hC hr hin => ?_)
  refine z_lv0 (lv' := [(0, .ref h0), (1, .int (iI q)), (2, .int (iI i0))]) rfl ?_
  refine z_aload_n hC dX1_tick_0 rfl 0 rfl ?_
  refine z_iload_n hC dX1_tick_1 rfl 1 rfl ?_
  refine z_callV (wr := ([] : va_W)) (av := [.int (iI q)]) (st := []) hC (t_X1_deedBy l D J h0 h1 h2 E q hq hE5 hE6 ⟨by omega, by omega⟩ hs2) gX1_tick_X1_deedBy rfl 1 (by decide +kernel) ⟨Nat.le_of_ble_eq_true rfl, Nat.le_of_ble_eq_true rfl⟩ ⟨Nat.le_of_ble_eq_true rfl, Nat.le_of_ble_eq_true rfl⟩ [0, 1, 2] [] rfl rfl rfl (by decide) rfl 0 rfl rfl rfl rfl rfl (Nat.le_of_ble_eq_true rfl) dX1_tick_2 (fun _ _ => ?_)
  refine z_ws (ws' := wE J h0 h1 h2 E) rfl ?_
  refine z_st (st' := [.int (iI (cDeed E.1 E.2.1 q))]) rfl ?_
  generalize hd : cDeed E.1 E.2.1 q = d
  have hd03 : 0 ≤ d ∧ d ≤ 3 := hd ▸ cDeed_in _ _ _
  refine z_istore_n (lv' := [(3, .int (iI d)), (0, .ref h0), (1, .int (iI q)), (2, .int (iI i0))]) hC dX1_tick_5 rfl (by decide) rfl ?_
  refine z_join (α := Int) (fun v4 => v4 = if i0 = 1 then (if E.1 7 = 0 then 1 else 0) else 0) (fun v4 => wE J h0 h1 h2 E) (fun v4 => [(4, .int (iI v4)), (3, .int (iI d)), (0, .ref h0), (1, .int (iI q)), (2, .int (iI i0))]) 25 (fun v4 => []) (fun v4 hv4 => ?_) (fun K_1 => ?_)
  · change Z _ _ _ _ _ _ _ _ _ _ _ _ _ _ _ _ (wE J h0 h1 h2 E) ([(4, .int (iI v4)), (3, .int (iI d)), (0, .ref h0), (1, .int (iI q)), (2, .int (iI i0))]) 25 ([])
    have hv01 : v4 = 0 ∨ v4 = 1 := by rw [hv4]; (repeat' split) <;> omega
    refine z_aload_n hC dX1_tick_25 rfl 2 rfl ?_
    refine z_aload_n hC dX1_tick_26 rfl 2 rfl ?_
    refine z_iload_n hC dX1_tick_27 rfl 3 rfl ?_
    refine z_callV (wr := ([] : va_W)) (av := [.int (iI q)]) (st := [.ref h0]) hC (t_X1_runWith l D J h0 h1 h2 E q hq hE6) gX1_tick_X1_runWith rfl 1 (by decide +kernel) ⟨Nat.le_of_ble_eq_true rfl, Nat.le_of_ble_eq_true rfl⟩ ⟨Nat.le_of_ble_eq_true rfl, Nat.le_of_ble_eq_true rfl⟩ [0, 1, 2] [] rfl rfl rfl (by decide) rfl 0 rfl rfl rfl rfl rfl (Nat.le_of_ble_eq_true rfl) dX1_tick_28 (fun _ _ => ?_)
    refine z_ws (ws' := wE J h0 h1 h2 E) rfl ?_
    refine z_st (st' := [.int (iI (cRun E.1 q)), .ref h0]) rfl ?_
    refine z_puti (ws' := wE J h0 h1 h2 (updZ E.1 8 (cRun E.1 q), E.2.1, E.2.2)) hC zkX1 iX1_tick_X1 0 rfl 8 (by decide) kX1_tick_2 rfl rfl rfl rfl rfl rfl dX1_tick_31 rfl ?_
    refine z_aload_n hC dX1_tick_34 rfl 2 rfl ?_
    refine z_iload_n hC dX1_tick_35 rfl 3 rfl ?_
    refine z_puti (ws' := wE J h0 h1 h2 (updZ (updZ E.1 8 (cRun E.1 q)) 6 q, E.2.1, E.2.2)) hC zkX1 iX1_tick_X1 0 rfl 6 (by decide) kX1_tick_3 rfl rfl rfl rfl rfl rfl dX1_tick_36 rfl ?_
    refine z_aload_n hC dX1_tick_39 rfl 2 rfl ?_
    refine z_iload_n hC dX1_tick_40 rfl 4 rfl ?_
    refine z_puti (ws' := wE J h0 h1 h2 (updZ (updZ (updZ E.1 8 (cRun E.1 q)) 6 q) 7 i0, E.2.1, E.2.2)) hC zkX1 iX1_tick_X1 0 rfl 7 (by decide) kX1_tick_1 rfl rfl rfl rfl rfl rfl dX1_tick_41 rfl ?_
    refine z_join (α := Unit) (fun u => True) (fun u => wE J h0 h1 h2 (cTick1 E.1 E.2.1 q i0, E.2.1, E.2.2)) (fun u => [(4, .int (iI v4)), (3, .int (iI d)), (0, .ref h0), (1, .int (iI q)), (2, .int (iI i0))]) 83 (fun u => []) (fun u hu => ?_) (fun K_2 => ?_)
    · change Z _ _ _ _ _ _ _ _ _ _ _ _ _ _ _ _ (wE J h0 h1 h2 (cTick1 E.1 E.2.1 q i0, E.2.1, E.2.2)) ([(4, .int (iI v4)), (3, .int (iI d)), (0, .ref h0), (1, .int (iI q)), (2, .int (iI i0))]) 83 ([])
      refine z_iload hC dX1_tick_83 0 rfl ?_
      refine z_if_eq (tgt := 92) hC dX1_tick_85 (by decide) (by unfold inR; omega) (fun c_85_3 => ?_) (fun c_85_3 => ?_)
      · refine z_aload_n hC dX1_tick_92 rfl 2 rfl ?_
        refine z_geti hC zkX1 iX1_tick_X1 0 rfl 2 (by decide) kX1_tick_6 rfl rfl dX1_tick_93 ?_
        refine z_int (y := iI (E.1 2)) hC (congrArg iI (cTick1_2 _ _ _ _)) ?_
        refine z_sipush hC dX1_tick_96 (by decide) ?_
        refine z_irem hC dX1_tick_99 (by omega) (by omega) (by omega) (by omega) ?_
        refine z_istore (lv' := [(5, .int (iI ((E.1 2) % 200))), (4, .int (iI v4)), (3, .int (iI d)), (0, .ref h0), (1, .int (iI q)), (2, .int (iI i0))]) hC dX1_tick_100 (by decide) rfl ?_
        refine z_iload hC dX1_tick_102 0 rfl ?_
        refine z_if_lt_f (tgt := 132) hC dX1_tick_104 (by decide) (by unfold inR; omega) (by omega) ?_
        refine z_iload hC dX1_tick_107 0 rfl ?_
        refine z_sipush hC dX1_tick_109 (by decide) ?_
        refine z_icmp_ge_f (tgt := 132) hC dX1_tick_112 (by decide) (by unfold inR; omega) ⟨by decide, by decide⟩ (by omega) ?_
        refine z_aload_n hC dX1_tick_115 rfl 3 rfl ?_
        refine z_getr hC zkX1 iX1_tick_X1 0 rfl 1 (by decide) kX1_tick_7 rfl rfl dX1_tick_116 ?_
        refine z_iload hC dX1_tick_119 0 rfl ?_
        refine z_iload_n hC dX1_tick_121 rfl 4 rfl ?_
        refine z_iconst hC dX1_tick_122 ?_
        refine z_iload_n hC dX1_tick_123 rfl 5 rfl ?_
        refine z_imul hC dX1_tick_124 ?_
        refine z_iadd hC dX1_tick_125 ?_
        refine z_bipush hC dX1_tick_126 (by decide) ?_
        refine z_iload_n hC dX1_tick_128 rfl 2 rfl ?_
        refine z_imul hC dX1_tick_129 ?_
        refine z_iadd hC dX1_tick_130 ?_
        refine z_iast (ws' := wE J h0 h1 h2 (cTick1 E.1 E.2.1 q i0, E.2.1, updZ E.2.2 (Int.toNat ((E.1 2) % 200)) ((q + (4 * i0)) + (8 * d)))) hC 2 rfl 0 rfl (Int.toNat ((E.1 2) % 200)) (Int.toNat_of_nonneg (by omega)).symm (by omega) (by decide) dX1_tick_131 rfl ?_
        refine z_aload_n hC dX1_tick_132 rfl 3 rfl ?_
        refine z_dup hC dX1_tick_133 rfl ?_
        refine z_geti hC zkX1 iX1_tick_X1 0 rfl 2 (by decide) kX1_tick_6 rfl rfl dX1_tick_134 ?_
        refine z_int (y := iI (E.1 2)) hC (congrArg iI (cTick1_2 _ _ _ _)) ?_
        refine z_iconst hC dX1_tick_137 ?_
        refine z_iadd hC dX1_tick_138 ?_
        refine z_puti (ws' := wE J h0 h1 h2 (updZ (cTick1 E.1 E.2.1 q i0) 2 ((E.1 2) + 1), E.2.1, updZ E.2.2 (Int.toNat ((E.1 2) % 200)) ((q + (4 * i0)) + (8 * d)))) hC zkX1 iX1_tick_X1 0 rfl 2 (by decide) kX1_tick_6 rfl rfl rfl rfl rfl rfl dX1_tick_139 rfl ?_
        refine z_iload_n hC dX1_tick_142 rfl 2 rfl ?_
        exact z_iret hC hr rfl () trivial (rfl) (congrArg (wE J h0 h1 h2) (by unfold cTick cTick2; simp only [hd]; (repeat' split) <;> first | rfl | omega)) dX1_tick_143
      · refine z_aload_n hC dX1_tick_88 rfl 2 rfl ?_
        refine z_callV (wr := ([] : va_W)) (av := []) (st := []) hC (t_X1_meetIndex l D J h0 h1 h2 (cTick1 E.1 E.2.1 q i0, E.2.1, E.2.2)  (cTick1_4 _ _ _ _ hE4) hs0.2 hs4) gX1_tick_X1_meetIndex rfl 0 (by decide +kernel) ⟨Nat.le_of_ble_eq_true rfl, Nat.le_of_ble_eq_true rfl⟩ ⟨Nat.le_of_ble_eq_true rfl, Nat.le_of_ble_eq_true rfl⟩ [0, 1, 2] [] rfl rfl rfl (by decide) rfl 0 rfl rfl rfl rfl rfl (Nat.le_of_ble_eq_true rfl) dX1_tick_89 (fun _ _ => ?_)
        refine z_ws (ws' := wE J h0 h1 h2 (cMeet (cTick1 E.1 E.2.1 q i0) E.2.1, E.2.1, E.2.2)) rfl ?_
        refine z_st (st' := []) rfl ?_
        refine z_aload_n hC dX1_tick_92 rfl 2 rfl ?_
        refine z_geti hC zkX1 iX1_tick_X1 0 rfl 2 (by decide) kX1_tick_6 rfl rfl dX1_tick_93 ?_
        refine z_int (y := iI (E.1 2)) hC (congrArg iI ((cMeet_2 _ _).trans (cTick1_2 _ _ _ _))) ?_
        refine z_sipush hC dX1_tick_96 (by decide) ?_
        refine z_irem hC dX1_tick_99 (by omega) (by omega) (by omega) (by omega) ?_
        refine z_istore (lv' := [(5, .int (iI ((E.1 2) % 200))), (4, .int (iI v4)), (3, .int (iI d)), (0, .ref h0), (1, .int (iI q)), (2, .int (iI i0))]) hC dX1_tick_100 (by decide) rfl ?_
        refine z_iload hC dX1_tick_102 0 rfl ?_
        refine z_if_lt_f (tgt := 132) hC dX1_tick_104 (by decide) (by unfold inR; omega) (by omega) ?_
        refine z_iload hC dX1_tick_107 0 rfl ?_
        refine z_sipush hC dX1_tick_109 (by decide) ?_
        refine z_icmp_ge_f (tgt := 132) hC dX1_tick_112 (by decide) (by unfold inR; omega) ⟨by decide, by decide⟩ (by omega) ?_
        refine z_aload_n hC dX1_tick_115 rfl 3 rfl ?_
        refine z_getr hC zkX1 iX1_tick_X1 0 rfl 1 (by decide) kX1_tick_7 rfl rfl dX1_tick_116 ?_
        refine z_iload hC dX1_tick_119 0 rfl ?_
        refine z_iload_n hC dX1_tick_121 rfl 4 rfl ?_
        refine z_iconst hC dX1_tick_122 ?_
        refine z_iload_n hC dX1_tick_123 rfl 5 rfl ?_
        refine z_imul hC dX1_tick_124 ?_
        refine z_iadd hC dX1_tick_125 ?_
        refine z_bipush hC dX1_tick_126 (by decide) ?_
        refine z_iload_n hC dX1_tick_128 rfl 2 rfl ?_
        refine z_imul hC dX1_tick_129 ?_
        refine z_iadd hC dX1_tick_130 ?_
        refine z_iast (ws' := wE J h0 h1 h2 (cMeet (cTick1 E.1 E.2.1 q i0) E.2.1, E.2.1, updZ E.2.2 (Int.toNat ((E.1 2) % 200)) ((q + (4 * i0)) + (8 * d)))) hC 2 rfl 0 rfl (Int.toNat ((E.1 2) % 200)) (Int.toNat_of_nonneg (by omega)).symm (by omega) (by decide) dX1_tick_131 rfl ?_
        refine z_aload_n hC dX1_tick_132 rfl 3 rfl ?_
        refine z_dup hC dX1_tick_133 rfl ?_
        refine z_geti hC zkX1 iX1_tick_X1 0 rfl 2 (by decide) kX1_tick_6 rfl rfl dX1_tick_134 ?_
        refine z_int (y := iI (E.1 2)) hC (congrArg iI ((cMeet_2 _ _).trans (cTick1_2 _ _ _ _))) ?_
        refine z_iconst hC dX1_tick_137 ?_
        refine z_iadd hC dX1_tick_138 ?_
        refine z_puti (ws' := wE J h0 h1 h2 (updZ (cMeet (cTick1 E.1 E.2.1 q i0) E.2.1) 2 ((E.1 2) + 1), E.2.1, updZ E.2.2 (Int.toNat ((E.1 2) % 200)) ((q + (4 * i0)) + (8 * d)))) hC zkX1 iX1_tick_X1 0 rfl 2 (by decide) kX1_tick_6 rfl rfl rfl rfl rfl rfl dX1_tick_139 rfl ?_
        refine z_iload_n hC dX1_tick_142 rfl 2 rfl ?_
        exact z_iret hC hr rfl () trivial (rfl) (congrArg (wE J h0 h1 h2) (by unfold cTick cTick2; simp only [hd]; (repeat' split) <;> first | rfl | omega)) dX1_tick_143
    · skip
      refine z_iload_n hC dX1_tick_44 rfl 1 rfl ?_
      refine z_if_eq (tgt := 53) hC dX1_tick_45 (by decide) (by unfold inR; omega) (fun c_45_4 => ?_) (fun c_45_4 => ?_)
      · refine z_iload_n hC dX1_tick_53 rfl 1 rfl ?_
        refine z_iconst hC dX1_tick_54 ?_
        refine z_icmp_ne_t (tgt := 68) hC dX1_tick_55 (by decide) (by unfold inR; omega) ⟨by decide, by decide⟩ (by omega) ?_
        refine z_iload_n hC dX1_tick_68 rfl 1 rfl ?_
        refine z_iconst hC dX1_tick_69 ?_
        refine z_icmp_eq_f (tgt := 78) hC dX1_tick_70 (by decide) (by unfold inR; omega) ⟨by decide, by decide⟩ (by omega) ?_
        refine z_iload_n hC dX1_tick_73 rfl 1 rfl ?_
        refine z_iconst hC dX1_tick_74 ?_
        refine z_icmp_ne_t (tgt := 83) hC dX1_tick_75 (by decide) (by unfold inR; omega) ⟨by decide, by decide⟩ (by omega) ?_
        refine z_ws (ws' := wE J h0 h1 h2 (cTick1 E.1 E.2.1 q i0, E.2.1, E.2.2)) (congrArg (wE J h0 h1 h2) (Prod.ext (by unfold cTick1 cTick0; simp only [hd]; (repeat' split) <;> first | rfl | omega) rfl)) ?_
        refine z_lv (lv' := _) [0, 1, 2, 3, 4] rfl ?_
        exact K_2 () trivial
      · refine z_aload_n hC dX1_tick_48 rfl 2 rfl ?_
        refine z_iload_n hC dX1_tick_49 rfl 3 rfl ?_
        refine z_puti (ws' := wE J h0 h1 h2 (updZ (updZ (updZ (updZ E.1 8 (cRun E.1 q)) 6 q) 7 i0) 5 q, E.2.1, E.2.2)) hC zkX1 iX1_tick_X1 0 rfl 5 (by decide) kX1_tick_4 rfl rfl rfl rfl rfl rfl dX1_tick_50 rfl ?_
        refine z_iload_n hC dX1_tick_53 rfl 1 rfl ?_
        refine z_iconst hC dX1_tick_54 ?_
        refine z_icmp_ne (tgt := 68) hC dX1_tick_55 (by decide) (by unfold inR; omega) ⟨by decide, by decide⟩ (fun c_55_5 => ?_) (fun c_55_5 => ?_)
        · refine z_iload_n hC dX1_tick_68 rfl 1 rfl ?_
          refine z_iconst hC dX1_tick_69 ?_
          refine z_icmp_eq (tgt := 78) hC dX1_tick_70 (by decide) (by unfold inR; omega) ⟨by decide, by decide⟩ (fun c_70_6 => ?_) (fun c_70_6 => ?_)
          · refine z_aload_n hC dX1_tick_78 rfl 2 rfl ?_
            refine z_iload_n hC dX1_tick_79 rfl 1 rfl ?_
            refine z_callV (wr := ([] : va_W)) (av := [.int (iI d)]) (st := []) hC (t_X1_step l D J h0 h1 h2 (updZ (updZ (updZ (updZ E.1 8 (cRun E.1 q)) 6 q) 7 i0) 5 q, E.2.1, E.2.2) d (by omega) hE2 hE3 hE4 hE9 hs0 hs1) gX1_tick_X1_step rfl 1 (by decide +kernel) ⟨Nat.le_of_ble_eq_true rfl, Nat.le_of_ble_eq_true rfl⟩ ⟨Nat.le_of_ble_eq_true rfl, Nat.le_of_ble_eq_true rfl⟩ [0, 1, 2] [] rfl rfl rfl (by decide) rfl 0 rfl rfl rfl rfl rfl (Nat.le_of_ble_eq_true rfl) dX1_tick_80 (fun _ _ => ?_)
            refine z_ws (ws' := wE J h0 h1 h2 (cStep (updZ (updZ (updZ (updZ E.1 8 (cRun E.1 q)) 6 q) 7 i0) 5 q) E.2.1 d, E.2.1, E.2.2)) rfl ?_
            refine z_st (st' := []) rfl ?_
            refine z_ws (ws' := wE J h0 h1 h2 (cTick1 E.1 E.2.1 q i0, E.2.1, E.2.2)) (congrArg (wE J h0 h1 h2) (Prod.ext (by unfold cTick1 cTick0; simp only [hd]; (repeat' split) <;> first | rfl | omega) rfl)) ?_
            refine z_lv (lv' := _) [0, 1, 2, 3, 4] rfl ?_
            exact K_2 () trivial
          · refine z_iload_n hC dX1_tick_73 rfl 1 rfl ?_
            refine z_iconst hC dX1_tick_74 ?_
            refine z_icmp_ne (tgt := 83) hC dX1_tick_75 (by decide) (by unfold inR; omega) ⟨by decide, by decide⟩ (fun c_75_7 => ?_) (fun c_75_7 => ?_)
            · refine z_ws (ws' := wE J h0 h1 h2 (cTick1 E.1 E.2.1 q i0, E.2.1, E.2.2)) (congrArg (wE J h0 h1 h2) (Prod.ext (by unfold cTick1 cTick0; simp only [hd]; (repeat' split) <;> first | rfl | omega) rfl)) ?_
              refine z_lv (lv' := _) [0, 1, 2, 3, 4] rfl ?_
              exact K_2 () trivial
            · refine z_aload_n hC dX1_tick_78 rfl 2 rfl ?_
              refine z_iload_n hC dX1_tick_79 rfl 1 rfl ?_
              refine z_callV (wr := ([] : va_W)) (av := [.int (iI d)]) (st := []) hC (t_X1_step l D J h0 h1 h2 (updZ (updZ (updZ (updZ E.1 8 (cRun E.1 q)) 6 q) 7 i0) 5 q, E.2.1, E.2.2) d (by omega) hE2 hE3 hE4 hE9 hs0 hs1) gX1_tick_X1_step rfl 1 (by decide +kernel) ⟨Nat.le_of_ble_eq_true rfl, Nat.le_of_ble_eq_true rfl⟩ ⟨Nat.le_of_ble_eq_true rfl, Nat.le_of_ble_eq_true rfl⟩ [0, 1, 2] [] rfl rfl rfl (by decide) rfl 0 rfl rfl rfl rfl rfl (Nat.le_of_ble_eq_true rfl) dX1_tick_80 (fun _ _ => ?_)
              refine z_ws (ws' := wE J h0 h1 h2 (cStep (updZ (updZ (updZ (updZ E.1 8 (cRun E.1 q)) 6 q) 7 i0) 5 q) E.2.1 d, E.2.1, E.2.2)) rfl ?_
              refine z_st (st' := []) rfl ?_
              refine z_ws (ws' := wE J h0 h1 h2 (cTick1 E.1 E.2.1 q i0, E.2.1, E.2.2)) (congrArg (wE J h0 h1 h2) (Prod.ext (by unfold cTick1 cTick0; simp only [hd]; (repeat' split) <;> first | rfl | omega) rfl)) ?_
              refine z_lv (lv' := _) [0, 1, 2, 3, 4] rfl ?_
              exact K_2 () trivial
        · refine z_aload_n hC dX1_tick_58 rfl 2 rfl ?_
          refine z_dup hC dX1_tick_59 rfl ?_
          refine z_geti hC zkX1 iX1_tick_X1 0 rfl 12 (by decide) kX1_tick_5 rfl rfl dX1_tick_60 ?_
          refine z_int (y := iI (E.1 12)) hC (rfl) ?_
          refine z_iconst hC dX1_tick_63 ?_
          refine z_iadd hC dX1_tick_64 ?_
          refine z_puti (ws' := wE J h0 h1 h2 (updZ (updZ (updZ (updZ (updZ E.1 8 (cRun E.1 q)) 6 q) 7 i0) 5 q) 12 ((E.1 12) + 1), E.2.1, E.2.2)) hC zkX1 iX1_tick_X1 0 rfl 12 (by decide) kX1_tick_5 rfl rfl rfl rfl rfl rfl dX1_tick_65 rfl ?_
          refine z_iload_n hC dX1_tick_68 rfl 1 rfl ?_
          refine z_iconst hC dX1_tick_69 ?_
          refine z_icmp_eq_f (tgt := 78) hC dX1_tick_70 (by decide) (by unfold inR; omega) ⟨by decide, by decide⟩ (by omega) ?_
          refine z_iload_n hC dX1_tick_73 rfl 1 rfl ?_
          refine z_iconst hC dX1_tick_74 ?_
          refine z_icmp_ne_t (tgt := 83) hC dX1_tick_75 (by decide) (by unfold inR; omega) ⟨by decide, by decide⟩ (by omega) ?_
          refine z_ws (ws' := wE J h0 h1 h2 (cTick1 E.1 E.2.1 q i0, E.2.1, E.2.2)) (congrArg (wE J h0 h1 h2) (Prod.ext (by unfold cTick1 cTick0; simp only [hd]; (repeat' split) <;> first | rfl | omega) rfl)) ?_
          refine z_lv (lv' := _) [0, 1, 2, 3, 4] rfl ?_
          exact K_2 () trivial
  · skip
    refine z_iload_n hC dX1_tick_6 rfl 3 rfl ?_
    refine z_iconst hC dX1_tick_7 ?_
    refine z_icmp_ne (tgt := 22) hC dX1_tick_8 (by decide) (by unfold inR; omega) ⟨by decide, by decide⟩ (fun c_8_8 => ?_) (fun c_8_8 => ?_)
    · refine z_iconst hC dX1_tick_22 ?_
      refine z_istore (lv' := [(4, .int (iI 0)), (3, .int (iI d)), (0, .ref h0), (1, .int (iI q)), (2, .int (iI i0))]) hC dX1_tick_23 (by decide) rfl ?_
      refine z_lv (lv' := _) [0, 1, 2, 3, 4] rfl ?_
      exact K_1 0 (by (repeat' split) <;> first | rfl | omega)
    · refine z_aload_n hC dX1_tick_11 rfl 1 rfl ?_
      refine z_geti hC zkX1 iX1_tick_X1 0 rfl 7 (by decide) kX1_tick_1 rfl rfl dX1_tick_12 ?_
      refine z_if_ne (tgt := 22) hC dX1_tick_15 (by decide) (by unfold inR; omega) (fun c_15_9 => ?_) (fun c_15_9 => ?_)
      · refine z_iconst hC dX1_tick_22 ?_
        refine z_istore (lv' := [(4, .int (iI 0)), (3, .int (iI d)), (0, .ref h0), (1, .int (iI q)), (2, .int (iI i0))]) hC dX1_tick_23 (by decide) rfl ?_
        refine z_lv (lv' := _) [0, 1, 2, 3, 4] rfl ?_
        exact K_1 0 (by (repeat' split) <;> first | rfl | omega)
      · refine z_iconst hC dX1_tick_18 ?_
        refine z_goto (tgt := 23) hC dX1_tick_19 (by decide) ?_
        refine z_istore (lv' := [(4, .int (iI 1)), (3, .int (iI d)), (0, .ref h0), (1, .int (iI q)), (2, .int (iI i0))]) hC dX1_tick_23 (by decide) rfl ?_
        refine z_lv (lv' := _) [0, 1, 2, 3, 4] rfl ?_
        exact K_1 1 (by (repeat' split) <;> first | rfl | omega)
