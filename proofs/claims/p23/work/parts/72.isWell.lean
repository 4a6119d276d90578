/-! ===== p23: isWell ===== -/
theorem kL_isWell_1 : Cond.arrayClass .int ∈ wsL_isWell := List.mem_of_getElem? (i := 1) rfl
abbrev rmL_isWell : Room := { frames := 7, cells := 1, slots := 4, locals := 142 }
set_option maxHeartbeats 16000000 in
set_option maxRecDepth 100000 in
theorem t_L_isWell (l : Launch) (D : va_G) (J : Nat → ClassId) (ho : Nat) (Ao : Nat → Nat → Nat) (n0 : Nat) (a : SPS) (hOk : OkS n0 a) (hW : WellE a.1) : ZM (S := Enc) l yL_isWell wsL_isWell rmL_isWell D J [.ref ho] (wO J ho Ao a) (fun u => ∀ j, 0 ≤ u.2.2 j ∧ u.2.2 j ≤ 31) (fun _ => some (.int (iI 1))) (fun u => wO J ho Ao (a.1, u, a.2.2)) := by
  have hI := hOk.1.1
  have i2 : 0 ≤ a.1.1 2 ∧ a.1.1 2 ≤ 99999 := hI.1
  have i3 : 0 ≤ a.1.1 3 ∧ a.1.1 3 < a.1.2.1 1 := hI.2.1
  have i4 : 0 ≤ a.1.1 4 ∧ a.1.1 4 < a.1.2.1 0 := hI.2.2.1
  have i5 : 0 ≤ a.1.1 5 ∧ a.1.1 5 ≤ 3 := hI.2.2.2.1
  have i9 : 0 ≤ a.1.1 9 ∧ a.1.1 9 ≤ 2 := hI.2.2.2.2.2.2.2.1
  have i10 : 0 ≤ a.1.1 10 ∧ 0 ≤ a.1.1 11 ∧ 0 ≤ a.1.1 12 ∧ a.1.1 10 + a.1.1 11 + a.1.1 12 ≤ a.1.1 2 := hI.2.2.2.2.2.2.2.2.1
  have i15 : 0 ≤ a.1.1 15 ∧ a.1.1 15 ≤ a.1.1 2 := hI.2.2.2.2.2.2.2.2.2.2.2.1
  have ea0 : a.1.2.1 0 = 40 := hOk.1.2.2.1
  have ea1 : a.1.2.1 1 = 1000 := hOk.1.2.2.2.1
  have isw := swZ_in i5
  have is2 : 1 ≤ a.1.2.1 2 ∧ a.1.2.1 2 ≤ 9 := hI.2.2.2.2.2.2.2.2.2.2.2.2.2.2.1
  have is3 : 1 ≤ a.1.2.1 3 ∧ a.1.2.1 3 ≤ 99 := hI.2.2.2.2.2.2.2.2.2.2.2.2.2.2.2.1
  refine z_met (cc := cL_isWell) (nL := 9) (ret := (some .boolean)) (own := RL) (by decide) rfl rfl (Nat.le_of_ble_eq_true rfl) (fun p e s m args below meth c hC hr hin => ?_)
  refine z_lv0 (lv' := [(0, .ref ho)]) rfl ?_
  refine z_aload_n hC dL_isWell_0 rfl 0 rfl ?_
  refine z_bipush hC dL_isWell_1 (by decide) ?_
  refine zs_count (v := min (a.1.1 2) 200) hC gL_isWell_X5_count ⟨Nat.le_of_ble_eq_true rfl, Nat.le_of_ble_eq_true rfl⟩ ⟨Nat.le_of_ble_eq_true rfl, Nat.le_of_ble_eq_true rfl⟩ hOk.T 9 ⟨by decide, by decide⟩ rfl (Nat.le_of_ble_eq_true rfl) dL_isWell_3 ?_
  refine z_istore_n (lv' := [(1, .int (iI (min (a.1.1 2) 200))), (0, .ref ho)]) hC dL_isWell_6 rfl (by decide) rfl ?_
  refine z_iconst hC dL_isWell_7 ?_
  refine z_istore_n (lv' := [(2, .int (iI 0)), (1, .int (iI (min (a.1.1 2) 200))), (0, .ref ho)]) hC dL_isWell_8 rfl (by decide) rfl ?_
  refine z_iconst hC dL_isWell_9 ?_
  refine z_istore_n (lv' := [(3, .int (iI (-1))), (2, .int (iI 0)), (1, .int (iI (min (a.1.1 2) 200))), (0, .ref ho)]) hC dL_isWell_10 rfl (by decide) rfl ?_
  refine z_iconst hC dL_isWell_11 ?_
  refine z_istore (lv' := [(4, .int (iI (-1))), (3, .int (iI (-1))), (2, .int (iI 0)), (1, .int (iI (min (a.1.1 2) 200))), (0, .ref ho)]) hC dL_isWell_12 (by decide) rfl ?_
  refine z_iconst hC dL_isWell_14 ?_
  refine z_newarr (atype := .int) (ty := .int) (N' := 4) (t0 := 0) (cA0 := J 0) hC kL_isWell_1 rfl rfl rfl (fun _ h => h) rfl (by decide) (Nat.le_of_ble_eq_true rfl) (Nat.le_of_ble_eq_true rfl) (Nat.le_of_ble_eq_true rfl) dL_isWell_15 (fun qa => ?_)
  refine z_ws (ws' := wQ J ho Ao a qa (fun _ => 0)) rfl ?_
  refine z_astore (lv' := [(5, .ref qa), (4, .int (iI (-1))), (3, .int (iI (-1))), (2, .int (iI 0)), (1, .int (iI (min (a.1.1 2) 200))), (0, .ref ho)]) hC dL_isWell_17 (by decide) rfl ?_
  refine z_iload_n hC dL_isWell_19 rfl 4 rfl ?_
  refine z_aload_n hC dL_isWell_20 rfl 5 rfl ?_
  refine z_iconst hC dL_isWell_21 ?_
  refine zq_count (v := a.1.1 2) hC gL_isWell_X5_count ⟨Nat.le_of_ble_eq_true rfl, Nat.le_of_ble_eq_true rfl⟩ ⟨Nat.le_of_ble_eq_true rfl, Nat.le_of_ble_eq_true rfl⟩ hOk.T 0 ⟨by decide, by decide⟩ rfl (Nat.le_of_ble_eq_true rfl) dL_isWell_22 ?_
  refine z_sipush hC dL_isWell_25 (by decide) ?_
  refine z_join (α := Unit) (fun u => True) (fun u => wQ J ho Ao a qa (fun _ => 0)) (fun u => [(5, .ref qa), (4, .int (iI (-1))), (3, .int (iI (-1))), (2, .int (iI 0)), (1, .int (iI (min (a.1.1 2) 200))), (0, .ref ho)]) 42 (fun u => [.int (iI (min (a.1.1 2) 200)), .int (iI (min (a.1.1 2) 200))]) (fun u hu => ?_) (fun K_1 => ?_)
  · change Z _ _ _ _ _ _ _ _ _ _ _ _ _ _ _ _ (wQ J ho Ao a qa (fun _ => 0)) ([(5, .ref qa), (4, .int (iI (-1))), (3, .int (iI (-1))), (2, .int (iI 0)), (1, .int (iI (min (a.1.1 2) 200))), (0, .ref ho)]) 42 ([.int (iI (min (a.1.1 2) 200)), .int (iI (min (a.1.1 2) 200))])
    refine z_icmp_ne_same (tgt := 103) hC dL_isWell_42 (by decide) ?_
    refine z_aload_n hC dL_isWell_45 rfl 5 rfl ?_
    refine z_iload_n hC dL_isWell_46 rfl 4 rfl ?_
    refine z_iconst hC dL_isWell_47 ?_
    refine zq_log (v := (-1)) hC gL_isWell_X5_log ⟨Nat.le_of_ble_eq_true rfl, Nat.le_of_ble_eq_true rfl⟩ ⟨Nat.le_of_ble_eq_true rfl, Nat.le_of_ble_eq_true rfl⟩ hOk.T (min (a.1.1 2) 200) 0 (by unfold inR; omega) ⟨by decide, by decide⟩ (logR_no (by omega)) (Nat.le_of_ble_eq_true rfl) dL_isWell_48 ?_
    refine z_iconst hC dL_isWell_51 ?_
    refine z_icmp_ne_same (tgt := 103) hC dL_isWell_52 (by decide) ?_
    refine z_aload_n hC dL_isWell_55 rfl 5 rfl ?_
    refine z_iconst hC dL_isWell_56 ?_
    refine zq_count (v := a.1.1 3) hC gL_isWell_X5_count ⟨Nat.le_of_ble_eq_true rfl, Nat.le_of_ble_eq_true rfl⟩ ⟨Nat.le_of_ble_eq_true rfl, Nat.le_of_ble_eq_true rfl⟩ hOk.T 1 ⟨by decide, by decide⟩ rfl (Nat.le_of_ble_eq_true rfl) dL_isWell_57 ?_
    refine z_if_lt_f (tgt := 103) hC dL_isWell_60 (by decide) (by unfold inR; omega) (by omega) ?_
    refine z_aload_n hC dL_isWell_63 rfl 5 rfl ?_
    refine z_iconst hC dL_isWell_64 ?_
    refine zq_count (v := a.1.1 3) hC gL_isWell_X5_count ⟨Nat.le_of_ble_eq_true rfl, Nat.le_of_ble_eq_true rfl⟩ ⟨Nat.le_of_ble_eq_true rfl, Nat.le_of_ble_eq_true rfl⟩ hOk.T 1 ⟨by decide, by decide⟩ rfl (Nat.le_of_ble_eq_true rfl) dL_isWell_65 ?_
    refine z_aload_n hC dL_isWell_68 rfl 5 rfl ?_
    refine z_bipush hC dL_isWell_69 (by decide) ?_
    refine zq_count (v := 1000) hC gL_isWell_X5_count ⟨Nat.le_of_ble_eq_true rfl, Nat.le_of_ble_eq_true rfl⟩ ⟨Nat.le_of_ble_eq_true rfl, Nat.le_of_ble_eq_true rfl⟩ hOk.T 11 ⟨by decide, by decide⟩ (show a.1.2.1 1 = 1000 from ea1) (Nat.le_of_ble_eq_true rfl) dL_isWell_71 ?_
    refine z_icmp_ge_f (tgt := 103) hC dL_isWell_74 (by decide) (by unfold inR; omega) ⟨by decide, by decide⟩ (by omega) ?_
    refine z_aload_n hC dL_isWell_77 rfl 5 rfl ?_
    refine z_iconst hC dL_isWell_78 ?_
    refine zq_count (v := a.1.1 4) hC gL_isWell_X5_count ⟨Nat.le_of_ble_eq_true rfl, Nat.le_of_ble_eq_true rfl⟩ ⟨Nat.le_of_ble_eq_true rfl, Nat.le_of_ble_eq_true rfl⟩ hOk.T 2 ⟨by decide, by decide⟩ rfl (Nat.le_of_ble_eq_true rfl) dL_isWell_79 ?_
    refine z_if_lt_f (tgt := 103) hC dL_isWell_82 (by decide) (by unfold inR; omega) (by omega) ?_
    refine z_aload_n hC dL_isWell_85 rfl 5 rfl ?_
    refine z_iconst hC dL_isWell_86 ?_
    refine zq_count (v := a.1.1 4) hC gL_isWell_X5_count ⟨Nat.le_of_ble_eq_true rfl, Nat.le_of_ble_eq_true rfl⟩ ⟨Nat.le_of_ble_eq_true rfl, Nat.le_of_ble_eq_true rfl⟩ hOk.T 2 ⟨by decide, by decide⟩ rfl (Nat.le_of_ble_eq_true rfl) dL_isWell_87 ?_
    refine z_aload_n hC dL_isWell_90 rfl 5 rfl ?_
    refine z_bipush hC dL_isWell_91 (by decide) ?_
    refine zq_count (v := 40) hC gL_isWell_X5_count ⟨Nat.le_of_ble_eq_true rfl, Nat.le_of_ble_eq_true rfl⟩ ⟨Nat.le_of_ble_eq_true rfl, Nat.le_of_ble_eq_true rfl⟩ hOk.T 10 ⟨by decide, by decide⟩ (show a.1.2.1 0 = 40 from ea0) (Nat.le_of_ble_eq_true rfl) dL_isWell_93 ?_
    refine z_icmp_ge_f (tgt := 103) hC dL_isWell_96 (by decide) (by unfold inR; omega) ⟨by decide, by decide⟩ (by omega) ?_
    refine z_iconst hC dL_isWell_99 ?_
    refine z_goto (tgt := 104) hC dL_isWell_100 (by decide) ?_
    refine z_istore (lv' := [(6, .int (iI 1)), (5, .ref qa), (4, .int (iI (-1))), (3, .int (iI (-1))), (2, .int (iI 0)), (1, .int (iI (min (a.1.1 2) 200))), (0, .ref ho)]) hC dL_isWell_104 (by decide) rfl ?_
    refine z_iconst hC dL_isWell_106 ?_
    refine z_istore (lv' := [(7, .int (iI 0)), (6, .int (iI 1)), (5, .ref qa), (4, .int (iI (-1))), (3, .int (iI (-1))), (2, .int (iI 0)), (1, .int (iI (min (a.1.1 2) 200))), (0, .ref ho)]) hC dL_isWell_107 (by decide) rfl ?_
    refine z_lv (lv' := [(7, .int (iI 0)), (2, .int (iI 0)), (3, .int (iI (-1))), (4, .int (iI (-1))), (6, .int (iI 1)), (5, .ref qa), (1, .int (iI (min (a.1.1 2) 200))), (0, .ref ho)]) [0, 5, 4, 3, 1, 2, 6, 7] rfl ?_
    refine z_ws (ws' := wQ J ho Ao a qa (dsF a.1 0)) (by rw [show dsF a.1 0 = (fun _ => 0) from funext (fun _ => rfl)]) ?_
    refine z_loop (α := Nat) (fun nn k => (k : Int) + (nn : Int) = min (a.1.1 2) 200) (fun nn k => wQ J ho Ao a qa (dsF a.1 k)) (fun nn k => [(7, .int (iI (k : Int))), (2, .int (iI (gatS a.1 k))), (3, .int (iI (fstS a.1 k))), (4, .int (iI (sndS a.1 k))), (6, .int (iI 1)), (5, .ref qa), (1, .int (iI (min (a.1.1 2) 200))), (0, .ref ho)]) 109 [] (fun nn k ih_2 hP_3 => ?_) (fun k hP_3 => ?_) (Int.toNat (min (a.1.1 2) 200)) 0 (by show ((0 : Nat) : Int) + _ = _; omega)
    · change Z _ _ _ _ _ _ _ _ _ _ _ _ _ _ _ _ (wQ J ho Ao a qa (dsF a.1 k)) ([(7, .int (iI (k : Int))), (2, .int (iI (gatS a.1 k))), (3, .int (iI (fstS a.1 k))), (4, .int (iI (sndS a.1 k))), (6, .int (iI 1)), (5, .ref qa), (1, .int (iI (min (a.1.1 2) 200))), (0, .ref ho)]) 109 ([])
      have hago : 0 ≤ (k : Int) ∧ (k : Int) < min (a.1.1 2) 200 := ⟨by omega, by omega⟩
      have hdi := cDat_in (invE_g hI) (f := a.1.1) (k : Int)
      have hgi := gatS_in a.1 k
      have hfi := fstS_in a.1 k
      have hsi := sndS_in a.1 k
      refine z_iload hC dL_isWell_109 0 rfl ?_
      refine z_iload_n hC dL_isWell_111 rfl 6 rfl ?_
      refine z_icmp_ge_f (tgt := 236) hC dL_isWell_112 (by decide) (by unfold inR; omega) (by unfold inR; omega) (by omega) ?_
      refine z_iload hC dL_isWell_115 4 rfl ?_
      refine z_if_eq_f (tgt := 236) hC dL_isWell_117 (by decide) ⟨by decide, by decide⟩ (by decide) ?_
      refine z_aload_n hC dL_isWell_120 rfl 7 rfl ?_
      refine z_iload hC dL_isWell_121 0 rfl ?_
      refine z_iconst hC dL_isWell_123 ?_
      refine zq_log (v := cDat a.1.1 a.1.2.2 (k : Int)) hC gL_isWell_X5_log ⟨Nat.le_of_ble_eq_true rfl, Nat.le_of_ble_eq_true rfl⟩ ⟨Nat.le_of_ble_eq_true rfl, Nat.le_of_ble_eq_true rfl⟩ hOk.T (k : Int) 2 (by unfold inR; omega) ⟨by decide, by decide⟩ ((logR_of (w := 0) hago).2.2) (Nat.le_of_ble_eq_true rfl) dL_isWell_124 ?_
      refine z_istore (lv' := [(8, .int (iI (cDat a.1.1 a.1.2.2 (k : Int)))), (7, .int (iI (k : Int))), (2, .int (iI (gatS a.1 k))), (3, .int (iI (fstS a.1 k))), (4, .int (iI (sndS a.1 k))), (6, .int (iI 1)), (5, .ref qa), (1, .int (iI (min (a.1.1 2) 200))), (0, .ref ho)]) hC dL_isWell_127 (by decide) rfl ?_
      refine z_aload hC dL_isWell_129 6 rfl ?_
      refine z_iload hC dL_isWell_131 0 rfl ?_
      refine z_dup2 hC dL_isWell_133 rfl rfl ?_
      refine z_iald hC 41 rfl 0 rfl (Int.toNat (cDat a.1.1 a.1.2.2 (k : Int))) (Int.toNat_of_nonneg hdi.1).symm (by omega) (by decide) dL_isWell_134 ?_
      refine z_iconst hC dL_isWell_135 ?_
      refine z_iadd hC dL_isWell_136 ?_
      refine z_iast (ws' := wO J ho Ao a ++ [cI (J 0) qa 4 (updZ (dsF a.1 k) (Int.toNat (cDat a.1.1 a.1.2.2 (k : Int))) (dsF a.1 k (Int.toNat (cDat a.1.1 a.1.2.2 (k : Int))) + 1))]) hC 41 rfl 0 rfl (Int.toNat (cDat a.1.1 a.1.2.2 (k : Int))) (Int.toNat_of_nonneg hdi.1).symm (by omega) (by decide) dL_isWell_137 rfl ?_
      refine z_ws (ws' := wQ J ho Ao a qa (dsF a.1 (k + 1))) (by rw [dsF_s hdi.1]) ?_
      refine z_iload_n hC dL_isWell_138 rfl 2 rfl ?_
      refine z_iload hC dL_isWell_139 1 rfl ?_
      refine z_aload_n hC dL_isWell_141 rfl 8 rfl ?_
      refine z_bipush hC dL_isWell_142 (by decide) ?_
      refine zq_count (v := a.1.2.1 3) hC gL_isWell_X5_count ⟨Nat.le_of_ble_eq_true rfl, Nat.le_of_ble_eq_true rfl⟩ ⟨Nat.le_of_ble_eq_true rfl, Nat.le_of_ble_eq_true rfl⟩ hOk.T 13 ⟨by decide, by decide⟩ rfl (Nat.le_of_ble_eq_true rfl) dL_isWell_144 ?_
      refine z_join (α := Int) (fun v => v = (if (k : Int) < a.1.2.1 3 then (if cDat a.1.1 a.1.2.2 (k : Int) = 1 then 1 else if cDat a.1.1 a.1.2.2 (k : Int) = 2 then -1 else 0) else 0)) (fun v => wQ J ho Ao a qa (dsF a.1 (k + 1))) (fun v => [(8, .int (iI (cDat a.1.1 a.1.2.2 (k : Int)))), (7, .int (iI (k : Int))), (2, .int (iI (gatS a.1 k))), (3, .int (iI (fstS a.1 k))), (4, .int (iI (sndS a.1 k))), (6, .int (iI 1)), (5, .ref qa), (1, .int (iI (min (a.1.1 2) 200))), (0, .ref ho)]) 175 (fun v => [.int (iI v), .int (iI (gatS a.1 k))]) (fun v hv => ?_) (fun K_4 => ?_)
      · change Z _ _ _ _ _ _ _ _ _ _ _ _ _ _ _ _ (wQ J ho Ao a qa (dsF a.1 (k + 1))) ([(8, .int (iI (cDat a.1.1 a.1.2.2 (k : Int)))), (7, .int (iI (k : Int))), (2, .int (iI (gatS a.1 k))), (3, .int (iI (fstS a.1 k))), (4, .int (iI (sndS a.1 k))), (6, .int (iI 1)), (5, .ref qa), (1, .int (iI (min (a.1.1 2) 200))), (0, .ref ho)]) 175 ([.int (iI v), .int (iI (gatS a.1 k))])
        have hv1 : -1 ≤ v ∧ v ≤ 1 := by rw [hv]; (repeat' split) <;> omega
        refine z_iadd hC dL_isWell_175 ?_
        refine z_st (st' := [.int (iI (gatS a.1 (k + 1)))]) (congrArg (fun z : Int => ([.int (iI z)] : List Value)) (show (gatS a.1 k) + v = gatS a.1 (k + 1) by rw [gatS_s, hv])) ?_
        refine z_istore_n (lv' := [(2, .int (iI (gatS a.1 (k + 1)))), (8, .int (iI (cDat a.1.1 a.1.2.2 (k : Int)))), (7, .int (iI (k : Int))), (3, .int (iI (fstS a.1 k))), (4, .int (iI (sndS a.1 k))), (6, .int (iI 1)), (5, .ref qa), (1, .int (iI (min (a.1.1 2) 200))), (0, .ref ho)]) hC dL_isWell_176 rfl (by decide) rfl ?_
        refine z_iload_n hC dL_isWell_177 rfl 3 rfl ?_
        refine z_join (α := Unit) (fun u => True) (fun u => wQ J ho Ao a qa (dsF a.1 (k + 1))) (fun u => [(2, .int (iI (gatS a.1 (k + 1)))), (8, .int (iI (cDat a.1.1 a.1.2.2 (k : Int)))), (7, .int (iI (k : Int))), (3, .int (iI (fstS a.1 k))), (4, .int (iI (sndS a.1 k))), (6, .int (iI 1)), (5, .ref qa), (1, .int (iI (min (a.1.1 2) 200))), (0, .ref ho)]) 205 (fun u => [.int (iI (sndS a.1 (k + 1)))]) (fun u hu => ?_) (fun K_5 => ?_)
        · change Z _ _ _ _ _ _ _ _ _ _ _ _ _ _ _ _ (wQ J ho Ao a qa (dsF a.1 (k + 1))) ([(2, .int (iI (gatS a.1 (k + 1)))), (8, .int (iI (cDat a.1.1 a.1.2.2 (k : Int)))), (7, .int (iI (k : Int))), (3, .int (iI (fstS a.1 k))), (4, .int (iI (sndS a.1 k))), (6, .int (iI 1)), (5, .ref qa), (1, .int (iI (min (a.1.1 2) 200))), (0, .ref ho)]) 205 ([.int (iI (sndS a.1 (k + 1)))])
          refine z_istore (lv' := [(4, .int (iI (sndS a.1 (k + 1)))), (2, .int (iI (gatS a.1 (k + 1)))), (8, .int (iI (cDat a.1.1 a.1.2.2 (k : Int)))), (7, .int (iI (k : Int))), (3, .int (iI (fstS a.1 k))), (6, .int (iI 1)), (5, .ref qa), (1, .int (iI (min (a.1.1 2) 200))), (0, .ref ho)]) hC dL_isWell_205 (by decide) rfl ?_
          refine z_iload_n hC dL_isWell_207 rfl 4 rfl ?_
          refine z_join (α := Unit) (fun u => True) (fun u => wQ J ho Ao a qa (dsF a.1 (k + 1))) (fun u => [(4, .int (iI (sndS a.1 (k + 1)))), (2, .int (iI (gatS a.1 (k + 1)))), (8, .int (iI (cDat a.1.1 a.1.2.2 (k : Int)))), (7, .int (iI (k : Int))), (3, .int (iI (fstS a.1 k))), (6, .int (iI 1)), (5, .ref qa), (1, .int (iI (min (a.1.1 2) 200))), (0, .ref ho)]) 229 (fun u => [.int (iI (fstS a.1 (k + 1)))]) (fun u hu => ?_) (fun K_6 => ?_)
          · change Z _ _ _ _ _ _ _ _ _ _ _ _ _ _ _ _ (wQ J ho Ao a qa (dsF a.1 (k + 1))) ([(4, .int (iI (sndS a.1 (k + 1)))), (2, .int (iI (gatS a.1 (k + 1)))), (8, .int (iI (cDat a.1.1 a.1.2.2 (k : Int)))), (7, .int (iI (k : Int))), (3, .int (iI (fstS a.1 k))), (6, .int (iI 1)), (5, .ref qa), (1, .int (iI (min (a.1.1 2) 200))), (0, .ref ho)]) 229 ([.int (iI (fstS a.1 (k + 1)))])
            refine z_istore_n (lv' := [(3, .int (iI (fstS a.1 (k + 1)))), (4, .int (iI (sndS a.1 (k + 1)))), (2, .int (iI (gatS a.1 (k + 1)))), (8, .int (iI (cDat a.1.1 a.1.2.2 (k : Int)))), (7, .int (iI (k : Int))), (6, .int (iI 1)), (5, .ref qa), (1, .int (iI (min (a.1.1 2) 200))), (0, .ref ho)]) hC dL_isWell_229 rfl (by decide) rfl ?_
            refine z_iinc (lv' := [(7, .int (iI ((k : Int) + 1))), (3, .int (iI (fstS a.1 (k + 1)))), (4, .int (iI (sndS a.1 (k + 1)))), (2, .int (iI (gatS a.1 (k + 1)))), (8, .int (iI (cDat a.1.1 a.1.2.2 (k : Int)))), (6, .int (iI 1)), (5, .ref qa), (1, .int (iI (min (a.1.1 2) 200))), (0, .ref ho)]) hC dL_isWell_230 4 rfl (by decide) rfl ?_
            refine z_goto (tgt := 109) hC dL_isWell_233 (by decide) ?_
            refine z_lv0 (lv' := [(7, .int (iI ((k + 1 : Nat) : Int))), (3, .int (iI (fstS a.1 (k + 1)))), (4, .int (iI (sndS a.1 (k + 1)))), (2, .int (iI (gatS a.1 (k + 1)))), (8, .int (iI (cDat a.1.1 a.1.2.2 (k : Int)))), (6, .int (iI 1)), (5, .ref qa), (1, .int (iI (min (a.1.1 2) 200))), (0, .ref ho)]) (by rw [show ((k + 1 : Nat) : Int) = (k : Int) + 1 by omega]) ?_
            refine z_lv (lv' := _) [0, 3, 1, 2, 5, 6, 7, 8] rfl ?_
            exact ih_2 (k + 1) (by omega)
          · skip
            refine z_if_ge (tgt := 228) hC dL_isWell_208 (by decide) (by unfold inR; omega) (fun c_208_7 => ?_) (fun c_208_7 => ?_)
            · refine z_iload_n hC dL_isWell_228 rfl 4 rfl ?_
              refine z_st (st' := [.int (iI (fstS a.1 (k + 1)))]) (congrArg (fun z : Int => ([.int (iI z)] : List Value)) (show fstS a.1 k = fstS a.1 (k + 1) by rw [fstS_s]; first | (rw [if_neg (by omega)]) | (rw [if_pos (by omega), if_pos (by omega)]) | (rw [if_pos (by omega), if_neg (by omega)]))) ?_
              refine z_lv (lv' := _) [0, 1, 2, 3, 4, 5, 6, 7, 8] rfl ?_
              exact K_6 () trivial
            · refine z_iload hC dL_isWell_211 2 rfl ?_
              refine z_iconst hC dL_isWell_213 ?_
              refine z_icmp_eq (tgt := 223) hC dL_isWell_214 (by decide) (by unfold inR; omega) ⟨by decide, by decide⟩ (fun c_214_8 => ?_) (fun c_214_8 => ?_)
              · refine z_iload hC dL_isWell_223 3 rfl ?_
                refine z_goto (tgt := 229) hC dL_isWell_225 (by decide) ?_
                refine z_st (st' := [.int (iI (fstS a.1 (k + 1)))]) (congrArg (fun z : Int => ([.int (iI z)] : List Value)) (show (k : Int) = fstS a.1 (k + 1) by rw [fstS_s]; first | (rw [if_neg (by omega)]) | (rw [if_pos (by omega), if_pos (by omega)]) | (rw [if_pos (by omega), if_neg (by omega)]))) ?_
                refine z_lv (lv' := _) [0, 1, 2, 3, 4, 5, 6, 7, 8] rfl ?_
                exact K_6 () trivial
              · refine z_iload hC dL_isWell_217 2 rfl ?_
                refine z_iconst hC dL_isWell_219 ?_
                refine z_icmp_ne (tgt := 228) hC dL_isWell_220 (by decide) (by unfold inR; omega) ⟨by decide, by decide⟩ (fun c_220_9 => ?_) (fun c_220_9 => ?_)
                · refine z_iload_n hC dL_isWell_228 rfl 4 rfl ?_
                  refine z_st (st' := [.int (iI (fstS a.1 (k + 1)))]) (congrArg (fun z : Int => ([.int (iI z)] : List Value)) (show fstS a.1 k = fstS a.1 (k + 1) by rw [fstS_s]; first | (rw [if_neg (by omega)]) | (rw [if_pos (by omega), if_pos (by omega)]) | (rw [if_pos (by omega), if_neg (by omega)]))) ?_
                  refine z_lv (lv' := _) [0, 1, 2, 3, 4, 5, 6, 7, 8] rfl ?_
                  exact K_6 () trivial
                · refine z_iload hC dL_isWell_223 3 rfl ?_
                  refine z_goto (tgt := 229) hC dL_isWell_225 (by decide) ?_
                  refine z_st (st' := [.int (iI (fstS a.1 (k + 1)))]) (congrArg (fun z : Int => ([.int (iI z)] : List Value)) (show (k : Int) = fstS a.1 (k + 1) by rw [fstS_s]; first | (rw [if_neg (by omega)]) | (rw [if_pos (by omega), if_pos (by omega)]) | (rw [if_pos (by omega), if_neg (by omega)]))) ?_
                  refine z_lv (lv' := _) [0, 1, 2, 3, 4, 5, 6, 7, 8] rfl ?_
                  exact K_6 () trivial
        · skip
          refine z_if_lt (tgt := 203) hC dL_isWell_178 (by decide) (by unfold inR; omega) (fun c_178_10 => ?_) (fun c_178_10 => ?_)
          · refine z_iload hC dL_isWell_203 4 rfl ?_
            refine z_st (st' := [.int (iI (sndS a.1 (k + 1)))]) (congrArg (fun z : Int => ([.int (iI z)] : List Value)) (show sndS a.1 k = sndS a.1 (k + 1) by rw [sndS_s]; first | (rw [if_pos ⟨by omega, by omega, by omega⟩]) | (rw [if_neg (by omega)]))) ?_
            refine z_lv (lv' := _) [0, 1, 2, 3, 4, 5, 6, 7, 8] rfl ?_
            exact K_5 () trivial
          · refine z_iload hC dL_isWell_181 4 rfl ?_
            refine z_if_ge (tgt := 203) hC dL_isWell_183 (by decide) (by unfold inR; omega) (fun c_183_11 => ?_) (fun c_183_11 => ?_)
            · refine z_iload hC dL_isWell_203 4 rfl ?_
              refine z_st (st' := [.int (iI (sndS a.1 (k + 1)))]) (congrArg (fun z : Int => ([.int (iI z)] : List Value)) (show sndS a.1 k = sndS a.1 (k + 1) by rw [sndS_s]; first | (rw [if_pos ⟨by omega, by omega, by omega⟩]) | (rw [if_neg (by omega)]))) ?_
              refine z_lv (lv' := _) [0, 1, 2, 3, 4, 5, 6, 7, 8] rfl ?_
              exact K_5 () trivial
            · refine z_iload hC dL_isWell_186 1 rfl ?_
              refine z_iconst hC dL_isWell_188 ?_
              refine z_icmp_eq (tgt := 198) hC dL_isWell_189 (by decide) (by unfold inR; omega) ⟨by decide, by decide⟩ (fun c_189_12 => ?_) (fun c_189_12 => ?_)
              · refine z_iload hC dL_isWell_198 2 rfl ?_
                refine z_goto (tgt := 205) hC dL_isWell_200 (by decide) ?_
                refine z_st (st' := [.int (iI (sndS a.1 (k + 1)))]) (congrArg (fun z : Int => ([.int (iI z)] : List Value)) (show (k : Int) = sndS a.1 (k + 1) by rw [sndS_s]; first | (rw [if_pos ⟨by omega, by omega, by omega⟩]) | (rw [if_neg (by omega)]))) ?_
                refine z_lv (lv' := _) [0, 1, 2, 3, 4, 5, 6, 7, 8] rfl ?_
                exact K_5 () trivial
              · refine z_iload hC dL_isWell_192 1 rfl ?_
                refine z_iconst hC dL_isWell_194 ?_
                refine z_icmp_ne (tgt := 203) hC dL_isWell_195 (by decide) (by unfold inR; omega) ⟨by decide, by decide⟩ (fun c_195_13 => ?_) (fun c_195_13 => ?_)
                · refine z_iload hC dL_isWell_203 4 rfl ?_
                  refine z_st (st' := [.int (iI (sndS a.1 (k + 1)))]) (congrArg (fun z : Int => ([.int (iI z)] : List Value)) (show sndS a.1 k = sndS a.1 (k + 1) by rw [sndS_s]; first | (rw [if_pos ⟨by omega, by omega, by omega⟩]) | (rw [if_neg (by omega)]))) ?_
                  refine z_lv (lv' := _) [0, 1, 2, 3, 4, 5, 6, 7, 8] rfl ?_
                  exact K_5 () trivial
                · refine z_iload hC dL_isWell_198 2 rfl ?_
                  refine z_goto (tgt := 205) hC dL_isWell_200 (by decide) ?_
                  refine z_st (st' := [.int (iI (sndS a.1 (k + 1)))]) (congrArg (fun z : Int => ([.int (iI z)] : List Value)) (show (k : Int) = sndS a.1 (k + 1) by rw [sndS_s]; first | (rw [if_pos ⟨by omega, by omega, by omega⟩]) | (rw [if_neg (by omega)]))) ?_
                  refine z_lv (lv' := _) [0, 1, 2, 3, 4, 5, 6, 7, 8] rfl ?_
                  exact K_5 () trivial
      · skip
        refine z_icmp_ge (tgt := 174) hC dL_isWell_147 (by decide) (by unfold inR; omega) (by unfold inR; omega) (fun c_147_14 => ?_) (fun c_147_14 => ?_)
        · refine z_iconst hC dL_isWell_174 ?_
          refine z_lv (lv' := _) [0, 1, 2, 3, 4, 5, 6, 7, 8] rfl ?_
          exact K_4 0 (by (repeat' split) <;> omega)
        · refine z_iload hC dL_isWell_150 0 rfl ?_
          refine z_iconst hC dL_isWell_152 ?_
          refine z_icmp_ne (tgt := 160) hC dL_isWell_153 (by decide) (by unfold inR; omega) ⟨by decide, by decide⟩ (fun c_153_15 => ?_) (fun c_153_15 => ?_)
          · refine z_iload hC dL_isWell_160 0 rfl ?_
            refine z_iconst hC dL_isWell_162 ?_
            refine z_icmp_ne (tgt := 170) hC dL_isWell_163 (by decide) (by unfold inR; omega) ⟨by decide, by decide⟩ (fun c_163_16 => ?_) (fun c_163_16 => ?_)
            · refine z_iconst hC dL_isWell_170 ?_
              refine z_goto (tgt := 175) hC dL_isWell_171 (by decide) ?_
              refine z_lv (lv' := _) [0, 1, 2, 3, 4, 5, 6, 7, 8] rfl ?_
              exact K_4 0 (by (repeat' split) <;> omega)
            · refine z_iconst hC dL_isWell_166 ?_
              refine z_goto (tgt := 175) hC dL_isWell_167 (by decide) ?_
              refine z_lv (lv' := _) [0, 1, 2, 3, 4, 5, 6, 7, 8] rfl ?_
              exact K_4 (-1) (by (repeat' split) <;> omega)
          · refine z_iconst hC dL_isWell_156 ?_
            refine z_goto (tgt := 175) hC dL_isWell_157 (by decide) ?_
            refine z_lv (lv' := _) [0, 1, 2, 3, 4, 5, 6, 7, 8] rfl ?_
            exact K_4 1 (by (repeat' split) <;> omega)
    · change Z _ _ _ _ _ _ _ _ _ _ _ _ _ _ _ _ (wQ J ho Ao a qa (dsF a.1 k)) ([(7, .int (iI (k : Int))), (2, .int (iI (gatS a.1 k))), (3, .int (iI (fstS a.1 k))), (4, .int (iI (sndS a.1 k))), (6, .int (iI 1)), (5, .ref qa), (1, .int (iI (min (a.1.1 2) 200))), (0, .ref ho)]) 109 ([])
      have hk : (k : Int) = min (a.1.1 2) 200 := by omega
      have hge := gatS_end a.1 (by omega) k
      have hf := fun h => well_fst hW (n := k) hk h
      have hs := fun h => well_snd hW (n := k) hk h
      have hgi := gatS_in a.1 k
      have hfi := fstS_in a.1 k
      have hsi := sndS_in a.1 k
      refine z_iload hC dL_isWell_109 0 rfl ?_
      refine z_iload_n hC dL_isWell_111 rfl 6 rfl ?_
      refine z_icmp_ge_t (tgt := 236) hC dL_isWell_112 (by decide) (by unfold inR; omega) (by unfold inR; omega) (by omega) ?_
      refine z_iconst hC dL_isWell_236 ?_
      refine z_istore (lv' := [(7, .int (iI 0)), (2, .int (iI (gatS a.1 k))), (3, .int (iI (fstS a.1 k))), (4, .int (iI (sndS a.1 k))), (6, .int (iI 1)), (5, .ref qa), (1, .int (iI (min (a.1.1 2) 200))), (0, .ref ho)]) hC dL_isWell_237 (by decide) rfl ?_
      refine z_iload hC dL_isWell_239 0 rfl ?_
      refine z_iconst hC dL_isWell_241 ?_
      refine z_icmp_ge_f (tgt := 321) hC dL_isWell_242 (by decide) ⟨by decide, by decide⟩ ⟨by decide, by decide⟩ (by decide) ?_
      refine z_iload hC dL_isWell_245 4 rfl ?_
      refine z_if_eq_f (tgt := 312) hC dL_isWell_247 (by decide) ⟨by decide, by decide⟩ (by decide) ?_
      refine z_aload_n hC dL_isWell_250 rfl 7 rfl ?_
      refine z_iload hC dL_isWell_251 0 rfl ?_
      have hc0 := cDs_ge a.1 0 k
      refine zq_deeds (v := cDs a.1 0 k) hC gL_isWell_X5_deeds ⟨Nat.le_of_ble_eq_true rfl, Nat.le_of_ble_eq_true rfl⟩ ⟨Nat.le_of_ble_eq_true rfl, Nat.le_of_ble_eq_true rfl⟩ hOk.T 0 ⟨by decide, by decide⟩ (show cDs a.1 0 (Int.toNat (min (a.1.1 2) 200)) = cDs a.1 0 k by rw [← hk]; rfl) (Nat.le_of_ble_eq_true rfl) dL_isWell_253 ?_
      refine z_aload hC dL_isWell_256 5 rfl ?_
      refine z_iload hC dL_isWell_258 0 rfl ?_
      refine z_iald hC 41 rfl 0 rfl 0 rfl (by decide) (by decide) dL_isWell_260 ?_
      refine z_int (y := iI (cDs a.1 0 k)) hC rfl ?_
      refine z_icmp_ne_same (tgt := 312) hC dL_isWell_261 (by decide) ?_
      refine z_iload hC dL_isWell_264 0 rfl ?_
      refine z_if_eq_t (tgt := 308) hC dL_isWell_266 (by decide) ⟨by decide, by decide⟩ (by decide) ?_
      refine z_iconst hC dL_isWell_308 ?_
      refine z_goto (tgt := 313) hC dL_isWell_309 (by decide) ?_
      refine z_istore (lv' := [(6, .int (iI 1)), (7, .int (iI 0)), (2, .int (iI (gatS a.1 k))), (3, .int (iI (fstS a.1 k))), (4, .int (iI (sndS a.1 k))), (5, .ref qa), (1, .int (iI (min (a.1.1 2) 200))), (0, .ref ho)]) hC dL_isWell_313 (by decide) rfl ?_
      refine z_iinc (lv' := [(7, .int (iI 1)), (6, .int (iI 1)), (2, .int (iI (gatS a.1 k))), (3, .int (iI (fstS a.1 k))), (4, .int (iI (sndS a.1 k))), (5, .ref qa), (1, .int (iI (min (a.1.1 2) 200))), (0, .ref ho)]) hC dL_isWell_315 1 rfl (by decide) rfl ?_
      refine z_goto (tgt := 239) hC dL_isWell_318 (by decide) ?_
      refine z_iload hC dL_isWell_239 0 rfl ?_
      refine z_iconst hC dL_isWell_241 ?_
      refine z_icmp_ge_f (tgt := 321) hC dL_isWell_242 (by decide) ⟨by decide, by decide⟩ ⟨by decide, by decide⟩ (by decide) ?_
      refine z_iload hC dL_isWell_245 1 rfl ?_
      refine z_if_eq_f (tgt := 312) hC dL_isWell_247 (by decide) ⟨by decide, by decide⟩ (by decide) ?_
      refine z_aload_n hC dL_isWell_250 rfl 7 rfl ?_
      refine z_iload hC dL_isWell_251 0 rfl ?_
      have hc1 := cDs_ge a.1 1 k
      have hw1 := hW.1 1 10 (by decide)
      rw [show Int.toNat (min (a.1.1 2) 200) = k by omega] at hw1
      refine zq_deeds (v := cDs a.1 1 k) hC gL_isWell_X5_deeds ⟨Nat.le_of_ble_eq_true rfl, Nat.le_of_ble_eq_true rfl⟩ ⟨Nat.le_of_ble_eq_true rfl, Nat.le_of_ble_eq_true rfl⟩ hOk.T 1 ⟨by decide, by decide⟩ (show cDs a.1 1 (Int.toNat (min (a.1.1 2) 200)) = cDs a.1 1 k by rw [← hk]; rfl) (Nat.le_of_ble_eq_true rfl) dL_isWell_253 ?_
      refine z_aload hC dL_isWell_256 5 rfl ?_
      refine z_iload hC dL_isWell_258 0 rfl ?_
      refine z_iald hC 41 rfl 0 rfl 1 rfl (by decide) (by decide) dL_isWell_260 ?_
      refine z_int (y := iI (cDs a.1 1 k)) hC rfl ?_
      refine z_icmp_ne_same (tgt := 312) hC dL_isWell_261 (by decide) ?_
      refine z_iload hC dL_isWell_264 0 rfl ?_
      refine z_if_eq_f (tgt := 308) hC dL_isWell_266 (by decide) ⟨by decide, by decide⟩ (by decide) ?_
      refine z_aload_n hC dL_isWell_269 rfl 7 rfl ?_
      refine z_iconst hC dL_isWell_270 ?_
      refine z_iload hC dL_isWell_271 0 rfl ?_
      refine z_iadd hC dL_isWell_273 ?_
      refine z_int (y := iI 5) hC (by decide) ?_
      refine zq_count (v := a.1.1 10) hC gL_isWell_X5_count ⟨Nat.le_of_ble_eq_true rfl, Nat.le_of_ble_eq_true rfl⟩ ⟨Nat.le_of_ble_eq_true rfl, Nat.le_of_ble_eq_true rfl⟩ hOk.T 5 ⟨by decide, by decide⟩ rfl (Nat.le_of_ble_eq_true rfl) dL_isWell_274 ?_
      refine z_aload hC dL_isWell_277 5 rfl ?_
      refine z_iload hC dL_isWell_279 0 rfl ?_
      refine z_iald hC 41 rfl 0 rfl 1 rfl (by decide) (by decide) dL_isWell_281 ?_
      refine z_int (y := iI (cDs a.1 1 k)) hC rfl ?_
      refine z_icmp_lt_f (tgt := 312) hC dL_isWell_282 (by decide) (by unfold inR; omega) (by unfold inR; omega) (by omega) ?_
      refine z_iload_n hC dL_isWell_285 rfl 6 rfl ?_
      refine z_sipush hC dL_isWell_286 (by decide) ?_
      refine z_join (α := Unit) (fun u => True) (fun u => wQ J ho Ao a qa (dsF a.1 k)) (fun u => [(7, .int (iI 1)), (6, .int (iI 1)), (2, .int (iI (gatS a.1 k))), (3, .int (iI (fstS a.1 k))), (4, .int (iI (sndS a.1 k))), (5, .ref qa), (1, .int (iI (min (a.1.1 2) 200))), (0, .ref ho)]) 308 (fun u => []) (fun u hu => ?_) (fun K_17 => ?_)
      · change Z _ _ _ _ _ _ _ _ _ _ _ _ _ _ _ _ (wQ J ho Ao a qa (dsF a.1 k)) ([(7, .int (iI 1)), (6, .int (iI 1)), (2, .int (iI (gatS a.1 k))), (3, .int (iI (fstS a.1 k))), (4, .int (iI (sndS a.1 k))), (5, .ref qa), (1, .int (iI (min (a.1.1 2) 200))), (0, .ref ho)]) 308 ([])
        refine z_iconst hC dL_isWell_308 ?_
        refine z_goto (tgt := 313) hC dL_isWell_309 (by decide) ?_
        refine z_istore (lv' := [(6, .int (iI 1)), (7, .int (iI 1)), (2, .int (iI (gatS a.1 k))), (3, .int (iI (fstS a.1 k))), (4, .int (iI (sndS a.1 k))), (5, .ref qa), (1, .int (iI (min (a.1.1 2) 200))), (0, .ref ho)]) hC dL_isWell_313 (by decide) rfl ?_
        refine z_iinc (lv' := [(7, .int (iI 2)), (6, .int (iI 1)), (2, .int (iI (gatS a.1 k))), (3, .int (iI (fstS a.1 k))), (4, .int (iI (sndS a.1 k))), (5, .ref qa), (1, .int (iI (min (a.1.1 2) 200))), (0, .ref ho)]) hC dL_isWell_315 1 rfl (by decide) rfl ?_
        refine z_goto (tgt := 239) hC dL_isWell_318 (by decide) ?_
        refine z_iload hC dL_isWell_239 0 rfl ?_
        refine z_iconst hC dL_isWell_241 ?_
        refine z_icmp_ge_f (tgt := 321) hC dL_isWell_242 (by decide) ⟨by decide, by decide⟩ ⟨by decide, by decide⟩ (by decide) ?_
        refine z_iload hC dL_isWell_245 1 rfl ?_
        refine z_if_eq_f (tgt := 312) hC dL_isWell_247 (by decide) ⟨by decide, by decide⟩ (by decide) ?_
        refine z_aload_n hC dL_isWell_250 rfl 7 rfl ?_
        refine z_iload hC dL_isWell_251 0 rfl ?_
        have hc2 := cDs_ge a.1 2 k
        have hw2 := hW.1 2 11 (by decide)
        rw [show Int.toNat (min (a.1.1 2) 200) = k by omega] at hw2
        refine zq_deeds (v := cDs a.1 2 k) hC gL_isWell_X5_deeds ⟨Nat.le_of_ble_eq_true rfl, Nat.le_of_ble_eq_true rfl⟩ ⟨Nat.le_of_ble_eq_true rfl, Nat.le_of_ble_eq_true rfl⟩ hOk.T 2 ⟨by decide, by decide⟩ (show cDs a.1 2 (Int.toNat (min (a.1.1 2) 200)) = cDs a.1 2 k by rw [← hk]; rfl) (Nat.le_of_ble_eq_true rfl) dL_isWell_253 ?_
        refine z_aload hC dL_isWell_256 5 rfl ?_
        refine z_iload hC dL_isWell_258 0 rfl ?_
        refine z_iald hC 41 rfl 0 rfl 2 rfl (by decide) (by decide) dL_isWell_260 ?_
        refine z_int (y := iI (cDs a.1 2 k)) hC rfl ?_
        refine z_icmp_ne_same (tgt := 312) hC dL_isWell_261 (by decide) ?_
        refine z_iload hC dL_isWell_264 0 rfl ?_
        refine z_if_eq_f (tgt := 308) hC dL_isWell_266 (by decide) ⟨by decide, by decide⟩ (by decide) ?_
        refine z_aload_n hC dL_isWell_269 rfl 7 rfl ?_
        refine z_iconst hC dL_isWell_270 ?_
        refine z_iload hC dL_isWell_271 0 rfl ?_
        refine z_iadd hC dL_isWell_273 ?_
        refine z_int (y := iI 6) hC (by decide) ?_
        refine zq_count (v := a.1.1 11) hC gL_isWell_X5_count ⟨Nat.le_of_ble_eq_true rfl, Nat.le_of_ble_eq_true rfl⟩ ⟨Nat.le_of_ble_eq_true rfl, Nat.le_of_ble_eq_true rfl⟩ hOk.T 6 ⟨by decide, by decide⟩ rfl (Nat.le_of_ble_eq_true rfl) dL_isWell_274 ?_
        refine z_aload hC dL_isWell_277 5 rfl ?_
        refine z_iload hC dL_isWell_279 0 rfl ?_
        refine z_iald hC 41 rfl 0 rfl 2 rfl (by decide) (by decide) dL_isWell_281 ?_
        refine z_int (y := iI (cDs a.1 2 k)) hC rfl ?_
        refine z_icmp_lt_f (tgt := 312) hC dL_isWell_282 (by decide) (by unfold inR; omega) (by unfold inR; omega) (by omega) ?_
        refine z_iload_n hC dL_isWell_285 rfl 6 rfl ?_
        refine z_sipush hC dL_isWell_286 (by decide) ?_
        refine z_join (α := Unit) (fun u => True) (fun u => wQ J ho Ao a qa (dsF a.1 k)) (fun u => [(7, .int (iI 2)), (6, .int (iI 1)), (2, .int (iI (gatS a.1 k))), (3, .int (iI (fstS a.1 k))), (4, .int (iI (sndS a.1 k))), (5, .ref qa), (1, .int (iI (min (a.1.1 2) 200))), (0, .ref ho)]) 308 (fun u => []) (fun u hu => ?_) (fun K_18 => ?_)
        · change Z _ _ _ _ _ _ _ _ _ _ _ _ _ _ _ _ (wQ J ho Ao a qa (dsF a.1 k)) ([(7, .int (iI 2)), (6, .int (iI 1)), (2, .int (iI (gatS a.1 k))), (3, .int (iI (fstS a.1 k))), (4, .int (iI (sndS a.1 k))), (5, .ref qa), (1, .int (iI (min (a.1.1 2) 200))), (0, .ref ho)]) 308 ([])
          refine z_iconst hC dL_isWell_308 ?_
          refine z_goto (tgt := 313) hC dL_isWell_309 (by decide) ?_
          refine z_istore (lv' := [(6, .int (iI 1)), (7, .int (iI 2)), (2, .int (iI (gatS a.1 k))), (3, .int (iI (fstS a.1 k))), (4, .int (iI (sndS a.1 k))), (5, .ref qa), (1, .int (iI (min (a.1.1 2) 200))), (0, .ref ho)]) hC dL_isWell_313 (by decide) rfl ?_
          refine z_iinc (lv' := [(7, .int (iI 3)), (6, .int (iI 1)), (2, .int (iI (gatS a.1 k))), (3, .int (iI (fstS a.1 k))), (4, .int (iI (sndS a.1 k))), (5, .ref qa), (1, .int (iI (min (a.1.1 2) 200))), (0, .ref ho)]) hC dL_isWell_315 1 rfl (by decide) rfl ?_
          refine z_goto (tgt := 239) hC dL_isWell_318 (by decide) ?_
          refine z_iload hC dL_isWell_239 0 rfl ?_
          refine z_iconst hC dL_isWell_241 ?_
          refine z_icmp_ge_f (tgt := 321) hC dL_isWell_242 (by decide) ⟨by decide, by decide⟩ ⟨by decide, by decide⟩ (by decide) ?_
          refine z_iload hC dL_isWell_245 1 rfl ?_
          refine z_if_eq_f (tgt := 312) hC dL_isWell_247 (by decide) ⟨by decide, by decide⟩ (by decide) ?_
          refine z_aload_n hC dL_isWell_250 rfl 7 rfl ?_
          refine z_iload hC dL_isWell_251 0 rfl ?_
          have hc3 := cDs_ge a.1 3 k
          have hw3 := hW.1 3 12 (by decide)
          rw [show Int.toNat (min (a.1.1 2) 200) = k by omega] at hw3
          refine zq_deeds (v := cDs a.1 3 k) hC gL_isWell_X5_deeds ⟨Nat.le_of_ble_eq_true rfl, Nat.le_of_ble_eq_true rfl⟩ ⟨Nat.le_of_ble_eq_true rfl, Nat.le_of_ble_eq_true rfl⟩ hOk.T 3 ⟨by decide, by decide⟩ (show cDs a.1 3 (Int.toNat (min (a.1.1 2) 200)) = cDs a.1 3 k by rw [← hk]; rfl) (Nat.le_of_ble_eq_true rfl) dL_isWell_253 ?_
          refine z_aload hC dL_isWell_256 5 rfl ?_
          refine z_iload hC dL_isWell_258 0 rfl ?_
          refine z_iald hC 41 rfl 0 rfl 3 rfl (by decide) (by decide) dL_isWell_260 ?_
          refine z_int (y := iI (cDs a.1 3 k)) hC rfl ?_
          refine z_icmp_ne_same (tgt := 312) hC dL_isWell_261 (by decide) ?_
          refine z_iload hC dL_isWell_264 0 rfl ?_
          refine z_if_eq_f (tgt := 308) hC dL_isWell_266 (by decide) ⟨by decide, by decide⟩ (by decide) ?_
          refine z_aload_n hC dL_isWell_269 rfl 7 rfl ?_
          refine z_iconst hC dL_isWell_270 ?_
          refine z_iload hC dL_isWell_271 0 rfl ?_
          refine z_iadd hC dL_isWell_273 ?_
          refine z_int (y := iI 7) hC (by decide) ?_
          refine zq_count (v := a.1.1 12) hC gL_isWell_X5_count ⟨Nat.le_of_ble_eq_true rfl, Nat.le_of_ble_eq_true rfl⟩ ⟨Nat.le_of_ble_eq_true rfl, Nat.le_of_ble_eq_true rfl⟩ hOk.T 7 ⟨by decide, by decide⟩ rfl (Nat.le_of_ble_eq_true rfl) dL_isWell_274 ?_
          refine z_aload hC dL_isWell_277 5 rfl ?_
          refine z_iload hC dL_isWell_279 0 rfl ?_
          refine z_iald hC 41 rfl 0 rfl 3 rfl (by decide) (by decide) dL_isWell_281 ?_
          refine z_int (y := iI (cDs a.1 3 k)) hC rfl ?_
          refine z_icmp_lt_f (tgt := 312) hC dL_isWell_282 (by decide) (by unfold inR; omega) (by unfold inR; omega) (by omega) ?_
          refine z_iload_n hC dL_isWell_285 rfl 6 rfl ?_
          refine z_sipush hC dL_isWell_286 (by decide) ?_
          refine z_join (α := Unit) (fun u => True) (fun u => wQ J ho Ao a qa (dsF a.1 k)) (fun u => [(7, .int (iI 3)), (6, .int (iI 1)), (2, .int (iI (gatS a.1 k))), (3, .int (iI (fstS a.1 k))), (4, .int (iI (sndS a.1 k))), (5, .ref qa), (1, .int (iI (min (a.1.1 2) 200))), (0, .ref ho)]) 308 (fun u => []) (fun u hu => ?_) (fun K_19 => ?_)
          · change Z _ _ _ _ _ _ _ _ _ _ _ _ _ _ _ _ (wQ J ho Ao a qa (dsF a.1 k)) ([(7, .int (iI 3)), (6, .int (iI 1)), (2, .int (iI (gatS a.1 k))), (3, .int (iI (fstS a.1 k))), (4, .int (iI (sndS a.1 k))), (5, .ref qa), (1, .int (iI (min (a.1.1 2) 200))), (0, .ref ho)]) 308 ([])
            refine z_iconst hC dL_isWell_308 ?_
            refine z_goto (tgt := 313) hC dL_isWell_309 (by decide) ?_
            refine z_istore (lv' := [(6, .int (iI 1)), (7, .int (iI 3)), (2, .int (iI (gatS a.1 k))), (3, .int (iI (fstS a.1 k))), (4, .int (iI (sndS a.1 k))), (5, .ref qa), (1, .int (iI (min (a.1.1 2) 200))), (0, .ref ho)]) hC dL_isWell_313 (by decide) rfl ?_
            refine z_iinc (lv' := [(7, .int (iI 4)), (6, .int (iI 1)), (2, .int (iI (gatS a.1 k))), (3, .int (iI (fstS a.1 k))), (4, .int (iI (sndS a.1 k))), (5, .ref qa), (1, .int (iI (min (a.1.1 2) 200))), (0, .ref ho)]) hC dL_isWell_315 1 rfl (by decide) rfl ?_
            refine z_goto (tgt := 239) hC dL_isWell_318 (by decide) ?_
            refine z_iload hC dL_isWell_239 0 rfl ?_
            refine z_iconst hC dL_isWell_241 ?_
            refine z_icmp_ge_t (tgt := 321) hC dL_isWell_242 (by decide) ⟨by decide, by decide⟩ ⟨by decide, by decide⟩ (by decide) ?_
            refine z_iload hC dL_isWell_321 4 rfl ?_
            refine z_join (α := Int) (fun v => (v = 1 ∧ 0 ≤ sndS a.1 k ∧ cDat a.1.1 a.1.2.2 (fstS a.1 k) = cDat a.1.1 a.1.2.2 (sndS a.1 k)) ∨ (v = 0 ∧ (sndS a.1 k < 0 ∨ cDat a.1.1 a.1.2.2 (fstS a.1 k) ≠ cDat a.1.1 a.1.2.2 (sndS a.1 k)))) (fun v => wQ J ho Ao a qa (dsF a.1 k)) (fun v => [(7, .int (iI 4)), (6, .int (iI 1)), (2, .int (iI (gatS a.1 k))), (3, .int (iI (fstS a.1 k))), (4, .int (iI (sndS a.1 k))), (5, .ref qa), (1, .int (iI (min (a.1.1 2) 200))), (0, .ref ho)]) 347 (fun v => [.int (iI v)]) (fun v hv => ?_) (fun K_20 => ?_)
            · change Z _ _ _ _ _ _ _ _ _ _ _ _ _ _ _ _ (wQ J ho Ao a qa (dsF a.1 k)) ([(7, .int (iI 4)), (6, .int (iI 1)), (2, .int (iI (gatS a.1 k))), (3, .int (iI (fstS a.1 k))), (4, .int (iI (sndS a.1 k))), (5, .ref qa), (1, .int (iI (min (a.1.1 2) 200))), (0, .ref ho)]) 347 ([.int (iI v)])
              refine z_istore (lv' := [(7, .int (iI v)), (6, .int (iI 1)), (2, .int (iI (gatS a.1 k))), (3, .int (iI (fstS a.1 k))), (4, .int (iI (sndS a.1 k))), (5, .ref qa), (1, .int (iI (min (a.1.1 2) 200))), (0, .ref ho)]) hC dL_isWell_347 (by decide) rfl ?_
              have hsp : (a.1.1 15 ≤ 0 ∧ cSpeedR a.1 1 = -6) ∨ (0 < a.1.1 15 ∧ cSpeedR a.1 1 = a.1.1 15) := by by_cases q : a.1.1 15 ≤ 0; exact Or.inl ⟨q, if_pos q⟩; exact Or.inr ⟨by omega, if_neg q⟩
              refine z_iload hC dL_isWell_349 1 rfl ?_
              refine z_if_eq_f (tgt := 489) hC dL_isWell_351 (by decide) ⟨by decide, by decide⟩ (by decide) ?_
              refine z_aload_n hC dL_isWell_354 rfl 7 rfl ?_
              refine z_iconst hC dL_isWell_355 ?_
              refine zq_speed (v := 1000 + gatS a.1 k) hC gL_isWell_X5_speed ⟨Nat.le_of_ble_eq_true rfl, Nat.le_of_ble_eq_true rfl⟩ ⟨Nat.le_of_ble_eq_true rfl, Nat.le_of_ble_eq_true rfl⟩ hOk.T 0 ⟨by decide, by decide⟩ (by rw [hge, hk]; rfl) (Nat.le_of_ble_eq_true rfl) dL_isWell_356 ?_
              refine z_iload_n hC dL_isWell_359 rfl 2 rfl ?_
              refine z_sipush hC dL_isWell_360 (by decide) ?_
              refine z_iadd hC dL_isWell_363 ?_
              refine z_icmp_ne_f (tgt := 489) hC dL_isWell_364 (by decide) (by unfold inR; omega) (by unfold inR; omega) (by omega) ?_
              refine z_iload_n hC dL_isWell_367 rfl 3 rfl ?_
              refine z_join (α := Unit) (fun u => True) (fun u => wQ J ho Ao a qa (dsF a.1 k)) (fun u => [(7, .int (iI v)), (6, .int (iI 1)), (2, .int (iI (gatS a.1 k))), (3, .int (iI (fstS a.1 k))), (4, .int (iI (sndS a.1 k))), (5, .ref qa), (1, .int (iI (min (a.1.1 2) 200))), (0, .ref ho)]) 385 (fun u => []) (fun u hu => ?_) (fun K_21 => ?_)
              · change Z _ _ _ _ _ _ _ _ _ _ _ _ _ _ _ _ (wQ J ho Ao a qa (dsF a.1 k)) ([(7, .int (iI v)), (6, .int (iI 1)), (2, .int (iI (gatS a.1 k))), (3, .int (iI (fstS a.1 k))), (4, .int (iI (sndS a.1 k))), (5, .ref qa), (1, .int (iI (min (a.1.1 2) 200))), (0, .ref ho)]) 385 ([])
                refine z_iload hC dL_isWell_385 4 rfl ?_
                refine z_join (α := Unit) (fun u => True) (fun u => wQ J ho Ao a qa (dsF a.1 k)) (fun u => [(7, .int (iI v)), (6, .int (iI 1)), (2, .int (iI (gatS a.1 k))), (3, .int (iI (fstS a.1 k))), (4, .int (iI (sndS a.1 k))), (5, .ref qa), (1, .int (iI (min (a.1.1 2) 200))), (0, .ref ho)]) 412 (fun u => []) (fun u hu => ?_) (fun K_22 => ?_)
                · change Z _ _ _ _ _ _ _ _ _ _ _ _ _ _ _ _ (wQ J ho Ao a qa (dsF a.1 k)) ([(7, .int (iI v)), (6, .int (iI 1)), (2, .int (iI (gatS a.1 k))), (3, .int (iI (fstS a.1 k))), (4, .int (iI (sndS a.1 k))), (5, .ref qa), (1, .int (iI (min (a.1.1 2) 200))), (0, .ref ho)]) 412 ([])
                  refine z_aload_n hC dL_isWell_412 rfl 7 rfl ?_
                  refine zq_rate (v := cRateR a.1) hC gL_isWell_X5_rate ⟨Nat.le_of_ble_eq_true rfl, Nat.le_of_ble_eq_true rfl⟩ ⟨Nat.le_of_ble_eq_true rfl, Nat.le_of_ble_eq_true rfl⟩ hOk.T rfl (Nat.le_of_ble_eq_true rfl) dL_isWell_413 ?_
                  refine z_lconst (v := lI 0) hC dL_isWell_416 (by decide) ?_
                  have hcs : ∃ z : Int, ((a.1.1 15 ≤ 0 ∧ z = 0) ∨ (0 < a.1.1 15 ∧ a.1.1 9 = 1 ∧ z = 1) ∨ (0 < a.1.1 15 ∧ a.1.1 9 ≠ 1 ∧ z = -1)) ∧ lg_cmp (cRateR a.1) (lI 0) = iI z := rate_sg hI
                  obtain ⟨sg_23, hsg_23, hcs⟩ := hcs
                  refine z_lcmp (v := sg_23) hC dL_isWell_417 hcs ?_
                  refine z_join (α := Int) (fun r0 => (a.1.1 15 ≤ 0 ∧ r0 = 1) ∨ (0 < a.1.1 15 ∧ r0 = 0)) (fun r0 => wQ J ho Ao a qa (dsF a.1 k)) (fun r0 => [(7, .int (iI v)), (6, .int (iI 1)), (2, .int (iI (gatS a.1 k))), (3, .int (iI (fstS a.1 k))), (4, .int (iI (sndS a.1 k))), (5, .ref qa), (1, .int (iI (min (a.1.1 2) 200))), (0, .ref ho)]) 426 (fun r0 => [.int (iI r0)]) (fun r0 hr0 => ?_) (fun K_24 => ?_)
                  · change Z _ _ _ _ _ _ _ _ _ _ _ _ _ _ _ _ (wQ J ho Ao a qa (dsF a.1 k)) ([(7, .int (iI v)), (6, .int (iI 1)), (2, .int (iI (gatS a.1 k))), (3, .int (iI (fstS a.1 k))), (4, .int (iI (sndS a.1 k))), (5, .ref qa), (1, .int (iI (min (a.1.1 2) 200))), (0, .ref ho)]) 426 ([.int (iI r0)])
                    refine z_aload_n hC dL_isWell_426 rfl 7 rfl ?_
                    refine z_iconst hC dL_isWell_427 ?_
                    refine zq_speed (v := cSpeedR a.1 1) hC gL_isWell_X5_speed ⟨Nat.le_of_ble_eq_true rfl, Nat.le_of_ble_eq_true rfl⟩ ⟨Nat.le_of_ble_eq_true rfl, Nat.le_of_ble_eq_true rfl⟩ hOk.T 1 ⟨by decide, by decide⟩ rfl (Nat.le_of_ble_eq_true rfl) dL_isWell_428 ?_
                    refine z_bipush hC dL_isWell_431 (by decide) ?_
                    refine z_join (α := Int) (fun r1 => (a.1.1 15 ≤ 0 ∧ r1 = 1) ∨ (0 < a.1.1 15 ∧ r1 = 0)) (fun r1 => wQ J ho Ao a qa (dsF a.1 k)) (fun r1 => [(7, .int (iI v)), (6, .int (iI 1)), (2, .int (iI (gatS a.1 k))), (3, .int (iI (fstS a.1 k))), (4, .int (iI (sndS a.1 k))), (5, .ref qa), (1, .int (iI (min (a.1.1 2) 200))), (0, .ref ho)]) 441 (fun r1 => [.int (iI r1), .int (iI r0)]) (fun r1 hr1 => ?_) (fun K_25 => ?_)
                    · change Z _ _ _ _ _ _ _ _ _ _ _ _ _ _ _ _ (wQ J ho Ao a qa (dsF a.1 k)) ([(7, .int (iI v)), (6, .int (iI 1)), (2, .int (iI (gatS a.1 k))), (3, .int (iI (fstS a.1 k))), (4, .int (iI (sndS a.1 k))), (5, .ref qa), (1, .int (iI (min (a.1.1 2) 200))), (0, .ref ho)]) 441 ([.int (iI r1), .int (iI r0)])
                      refine z_icmp_ne_f (tgt := 489) hC dL_isWell_441 (by decide) (by unfold inR; omega) (by unfold inR; omega) (by omega) ?_
                      refine z_aload_n hC dL_isWell_444 rfl 7 rfl ?_
                      refine zq_rate (v := cRateR a.1) hC gL_isWell_X5_rate ⟨Nat.le_of_ble_eq_true rfl, Nat.le_of_ble_eq_true rfl⟩ ⟨Nat.le_of_ble_eq_true rfl, Nat.le_of_ble_eq_true rfl⟩ hOk.T rfl (Nat.le_of_ble_eq_true rfl) dL_isWell_445 ?_
                      refine z_lconst (v := lI 0) hC dL_isWell_448 (by decide) ?_
                      have hcs : ∃ z : Int, ((a.1.1 15 ≤ 0 ∧ z = 0) ∨ (0 < a.1.1 15 ∧ a.1.1 9 = 1 ∧ z = 1) ∨ (0 < a.1.1 15 ∧ a.1.1 9 ≠ 1 ∧ z = -1)) ∧ lg_cmp (cRateR a.1) (lI 0) = iI z := rate_sg hI
                      obtain ⟨sg_26, hsg_26, hcs⟩ := hcs
                      refine z_lcmp (v := sg_26) hC dL_isWell_449 hcs ?_
                      refine z_join (α := Int) (fun r2 => ((a.1.1 15 ≤ 0 ∨ a.1.1 9 = 1) ∧ r2 = 1) ∨ (0 < a.1.1 15 ∧ a.1.1 9 ≠ 1 ∧ r2 = 0)) (fun r2 => wQ J ho Ao a qa (dsF a.1 k)) (fun r2 => [(7, .int (iI v)), (6, .int (iI 1)), (2, .int (iI (gatS a.1 k))), (3, .int (iI (fstS a.1 k))), (4, .int (iI (sndS a.1 k))), (5, .ref qa), (1, .int (iI (min (a.1.1 2) 200))), (0, .ref ho)]) 458 (fun r2 => [.int (iI r2)]) (fun r2 hr2 => ?_) (fun K_27 => ?_)
                      · change Z _ _ _ _ _ _ _ _ _ _ _ _ _ _ _ _ (wQ J ho Ao a qa (dsF a.1 k)) ([(7, .int (iI v)), (6, .int (iI 1)), (2, .int (iI (gatS a.1 k))), (3, .int (iI (fstS a.1 k))), (4, .int (iI (sndS a.1 k))), (5, .ref qa), (1, .int (iI (min (a.1.1 2) 200))), (0, .ref ho)]) 458 ([.int (iI r2)])
                        refine z_aload_n hC dL_isWell_458 rfl 7 rfl ?_
                        refine z_iconst hC dL_isWell_459 ?_
                        refine zq_speed (v := cSpeedR a.1 1) hC gL_isWell_X5_speed ⟨Nat.le_of_ble_eq_true rfl, Nat.le_of_ble_eq_true rfl⟩ ⟨Nat.le_of_ble_eq_true rfl, Nat.le_of_ble_eq_true rfl⟩ hOk.T 1 ⟨by decide, by decide⟩ rfl (Nat.le_of_ble_eq_true rfl) dL_isWell_460 ?_
                        refine z_bipush hC dL_isWell_463 (by decide) ?_
                        refine z_join (α := Int) (fun r3 => ((a.1.1 15 ≤ 0 ∨ a.1.1 9 = 1) ∧ r3 = 1) ∨ (0 < a.1.1 15 ∧ a.1.1 9 ≠ 1 ∧ r3 = 0)) (fun r3 => wQ J ho Ao a qa (dsF a.1 k)) (fun r3 => [(7, .int (iI v)), (6, .int (iI 1)), (2, .int (iI (gatS a.1 k))), (3, .int (iI (fstS a.1 k))), (4, .int (iI (sndS a.1 k))), (5, .ref qa), (1, .int (iI (min (a.1.1 2) 200))), (0, .ref ho)]) 482 (fun r3 => [.int (iI r3), .int (iI r2)]) (fun r3 hr3 => ?_) (fun K_28 => ?_)
                        · change Z _ _ _ _ _ _ _ _ _ _ _ _ _ _ _ _ (wQ J ho Ao a qa (dsF a.1 k)) ([(7, .int (iI v)), (6, .int (iI 1)), (2, .int (iI (gatS a.1 k))), (3, .int (iI (fstS a.1 k))), (4, .int (iI (sndS a.1 k))), (5, .ref qa), (1, .int (iI (min (a.1.1 2) 200))), (0, .ref ho)]) 482 ([.int (iI r3), .int (iI r2)])
                          refine z_icmp_ne_f (tgt := 489) hC dL_isWell_482 (by decide) (by unfold inR; omega) (by unfold inR; omega) (by omega) ?_
                          refine z_iconst hC dL_isWell_485 ?_
                          refine z_goto (tgt := 490) hC dL_isWell_486 (by decide) ?_
                          refine z_istore (lv' := [(6, .int (iI 1)), (7, .int (iI v)), (2, .int (iI (gatS a.1 k))), (3, .int (iI (fstS a.1 k))), (4, .int (iI (sndS a.1 k))), (5, .ref qa), (1, .int (iI (min (a.1.1 2) 200))), (0, .ref ho)]) hC dL_isWell_490 (by decide) rfl ?_
                          refine z_iload hC dL_isWell_492 0 rfl ?_
                          refine z_if_eq_f (tgt := 580) hC dL_isWell_494 (by decide) ⟨by decide, by decide⟩ (by decide) ?_
                          refine z_aload_n hC dL_isWell_497 rfl 7 rfl ?_
                          refine z_aload_n hC dL_isWell_498 rfl 7 rfl ?_
                          refine z_iconst hC dL_isWell_499 ?_
                          refine zq_count (v := a.1.1 5) hC gL_isWell_X5_count ⟨Nat.le_of_ble_eq_true rfl, Nat.le_of_ble_eq_true rfl⟩ ⟨Nat.le_of_ble_eq_true rfl, Nat.le_of_ble_eq_true rfl⟩ hOk.T 3 ⟨by decide, by decide⟩ rfl (Nat.le_of_ble_eq_true rfl) dL_isWell_500 ?_
                          refine zq_would (v := 0) hC gL_isWell_X5_would ⟨Nat.le_of_ble_eq_true rfl, Nat.le_of_ble_eq_true rfl⟩ ⟨Nat.le_of_ble_eq_true rfl, Nat.le_of_ble_eq_true rfl⟩ hOk.T (a.1.1 5) (by unfold inR; omega) (would_seen i5) (Nat.le_of_ble_eq_true rfl) dL_isWell_503 ?_
                          refine z_if_ne_f (tgt := 580) hC dL_isWell_506 (by decide) ⟨by decide, by decide⟩ (by decide) ?_
                          refine z_aload_n hC dL_isWell_509 rfl 7 rfl ?_
                          refine z_bipush hC dL_isWell_510 (by decide) ?_
                          refine zq_count (v := a.1.2.1 2) hC gL_isWell_X5_count ⟨Nat.le_of_ble_eq_true rfl, Nat.le_of_ble_eq_true rfl⟩ ⟨Nat.le_of_ble_eq_true rfl, Nat.le_of_ble_eq_true rfl⟩ hOk.T 12 ⟨by decide, by decide⟩ rfl (Nat.le_of_ble_eq_true rfl) dL_isWell_512 ?_
                          refine z_iconst hC dL_isWell_515 ?_
                          refine z_join (α := Unit) (fun u => True) (fun u => wQ J ho Ao a qa (dsF a.1 k)) (fun u => [(6, .int (iI 1)), (7, .int (iI v)), (2, .int (iI (gatS a.1 k))), (3, .int (iI (fstS a.1 k))), (4, .int (iI (sndS a.1 k))), (5, .ref qa), (1, .int (iI (min (a.1.1 2) 200))), (0, .ref ho)]) 561 (fun u => []) (fun u hu => ?_) (fun K_29 => ?_)
                          · change Z _ _ _ _ _ _ _ _ _ _ _ _ _ _ _ _ (wQ J ho Ao a qa (dsF a.1 k)) ([(6, .int (iI 1)), (7, .int (iI v)), (2, .int (iI (gatS a.1 k))), (3, .int (iI (fstS a.1 k))), (4, .int (iI (sndS a.1 k))), (5, .ref qa), (1, .int (iI (min (a.1.1 2) 200))), (0, .ref ho)]) 561 ([])
                            refine z_aload_n hC dL_isWell_561 rfl 7 rfl ?_
                            refine z_aload_n hC dL_isWell_562 rfl 7 rfl ?_
                            refine z_bipush hC dL_isWell_563 (by decide) ?_
                            refine zq_count (v := a.1.2.1 2) hC gL_isWell_X5_count ⟨Nat.le_of_ble_eq_true rfl, Nat.le_of_ble_eq_true rfl⟩ ⟨Nat.le_of_ble_eq_true rfl, Nat.le_of_ble_eq_true rfl⟩ hOk.T 12 ⟨by decide, by decide⟩ rfl (Nat.le_of_ble_eq_true rfl) dL_isWell_565 ?_
                            refine z_iconst hC dL_isWell_568 ?_
                            have hrn := replay_n (F := a.1.2.1 2) (T := a.2.1) hI ⟨by omega, by omega⟩ hOk.2.1
                            have hri := replay_in (F := a.1.2.1 2) (w := 2) (T := a.2.1) hI ⟨by omega, by omega⟩ ⟨by decide, by decide⟩ hOk.2.1
                            refine zq_replay (v := cReplayR a.1 a.2.1 (a.1.2.1 2) 2) hC gL_isWell_X5_replay ⟨Nat.le_of_ble_eq_true rfl, Nat.le_of_ble_eq_true rfl⟩ ⟨Nat.le_of_ble_eq_true rfl, Nat.le_of_ble_eq_true rfl⟩ hOk.T (a.1.2.1 2) 2 (by unfold inR; omega) ⟨by decide, by decide⟩ rfl (Nat.le_of_ble_eq_true rfl) dL_isWell_569 ?_
                            have okT_31 : OkT (a.1, cReplayT (a).1 (a).2.1 (a.1.2.1 2) 2, a.2.2) := ⟨hOk.T.1, replay_T hOk.T.1 ⟨by omega, by omega⟩ ⟨by omega, by omega⟩ hOk.T.2.1, hOk.T.2.2⟩
                            generalize cReplayT (a).1 (a).2.1 (a.1.2.1 2) 2 = T_30 at okT_31 ⊢
                            change OkT (a.1, T_30, a.2.2) at okT_31
                            refine z_ws (ws' := wQ J ho Ao (a.1, T_30, a.2.2) qa (dsF a.1 k)) rfl ?_
                            refine z_iload_n hC dL_isWell_572 rfl 6 rfl ?_
                            refine z_icmp_gt_f (tgt := 580) hC dL_isWell_573 (by decide) (by unfold inR; omega) (by unfold inR; omega) (by omega) ?_
                            refine z_iconst hC dL_isWell_576 ?_
                            refine z_goto (tgt := 581) hC dL_isWell_577 (by decide) ?_
                            refine z_perm (ws' := wO J ho Ao (a.1, T_30, a.2.2)) [0, 1, 2, 3, 4, 5, 6, 7, 8, 9, 10, 11, 12, 13, 14, 15, 16, 17, 18, 19, 20, 21, 22, 23, 24, 25, 26, 27, 28, 29, 30, 31, 32, 33, 34, 35, 36, 37, 38, 39, 40] rfl rfl ?_
                            exact z_iret hC hr rfl T_30 okT_31.2.1 rfl rfl dL_isWell_581
                          · skip
                            refine z_icmp_gt (tgt := 561) hC dL_isWell_516 (by decide) (by unfold inR; omega) ⟨by decide, by decide⟩ (fun c_516_32 => ?_) (fun c_516_32 => ?_)
                            · refine z_lv (lv' := _) [0, 1, 2, 3, 4, 5, 6, 7] rfl ?_
                              exact K_29 () trivial
                            · refine z_aload_n hC dL_isWell_519 rfl 7 rfl ?_
                              refine z_aload_n hC dL_isWell_520 rfl 7 rfl ?_
                              refine z_iconst hC dL_isWell_521 ?_
                              refine zq_count (v := a.1.1 5) hC gL_isWell_X5_count ⟨Nat.le_of_ble_eq_true rfl, Nat.le_of_ble_eq_true rfl⟩ ⟨Nat.le_of_ble_eq_true rfl, Nat.le_of_ble_eq_true rfl⟩ hOk.T 3 ⟨by decide, by decide⟩ rfl (Nat.le_of_ble_eq_true rfl) dL_isWell_522 ?_
                              refine zt_there (x := swZ (a.1.1 5)) hC gL_isWell_L_there ⟨Nat.le_of_ble_eq_true rfl, Nat.le_of_ble_eq_true rfl⟩ ⟨Nat.le_of_ble_eq_true rfl, Nat.le_of_ble_eq_true rfl⟩ (by unfold inR; omega) rfl (Nat.le_of_ble_eq_true rfl) dL_isWell_525 ?_
                              refine z_aload_n hC dL_isWell_528 rfl 7 rfl ?_
                              refine z_iconst hC dL_isWell_529 ?_
                              refine zq_count (v := a.1.1 5) hC gL_isWell_X5_count ⟨Nat.le_of_ble_eq_true rfl, Nat.le_of_ble_eq_true rfl⟩ ⟨Nat.le_of_ble_eq_true rfl, Nat.le_of_ble_eq_true rfl⟩ hOk.T 3 ⟨by decide, by decide⟩ rfl (Nat.le_of_ble_eq_true rfl) dL_isWell_530 ?_
                              refine z_join (α := Int) (fun w4 => (0 ≤ w4 ∧ w4 ≤ 3) ∧ ordP w4 = (ordP (a.1.1 5) + 2) % 4) (fun w4 => wQ J ho Ao a qa (dsF a.1 k)) (fun w4 => [(6, .int (iI 1)), (7, .int (iI v)), (2, .int (iI (gatS a.1 k))), (3, .int (iI (fstS a.1 k))), (4, .int (iI (sndS a.1 k))), (5, .ref qa), (1, .int (iI (min (a.1.1 2) 200))), (0, .ref ho)]) 554 (fun w4 => [.int (iI w4), .ref ho]) (fun w4 hw4 => ?_) (fun K_33 => ?_)
                              · change Z _ _ _ _ _ _ _ _ _ _ _ _ _ _ _ _ (wQ J ho Ao a qa (dsF a.1 k)) ([(6, .int (iI 1)), (7, .int (iI v)), (2, .int (iI (gatS a.1 k))), (3, .int (iI (fstS a.1 k))), (4, .int (iI (sndS a.1 k))), (5, .ref qa), (1, .int (iI (min (a.1.1 2) 200))), (0, .ref ho)]) 554 ([.int (iI w4), .ref ho])
                                refine zq_would (v := 3) hC gL_isWell_X5_would ⟨Nat.le_of_ble_eq_true rfl, Nat.le_of_ble_eq_true rfl⟩ ⟨Nat.le_of_ble_eq_true rfl, Nat.le_of_ble_eq_true rfl⟩ hOk.T w4 (by unfold inR; omega) (would_opp (by omega) i5 hw4.1 hw4.2 hI) (Nat.le_of_ble_eq_true rfl) dL_isWell_554 ?_
                                refine z_iconst hC dL_isWell_557 ?_
                                refine z_icmp_ne_same (tgt := 580) hC dL_isWell_558 (by decide) ?_
                                refine z_lv (lv' := _) [0, 1, 2, 3, 4, 5, 6, 7] rfl ?_
                                exact K_29 () trivial
                              · skip
                                refine z_icmp_ne (tgt := 546) hC dL_isWell_533 (by decide) (by unfold inR; omega) (by unfold inR; omega) (fun c_533_34 => ?_) (fun c_533_34 => ?_)
                                · refine z_aload_n hC dL_isWell_546 rfl 7 rfl ?_
                                  refine z_iconst hC dL_isWell_547 ?_
                                  refine zq_count (v := a.1.1 5) hC gL_isWell_X5_count ⟨Nat.le_of_ble_eq_true rfl, Nat.le_of_ble_eq_true rfl⟩ ⟨Nat.le_of_ble_eq_true rfl, Nat.le_of_ble_eq_true rfl⟩ hOk.T 3 ⟨by decide, by decide⟩ rfl (Nat.le_of_ble_eq_true rfl) dL_isWell_548 ?_
                                  refine zt_there (x := swZ (a.1.1 5)) hC gL_isWell_L_there ⟨Nat.le_of_ble_eq_true rfl, Nat.le_of_ble_eq_true rfl⟩ ⟨Nat.le_of_ble_eq_true rfl, Nat.le_of_ble_eq_true rfl⟩ (by unfold inR; omega) rfl (Nat.le_of_ble_eq_true rfl) dL_isWell_551 ?_
                                  refine z_lv (lv' := _) [0, 1, 2, 3, 4, 5, 6, 7] rfl ?_
                                  exact K_33 (swZ (a.1.1 5)) (opp_of i5 (by omega))
                                · refine z_iconst hC dL_isWell_536 ?_
                                  refine z_aload_n hC dL_isWell_537 rfl 7 rfl ?_
                                  refine z_iconst hC dL_isWell_538 ?_
                                  refine zq_count (v := a.1.1 5) hC gL_isWell_X5_count ⟨Nat.le_of_ble_eq_true rfl, Nat.le_of_ble_eq_true rfl⟩ ⟨Nat.le_of_ble_eq_true rfl, Nat.le_of_ble_eq_true rfl⟩ hOk.T 3 ⟨by decide, by decide⟩ rfl (Nat.le_of_ble_eq_true rfl) dL_isWell_539 ?_
                                  refine z_isub hC dL_isWell_542 ?_
                                  refine z_goto (tgt := 554) hC dL_isWell_543 (by decide) ?_
                                  refine z_lv (lv' := _) [0, 1, 2, 3, 4, 5, 6, 7] rfl ?_
                                  exact K_33 (3 - (a.1.1 5)) (opp_of i5 (by omega))
                        · skip
                          refine z_icmp_eq (tgt := 477) hC dL_isWell_465 (by decide) (by unfold inR; omega) ⟨by decide, by decide⟩ (fun c_465_35 => ?_) (fun c_465_35 => ?_)
                          · refine z_iconst hC dL_isWell_477 ?_
                            refine z_goto (tgt := 482) hC dL_isWell_478 (by decide) ?_
                            refine z_lv (lv' := _) [0, 1, 2, 3, 4, 5, 6, 7] rfl ?_
                            exact K_28 1 (by omega)
                          · refine z_aload_n hC dL_isWell_468 rfl 7 rfl ?_
                            refine z_iconst hC dL_isWell_469 ?_
                            refine zq_count (v := a.1.1 9) hC gL_isWell_X5_count ⟨Nat.le_of_ble_eq_true rfl, Nat.le_of_ble_eq_true rfl⟩ ⟨Nat.le_of_ble_eq_true rfl, Nat.le_of_ble_eq_true rfl⟩ hOk.T 4 ⟨by decide, by decide⟩ rfl (Nat.le_of_ble_eq_true rfl) dL_isWell_470 ?_
                            refine z_iconst hC dL_isWell_473 ?_
                            refine z_icmp_ne (tgt := 481) hC dL_isWell_474 (by decide) (by unfold inR; omega) ⟨by decide, by decide⟩ (fun c_474_36 => ?_) (fun c_474_36 => ?_)
                            · refine z_iconst hC dL_isWell_481 ?_
                              refine z_lv (lv' := _) [0, 1, 2, 3, 4, 5, 6, 7] rfl ?_
                              exact K_28 0 (by omega)
                            · refine z_iconst hC dL_isWell_477 ?_
                              refine z_goto (tgt := 482) hC dL_isWell_478 (by decide) ?_
                              refine z_lv (lv' := _) [0, 1, 2, 3, 4, 5, 6, 7] rfl ?_
                              exact K_28 1 (by omega)
                      · skip
                        refine z_if_lt (tgt := 457) hC dL_isWell_450 (by decide) (by unfold inR; omega) (fun c_450_37 => ?_) (fun c_450_37 => ?_)
                        · refine z_iconst hC dL_isWell_457 ?_
                          refine z_lv (lv' := _) [0, 1, 2, 3, 4, 5, 6, 7] rfl ?_
                          exact K_27 0 (by omega)
                        · refine z_iconst hC dL_isWell_453 ?_
                          refine z_goto (tgt := 458) hC dL_isWell_454 (by decide) ?_
                          refine z_lv (lv' := _) [0, 1, 2, 3, 4, 5, 6, 7] rfl ?_
                          exact K_27 1 (by omega)
                    · skip
                      refine z_icmp_ne (tgt := 440) hC dL_isWell_433 (by decide) (by unfold inR; omega) ⟨by decide, by decide⟩ (fun c_433_38 => ?_) (fun c_433_38 => ?_)
                      · refine z_iconst hC dL_isWell_440 ?_
                        refine z_lv (lv' := _) [0, 1, 2, 3, 4, 5, 6, 7] rfl ?_
                        exact K_25 0 (by omega)
                      · refine z_iconst hC dL_isWell_436 ?_
                        refine z_goto (tgt := 441) hC dL_isWell_437 (by decide) ?_
                        refine z_lv (lv' := _) [0, 1, 2, 3, 4, 5, 6, 7] rfl ?_
                        exact K_25 1 (by omega)
                  · skip
                    refine z_if_ne (tgt := 425) hC dL_isWell_418 (by decide) (by unfold inR; omega) (fun c_418_39 => ?_) (fun c_418_39 => ?_)
                    · refine z_iconst hC dL_isWell_425 ?_
                      refine z_lv (lv' := _) [0, 1, 2, 3, 4, 5, 6, 7] rfl ?_
                      exact K_24 0 (by omega)
                    · refine z_iconst hC dL_isWell_421 ?_
                      refine z_goto (tgt := 426) hC dL_isWell_422 (by decide) ?_
                      refine z_lv (lv' := _) [0, 1, 2, 3, 4, 5, 6, 7] rfl ?_
                      exact K_24 1 (by omega)
                · skip
                  refine z_if_lt (tgt := 412) hC dL_isWell_387 (by decide) (by unfold inR; omega) (fun c_387_40 => ?_) (fun c_387_40 => ?_)
                  · refine z_lv (lv' := _) [0, 1, 2, 3, 4, 5, 6, 7] rfl ?_
                    exact K_22 () trivial
                  · refine z_aload_n hC dL_isWell_390 rfl 7 rfl ?_
                    refine z_iconst hC dL_isWell_391 ?_
                    have hsq := hs (by omega)
                    refine zq_speed (v := cSpeedR a.1 1) hC gL_isWell_X5_speed ⟨Nat.le_of_ble_eq_true rfl, Nat.le_of_ble_eq_true rfl⟩ ⟨Nat.le_of_ble_eq_true rfl, Nat.le_of_ble_eq_true rfl⟩ hOk.T 1 ⟨by decide, by decide⟩ rfl (Nat.le_of_ble_eq_true rfl) dL_isWell_392 ?_
                    refine z_iload hC dL_isWell_395 0 rfl ?_
                    refine z_if_eq (tgt := 407) hC dL_isWell_397 (by decide) (by unfold inR; omega) (fun c_397_41 => ?_) (fun c_397_41 => ?_)
                    · refine z_bipush hC dL_isWell_407 (by decide) ?_
                      refine z_icmp_ne_f (tgt := 489) hC dL_isWell_409 (by decide) (by unfold inR; omega) ⟨by decide, by decide⟩ (by omega) ?_
                      refine z_lv (lv' := _) [0, 1, 2, 3, 4, 5, 6, 7] rfl ?_
                      exact K_22 () trivial
                    · refine z_iload hC dL_isWell_400 4 rfl ?_
                      refine z_iload_n hC dL_isWell_402 rfl 3 rfl ?_
                      refine z_isub hC dL_isWell_403 ?_
                      refine z_goto (tgt := 409) hC dL_isWell_404 (by decide) ?_
                      refine z_icmp_ne_f (tgt := 489) hC dL_isWell_409 (by decide) (by unfold inR; omega) (by unfold inR; omega) (by omega) ?_
                      refine z_lv (lv' := _) [0, 1, 2, 3, 4, 5, 6, 7] rfl ?_
                      exact K_22 () trivial
              · skip
                refine z_if_lt (tgt := 385) hC dL_isWell_368 (by decide) (by unfold inR; omega) (fun c_368_42 => ?_) (fun c_368_42 => ?_)
                · refine z_lv (lv' := _) [0, 1, 2, 3, 4, 5, 6, 7] rfl ?_
                  exact K_21 () trivial
                · refine z_aload_n hC dL_isWell_371 rfl 7 rfl ?_
                  refine z_iload_n hC dL_isWell_372 rfl 3 rfl ?_
                  refine z_iconst hC dL_isWell_373 ?_
                  skip
                  have hdf := cDat_in (invE_g hI) (f := a.1.1) (fstS a.1 k)
                  have hfq := hf (by omega)
                  refine zq_log (v := cDat a.1.1 a.1.2.2 (fstS a.1 k)) hC gL_isWell_X5_log ⟨Nat.le_of_ble_eq_true rfl, Nat.le_of_ble_eq_true rfl⟩ ⟨Nat.le_of_ble_eq_true rfl, Nat.le_of_ble_eq_true rfl⟩ hOk.T (fstS a.1 k) 2 (by unfold inR; omega) ⟨by decide, by decide⟩ ((logR_of (w := 0) ⟨by omega, by omega⟩).2.2) (Nat.le_of_ble_eq_true rfl) dL_isWell_374 ?_
                  refine z_aload_n hC dL_isWell_377 rfl 7 rfl ?_
                  refine z_iconst hC dL_isWell_378 ?_
                  refine zq_count (v := a.1.1 9) hC gL_isWell_X5_count ⟨Nat.le_of_ble_eq_true rfl, Nat.le_of_ble_eq_true rfl⟩ ⟨Nat.le_of_ble_eq_true rfl, Nat.le_of_ble_eq_true rfl⟩ hOk.T 4 ⟨by decide, by decide⟩ rfl (Nat.le_of_ble_eq_true rfl) dL_isWell_379 ?_
                  refine z_icmp_ne_f (tgt := 489) hC dL_isWell_382 (by decide) (by unfold inR; omega) (by unfold inR; omega) (by omega) ?_
                  refine z_lv (lv' := _) [0, 1, 2, 3, 4, 5, 6, 7] rfl ?_
                  exact K_21 () trivial
            · skip
              refine z_if_lt (tgt := 346) hC dL_isWell_323 (by decide) (by unfold inR; omega) (fun c_323_43 => ?_) (fun c_323_43 => ?_)
              · refine z_iconst hC dL_isWell_346 ?_
                refine z_lv (lv' := _) [0, 1, 2, 3, 4, 5, 6, 7] rfl ?_
                exact K_20 0 (by omega)
              · refine z_aload_n hC dL_isWell_326 rfl 7 rfl ?_
                refine z_iload_n hC dL_isWell_327 rfl 3 rfl ?_
                refine z_iconst hC dL_isWell_328 ?_
                have hsx := hs
                have hsq := hs (by omega)
                have hdf := cDat_in (invE_g hI) (f := a.1.1) (fstS a.1 k)
                have hdg := cDat_in (invE_g hI) (f := a.1.1) (sndS a.1 k)
                refine zq_log (v := cDat a.1.1 a.1.2.2 (fstS a.1 k)) hC gL_isWell_X5_log ⟨Nat.le_of_ble_eq_true rfl, Nat.le_of_ble_eq_true rfl⟩ ⟨Nat.le_of_ble_eq_true rfl, Nat.le_of_ble_eq_true rfl⟩ hOk.T (fstS a.1 k) 2 (by unfold inR; omega) ⟨by decide, by decide⟩ ((logR_of (w := 0) ⟨by omega, by omega⟩).2.2) (Nat.le_of_ble_eq_true rfl) dL_isWell_329 ?_
                refine z_aload_n hC dL_isWell_332 rfl 7 rfl ?_
                refine z_iload hC dL_isWell_333 4 rfl ?_
                refine z_iconst hC dL_isWell_335 ?_
                refine zq_log (v := cDat a.1.1 a.1.2.2 (sndS a.1 k)) hC gL_isWell_X5_log ⟨Nat.le_of_ble_eq_true rfl, Nat.le_of_ble_eq_true rfl⟩ ⟨Nat.le_of_ble_eq_true rfl, Nat.le_of_ble_eq_true rfl⟩ hOk.T (sndS a.1 k) 2 (by unfold inR; omega) ⟨by decide, by decide⟩ ((logR_of (w := 0) ⟨by omega, by omega⟩).2.2) (Nat.le_of_ble_eq_true rfl) dL_isWell_336 ?_
                refine z_icmp_ne (tgt := 346) hC dL_isWell_339 (by decide) (by unfold inR; omega) (by unfold inR; omega) (fun c_339_44 => ?_) (fun c_339_44 => ?_)
                · refine z_iconst hC dL_isWell_346 ?_
                  refine z_lv (lv' := _) [0, 1, 2, 3, 4, 5, 6, 7] rfl ?_
                  exact K_20 0 (by omega)
                · refine z_iconst hC dL_isWell_342 ?_
                  refine z_goto (tgt := 347) hC dL_isWell_343 (by decide) ?_
                  refine z_lv (lv' := _) [0, 1, 2, 3, 4, 5, 6, 7] rfl ?_
                  exact K_20 1 (by omega)
          · skip
            refine z_icmp_eq (tgt := 308) hC dL_isWell_289 (by decide) (by unfold inR; omega) ⟨by decide, by decide⟩ (fun c_289_45 => ?_) (fun c_289_45 => ?_)
            · refine z_lv (lv' := _) [0, 1, 2, 3, 4, 5, 6, 7] rfl ?_
              exact K_19 () trivial
            · refine z_aload_n hC dL_isWell_292 rfl 7 rfl ?_
              refine z_iconst hC dL_isWell_293 ?_
              refine z_iload hC dL_isWell_294 0 rfl ?_
              refine z_iadd hC dL_isWell_296 ?_
              refine z_int (y := iI 7) hC (by decide) ?_
              refine zq_count (v := a.1.1 12) hC gL_isWell_X5_count ⟨Nat.le_of_ble_eq_true rfl, Nat.le_of_ble_eq_true rfl⟩ ⟨Nat.le_of_ble_eq_true rfl, Nat.le_of_ble_eq_true rfl⟩ hOk.T 7 ⟨by decide, by decide⟩ rfl (Nat.le_of_ble_eq_true rfl) dL_isWell_297 ?_
              refine z_aload hC dL_isWell_300 5 rfl ?_
              refine z_iload hC dL_isWell_302 0 rfl ?_
              refine z_iald hC 41 rfl 0 rfl 3 rfl (by decide) (by decide) dL_isWell_304 ?_
              refine z_int (y := iI (cDs a.1 3 k)) hC rfl ?_
              refine z_icmp_ne_f (tgt := 312) hC dL_isWell_305 (by decide) (by unfold inR; omega) (by unfold inR; omega) (by omega) ?_
              refine z_lv (lv' := _) [0, 1, 2, 3, 4, 5, 6, 7] rfl ?_
              exact K_19 () trivial
        · skip
          refine z_icmp_eq (tgt := 308) hC dL_isWell_289 (by decide) (by unfold inR; omega) ⟨by decide, by decide⟩ (fun c_289_46 => ?_) (fun c_289_46 => ?_)
          · refine z_lv (lv' := _) [0, 1, 2, 3, 4, 5, 6, 7] rfl ?_
            exact K_18 () trivial
          · refine z_aload_n hC dL_isWell_292 rfl 7 rfl ?_
            refine z_iconst hC dL_isWell_293 ?_
            refine z_iload hC dL_isWell_294 0 rfl ?_
            refine z_iadd hC dL_isWell_296 ?_
            refine z_int (y := iI 6) hC (by decide) ?_
            refine zq_count (v := a.1.1 11) hC gL_isWell_X5_count ⟨Nat.le_of_ble_eq_true rfl, Nat.le_of_ble_eq_true rfl⟩ ⟨Nat.le_of_ble_eq_true rfl, Nat.le_of_ble_eq_true rfl⟩ hOk.T 6 ⟨by decide, by decide⟩ rfl (Nat.le_of_ble_eq_true rfl) dL_isWell_297 ?_
            refine z_aload hC dL_isWell_300 5 rfl ?_
            refine z_iload hC dL_isWell_302 0 rfl ?_
            refine z_iald hC 41 rfl 0 rfl 2 rfl (by decide) (by decide) dL_isWell_304 ?_
            refine z_int (y := iI (cDs a.1 2 k)) hC rfl ?_
            refine z_icmp_ne_f (tgt := 312) hC dL_isWell_305 (by decide) (by unfold inR; omega) (by unfold inR; omega) (by omega) ?_
            refine z_lv (lv' := _) [0, 1, 2, 3, 4, 5, 6, 7] rfl ?_
            exact K_18 () trivial
      · skip
        refine z_icmp_eq (tgt := 308) hC dL_isWell_289 (by decide) (by unfold inR; omega) ⟨by decide, by decide⟩ (fun c_289_47 => ?_) (fun c_289_47 => ?_)
        · refine z_lv (lv' := _) [0, 1, 2, 3, 4, 5, 6, 7] rfl ?_
          exact K_17 () trivial
        · refine z_aload_n hC dL_isWell_292 rfl 7 rfl ?_
          refine z_iconst hC dL_isWell_293 ?_
          refine z_iload hC dL_isWell_294 0 rfl ?_
          refine z_iadd hC dL_isWell_296 ?_
          refine z_int (y := iI 5) hC (by decide) ?_
          refine zq_count (v := a.1.1 10) hC gL_isWell_X5_count ⟨Nat.le_of_ble_eq_true rfl, Nat.le_of_ble_eq_true rfl⟩ ⟨Nat.le_of_ble_eq_true rfl, Nat.le_of_ble_eq_true rfl⟩ hOk.T 5 ⟨by decide, by decide⟩ rfl (Nat.le_of_ble_eq_true rfl) dL_isWell_297 ?_
          refine z_aload hC dL_isWell_300 5 rfl ?_
          refine z_iload hC dL_isWell_302 0 rfl ?_
          refine z_iald hC 41 rfl 0 rfl 1 rfl (by decide) (by decide) dL_isWell_304 ?_
          refine z_int (y := iI (cDs a.1 1 k)) hC rfl ?_
          refine z_icmp_ne_f (tgt := 312) hC dL_isWell_305 (by decide) (by unfold inR; omega) (by unfold inR; omega) (by omega) ?_
          refine z_lv (lv' := _) [0, 1, 2, 3, 4, 5, 6, 7] rfl ?_
          exact K_17 () trivial
  · skip
    refine z_icmp_ge (tgt := 39) hC dL_isWell_28 (by decide) (by unfold inR; omega) ⟨by decide, by decide⟩ (fun c_28_48 => ?_) (fun c_28_48 => ?_)
    · refine z_sipush hC dL_isWell_39 (by decide) ?_
      refine z_st (st' := [.int (iI (min (a.1.1 2) 200)), .int (iI (min (a.1.1 2) 200))]) (congrArg (fun z : Int => ([.int (iI z), .int (iI (min (a.1.1 2) 200))] : List Value)) (show 200 = min (a.1.1 2) 200 by omega)) ?_
      refine z_lv (lv' := _) [0, 1, 2, 3, 4, 5] rfl ?_
      exact K_1 () trivial
    · refine z_aload_n hC dL_isWell_31 rfl 5 rfl ?_
      refine z_iconst hC dL_isWell_32 ?_
      refine zq_count (v := a.1.1 2) hC gL_isWell_X5_count ⟨Nat.le_of_ble_eq_true rfl, Nat.le_of_ble_eq_true rfl⟩ ⟨Nat.le_of_ble_eq_true rfl, Nat.le_of_ble_eq_true rfl⟩ hOk.T 0 ⟨by decide, by decide⟩ rfl (Nat.le_of_ble_eq_true rfl) dL_isWell_33 ?_
      refine z_goto (tgt := 42) hC dL_isWell_36 (by decide) ?_
      refine z_st (st' := [.int (iI (min (a.1.1 2) 200)), .int (iI (min (a.1.1 2) 200))]) (congrArg (fun z : Int => ([.int (iI z), .int (iI (min (a.1.1 2) 200))] : List Value)) (show a.1.1 2 = min (a.1.1 2) 200 by omega)) ?_
      refine z_lv (lv' := _) [0, 1, 2, 3, 4, 5] rfl ?_
      exact K_1 () trivial
