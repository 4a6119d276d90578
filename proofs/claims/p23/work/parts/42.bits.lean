theorem kX0_ofDouble_1 : Cond.constantLong RX0 7 (1023) ∈ wsX0_ofDouble := List.mem_of_getElem? (i := 1) rfl
theorem kX0_ofDouble_2 : Cond.constantDouble RX0 11 (4611686018427387904) ∈ wsX0_ofDouble := List.mem_of_getElem? (i := 2) rfl
theorem kX0_ofDouble_3 : Cond.constantDouble RX0 13 (4841369599423283200) ∈ wsX0_ofDouble := List.mem_of_getElem? (i := 3) rfl
abbrev rmX0_ofDouble : Room := { frames := 0, cells := 0, slots := 0, locals := 0 }
set_option maxHeartbeats 4000000 in
set_option maxRecDepth 100000 in
theorem t_X0_ofDouble (l : Launch) (D : va_G) (J : Nat → ClassId) (sn : Bool) (E d : Nat) (hE : 900 ≤ E ∧ E ≤ 1023) (hd : d < 4503599627370496) : ZX l yX0_ofDouble wsX0_ofDouble rmX0_ofDouble D J [.double (D64 sn E d)] ([] : va_W) (some (.long (D64 sn E d).toInt64)) ([] : va_W) := by
  have hE2 : 1 ≤ E ∧ E ≤ 2046 := ⟨by omega, by omega⟩
  refine z_met (cc := cX0_ofDouble) (nL := 10) (ret := (some .long)) (own := RX0) (by decide) rfl rfl (Nat.le_of_ble_eq_true rfl) (fun p e s m args below meth c hC hr hin => ?_)
  refine z_lv0 (lv' := [(0, .double (D64 sn E d))]) rfl ?_
  cases sn
  · skip
    refine z_dload_n hC dX0_ofDouble_0 rfl 0 rfl ?_
    refine z_dconst0 hC dX0_ofDouble_1 ?_
    refine z_dcmp hC 1 dX0_ofDouble_2 (by rw [d64_cmp0 hE2 hd]; decide) ?_
    refine z_if_ne_t (tgt := 8) hC dX0_ofDouble_3 (by decide) ⟨by decide, by decide⟩ (by decide) ?_
    refine z_dload_n hC dX0_ofDouble_8 rfl 0 rfl ?_
    refine z_dconst0 hC dX0_ofDouble_9 ?_
    refine z_dcmp hC 1 dX0_ofDouble_10 (by rw [d64_cmp0 hE2 hd]; decide) ?_
    refine z_if_ge_t (tgt := 19) hC dX0_ofDouble_11 (by decide) ⟨by decide, by decide⟩ (by decide) ?_
    refine z_dload_n hC dX0_ofDouble_19 rfl 0 rfl ?_
    refine z_dstore_n (lv' := [(2, .double (D64 false E d)), (0, .double (D64 false E d))]) hC dX0_ofDouble_20 rfl (by decide) rfl ?_
    refine z_ldc2 hC kX0_ofDouble_1 dX0_ofDouble_21 ?_
    refine z_long (y := lI 1023) hC (by decide) ?_
    refine z_lstore (lv' := [(4, .long (lI 1023)), (2, .double (D64 false E d)), (0, .double (D64 false E d))]) hC dX0_ofDouble_24 (by decide) rfl ?_
    refine z_iconst hC dX0_ofDouble_26 ?_
    refine z_istore (lv' := [(6, .int (iI 0)), (4, .long (lI 1023)), (2, .double (D64 false E d)), (0, .double (D64 false E d))]) hC dX0_ofDouble_27 (by decide) rfl ?_
    refine z_lv (lv' := [(6, .int (iI 0)), (4, .long (lI 1023)), (2, .double (D64 false E d)), (0, .double (D64 false E d))]) [0, 1, 2, 3] rfl ?_
    refine z_loop (α := Nat) (fun nn i => E + i + nn = 1023) (fun nn i => ([] : va_W)) (fun nn i => [(6, .int (iI (i : Int))), (4, .long (lI (1023 - (i : Int)))), (2, .double (D64 false (E + i) d)), (0, .double (D64 false E d))]) 29 [] (fun nn i ih_1 hP_2 => ?_) (fun i hP_2 => ?_) (1023 - E) 0 (by omega)
    · change Z _ _ _ _ _ _ _ _ _ _ _ _ _ _ _ _ ([] : va_W) ([(6, .int (iI (i : Int))), (4, .long (lI (1023 - (i : Int)))), (2, .double (D64 false (E + i) d)), (0, .double (D64 false E d))]) 29 ([])
      refine z_iload hC dX0_ofDouble_29 0 rfl ?_
      refine z_sipush hC dX0_ofDouble_31 (by decide) ?_
      refine z_icmp_ge_f (tgt := 61) hC dX0_ofDouble_34 (by decide) (by unfold inR; omega) ⟨by decide, by decide⟩ (by omega) ?_
      refine z_dload_n hC dX0_ofDouble_37 rfl 2 rfl ?_
      refine z_dconst1 hC dX0_ofDouble_38 ?_
      refine z_dcmp hC (-1) dX0_ofDouble_39 (by rw [(d64_cmp1 (E := E + i) ⟨by omega, by omega⟩ hd).1 (by omega)]; decide) ?_
      refine z_if_ge_f (tgt := 61) hC dX0_ofDouble_40 (by decide) ⟨by decide, by decide⟩ (by decide) ?_
      refine z_dload_n hC dX0_ofDouble_43 rfl 2 rfl ?_
      refine z_ldc2d hC kX0_ofDouble_2 dX0_ofDouble_44 ?_
      refine z_dmul hC (D64 false (E + i + 1) d) dX0_ofDouble_47 (by rw [d64_mul2 ⟨by omega, by omega⟩ hd]; exact d64_nn ⟨by omega, by omega⟩ hd) (d64_mul2 ⟨by omega, by omega⟩ hd) ?_
      refine z_dstore_n (lv' := [(2, .double (D64 false (E + i + 1) d)), (6, .int (iI (i : Int))), (4, .long (lI (1023 - (i : Int)))), (0, .double (D64 false E d))]) hC dX0_ofDouble_48 rfl (by decide) rfl ?_
      refine z_lload hC dX0_ofDouble_49 2 rfl ?_
      refine z_lconst (v := lI 1) hC dX0_ofDouble_51 (by decide) ?_
      refine z_lsub (v := lI ((1023 - (i : Int)) - 1)) hC dX0_ofDouble_52 (lI_sub _ _) ?_
      refine z_lstore (lv' := [(4, .long (lI ((1023 - (i : Int)) - 1))), (2, .double (D64 false (E + i + 1) d)), (6, .int (iI (i : Int))), (0, .double (D64 false E d))]) hC dX0_ofDouble_53 (by decide) rfl ?_
      refine z_iinc (lv' := [(6, .int (iI ((i : Int) + 1))), (4, .long (lI ((1023 - (i : Int)) - 1))), (2, .double (D64 false (E + i + 1) d)), (0, .double (D64 false E d))]) hC dX0_ofDouble_55 2 rfl (by decide) rfl ?_
      refine z_goto (tgt := 29) hC dX0_ofDouble_58 (by decide) ?_
      refine z_lv0 (lv' := [(6, .int (iI ((i : Int) + 1))), (4, .long (lI (1023 - ((i + 1 : Nat) : Int)))), (2, .double (D64 false (E + i + 1) d)), (0, .double (D64 false E d))]) (by rw [show ((1023 : Int) - ((i + 1 : Nat) : Int)) = 1023 - (i : Int) - 1 by omega]) ?_
      refine z_lv (lv' := _) [0, 1, 2, 3] rfl ?_
      exact ih_1 (i + 1) (by omega)
    · change Z _ _ _ _ _ _ _ _ _ _ _ _ _ _ _ _ ([] : va_W) ([(6, .int (iI (i : Int))), (4, .long (lI (1023 - (i : Int)))), (2, .double (D64 false (E + i) d)), (0, .double (D64 false E d))]) 29 ([])
      have hEi : E + i = 1023 := by omega
      refine z_iload hC dX0_ofDouble_29 0 rfl ?_
      refine z_sipush hC dX0_ofDouble_31 (by decide) ?_
      refine z_icmp_ge_f (tgt := 61) hC dX0_ofDouble_34 (by decide) (by unfold inR; omega) ⟨by decide, by decide⟩ (by omega) ?_
      refine z_dload_n hC dX0_ofDouble_37 rfl 2 rfl ?_
      refine z_dconst1 hC dX0_ofDouble_38 ?_
      refine z_dcmp hC (if d = 0 then 0 else 1) dX0_ofDouble_39 (by rw [hEi]; exact d64_c1 hd) ?_
      refine z_if_ge_t (tgt := 61) hC dX0_ofDouble_40 (by decide) (by split <;> exact ⟨by decide, by decide⟩) (by split <;> omega) ?_
      refine z_dload_n hC dX0_ofDouble_61 rfl 2 rfl ?_
      refine z_dconst1 hC dX0_ofDouble_62 ?_
      refine z_dsub hC (Jvm.FP.dsub (D64 false 1023 d) Jvm.FP.dconst1) dX0_ofDouble_63 (by rw [hEi]; exact (d64_frac hd).1) (by rw [hEi]) ?_
      refine z_ldc2d hC kX0_ofDouble_3 dX0_ofDouble_64 ?_
      refine z_dmul hC (Jvm.FP.dmul (Jvm.FP.dsub (D64 false 1023 d) Jvm.FP.dconst1) 4841369599423283200) dX0_ofDouble_67 (d64_frac hd).2.1 rfl ?_
      refine z_d2l hC (lI (d : Int)) dX0_ofDouble_68 (d64_frac hd).2.2 ?_
      refine z_lstore (lv' := [(6, .long (lI (d : Int))), (4, .long (lI (1023 - (i : Int)))), (2, .double (D64 false (E + i) d)), (0, .double (D64 false E d))]) hC dX0_ofDouble_69 (by decide) rfl ?_
      refine z_dload_n hC dX0_ofDouble_71 rfl 3 rfl ?_
      refine z_dconst0 hC dX0_ofDouble_72 ?_
      refine z_dcmp hC 1 dX0_ofDouble_73 (by rw [d64_cmp0 hE2 hd]; decide) ?_
      refine z_if_ge_t (tgt := 81) hC dX0_ofDouble_74 (by decide) ⟨by decide, by decide⟩ (by decide) ?_
      refine z_lconst (v := lI 0) hC dX0_ofDouble_81 (by decide) ?_
      refine z_lstore (lv' := [(8, .long (lI 0)), (6, .long (lI (d : Int))), (4, .long (lI (1023 - (i : Int)))), (2, .double (D64 false (E + i) d)), (0, .double (D64 false E d))]) hC dX0_ofDouble_82 (by decide) rfl ?_
      refine z_lload hC dX0_ofDouble_84 0 rfl ?_
      refine z_bipush hC dX0_ofDouble_86 (by decide) ?_
      refine z_lshl (v := (lI 0) <<< ((iI 63).toInt64 &&& 63)) hC dX0_ofDouble_88 rfl ?_
      refine z_lload hC dX0_ofDouble_89 2 rfl ?_
      refine z_bipush hC dX0_ofDouble_91 (by decide) ?_
      refine z_lshl (v := (lI (1023 - (i : Int))) <<< ((iI 52).toInt64 &&& 63)) hC dX0_ofDouble_93 rfl ?_
      refine z_lor (v := ((lI 0) <<< ((iI 63).toInt64 &&& 63)) ||| ((lI (1023 - (i : Int))) <<< ((iI 52).toInt64 &&& 63))) hC dX0_ofDouble_94 rfl ?_
      refine z_lload hC dX0_ofDouble_95 1 rfl ?_
      refine z_lor (v := (D64 false E d).toInt64) hC dX0_ofDouble_97 (by rw [show ((1023 : Int) - (i : Int)) = (E : Int) by omega]; exact d64_bits (s := false) hE2 hd _ (by decide +kernel)) ?_
      exact z_lret hC hr () trivial (by rfl) (by rfl) dX0_ofDouble_98
  · skip
    refine z_dload_n hC dX0_ofDouble_0 rfl 0 rfl ?_
    refine z_dconst0 hC dX0_ofDouble_1 ?_
    refine z_dcmp hC (-1) dX0_ofDouble_2 (by rw [d64_cmp0 hE2 hd]; decide) ?_
    refine z_if_ne_t (tgt := 8) hC dX0_ofDouble_3 (by decide) ⟨by decide, by decide⟩ (by decide) ?_
    refine z_dload_n hC dX0_ofDouble_8 rfl 0 rfl ?_
    refine z_dconst0 hC dX0_ofDouble_9 ?_
    refine z_dcmp hC (-1) dX0_ofDouble_10 (by rw [d64_cmp0 hE2 hd]; decide) ?_
    refine z_if_ge_f (tgt := 19) hC dX0_ofDouble_11 (by decide) ⟨by decide, by decide⟩ (by decide) ?_
    refine z_dload_n hC dX0_ofDouble_14 rfl 0 rfl ?_
    refine z_dneg hC (D64 false E d) dX0_ofDouble_15 (d64_neg hE2 hd) ?_
    refine z_goto (tgt := 20) hC dX0_ofDouble_16 (by decide) ?_
    refine z_dstore_n (lv' := [(2, .double (D64 false E d)), (0, .double (D64 true E d))]) hC dX0_ofDouble_20 rfl (by decide) rfl ?_
    refine z_ldc2 hC kX0_ofDouble_1 dX0_ofDouble_21 ?_
    refine z_long (y := lI 1023) hC (by decide) ?_
    refine z_lstore (lv' := [(4, .long (lI 1023)), (2, .double (D64 false E d)), (0, .double (D64 true E d))]) hC dX0_ofDouble_24 (by decide) rfl ?_
    refine z_iconst hC dX0_ofDouble_26 ?_
    refine z_istore (lv' := [(6, .int (iI 0)), (4, .long (lI 1023)), (2, .double (D64 false E d)), (0, .double (D64 true E d))]) hC dX0_ofDouble_27 (by decide) rfl ?_
    refine z_lv (lv' := [(6, .int (iI 0)), (4, .long (lI 1023)), (2, .double (D64 false E d)), (0, .double (D64 true E d))]) [0, 1, 2, 3] rfl ?_
    refine z_loop (α := Nat) (fun nn i => E + i + nn = 1023) (fun nn i => ([] : va_W)) (fun nn i => [(6, .int (iI (i : Int))), (4, .long (lI (1023 - (i : Int)))), (2, .double (D64 false (E + i) d)), (0, .double (D64 true E d))]) 29 [] (fun nn i ih_3 hP_4 => ?_) (fun i hP_4 => ?_) (1023 - E) 0 (by omega)
    · change Z _ _ _ _ _ _ _ _ _ _ _ _ _ _ _ _ ([] : va_W) ([(6, .int (iI (i : Int))), (4, .long (lI (1023 - (i : Int)))), (2, .double (D64 false (E + i) d)), (0, .double (D64 true E d))]) 29 ([])
      refine z_iload hC dX0_ofDouble_29 0 rfl ?_
      refine z_sipush hC dX0_ofDouble_31 (by decide) ?_
      refine z_icmp_ge_f (tgt := 61) hC dX0_ofDouble_34 (by decide) (by unfold inR; omega) ⟨by decide, by decide⟩ (by omega) ?_
      refine z_dload_n hC dX0_ofDouble_37 rfl 2 rfl ?_
      refine z_dconst1 hC dX0_ofDouble_38 ?_
      refine z_dcmp hC (-1) dX0_ofDouble_39 (by rw [(d64_cmp1 (E := E + i) ⟨by omega, by omega⟩ hd).1 (by omega)]; decide) ?_
      refine z_if_ge_f (tgt := 61) hC dX0_ofDouble_40 (by decide) ⟨by decide, by decide⟩ (by decide) ?_
      refine z_dload_n hC dX0_ofDouble_43 rfl 2 rfl ?_
      refine z_ldc2d hC kX0_ofDouble_2 dX0_ofDouble_44 ?_
      refine z_dmul hC (D64 false (E + i + 1) d) dX0_ofDouble_47 (by rw [d64_mul2 ⟨by omega, by omega⟩ hd]; exact d64_nn ⟨by omega, by omega⟩ hd) (d64_mul2 ⟨by omega, by omega⟩ hd) ?_
      refine z_dstore_n (lv' := [(2, .double (D64 false (E + i + 1) d)), (6, .int (iI (i : Int))), (4, .long (lI (1023 - (i : Int)))), (0, .double (D64 true E d))]) hC dX0_ofDouble_48 rfl (by decide) rfl ?_
      refine z_lload hC dX0_ofDouble_49 2 rfl ?_
      refine z_lconst (v := lI 1) hC dX0_ofDouble_51 (by decide) ?_
      refine z_lsub (v := lI ((1023 - (i : Int)) - 1)) hC dX0_ofDouble_52 (lI_sub _ _) ?_
      refine z_lstore (lv' := [(4, .long (lI ((1023 - (i : Int)) - 1))), (2, .double (D64 false (E + i + 1) d)), (6, .int (iI (i : Int))), (0, .double (D64 true E d))]) hC dX0_ofDouble_53 (by decide) rfl ?_
      refine z_iinc (lv' := [(6, .int (iI ((i : Int) + 1))), (4, .long (lI ((1023 - (i : Int)) - 1))), (2, .double (D64 false (E + i + 1) d)), (0, .double (D64 true E d))]) hC dX0_ofDouble_55 2 rfl (by decide) rfl ?_
      refine z_goto (tgt := 29) hC dX0_ofDouble_58 (by decide) ?_
      refine z_lv0 (lv' := [(6, .int (iI ((i : Int) + 1))), (4, .long (lI (1023 - ((i + 1 : Nat) : Int)))), (2, .double (D64 false (E + i + 1) d)), (0, .double (D64 true E d))]) (by rw [show ((1023 : Int) - ((i + 1 : Nat) : Int)) = 1023 - (i : Int) - 1 by omega]) ?_
      refine z_lv (lv' := _) [0, 1, 2, 3] rfl ?_
      exact ih_3 (i + 1) (by omega)
    · change Z _ _ _ _ _ _ _ _ _ _ _ _ _ _ _ _ ([] : va_W) ([(6, .int (iI (i : Int))), (4, .long (lI (1023 - (i : Int)))), (2, .double (D64 false (E + i) d)), (0, .double (D64 true E d))]) 29 ([])
      have hEi : E + i = 1023 := by omega
      refine z_iload hC dX0_ofDouble_29 0 rfl ?_
      refine z_sipush hC dX0_ofDouble_31 (by decide) ?_
      refine z_icmp_ge_f (tgt := 61) hC dX0_ofDouble_34 (by decide) (by unfold inR; omega) ⟨by decide, by decide⟩ (by omega) ?_
      refine z_dload_n hC dX0_ofDouble_37 rfl 2 rfl ?_
      refine z_dconst1 hC dX0_ofDouble_38 ?_
      refine z_dcmp hC (if d = 0 then 0 else 1) dX0_ofDouble_39 (by rw [hEi]; exact d64_c1 hd) ?_
      refine z_if_ge_t (tgt := 61) hC dX0_ofDouble_40 (by decide) (by split <;> exact ⟨by decide, by decide⟩) (by split <;> omega) ?_
      refine z_dload_n hC dX0_ofDouble_61 rfl 2 rfl ?_
      refine z_dconst1 hC dX0_ofDouble_62 ?_
      refine z_dsub hC (Jvm.FP.dsub (D64 false 1023 d) Jvm.FP.dconst1) dX0_ofDouble_63 (by rw [hEi]; exact (d64_frac hd).1) (by rw [hEi]) ?_
      refine z_ldc2d hC kX0_ofDouble_3 dX0_ofDouble_64 ?_
      refine z_dmul hC (Jvm.FP.dmul (Jvm.FP.dsub (D64 false 1023 d) Jvm.FP.dconst1) 4841369599423283200) dX0_ofDouble_67 (d64_frac hd).2.1 rfl ?_
      refine z_d2l hC (lI (d : Int)) dX0_ofDouble_68 (d64_frac hd).2.2 ?_
      refine z_lstore (lv' := [(6, .long (lI (d : Int))), (4, .long (lI (1023 - (i : Int)))), (2, .double (D64 false (E + i) d)), (0, .double (D64 true E d))]) hC dX0_ofDouble_69 (by decide) rfl ?_
      refine z_dload_n hC dX0_ofDouble_71 rfl 3 rfl ?_
      refine z_dconst0 hC dX0_ofDouble_72 ?_
      refine z_dcmp hC (-1) dX0_ofDouble_73 (by rw [d64_cmp0 hE2 hd]; decide) ?_
      refine z_if_ge_f (tgt := 81) hC dX0_ofDouble_74 (by decide) ⟨by decide, by decide⟩ (by decide) ?_
      refine z_lconst (v := lI 1) hC dX0_ofDouble_77 (by decide) ?_
      refine z_goto (tgt := 82) hC dX0_ofDouble_78 (by decide) ?_
      refine z_lstore (lv' := [(8, .long (lI 1)), (6, .long (lI (d : Int))), (4, .long (lI (1023 - (i : Int)))), (2, .double (D64 false (E + i) d)), (0, .double (D64 true E d))]) hC dX0_ofDouble_82 (by decide) rfl ?_
      refine z_lload hC dX0_ofDouble_84 0 rfl ?_
      refine z_bipush hC dX0_ofDouble_86 (by decide) ?_
      refine z_lshl (v := (lI 1) <<< ((iI 63).toInt64 &&& 63)) hC dX0_ofDouble_88 rfl ?_
      refine z_lload hC dX0_ofDouble_89 2 rfl ?_
      refine z_bipush hC dX0_ofDouble_91 (by decide) ?_
      refine z_lshl (v := (lI (1023 - (i : Int))) <<< ((iI 52).toInt64 &&& 63)) hC dX0_ofDouble_93 rfl ?_
      refine z_lor (v := ((lI 1) <<< ((iI 63).toInt64 &&& 63)) ||| ((lI (1023 - (i : Int))) <<< ((iI 52).toInt64 &&& 63))) hC dX0_ofDouble_94 rfl ?_
      refine z_lload hC dX0_ofDouble_95 1 rfl ?_
      refine z_lor (v := (D64 true E d).toInt64) hC dX0_ofDouble_97 (by rw [show ((1023 : Int) - (i : Int)) = (E : Int) by omega]; exact d64_bits (s := true) hE2 hd _ (by decide +kernel)) ?_
      exact z_lret hC hr () trivial (by rfl) (by rfl) dX0_ofDouble_98
theorem kX0_ofFloat_1 : Cond.constantFloat RX0 15 (1258291200) ∈ wsX0_ofFloat := List.mem_of_getElem? (i := 1) rfl
abbrev rmX0_ofFloat : Room := { frames := 0, cells := 0, slots := 0, locals := 0 }
set_option maxHeartbeats 4000000 in
set_option maxRecDepth 100000 in
theorem t_X0_ofFloat (l : Launch) (D : va_G) (J : Nat → ClassId) (x : UInt32) (hx : x = 0 ∨ ∃ E d : Nat, x = F32 E d ∧ (101 ≤ E ∧ E ≤ 127) ∧ d < 8388608) : ZX l yX0_ofFloat wsX0_ofFloat rmX0_ofFloat D J [.float x] ([] : va_W) (some (.int (iI ((x.toNat : Nat) : Int)))) ([] : va_W) := by
  refine z_met (cc := cX0_ofFloat) (nL := 4) (ret := (some .int)) (own := RX0) (by decide) rfl rfl (Nat.le_of_ble_eq_true rfl) (fun p e s m args below meth c hC hr hin => ?_)
  refine z_lv0 (lv' := [(0, .float x)]) rfl ?_
  rcases hx with rfl | ⟨E, d, rfl, hE, hd⟩
  · skip
    refine z_fload_n hC dX0_ofFloat_0 rfl 0 rfl ?_
    refine z_fconst0 hC dX0_ofFloat_1 ?_
    refine z_fcmp hC 0 dX0_ofFloat_2 (by decide +kernel) ?_
    refine z_if_ne_f (tgt := 8) hC dX0_ofFloat_3 (by decide) ⟨by decide, by decide⟩ (by decide) ?_
    refine z_iconst hC dX0_ofFloat_6 ?_
    exact z_iret hC hr rfl () trivial (by rfl) (by rfl) dX0_ofFloat_7
  · have hE2 : 1 ≤ E ∧ E ≤ 254 := ⟨by omega, by omega⟩
    refine z_fload_n hC dX0_ofFloat_0 rfl 0 rfl ?_
    refine z_fconst0 hC dX0_ofFloat_1 ?_
    refine z_fcmp hC 1 dX0_ofFloat_2 (by rw [f32_cmp0 hE2 hd]; decide) ?_
    refine z_if_ne_t (tgt := 8) hC dX0_ofFloat_3 (by decide) ⟨by decide, by decide⟩ (by decide) ?_
    refine z_fload_n hC dX0_ofFloat_8 rfl 0 rfl ?_
    refine z_fstore_n (lv' := [(1, .float (F32 E d)), (0, .float (F32 E d))]) hC dX0_ofFloat_9 rfl (by decide) rfl ?_
    refine z_bipush hC dX0_ofFloat_10 (by decide) ?_
    refine z_istore_n (lv' := [(2, .int (iI 127)), (1, .float (F32 E d)), (0, .float (F32 E d))]) hC dX0_ofFloat_12 rfl (by decide) rfl ?_
    refine z_iconst hC dX0_ofFloat_13 ?_
    refine z_istore_n (lv' := [(3, .int (iI 0)), (2, .int (iI 127)), (1, .float (F32 E d)), (0, .float (F32 E d))]) hC dX0_ofFloat_14 rfl (by decide) rfl ?_
    refine z_lv (lv' := [(3, .int (iI 0)), (2, .int (iI 127)), (1, .float (F32 E d)), (0, .float (F32 E d))]) [0, 1, 2, 3] rfl ?_
    refine z_loop (α := Nat) (fun nn i => E + i + nn = 127) (fun nn i => ([] : va_W)) (fun nn i => [(3, .int (iI (i : Int))), (2, .int (iI (127 - (i : Int)))), (1, .float (F32 (E + i) d)), (0, .float (F32 E d))]) 15 [] (fun nn i ih_1 hP_2 => ?_) (fun i hP_2 => ?_) (127 - E) 0 (by omega)
    · change Z _ _ _ _ _ _ _ _ _ _ _ _ _ _ _ _ ([] : va_W) ([(3, .int (iI (i : Int))), (2, .int (iI (127 - (i : Int)))), (1, .float (F32 (E + i) d)), (0, .float (F32 E d))]) 15 ([])
      refine z_iload_n hC dX0_ofFloat_15 rfl 0 rfl ?_
      refine z_sipush hC dX0_ofFloat_16 (by decide) ?_
      refine z_icmp_ge_f (tgt := 41) hC dX0_ofFloat_19 (by decide) (by unfold inR; omega) ⟨by decide, by decide⟩ (by omega) ?_
      refine z_fload_n hC dX0_ofFloat_22 rfl 2 rfl ?_
      refine z_fconst1 hC dX0_ofFloat_23 ?_
      refine z_fcmp hC (-1) dX0_ofFloat_24 (by rw [(f32_cmp1 (E := E + i) ⟨by omega, by omega⟩ hd).1 (by omega)]; decide) ?_
      refine z_if_ge_f (tgt := 41) hC dX0_ofFloat_25 (by decide) ⟨by decide, by decide⟩ (by decide) ?_
      refine z_fload_n hC dX0_ofFloat_28 rfl 2 rfl ?_
      refine z_fconst2 hC dX0_ofFloat_29 ?_
      refine z_fmul hC (F32 (E + i + 1) d) dX0_ofFloat_30 (by rw [f32_mul2 ⟨by omega, by omega⟩ hd]; exact f32_nn ⟨by omega, by omega⟩ hd) (f32_mul2 ⟨by omega, by omega⟩ hd) ?_
      refine z_fstore_n (lv' := [(1, .float (F32 (E + i + 1) d)), (3, .int (iI (i : Int))), (2, .int (iI (127 - (i : Int)))), (0, .float (F32 E d))]) hC dX0_ofFloat_31 rfl (by decide) rfl ?_
      refine z_iinc (lv' := [(2, .int (iI ((127 - (i : Int)) + (-1)))), (1, .float (F32 (E + i + 1) d)), (3, .int (iI (i : Int))), (0, .float (F32 E d))]) hC dX0_ofFloat_32 2 rfl (by decide) rfl ?_
      refine z_iinc (lv' := [(3, .int (iI ((i : Int) + 1))), (2, .int (iI ((127 - (i : Int)) + (-1)))), (1, .float (F32 (E + i + 1) d)), (0, .float (F32 E d))]) hC dX0_ofFloat_35 2 rfl (by decide) rfl ?_
      refine z_goto (tgt := 15) hC dX0_ofFloat_38 (by decide) ?_
      refine z_lv0 (lv' := [(3, .int (iI ((i : Int) + 1))), (2, .int (iI (127 - ((i + 1 : Nat) : Int)))), (1, .float (F32 (E + i + 1) d)), (0, .float (F32 E d))]) (by rw [show ((127 : Int) - ((i + 1 : Nat) : Int)) = 127 - (i : Int) + (-1) by omega]) ?_
      refine z_lv (lv' := _) [0, 1, 2, 3] rfl ?_
      exact ih_1 (i + 1) (by omega)
    · change Z _ _ _ _ _ _ _ _ _ _ _ _ _ _ _ _ ([] : va_W) ([(3, .int (iI (i : Int))), (2, .int (iI (127 - (i : Int)))), (1, .float (F32 (E + i) d)), (0, .float (F32 E d))]) 15 ([])
      have hEi : E + i = 127 := by omega
      refine z_iload_n hC dX0_ofFloat_15 rfl 0 rfl ?_
      refine z_sipush hC dX0_ofFloat_16 (by decide) ?_
      refine z_icmp_ge_f (tgt := 41) hC dX0_ofFloat_19 (by decide) (by unfold inR; omega) ⟨by decide, by decide⟩ (by omega) ?_
      refine z_fload_n hC dX0_ofFloat_22 rfl 2 rfl ?_
      refine z_fconst1 hC dX0_ofFloat_23 ?_
      refine z_fcmp hC (if d = 0 then 0 else 1) dX0_ofFloat_24 (by rw [hEi]; exact f32_c1 hd) ?_
      refine z_if_ge_t (tgt := 41) hC dX0_ofFloat_25 (by decide) (by split <;> exact ⟨by decide, by decide⟩) (by split <;> omega) ?_
      refine z_fload_n hC dX0_ofFloat_41 rfl 2 rfl ?_
      refine z_fconst1 hC dX0_ofFloat_42 ?_
      refine z_fsub hC (Jvm.FP.fsub (F32 127 d) Jvm.FP.fconst1) dX0_ofFloat_43 (by rw [hEi]; exact (f32_frac hd).1) (by rw [hEi]) ?_
      refine z_ldcf hC kX0_ofFloat_1 dX0_ofFloat_44 ?_
      refine z_fmul hC (Jvm.FP.fmul (Jvm.FP.fsub (F32 127 d) Jvm.FP.fconst1) 1258291200) dX0_ofFloat_46 (f32_frac hd).2.1 rfl ?_
      refine z_f2i hC (iI (d : Int)) dX0_ofFloat_47 (f32_frac hd).2.2 ?_
      refine z_istore_n (lv' := [(3, .int (iI (d : Int))), (2, .int (iI (127 - (i : Int)))), (1, .float (F32 (E + i) d)), (0, .float (F32 E d))]) hC dX0_ofFloat_48 rfl (by decide) rfl ?_
      refine z_iload_n hC dX0_ofFloat_49 rfl 1 rfl ?_
      refine z_bipush hC dX0_ofFloat_50 (by decide) ?_
      refine z_ishlR (v := iI (127 - (i : Int)) <<< (iI 23 &&& 31)) hC dX0_ofFloat_52 rfl ?_
      refine z_iload_n hC dX0_ofFloat_53 rfl 0 rfl ?_
      refine z_iorR (v := iI ((F32 E d).toNat : Nat)) hC dX0_ofFloat_54 (by rw [show ((127 : Int) - (i : Int)) = (E : Int) by omega]; exact f32_bits hE2 hd) ?_
      exact z_iret hC hr rfl () trivial (by rfl) (by rfl) dX0_ofFloat_55
