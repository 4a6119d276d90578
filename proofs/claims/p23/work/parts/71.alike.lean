/-! ===== p23: areAlike ===== -/
theorem kL_areAlike_1 : Cond.constantLong RL 60 (-9223372036854775808) ∈ wsL_areAlike := List.mem_of_getElem? (i := 1) rfl
abbrev rmL_areAlike : Room := { frames := 7, cells := 0, slots := 0, locals := 144 }
set_option maxHeartbeats 16000000 in
set_option maxRecDepth 100000 in
theorem t_L_areAlike (l : Launch) (D : va_G) (J : Nat → ClassId) (ho hp : Nat) (Ao Ap : Nat → Nat → Nat) (k : Nat) (a b : SPS) (hRel : Rel k a b) (x : Int) : ZM (S := SPS × SPS) l yL_areAlike wsL_areAlike rmL_areAlike D J [.ref ho, .ref hp, .int (iI x)] (wD J ho Ao hp Ap a b) (fun _ => True) (fun _ => some (.int (iI 1))) (fun u => wD J ho Ao hp Ap u.1 u.2) := by
  have hI := hRel.1.1.1
  have hP := hRel.2.1.1.1
  have hM := hRel.2.2.2.1
  have hWe := hRel.2.2.1.1
  obtain ⟨⟨⟨m2, m3, m4, m5, m6, m7, m8, m9, m10, m11, m12, m13, m14, m15⟩, ms⟩, mg⟩ := id hM
  have i2 : 0 ≤ a.1.1 2 ∧ a.1.1 2 ≤ 99999 := hI.1
  have j5 : 0 ≤ b.1.1 5 ∧ b.1.1 5 ≤ 3 := hP.2.2.2.1
  have j9 : 0 ≤ b.1.1 9 ∧ b.1.1 9 ≤ 2 := hP.2.2.2.2.2.2.2.1
  have j3 : 0 ≤ b.1.1 3 ∧ b.1.1 3 < b.1.2.1 1 := hP.2.1
  have j4 : 0 ≤ b.1.1 4 ∧ b.1.1 4 < b.1.2.1 0 := hP.2.2.1
  have ea0 : a.1.2.1 0 = 40 := hRel.1.1.2.2.1
  have ea1 : a.1.2.1 1 = 1000 := hRel.1.1.2.2.2.1
  have eb0 : b.1.2.1 0 = 40 := hRel.2.1.1.2.2.1
  have eb1 : b.1.2.1 1 = 1000 := hRel.2.1.1.2.2.2.1
  rw [eb1] at m3 j3
  rw [eb0] at m4 j4
  have sp := speed_mir hM hP
  have si := speed_in hI
  have sj := speed_in hP
  have hz15 : a.1.1 9 = 0 → a.1.1 15 = 0 := hWe.2.2.2
  have i15 : 0 ≤ a.1.1 15 ∧ a.1.1 15 ≤ a.1.1 2 := hI.2.2.2.2.2.2.2.2.2.2.2.1
  refine z_met (cc := cL_areAlike) (nL := 8) (ret := (some .boolean)) (own := RL) (by decide) rfl rfl (Nat.le_of_ble_eq_true rfl) (fun p e s m args below meth c hC hr hin => ?_)
  refine z_lv0 (lv' := [(0, .ref ho), (1, .ref hp), (2, .int (iI x))]) rfl ?_
  refine z_aload_n hC dL_areAlike_0 rfl 0 rfl ?_
  refine z_bipush hC dL_areAlike_1 (by decide) ?_
  refine zo_count (v := 40) hC gL_areAlike_X5_count ⟨Nat.le_of_ble_eq_true rfl, Nat.le_of_ble_eq_true rfl⟩ ⟨Nat.le_of_ble_eq_true rfl, Nat.le_of_ble_eq_true rfl⟩ hRel.1.T 10 ⟨by decide, by decide⟩ (show a.1.2.1 0 = 40 from ea0) (Nat.le_of_ble_eq_true rfl) dL_areAlike_3 ?_
  refine z_istore_n (lv' := [(3, .int (iI 40)), (0, .ref ho), (1, .ref hp), (2, .int (iI x))]) hC dL_areAlike_6 rfl (by decide) rfl ?_
  refine z_aload_n hC dL_areAlike_7 rfl 1 rfl ?_
  refine z_bipush hC dL_areAlike_8 (by decide) ?_
  refine zo_count (v := 1000) hC gL_areAlike_X5_count ⟨Nat.le_of_ble_eq_true rfl, Nat.le_of_ble_eq_true rfl⟩ ⟨Nat.le_of_ble_eq_true rfl, Nat.le_of_ble_eq_true rfl⟩ hRel.1.T 11 ⟨by decide, by decide⟩ (show a.1.2.1 1 = 1000 from ea1) (Nat.le_of_ble_eq_true rfl) dL_areAlike_10 ?_
  refine z_istore (lv' := [(4, .int (iI 1000)), (3, .int (iI 40)), (0, .ref ho), (1, .ref hp), (2, .int (iI x))]) hC dL_areAlike_13 (by decide) rfl ?_
  refine z_iconst hC dL_areAlike_15 ?_
  refine z_iload_n hC dL_areAlike_16 rfl 4 rfl ?_
  refine z_bipush hC dL_areAlike_17 (by decide) ?_
  refine zt_up hC gL_areAlike_L_up ⟨Nat.le_of_ble_eq_true rfl, Nat.le_of_ble_eq_true rfl⟩ ⟨Nat.le_of_ble_eq_true rfl, Nat.le_of_ble_eq_true rfl⟩ (by omega) (Nat.le_of_ble_eq_true rfl) dL_areAlike_19 (fun u_1 hu_1 => ?_)
  refine z_iadd hC dL_areAlike_22 ?_
  refine z_istore (lv' := [(5, .int (iI (1 + u_1))), (4, .int (iI 1000)), (3, .int (iI 40)), (0, .ref ho), (1, .ref hp), (2, .int (iI x))]) hC dL_areAlike_23 (by decide) rfl ?_
  refine z_aload_n hC dL_areAlike_25 rfl 3 rfl ?_
  refine z_iconst hC dL_areAlike_26 ?_
  refine zo_count (v := a.1.1 2) hC gL_areAlike_X5_count ⟨Nat.le_of_ble_eq_true rfl, Nat.le_of_ble_eq_true rfl⟩ ⟨Nat.le_of_ble_eq_true rfl, Nat.le_of_ble_eq_true rfl⟩ hRel.1.T 0 ⟨by decide, by decide⟩ rfl (Nat.le_of_ble_eq_true rfl) dL_areAlike_27 ?_
  refine z_aload_n hC dL_areAlike_30 rfl 4 rfl ?_
  refine z_iconst hC dL_areAlike_31 ?_
  refine zp_count (v := a.1.1 2) hC gL_areAlike_X5_count ⟨Nat.le_of_ble_eq_true rfl, Nat.le_of_ble_eq_true rfl⟩ ⟨Nat.le_of_ble_eq_true rfl, Nat.le_of_ble_eq_true rfl⟩ hRel.2.1.T 0 ⟨by decide, by decide⟩ (show b.1.1 2 = a.1.1 2 from m2.symm) (Nat.le_of_ble_eq_true rfl) dL_areAlike_32 ?_
  refine z_icmp_ne_same (tgt := 264) hC dL_areAlike_35 (by decide) ?_
  refine z_aload_n hC dL_areAlike_38 rfl 3 rfl ?_
  refine z_iconst hC dL_areAlike_39 ?_
  refine zo_count (v := a.1.1 3) hC gL_areAlike_X5_count ⟨Nat.le_of_ble_eq_true rfl, Nat.le_of_ble_eq_true rfl⟩ ⟨Nat.le_of_ble_eq_true rfl, Nat.le_of_ble_eq_true rfl⟩ hRel.1.T 1 ⟨by decide, by decide⟩ rfl (Nat.le_of_ble_eq_true rfl) dL_areAlike_40 ?_
  refine z_aload_n hC dL_areAlike_43 rfl 4 rfl ?_
  refine z_iconst hC dL_areAlike_44 ?_
  refine zp_count (v := b.1.1 3) hC gL_areAlike_X5_count ⟨Nat.le_of_ble_eq_true rfl, Nat.le_of_ble_eq_true rfl⟩ ⟨Nat.le_of_ble_eq_true rfl, Nat.le_of_ble_eq_true rfl⟩ hRel.2.1.T 1 ⟨by decide, by decide⟩ rfl (Nat.le_of_ble_eq_true rfl) dL_areAlike_45 ?_
  refine z_iload hC dL_areAlike_48 1 rfl ?_
  refine zt_against (x := a.1.1 3) hC gL_areAlike_L_against ⟨Nat.le_of_ble_eq_true rfl, Nat.le_of_ble_eq_true rfl⟩ ⟨Nat.le_of_ble_eq_true rfl, Nat.le_of_ble_eq_true rfl⟩ (by unfold inR; omega) m3.symm (Nat.le_of_ble_eq_true rfl) dL_areAlike_50 ?_
  refine z_icmp_ne_same (tgt := 264) hC dL_areAlike_53 (by decide) ?_
  refine z_aload_n hC dL_areAlike_56 rfl 3 rfl ?_
  refine z_iconst hC dL_areAlike_57 ?_
  refine zo_count (v := a.1.1 4) hC gL_areAlike_X5_count ⟨Nat.le_of_ble_eq_true rfl, Nat.le_of_ble_eq_true rfl⟩ ⟨Nat.le_of_ble_eq_true rfl, Nat.le_of_ble_eq_true rfl⟩ hRel.1.T 2 ⟨by decide, by decide⟩ rfl (Nat.le_of_ble_eq_true rfl) dL_areAlike_58 ?_
  refine z_aload_n hC dL_areAlike_61 rfl 4 rfl ?_
  refine z_iconst hC dL_areAlike_62 ?_
  refine zp_count (v := b.1.1 4) hC gL_areAlike_X5_count ⟨Nat.le_of_ble_eq_true rfl, Nat.le_of_ble_eq_true rfl⟩ ⟨Nat.le_of_ble_eq_true rfl, Nat.le_of_ble_eq_true rfl⟩ hRel.2.1.T 2 ⟨by decide, by decide⟩ rfl (Nat.le_of_ble_eq_true rfl) dL_areAlike_63 ?_
  refine z_iload_n hC dL_areAlike_66 rfl 2 rfl ?_
  refine zt_against (x := a.1.1 4) hC gL_areAlike_L_against ⟨Nat.le_of_ble_eq_true rfl, Nat.le_of_ble_eq_true rfl⟩ ⟨Nat.le_of_ble_eq_true rfl, Nat.le_of_ble_eq_true rfl⟩ (by unfold inR; omega) m4.symm (Nat.le_of_ble_eq_true rfl) dL_areAlike_67 ?_
  refine z_icmp_ne_same (tgt := 264) hC dL_areAlike_70 (by decide) ?_
  refine z_aload_n hC dL_areAlike_73 rfl 3 rfl ?_
  refine z_iconst hC dL_areAlike_74 ?_
  refine zo_count (v := a.1.1 5) hC gL_areAlike_X5_count ⟨Nat.le_of_ble_eq_true rfl, Nat.le_of_ble_eq_true rfl⟩ ⟨Nat.le_of_ble_eq_true rfl, Nat.le_of_ble_eq_true rfl⟩ hRel.1.T 3 ⟨by decide, by decide⟩ rfl (Nat.le_of_ble_eq_true rfl) dL_areAlike_75 ?_
  refine z_aload_n hC dL_areAlike_78 rfl 4 rfl ?_
  refine z_iconst hC dL_areAlike_79 ?_
  refine zp_count (v := b.1.1 5) hC gL_areAlike_X5_count ⟨Nat.le_of_ble_eq_true rfl, Nat.le_of_ble_eq_true rfl⟩ ⟨Nat.le_of_ble_eq_true rfl, Nat.le_of_ble_eq_true rfl⟩ hRel.2.1.T 3 ⟨by decide, by decide⟩ rfl (Nat.le_of_ble_eq_true rfl) dL_areAlike_80 ?_
  refine zt_there (x := a.1.1 5) hC gL_areAlike_L_there ⟨Nat.le_of_ble_eq_true rfl, Nat.le_of_ble_eq_true rfl⟩ ⟨Nat.le_of_ble_eq_true rfl, Nat.le_of_ble_eq_true rfl⟩ (by unfold inR; omega) m5.symm (Nat.le_of_ble_eq_true rfl) dL_areAlike_83 ?_
  refine z_icmp_ne_same (tgt := 264) hC dL_areAlike_86 (by decide) ?_
  refine z_aload_n hC dL_areAlike_89 rfl 3 rfl ?_
  refine z_iconst hC dL_areAlike_90 ?_
  refine zo_count (v := a.1.1 9) hC gL_areAlike_X5_count ⟨Nat.le_of_ble_eq_true rfl, Nat.le_of_ble_eq_true rfl⟩ ⟨Nat.le_of_ble_eq_true rfl, Nat.le_of_ble_eq_true rfl⟩ hRel.1.T 4 ⟨by decide, by decide⟩ rfl (Nat.le_of_ble_eq_true rfl) dL_areAlike_91 ?_
  refine z_aload_n hC dL_areAlike_94 rfl 4 rfl ?_
  refine z_iconst hC dL_areAlike_95 ?_
  refine zp_count (v := b.1.1 9) hC gL_areAlike_X5_count ⟨Nat.le_of_ble_eq_true rfl, Nat.le_of_ble_eq_true rfl⟩ ⟨Nat.le_of_ble_eq_true rfl, Nat.le_of_ble_eq_true rfl⟩ hRel.2.1.T 4 ⟨by decide, by decide⟩ rfl (Nat.le_of_ble_eq_true rfl) dL_areAlike_96 ?_
  refine zt_way (x := a.1.1 9) hC gL_areAlike_L_way ⟨Nat.le_of_ble_eq_true rfl, Nat.le_of_ble_eq_true rfl⟩ ⟨Nat.le_of_ble_eq_true rfl, Nat.le_of_ble_eq_true rfl⟩ (by unfold inR; omega) m9.symm (Nat.le_of_ble_eq_true rfl) dL_areAlike_99 ?_
  refine z_icmp_ne_same (tgt := 264) hC dL_areAlike_102 (by decide) ?_
  refine z_aload_n hC dL_areAlike_105 rfl 3 rfl ?_
  refine z_iconst hC dL_areAlike_106 ?_
  refine zo_count (v := a.1.1 10) hC gL_areAlike_X5_count ⟨Nat.le_of_ble_eq_true rfl, Nat.le_of_ble_eq_true rfl⟩ ⟨Nat.le_of_ble_eq_true rfl, Nat.le_of_ble_eq_true rfl⟩ hRel.1.T 5 ⟨by decide, by decide⟩ rfl (Nat.le_of_ble_eq_true rfl) dL_areAlike_107 ?_
  refine z_aload_n hC dL_areAlike_110 rfl 4 rfl ?_
  refine z_bipush hC dL_areAlike_111 (by decide) ?_
  refine zp_count (v := a.1.1 10) hC gL_areAlike_X5_count ⟨Nat.le_of_ble_eq_true rfl, Nat.le_of_ble_eq_true rfl⟩ ⟨Nat.le_of_ble_eq_true rfl, Nat.le_of_ble_eq_true rfl⟩ hRel.2.1.T 6 ⟨by decide, by decide⟩ (show b.1.1 11 = a.1.1 10 from m10.symm) (Nat.le_of_ble_eq_true rfl) dL_areAlike_113 ?_
  refine z_icmp_ne_same (tgt := 264) hC dL_areAlike_116 (by decide) ?_
  refine z_aload_n hC dL_areAlike_119 rfl 3 rfl ?_
  refine z_bipush hC dL_areAlike_120 (by decide) ?_
  refine zo_count (v := a.1.1 11) hC gL_areAlike_X5_count ⟨Nat.le_of_ble_eq_true rfl, Nat.le_of_ble_eq_true rfl⟩ ⟨Nat.le_of_ble_eq_true rfl, Nat.le_of_ble_eq_true rfl⟩ hRel.1.T 6 ⟨by decide, by decide⟩ rfl (Nat.le_of_ble_eq_true rfl) dL_areAlike_122 ?_
  refine z_aload_n hC dL_areAlike_125 rfl 4 rfl ?_
  refine z_iconst hC dL_areAlike_126 ?_
  refine zp_count (v := a.1.1 11) hC gL_areAlike_X5_count ⟨Nat.le_of_ble_eq_true rfl, Nat.le_of_ble_eq_true rfl⟩ ⟨Nat.le_of_ble_eq_true rfl, Nat.le_of_ble_eq_true rfl⟩ hRel.2.1.T 5 ⟨by decide, by decide⟩ (show b.1.1 10 = a.1.1 11 from m11.symm) (Nat.le_of_ble_eq_true rfl) dL_areAlike_127 ?_
  refine z_icmp_ne_same (tgt := 264) hC dL_areAlike_130 (by decide) ?_
  refine z_aload_n hC dL_areAlike_133 rfl 3 rfl ?_
  refine z_bipush hC dL_areAlike_134 (by decide) ?_
  refine zo_count (v := a.1.1 12) hC gL_areAlike_X5_count ⟨Nat.le_of_ble_eq_true rfl, Nat.le_of_ble_eq_true rfl⟩ ⟨Nat.le_of_ble_eq_true rfl, Nat.le_of_ble_eq_true rfl⟩ hRel.1.T 7 ⟨by decide, by decide⟩ rfl (Nat.le_of_ble_eq_true rfl) dL_areAlike_136 ?_
  refine z_aload_n hC dL_areAlike_139 rfl 4 rfl ?_
  refine z_bipush hC dL_areAlike_140 (by decide) ?_
  refine zp_count (v := a.1.1 12) hC gL_areAlike_X5_count ⟨Nat.le_of_ble_eq_true rfl, Nat.le_of_ble_eq_true rfl⟩ ⟨Nat.le_of_ble_eq_true rfl, Nat.le_of_ble_eq_true rfl⟩ hRel.2.1.T 7 ⟨by decide, by decide⟩ (show b.1.1 12 = a.1.1 12 from m12.symm) (Nat.le_of_ble_eq_true rfl) dL_areAlike_142 ?_
  refine z_icmp_ne_same (tgt := 264) hC dL_areAlike_145 (by decide) ?_
  refine z_aload_n hC dL_areAlike_148 rfl 3 rfl ?_
  refine z_bipush hC dL_areAlike_149 (by decide) ?_
  refine zo_count (v := a.1.1 13) hC gL_areAlike_X5_count ⟨Nat.le_of_ble_eq_true rfl, Nat.le_of_ble_eq_true rfl⟩ ⟨Nat.le_of_ble_eq_true rfl, Nat.le_of_ble_eq_true rfl⟩ hRel.1.T 8 ⟨by decide, by decide⟩ rfl (Nat.le_of_ble_eq_true rfl) dL_areAlike_151 ?_
  refine z_aload_n hC dL_areAlike_154 rfl 4 rfl ?_
  refine z_bipush hC dL_areAlike_155 (by decide) ?_
  refine zp_count (v := a.1.1 13) hC gL_areAlike_X5_count ⟨Nat.le_of_ble_eq_true rfl, Nat.le_of_ble_eq_true rfl⟩ ⟨Nat.le_of_ble_eq_true rfl, Nat.le_of_ble_eq_true rfl⟩ hRel.2.1.T 8 ⟨by decide, by decide⟩ (show b.1.1 13 = a.1.1 13 from m13.symm) (Nat.le_of_ble_eq_true rfl) dL_areAlike_157 ?_
  refine z_icmp_ne_same (tgt := 264) hC dL_areAlike_160 (by decide) ?_
  refine z_aload_n hC dL_areAlike_163 rfl 3 rfl ?_
  refine z_bipush hC dL_areAlike_164 (by decide) ?_
  refine zo_count (v := min (a.1.1 2) 200) hC gL_areAlike_X5_count ⟨Nat.le_of_ble_eq_true rfl, Nat.le_of_ble_eq_true rfl⟩ ⟨Nat.le_of_ble_eq_true rfl, Nat.le_of_ble_eq_true rfl⟩ hRel.1.T 9 ⟨by decide, by decide⟩ rfl (Nat.le_of_ble_eq_true rfl) dL_areAlike_166 ?_
  refine z_aload_n hC dL_areAlike_169 rfl 4 rfl ?_
  refine z_bipush hC dL_areAlike_170 (by decide) ?_
  refine zp_count (v := min (a.1.1 2) 200) hC gL_areAlike_X5_count ⟨Nat.le_of_ble_eq_true rfl, Nat.le_of_ble_eq_true rfl⟩ ⟨Nat.le_of_ble_eq_true rfl, Nat.le_of_ble_eq_true rfl⟩ hRel.2.1.T 9 ⟨by decide, by decide⟩ (show min (b.1.1 2) 200 = min (a.1.1 2) 200 by rw [m2]) (Nat.le_of_ble_eq_true rfl) dL_areAlike_172 ?_
  refine z_icmp_ne_same (tgt := 264) hC dL_areAlike_175 (by decide) ?_
  refine z_aload_n hC dL_areAlike_178 rfl 3 rfl ?_
  refine z_iconst hC dL_areAlike_179 ?_
  refine zo_speed (v := cSpeedR a.1 0) hC gL_areAlike_X5_speed ⟨Nat.le_of_ble_eq_true rfl, Nat.le_of_ble_eq_true rfl⟩ ⟨Nat.le_of_ble_eq_true rfl, Nat.le_of_ble_eq_true rfl⟩ hRel.1.T 0 ⟨by decide, by decide⟩ rfl (Nat.le_of_ble_eq_true rfl) dL_areAlike_180 ?_
  refine z_sipush hC dL_areAlike_183 (by decide) ?_
  refine z_isub hC dL_areAlike_186 ?_
  refine z_sipush hC dL_areAlike_187 (by decide) ?_
  refine z_aload_n hC dL_areAlike_190 rfl 4 rfl ?_
  refine z_iconst hC dL_areAlike_191 ?_
  refine zp_speed (v := cSpeedR b.1 0) hC gL_areAlike_X5_speed ⟨Nat.le_of_ble_eq_true rfl, Nat.le_of_ble_eq_true rfl⟩ ⟨Nat.le_of_ble_eq_true rfl, Nat.le_of_ble_eq_true rfl⟩ hRel.2.1.T 0 ⟨by decide, by decide⟩ rfl (Nat.le_of_ble_eq_true rfl) dL_areAlike_192 ?_
  refine z_isub hC dL_areAlike_195 ?_
  refine z_icmp_ne_f (tgt := 264) hC dL_areAlike_196 (by decide) (by unfold inR; omega) (by unfold inR; omega) (by omega) ?_
  refine z_aload_n hC dL_areAlike_199 rfl 3 rfl ?_
  refine z_iconst hC dL_areAlike_200 ?_
  refine zo_speed (v := cSpeedR a.1 1) hC gL_areAlike_X5_speed ⟨Nat.le_of_ble_eq_true rfl, Nat.le_of_ble_eq_true rfl⟩ ⟨Nat.le_of_ble_eq_true rfl, Nat.le_of_ble_eq_true rfl⟩ hRel.1.T 1 ⟨by decide, by decide⟩ rfl (Nat.le_of_ble_eq_true rfl) dL_areAlike_201 ?_
  refine z_aload_n hC dL_areAlike_204 rfl 4 rfl ?_
  refine z_iconst hC dL_areAlike_205 ?_
  refine zp_speed (v := cSpeedR a.1 1) hC gL_areAlike_X5_speed ⟨Nat.le_of_ble_eq_true rfl, Nat.le_of_ble_eq_true rfl⟩ ⟨Nat.le_of_ble_eq_true rfl, Nat.le_of_ble_eq_true rfl⟩ hRel.2.1.T 1 ⟨by decide, by decide⟩ sp.2.symm (Nat.le_of_ble_eq_true rfl) dL_areAlike_206 ?_
  refine z_icmp_ne_same (tgt := 264) hC dL_areAlike_209 (by decide) ?_
  refine z_aload_n hC dL_areAlike_212 rfl 3 rfl ?_
  refine zo_noise (v := cNoiseR a.1) hC gL_areAlike_X5_noise ⟨Nat.le_of_ble_eq_true rfl, Nat.le_of_ble_eq_true rfl⟩ ⟨Nat.le_of_ble_eq_true rfl, Nat.le_of_ble_eq_true rfl⟩ hRel.1.T rfl (Nat.le_of_ble_eq_true rfl) dL_areAlike_213 ?_
  refine z_aload_n hC dL_areAlike_216 rfl 4 rfl ?_
  refine zp_noise (v := cNoiseR a.1) hC gL_areAlike_X5_noise ⟨Nat.le_of_ble_eq_true rfl, Nat.le_of_ble_eq_true rfl⟩ ⟨Nat.le_of_ble_eq_true rfl, Nat.le_of_ble_eq_true rfl⟩ hRel.2.1.T ((noise_mir hM).symm) (Nat.le_of_ble_eq_true rfl) dL_areAlike_217 ?_
  refine z_icmp_ne_same (tgt := 264) hC dL_areAlike_220 (by decide) ?_
  refine z_join (α := Unit) (fun u => True) (fun u => wD J ho Ao hp Ap a b) (fun u => [(6, .int (iI 1)), (5, .int (iI (1 + u_1))), (4, .int (iI 1000)), (3, .int (iI 40)), (0, .ref ho), (1, .ref hp), (2, .int (iI x))]) 267 (fun u => []) (fun u hu => ?_) (fun K_2 => ?_)
  · change Z _ _ _ _ _ _ _ _ _ _ _ _ _ _ _ _ (wD J ho Ao hp Ap a b) ([(6, .int (iI 1)), (5, .int (iI (1 + u_1))), (4, .int (iI 1000)), (3, .int (iI 40)), (0, .ref ho), (1, .ref hp), (2, .int (iI x))]) 267 ([])
    refine z_iconst hC dL_areAlike_267 ?_
    refine z_istore (lv' := [(7, .int (iI 0)), (6, .int (iI 1)), (5, .int (iI (1 + u_1))), (4, .int (iI 1000)), (3, .int (iI 40)), (0, .ref ho), (1, .ref hp), (2, .int (iI x))]) hC dL_areAlike_268 (by decide) rfl ?_
    refine z_lv (lv' := [(7, .int (iI 0)), (6, .int (iI 1)), (5, .int (iI (1 + u_1))), (4, .int (iI 1000)), (3, .int (iI 40)), (0, .ref ho), (1, .ref hp), (2, .int (iI x))]) [0, 1, 2, 3, 4, 5, 6, 7] rfl ?_
    refine z_loop (α := Nat) (fun nn i => min (a.1.1 2) 200 ≤ (i : Int) + 7 * (nn : Int) ∧ (i : Int) + 7 * (nn : Int) < min (a.1.1 2) 200 + 7) (fun nn i => wD J ho Ao hp Ap a b) (fun nn i => [(7, .int (iI (i : Int))), (6, .int (iI 1)), (5, .int (iI (1 + u_1))), (4, .int (iI 1000)), (3, .int (iI 40)), (0, .ref ho), (1, .ref hp), (2, .int (iI x))]) 270 [] (fun nn i ih_3 hP_4 => ?_) (fun i hP_4 => ?_) (Int.toNat ((min (a.1.1 2) 200 + 6) / 7)) 0 (by constructor <;> omega)
    · change Z _ _ _ _ _ _ _ _ _ _ _ _ _ _ _ _ (wD J ho Ao hp Ap a b) ([(7, .int (iI (i : Int))), (6, .int (iI 1)), (5, .int (iI (1 + u_1))), (4, .int (iI 1000)), (3, .int (iI 40)), (0, .ref ho), (1, .ref hp), (2, .int (iI x))]) 270 ([])
      obtain ⟨hv1, hv2⟩ := hP_4
      have hago : 0 ≤ (i : Int) ∧ (i : Int) < min (a.1.1 2) 200 := ⟨by omega, by omega⟩
      have hagp : 0 ≤ (i : Int) ∧ (i : Int) < min (b.1.1 2) 200 := by rw [← m2]; exact hago
      have lm := log_mir hM hP (i : Int)
      have lda := logR_of (w := 0) hago
      have ldb := logR_of (w := 0) hagp
      have hdi := cDat_in (invE_g hP) (f := b.1.1) (i : Int)
      refine z_iload hC dL_areAlike_270 0 rfl ?_
      refine z_aload_n hC dL_areAlike_272 rfl 5 rfl ?_
      refine z_bipush hC dL_areAlike_273 (by decide) ?_
      refine zo_count (v := min (a.1.1 2) 200) hC gL_areAlike_X5_count ⟨Nat.le_of_ble_eq_true rfl, Nat.le_of_ble_eq_true rfl⟩ ⟨Nat.le_of_ble_eq_true rfl, Nat.le_of_ble_eq_true rfl⟩ hRel.1.T 9 ⟨by decide, by decide⟩ rfl (Nat.le_of_ble_eq_true rfl) dL_areAlike_275 ?_
      refine z_icmp_ge_f (tgt := 356) hC dL_areAlike_278 (by decide) (by unfold inR; omega) (by unfold inR; omega) (by omega) ?_
      refine z_iload hC dL_areAlike_281 1 rfl ?_
      refine z_if_eq_f (tgt := 347) hC dL_areAlike_283 (by decide) ⟨by decide, by decide⟩ (by decide) ?_
      refine z_aload_n hC dL_areAlike_286 rfl 5 rfl ?_
      refine z_iload hC dL_areAlike_287 0 rfl ?_
      refine z_iconst hC dL_areAlike_289 ?_
      refine zo_log (v := swZ (cEnt b.1.1 b.1.2.2 (i : Int) % 4)) hC gL_areAlike_X5_log ⟨Nat.le_of_ble_eq_true rfl, Nat.le_of_ble_eq_true rfl⟩ ⟨Nat.le_of_ble_eq_true rfl, Nat.le_of_ble_eq_true rfl⟩ hRel.1.T (i : Int) 0 (by unfold inR; omega) ⟨by decide, by decide⟩ (lda.1.trans lm.1) (Nat.le_of_ble_eq_true rfl) dL_areAlike_290 ?_
      refine z_aload_n hC dL_areAlike_293 rfl 6 rfl ?_
      refine z_iload hC dL_areAlike_294 0 rfl ?_
      refine z_iconst hC dL_areAlike_296 ?_
      refine zp_log (v := cEnt b.1.1 b.1.2.2 (i : Int) % 4) hC gL_areAlike_X5_log ⟨Nat.le_of_ble_eq_true rfl, Nat.le_of_ble_eq_true rfl⟩ ⟨Nat.le_of_ble_eq_true rfl, Nat.le_of_ble_eq_true rfl⟩ hRel.2.1.T (i : Int) 0 (by unfold inR; omega) ⟨by decide, by decide⟩ ldb.1 (Nat.le_of_ble_eq_true rfl) dL_areAlike_297 ?_
      refine zt_there (x := swZ (cEnt b.1.1 b.1.2.2 (i : Int) % 4)) hC gL_areAlike_L_there ⟨Nat.le_of_ble_eq_true rfl, Nat.le_of_ble_eq_true rfl⟩ ⟨Nat.le_of_ble_eq_true rfl, Nat.le_of_ble_eq_true rfl⟩ (by unfold inR; omega) rfl (Nat.le_of_ble_eq_true rfl) dL_areAlike_300 ?_
      refine z_icmp_ne_same (tgt := 347) hC dL_areAlike_303 (by decide) ?_
      refine z_aload_n hC dL_areAlike_306 rfl 5 rfl ?_
      refine z_iload hC dL_areAlike_307 0 rfl ?_
      refine z_iconst hC dL_areAlike_309 ?_
      refine zo_log (v := cEnt b.1.1 b.1.2.2 (i : Int) / 2 ^ 2 % 2) hC gL_areAlike_X5_log ⟨Nat.le_of_ble_eq_true rfl, Nat.le_of_ble_eq_true rfl⟩ ⟨Nat.le_of_ble_eq_true rfl, Nat.le_of_ble_eq_true rfl⟩ hRel.1.T (i : Int) 1 (by unfold inR; omega) ⟨by decide, by decide⟩ (lda.2.1.trans lm.2.1) (Nat.le_of_ble_eq_true rfl) dL_areAlike_310 ?_
      refine z_aload_n hC dL_areAlike_313 rfl 6 rfl ?_
      refine z_iload hC dL_areAlike_314 0 rfl ?_
      refine z_iconst hC dL_areAlike_316 ?_
      refine zp_log (v := cEnt b.1.1 b.1.2.2 (i : Int) / 2 ^ 2 % 2) hC gL_areAlike_X5_log ⟨Nat.le_of_ble_eq_true rfl, Nat.le_of_ble_eq_true rfl⟩ ⟨Nat.le_of_ble_eq_true rfl, Nat.le_of_ble_eq_true rfl⟩ hRel.2.1.T (i : Int) 1 (by unfold inR; omega) ⟨by decide, by decide⟩ ldb.2.1 (Nat.le_of_ble_eq_true rfl) dL_areAlike_317 ?_
      refine z_icmp_ne_same (tgt := 347) hC dL_areAlike_320 (by decide) ?_
      refine z_aload_n hC dL_areAlike_323 rfl 5 rfl ?_
      refine z_iload hC dL_areAlike_324 0 rfl ?_
      refine z_iconst hC dL_areAlike_326 ?_
      refine zo_log (v := swZ (cDat b.1.1 b.1.2.2 (i : Int))) hC gL_areAlike_X5_log ⟨Nat.le_of_ble_eq_true rfl, Nat.le_of_ble_eq_true rfl⟩ ⟨Nat.le_of_ble_eq_true rfl, Nat.le_of_ble_eq_true rfl⟩ hRel.1.T (i : Int) 2 (by unfold inR; omega) ⟨by decide, by decide⟩ (lda.2.2.trans lm.2.2) (Nat.le_of_ble_eq_true rfl) dL_areAlike_327 ?_
      refine z_aload_n hC dL_areAlike_330 rfl 6 rfl ?_
      refine z_iload hC dL_areAlike_331 0 rfl ?_
      refine z_iconst hC dL_areAlike_333 ?_
      refine zp_log (v := cDat b.1.1 b.1.2.2 (i : Int)) hC gL_areAlike_X5_log ⟨Nat.le_of_ble_eq_true rfl, Nat.le_of_ble_eq_true rfl⟩ ⟨Nat.le_of_ble_eq_true rfl, Nat.le_of_ble_eq_true rfl⟩ hRel.2.1.T (i : Int) 2 (by unfold inR; omega) ⟨by decide, by decide⟩ ldb.2.2 (Nat.le_of_ble_eq_true rfl) dL_areAlike_334 ?_
      refine zt_way (x := swZ (cDat b.1.1 b.1.2.2 (i : Int))) hC gL_areAlike_L_way ⟨Nat.le_of_ble_eq_true rfl, Nat.le_of_ble_eq_true rfl⟩ ⟨Nat.le_of_ble_eq_true rfl, Nat.le_of_ble_eq_true rfl⟩ (by unfold inR; omega) rfl (Nat.le_of_ble_eq_true rfl) dL_areAlike_337 ?_
      refine z_icmp_ne_same (tgt := 347) hC dL_areAlike_340 (by decide) ?_
      refine z_iconst hC dL_areAlike_343 ?_
      refine z_goto (tgt := 348) hC dL_areAlike_344 (by decide) ?_
      refine z_istore (lv' := [(6, .int (iI 1)), (7, .int (iI (i : Int))), (5, .int (iI (1 + u_1))), (4, .int (iI 1000)), (3, .int (iI 40)), (0, .ref ho), (1, .ref hp), (2, .int (iI x))]) hC dL_areAlike_348 (by decide) rfl ?_
      refine z_iinc (lv' := [(7, .int (iI ((i : Int) + 7))), (6, .int (iI 1)), (5, .int (iI (1 + u_1))), (4, .int (iI 1000)), (3, .int (iI 40)), (0, .ref ho), (1, .ref hp), (2, .int (iI x))]) hC dL_areAlike_350 1 rfl (by decide) rfl ?_
      refine z_goto (tgt := 270) hC dL_areAlike_353 (by decide) ?_
      refine z_lv0 (lv' := [(7, .int (iI ((i + 7 : Nat) : Int))), (6, .int (iI 1)), (5, .int (iI (1 + u_1))), (4, .int (iI 1000)), (3, .int (iI 40)), (0, .ref ho), (1, .ref hp), (2, .int (iI x))]) (by rw [show ((i + 7 : Nat) : Int) = (i : Int) + 7 by omega]) ?_
      refine z_lv (lv' := _) [0, 1, 2, 3, 4, 5, 6, 7] rfl ?_
      exact ih_3 (i + 7) (by omega)
    · change Z _ _ _ _ _ _ _ _ _ _ _ _ _ _ _ _ (wD J ho Ao hp Ap a b) ([(7, .int (iI (i : Int))), (6, .int (iI 1)), (5, .int (iI (1 + u_1))), (4, .int (iI 1000)), (3, .int (iI 40)), (0, .ref ho), (1, .ref hp), (2, .int (iI x))]) 270 ([])
      obtain ⟨hv1, hv2⟩ := hP_4
      refine z_iload hC dL_areAlike_270 0 rfl ?_
      refine z_aload_n hC dL_areAlike_272 rfl 5 rfl ?_
      refine z_bipush hC dL_areAlike_273 (by decide) ?_
      refine zo_count (v := min (a.1.1 2) 200) hC gL_areAlike_X5_count ⟨Nat.le_of_ble_eq_true rfl, Nat.le_of_ble_eq_true rfl⟩ ⟨Nat.le_of_ble_eq_true rfl, Nat.le_of_ble_eq_true rfl⟩ hRel.1.T 9 ⟨by decide, by decide⟩ rfl (Nat.le_of_ble_eq_true rfl) dL_areAlike_275 ?_
      refine z_icmp_ge_t (tgt := 356) hC dL_areAlike_278 (by decide) (by unfold inR; omega) (by unfold inR; omega) (by omega) ?_
      refine z_iconst hC dL_areAlike_356 ?_
      refine z_istore (lv' := [(7, .int (iI 0)), (6, .int (iI 1)), (5, .int (iI (1 + u_1))), (4, .int (iI 1000)), (3, .int (iI 40)), (0, .ref ho), (1, .ref hp), (2, .int (iI x))]) hC dL_areAlike_357 (by decide) rfl ?_
      refine z_iload hC dL_areAlike_359 0 rfl ?_
      refine z_iconst hC dL_areAlike_361 ?_
      refine z_icmp_ge_f (tgt := 422) hC dL_areAlike_362 (by decide) ⟨by decide, by decide⟩ ⟨by decide, by decide⟩ (by decide) ?_
      refine z_iload hC dL_areAlike_365 1 rfl ?_
      refine z_if_eq_f (tgt := 413) hC dL_areAlike_367 (by decide) ⟨by decide, by decide⟩ (by decide) ?_
      refine z_aload_n hC dL_areAlike_370 rfl 5 rfl ?_
      refine z_iload hC dL_areAlike_371 0 rfl ?_
      refine zo_would (v := swZ (cWouldR b.1 0)) hC gL_areAlike_X5_would ⟨Nat.le_of_ble_eq_true rfl, Nat.le_of_ble_eq_true rfl⟩ ⟨Nat.le_of_ble_eq_true rfl, Nat.le_of_ble_eq_true rfl⟩ hRel.1.T 0 ⟨by decide, by decide⟩ (would_mir hM hP (w := 0) ⟨by decide, by decide⟩) (Nat.le_of_ble_eq_true rfl) dL_areAlike_373 ?_
      refine z_aload_n hC dL_areAlike_376 rfl 6 rfl ?_
      refine z_iload hC dL_areAlike_377 0 rfl ?_
      refine zt_there (x := 0) hC gL_areAlike_L_there ⟨Nat.le_of_ble_eq_true rfl, Nat.le_of_ble_eq_true rfl⟩ ⟨Nat.le_of_ble_eq_true rfl, Nat.le_of_ble_eq_true rfl⟩ ⟨by decide, by decide⟩ rfl (Nat.le_of_ble_eq_true rfl) dL_areAlike_379 ?_
      refine zp_would (v := cWouldR b.1 0) hC gL_areAlike_X5_would ⟨Nat.le_of_ble_eq_true rfl, Nat.le_of_ble_eq_true rfl⟩ ⟨Nat.le_of_ble_eq_true rfl, Nat.le_of_ble_eq_true rfl⟩ hRel.2.1.T 0 ⟨by decide, by decide⟩ rfl (Nat.le_of_ble_eq_true rfl) dL_areAlike_382 ?_
      refine zt_way (x := swZ (cWouldR b.1 0)) hC gL_areAlike_L_way ⟨Nat.le_of_ble_eq_true rfl, Nat.le_of_ble_eq_true rfl⟩ ⟨Nat.le_of_ble_eq_true rfl, Nat.le_of_ble_eq_true rfl⟩ (by have q := would_in (E := b.1) (w := 0) ⟨by decide, by decide⟩; unfold inR; omega) rfl (Nat.le_of_ble_eq_true rfl) dL_areAlike_385 ?_
      refine z_icmp_ne_same (tgt := 413) hC dL_areAlike_388 (by decide) ?_
      refine z_aload_n hC dL_areAlike_391 rfl 5 rfl ?_
      refine z_iload hC dL_areAlike_392 0 rfl ?_
      refine zo_deeds (v := cDeedsR a.1 0) hC gL_areAlike_X5_deeds ⟨Nat.le_of_ble_eq_true rfl, Nat.le_of_ble_eq_true rfl⟩ ⟨Nat.le_of_ble_eq_true rfl, Nat.le_of_ble_eq_true rfl⟩ hRel.1.T 0 ⟨by decide, by decide⟩ rfl (Nat.le_of_ble_eq_true rfl) dL_areAlike_394 ?_
      refine z_aload_n hC dL_areAlike_397 rfl 6 rfl ?_
      refine z_iload hC dL_areAlike_398 0 rfl ?_
      refine zt_way (x := 0) hC gL_areAlike_L_way ⟨Nat.le_of_ble_eq_true rfl, Nat.le_of_ble_eq_true rfl⟩ ⟨Nat.le_of_ble_eq_true rfl, Nat.le_of_ble_eq_true rfl⟩ ⟨by decide, by decide⟩ rfl (Nat.le_of_ble_eq_true rfl) dL_areAlike_400 ?_
      refine zp_deeds (v := cDeedsR a.1 0) hC gL_areAlike_X5_deeds ⟨Nat.le_of_ble_eq_true rfl, Nat.le_of_ble_eq_true rfl⟩ ⟨Nat.le_of_ble_eq_true rfl, Nat.le_of_ble_eq_true rfl⟩ hRel.2.1.T 0 ⟨by decide, by decide⟩ ((deeds_mir hM hP (w := 0) ⟨by decide, by decide⟩).symm) (Nat.le_of_ble_eq_true rfl) dL_areAlike_403 ?_
      refine z_icmp_ne_same (tgt := 413) hC dL_areAlike_406 (by decide) ?_
      refine z_iconst hC dL_areAlike_409 ?_
      refine z_goto (tgt := 414) hC dL_areAlike_410 (by decide) ?_
      refine z_istore (lv' := [(6, .int (iI 1)), (7, .int (iI 0)), (5, .int (iI (1 + u_1))), (4, .int (iI 1000)), (3, .int (iI 40)), (0, .ref ho), (1, .ref hp), (2, .int (iI x))]) hC dL_areAlike_414 (by decide) rfl ?_
      refine z_iinc (lv' := [(7, .int (iI 1)), (6, .int (iI 1)), (5, .int (iI (1 + u_1))), (4, .int (iI 1000)), (3, .int (iI 40)), (0, .ref ho), (1, .ref hp), (2, .int (iI x))]) hC dL_areAlike_416 1 rfl (by decide) rfl ?_
      refine z_goto (tgt := 359) hC dL_areAlike_419 (by decide) ?_
      refine z_iload hC dL_areAlike_359 0 rfl ?_
      refine z_iconst hC dL_areAlike_361 ?_
      refine z_icmp_ge_f (tgt := 422) hC dL_areAlike_362 (by decide) ⟨by decide, by decide⟩ ⟨by decide, by decide⟩ (by decide) ?_
      refine z_iload hC dL_areAlike_365 1 rfl ?_
      refine z_if_eq_f (tgt := 413) hC dL_areAlike_367 (by decide) ⟨by decide, by decide⟩ (by decide) ?_
      refine z_aload_n hC dL_areAlike_370 rfl 5 rfl ?_
      refine z_iload hC dL_areAlike_371 0 rfl ?_
      refine zo_would (v := swZ (cWouldR b.1 2)) hC gL_areAlike_X5_would ⟨Nat.le_of_ble_eq_true rfl, Nat.le_of_ble_eq_true rfl⟩ ⟨Nat.le_of_ble_eq_true rfl, Nat.le_of_ble_eq_true rfl⟩ hRel.1.T 1 ⟨by decide, by decide⟩ (would_mir hM hP (w := 1) ⟨by decide, by decide⟩) (Nat.le_of_ble_eq_true rfl) dL_areAlike_373 ?_
      refine z_aload_n hC dL_areAlike_376 rfl 6 rfl ?_
      refine z_iload hC dL_areAlike_377 0 rfl ?_
      refine zt_there (x := 2) hC gL_areAlike_L_there ⟨Nat.le_of_ble_eq_true rfl, Nat.le_of_ble_eq_true rfl⟩ ⟨Nat.le_of_ble_eq_true rfl, Nat.le_of_ble_eq_true rfl⟩ ⟨by decide, by decide⟩ rfl (Nat.le_of_ble_eq_true rfl) dL_areAlike_379 ?_
      refine zp_would (v := cWouldR b.1 2) hC gL_areAlike_X5_would ⟨Nat.le_of_ble_eq_true rfl, Nat.le_of_ble_eq_true rfl⟩ ⟨Nat.le_of_ble_eq_true rfl, Nat.le_of_ble_eq_true rfl⟩ hRel.2.1.T 2 ⟨by decide, by decide⟩ rfl (Nat.le_of_ble_eq_true rfl) dL_areAlike_382 ?_
      refine zt_way (x := swZ (cWouldR b.1 2)) hC gL_areAlike_L_way ⟨Nat.le_of_ble_eq_true rfl, Nat.le_of_ble_eq_true rfl⟩ ⟨Nat.le_of_ble_eq_true rfl, Nat.le_of_ble_eq_true rfl⟩ (by have q := would_in (E := b.1) (w := 2) ⟨by decide, by decide⟩; unfold inR; omega) rfl (Nat.le_of_ble_eq_true rfl) dL_areAlike_385 ?_
      refine z_icmp_ne_same (tgt := 413) hC dL_areAlike_388 (by decide) ?_
      refine z_aload_n hC dL_areAlike_391 rfl 5 rfl ?_
      refine z_iload hC dL_areAlike_392 0 rfl ?_
      refine zo_deeds (v := cDeedsR a.1 1) hC gL_areAlike_X5_deeds ⟨Nat.le_of_ble_eq_true rfl, Nat.le_of_ble_eq_true rfl⟩ ⟨Nat.le_of_ble_eq_true rfl, Nat.le_of_ble_eq_true rfl⟩ hRel.1.T 1 ⟨by decide, by decide⟩ rfl (Nat.le_of_ble_eq_true rfl) dL_areAlike_394 ?_
      refine z_aload_n hC dL_areAlike_397 rfl 6 rfl ?_
      refine z_iload hC dL_areAlike_398 0 rfl ?_
      refine zt_way (x := 2) hC gL_areAlike_L_way ⟨Nat.le_of_ble_eq_true rfl, Nat.le_of_ble_eq_true rfl⟩ ⟨Nat.le_of_ble_eq_true rfl, Nat.le_of_ble_eq_true rfl⟩ ⟨by decide, by decide⟩ rfl (Nat.le_of_ble_eq_true rfl) dL_areAlike_400 ?_
      refine zp_deeds (v := cDeedsR a.1 1) hC gL_areAlike_X5_deeds ⟨Nat.le_of_ble_eq_true rfl, Nat.le_of_ble_eq_true rfl⟩ ⟨Nat.le_of_ble_eq_true rfl, Nat.le_of_ble_eq_true rfl⟩ hRel.2.1.T 2 ⟨by decide, by decide⟩ ((deeds_mir hM hP (w := 1) ⟨by decide, by decide⟩).symm) (Nat.le_of_ble_eq_true rfl) dL_areAlike_403 ?_
      refine z_icmp_ne_same (tgt := 413) hC dL_areAlike_406 (by decide) ?_
      refine z_iconst hC dL_areAlike_409 ?_
      refine z_goto (tgt := 414) hC dL_areAlike_410 (by decide) ?_
      refine z_istore (lv' := [(6, .int (iI 1)), (7, .int (iI 1)), (5, .int (iI (1 + u_1))), (4, .int (iI 1000)), (3, .int (iI 40)), (0, .ref ho), (1, .ref hp), (2, .int (iI x))]) hC dL_areAlike_414 (by decide) rfl ?_
      refine z_iinc (lv' := [(7, .int (iI 2)), (6, .int (iI 1)), (5, .int (iI (1 + u_1))), (4, .int (iI 1000)), (3, .int (iI 40)), (0, .ref ho), (1, .ref hp), (2, .int (iI x))]) hC dL_areAlike_416 1 rfl (by decide) rfl ?_
      refine z_goto (tgt := 359) hC dL_areAlike_419 (by decide) ?_
      refine z_iload hC dL_areAlike_359 0 rfl ?_
      refine z_iconst hC dL_areAlike_361 ?_
      refine z_icmp_ge_f (tgt := 422) hC dL_areAlike_362 (by decide) ⟨by decide, by decide⟩ ⟨by decide, by decide⟩ (by decide) ?_
      refine z_iload hC dL_areAlike_365 1 rfl ?_
      refine z_if_eq_f (tgt := 413) hC dL_areAlike_367 (by decide) ⟨by decide, by decide⟩ (by decide) ?_
      refine z_aload_n hC dL_areAlike_370 rfl 5 rfl ?_
      refine z_iload hC dL_areAlike_371 0 rfl ?_
      refine zo_would (v := swZ (cWouldR b.1 1)) hC gL_areAlike_X5_would ⟨Nat.le_of_ble_eq_true rfl, Nat.le_of_ble_eq_true rfl⟩ ⟨Nat.le_of_ble_eq_true rfl, Nat.le_of_ble_eq_true rfl⟩ hRel.1.T 2 ⟨by decide, by decide⟩ (would_mir hM hP (w := 2) ⟨by decide, by decide⟩) (Nat.le_of_ble_eq_true rfl) dL_areAlike_373 ?_
      refine z_aload_n hC dL_areAlike_376 rfl 6 rfl ?_
      refine z_iload hC dL_areAlike_377 0 rfl ?_
      refine zt_there (x := 1) hC gL_areAlike_L_there ⟨Nat.le_of_ble_eq_true rfl, Nat.le_of_ble_eq_true rfl⟩ ⟨Nat.le_of_ble_eq_true rfl, Nat.le_of_ble_eq_true rfl⟩ ⟨by decide, by decide⟩ rfl (Nat.le_of_ble_eq_true rfl) dL_areAlike_379 ?_
      refine zp_would (v := cWouldR b.1 1) hC gL_areAlike_X5_would ⟨Nat.le_of_ble_eq_true rfl, Nat.le_of_ble_eq_true rfl⟩ ⟨Nat.le_of_ble_eq_true rfl, Nat.le_of_ble_eq_true rfl⟩ hRel.2.1.T 1 ⟨by decide, by decide⟩ rfl (Nat.le_of_ble_eq_true rfl) dL_areAlike_382 ?_
      refine zt_way (x := swZ (cWouldR b.1 1)) hC gL_areAlike_L_way ⟨Nat.le_of_ble_eq_true rfl, Nat.le_of_ble_eq_true rfl⟩ ⟨Nat.le_of_ble_eq_true rfl, Nat.le_of_ble_eq_true rfl⟩ (by have q := would_in (E := b.1) (w := 1) ⟨by decide, by decide⟩; unfold inR; omega) rfl (Nat.le_of_ble_eq_true rfl) dL_areAlike_385 ?_
      refine z_icmp_ne_same (tgt := 413) hC dL_areAlike_388 (by decide) ?_
      refine z_aload_n hC dL_areAlike_391 rfl 5 rfl ?_
      refine z_iload hC dL_areAlike_392 0 rfl ?_
      refine zo_deeds (v := cDeedsR a.1 2) hC gL_areAlike_X5_deeds ⟨Nat.le_of_ble_eq_true rfl, Nat.le_of_ble_eq_true rfl⟩ ⟨Nat.le_of_ble_eq_true rfl, Nat.le_of_ble_eq_true rfl⟩ hRel.1.T 2 ⟨by decide, by decide⟩ rfl (Nat.le_of_ble_eq_true rfl) dL_areAlike_394 ?_
      refine z_aload_n hC dL_areAlike_397 rfl 6 rfl ?_
      refine z_iload hC dL_areAlike_398 0 rfl ?_
      refine zt_way (x := 1) hC gL_areAlike_L_way ⟨Nat.le_of_ble_eq_true rfl, Nat.le_of_ble_eq_true rfl⟩ ⟨Nat.le_of_ble_eq_true rfl, Nat.le_of_ble_eq_true rfl⟩ ⟨by decide, by decide⟩ rfl (Nat.le_of_ble_eq_true rfl) dL_areAlike_400 ?_
      refine zp_deeds (v := cDeedsR a.1 2) hC gL_areAlike_X5_deeds ⟨Nat.le_of_ble_eq_true rfl, Nat.le_of_ble_eq_true rfl⟩ ⟨Nat.le_of_ble_eq_true rfl, Nat.le_of_ble_eq_true rfl⟩ hRel.2.1.T 1 ⟨by decide, by decide⟩ ((deeds_mir hM hP (w := 2) ⟨by decide, by decide⟩).symm) (Nat.le_of_ble_eq_true rfl) dL_areAlike_403 ?_
      refine z_icmp_ne_same (tgt := 413) hC dL_areAlike_406 (by decide) ?_
      refine z_iconst hC dL_areAlike_409 ?_
      refine z_goto (tgt := 414) hC dL_areAlike_410 (by decide) ?_
      refine z_istore (lv' := [(6, .int (iI 1)), (7, .int (iI 2)), (5, .int (iI (1 + u_1))), (4, .int (iI 1000)), (3, .int (iI 40)), (0, .ref ho), (1, .ref hp), (2, .int (iI x))]) hC dL_areAlike_414 (by decide) rfl ?_
      refine z_iinc (lv' := [(7, .int (iI 3)), (6, .int (iI 1)), (5, .int (iI (1 + u_1))), (4, .int (iI 1000)), (3, .int (iI 40)), (0, .ref ho), (1, .ref hp), (2, .int (iI x))]) hC dL_areAlike_416 1 rfl (by decide) rfl ?_
      refine z_goto (tgt := 359) hC dL_areAlike_419 (by decide) ?_
      refine z_iload hC dL_areAlike_359 0 rfl ?_
      refine z_iconst hC dL_areAlike_361 ?_
      refine z_icmp_ge_f (tgt := 422) hC dL_areAlike_362 (by decide) ⟨by decide, by decide⟩ ⟨by decide, by decide⟩ (by decide) ?_
      refine z_iload hC dL_areAlike_365 1 rfl ?_
      refine z_if_eq_f (tgt := 413) hC dL_areAlike_367 (by decide) ⟨by decide, by decide⟩ (by decide) ?_
      refine z_aload_n hC dL_areAlike_370 rfl 5 rfl ?_
      refine z_iload hC dL_areAlike_371 0 rfl ?_
      refine zo_would (v := swZ (cWouldR b.1 3)) hC gL_areAlike_X5_would ⟨Nat.le_of_ble_eq_true rfl, Nat.le_of_ble_eq_true rfl⟩ ⟨Nat.le_of_ble_eq_true rfl, Nat.le_of_ble_eq_true rfl⟩ hRel.1.T 3 ⟨by decide, by decide⟩ (would_mir hM hP (w := 3) ⟨by decide, by decide⟩) (Nat.le_of_ble_eq_true rfl) dL_areAlike_373 ?_
      refine z_aload_n hC dL_areAlike_376 rfl 6 rfl ?_
      refine z_iload hC dL_areAlike_377 0 rfl ?_
      refine zt_there (x := 3) hC gL_areAlike_L_there ⟨Nat.le_of_ble_eq_true rfl, Nat.le_of_ble_eq_true rfl⟩ ⟨Nat.le_of_ble_eq_true rfl, Nat.le_of_ble_eq_true rfl⟩ ⟨by decide, by decide⟩ rfl (Nat.le_of_ble_eq_true rfl) dL_areAlike_379 ?_
      refine zp_would (v := cWouldR b.1 3) hC gL_areAlike_X5_would ⟨Nat.le_of_ble_eq_true rfl, Nat.le_of_ble_eq_true rfl⟩ ⟨Nat.le_of_ble_eq_true rfl, Nat.le_of_ble_eq_true rfl⟩ hRel.2.1.T 3 ⟨by decide, by decide⟩ rfl (Nat.le_of_ble_eq_true rfl) dL_areAlike_382 ?_
      refine zt_way (x := swZ (cWouldR b.1 3)) hC gL_areAlike_L_way ⟨Nat.le_of_ble_eq_true rfl, Nat.le_of_ble_eq_true rfl⟩ ⟨Nat.le_of_ble_eq_true rfl, Nat.le_of_ble_eq_true rfl⟩ (by have q := would_in (E := b.1) (w := 3) ⟨by decide, by decide⟩; unfold inR; omega) rfl (Nat.le_of_ble_eq_true rfl) dL_areAlike_385 ?_
      refine z_icmp_ne_same (tgt := 413) hC dL_areAlike_388 (by decide) ?_
      refine z_aload_n hC dL_areAlike_391 rfl 5 rfl ?_
      refine z_iload hC dL_areAlike_392 0 rfl ?_
      refine zo_deeds (v := cDeedsR a.1 3) hC gL_areAlike_X5_deeds ⟨Nat.le_of_ble_eq_true rfl, Nat.le_of_ble_eq_true rfl⟩ ⟨Nat.le_of_ble_eq_true rfl, Nat.le_of_ble_eq_true rfl⟩ hRel.1.T 3 ⟨by decide, by decide⟩ rfl (Nat.le_of_ble_eq_true rfl) dL_areAlike_394 ?_
      refine z_aload_n hC dL_areAlike_397 rfl 6 rfl ?_
      refine z_iload hC dL_areAlike_398 0 rfl ?_
      refine zt_way (x := 3) hC gL_areAlike_L_way ⟨Nat.le_of_ble_eq_true rfl, Nat.le_of_ble_eq_true rfl⟩ ⟨Nat.le_of_ble_eq_true rfl, Nat.le_of_ble_eq_true rfl⟩ ⟨by decide, by decide⟩ rfl (Nat.le_of_ble_eq_true rfl) dL_areAlike_400 ?_
      refine zp_deeds (v := cDeedsR a.1 3) hC gL_areAlike_X5_deeds ⟨Nat.le_of_ble_eq_true rfl, Nat.le_of_ble_eq_true rfl⟩ ⟨Nat.le_of_ble_eq_true rfl, Nat.le_of_ble_eq_true rfl⟩ hRel.2.1.T 3 ⟨by decide, by decide⟩ ((deeds_mir hM hP (w := 3) ⟨by decide, by decide⟩).symm) (Nat.le_of_ble_eq_true rfl) dL_areAlike_403 ?_
      refine z_icmp_ne_same (tgt := 413) hC dL_areAlike_406 (by decide) ?_
      refine z_iconst hC dL_areAlike_409 ?_
      refine z_goto (tgt := 414) hC dL_areAlike_410 (by decide) ?_
      refine z_istore (lv' := [(6, .int (iI 1)), (7, .int (iI 3)), (5, .int (iI (1 + u_1))), (4, .int (iI 1000)), (3, .int (iI 40)), (0, .ref ho), (1, .ref hp), (2, .int (iI x))]) hC dL_areAlike_414 (by decide) rfl ?_
      refine z_iinc (lv' := [(7, .int (iI 4)), (6, .int (iI 1)), (5, .int (iI (1 + u_1))), (4, .int (iI 1000)), (3, .int (iI 40)), (0, .ref ho), (1, .ref hp), (2, .int (iI x))]) hC dL_areAlike_416 1 rfl (by decide) rfl ?_
      refine z_goto (tgt := 359) hC dL_areAlike_419 (by decide) ?_
      refine z_iload hC dL_areAlike_359 0 rfl ?_
      refine z_iconst hC dL_areAlike_361 ?_
      refine z_icmp_ge_t (tgt := 422) hC dL_areAlike_362 (by decide) ⟨by decide, by decide⟩ ⟨by decide, by decide⟩ (by decide) ?_
      refine z_iload hC dL_areAlike_422 1 rfl ?_
      refine z_if_eq_f (tgt := 530) hC dL_areAlike_424 (by decide) ⟨by decide, by decide⟩ (by decide) ?_
      refine z_aload_n hC dL_areAlike_427 rfl 5 rfl ?_
      refine z_iload hC dL_areAlike_428 2 rfl ?_
      refine z_iconst hC dL_areAlike_430 ?_
      refine zo_replay (v := cReplayR a.1 a.2.1 (1 + u_1) 0) hC gL_areAlike_X5_replay ⟨Nat.le_of_ble_eq_true rfl, Nat.le_of_ble_eq_true rfl⟩ ⟨Nat.le_of_ble_eq_true rfl, Nat.le_of_ble_eq_true rfl⟩ hRel.1.T (1 + u_1) 0 (by unfold inR; omega) ⟨by decide, by decide⟩ rfl (Nat.le_of_ble_eq_true rfl) dL_areAlike_431 ?_
      have okT_6 : OkT (a.1, cReplayT (a).1 (a).2.1 (1 + u_1) 0, a.2.2) := ⟨hRel.1.T.1, replay_T hRel.1.T.1 ⟨by omega, by omega⟩ ⟨by omega, by omega⟩ hRel.1.T.2.1, hRel.1.T.2.2⟩
      generalize cReplayT (a).1 (a).2.1 (1 + u_1) 0 = T_5 at okT_6 ⊢
      change OkT (a.1, T_5, a.2.2) at okT_6
      refine z_ws (ws' := wD J ho Ao hp Ap (a.1, T_5, a.2.2) b) rfl ?_
      refine z_aload_n hC dL_areAlike_434 rfl 6 rfl ?_
      refine z_iload hC dL_areAlike_435 2 rfl ?_
      refine z_iconst hC dL_areAlike_437 ?_
      refine zp_replay (v := cReplayR a.1 a.2.1 (1 + u_1) 0) hC gL_areAlike_X5_replay ⟨Nat.le_of_ble_eq_true rfl, Nat.le_of_ble_eq_true rfl⟩ ⟨Nat.le_of_ble_eq_true rfl, Nat.le_of_ble_eq_true rfl⟩ hRel.2.1.T (1 + u_1) 1 (by unfold inR; omega) ⟨by decide, by decide⟩ ((replay_mir (E := a.1) (P := b.1) (T := a.2.1) (S := b.2.1) (T' := a.1) (S' := a.1) (F := 1 + u_1) hM hP ⟨by omega, by omega⟩ hRel.2.1.T.2.1).1.symm) (Nat.le_of_ble_eq_true rfl) dL_areAlike_438 ?_
      have okT_8 : OkT (b.1, cReplayT (b).1 (b).2.1 (1 + u_1) 1, b.2.2) := ⟨hRel.2.1.T.1, replay_T hRel.2.1.T.1 ⟨by omega, by omega⟩ ⟨by omega, by omega⟩ hRel.2.1.T.2.1, hRel.2.1.T.2.2⟩
      generalize cReplayT (b).1 (b).2.1 (1 + u_1) 1 = T_7 at okT_8 ⊢
      change OkT (b.1, T_7, b.2.2) at okT_8
      refine z_ws (ws' := wD J ho Ao hp Ap (a.1, T_5, a.2.2) (b.1, T_7, b.2.2)) rfl ?_
      refine z_icmp_ne_same (tgt := 530) hC dL_areAlike_441 (by decide) ?_
      refine z_aload_n hC dL_areAlike_444 rfl 5 rfl ?_
      refine z_iload hC dL_areAlike_445 2 rfl ?_
      refine z_iconst hC dL_areAlike_447 ?_
      refine zo_replay (v := cReplayR a.1 T_5 (1 + u_1) 1) hC gL_areAlike_X5_replay ⟨Nat.le_of_ble_eq_true rfl, Nat.le_of_ble_eq_true rfl⟩ ⟨Nat.le_of_ble_eq_true rfl, Nat.le_of_ble_eq_true rfl⟩ okT_6 (1 + u_1) 1 (by unfold inR; omega) ⟨by decide, by decide⟩ rfl (Nat.le_of_ble_eq_true rfl) dL_areAlike_448 ?_
      have okT_10 : OkT ((a.1, T_5, a.2.2).1, cReplayT ((a.1, T_5, a.2.2)).1 ((a.1, T_5, a.2.2)).2.1 (1 + u_1) 1, (a.1, T_5, a.2.2).2.2) := ⟨okT_6.1, replay_T okT_6.1 ⟨by omega, by omega⟩ ⟨by omega, by omega⟩ okT_6.2.1, okT_6.2.2⟩
      generalize cReplayT ((a.1, T_5, a.2.2)).1 ((a.1, T_5, a.2.2)).2.1 (1 + u_1) 1 = T_9 at okT_10 ⊢
      change OkT (a.1, T_9, a.2.2) at okT_10
      refine z_ws (ws' := wD J ho Ao hp Ap (a.1, T_9, a.2.2) (b.1, T_7, b.2.2)) rfl ?_
      refine z_aload_n hC dL_areAlike_451 rfl 6 rfl ?_
      refine z_iload hC dL_areAlike_452 2 rfl ?_
      refine z_iconst hC dL_areAlike_454 ?_
      refine zp_replay (v := cReplayR a.1 T_5 (1 + u_1) 1) hC gL_areAlike_X5_replay ⟨Nat.le_of_ble_eq_true rfl, Nat.le_of_ble_eq_true rfl⟩ ⟨Nat.le_of_ble_eq_true rfl, Nat.le_of_ble_eq_true rfl⟩ okT_8 (1 + u_1) 0 (by unfold inR; omega) ⟨by decide, by decide⟩ ((replay_mir (E := a.1) (P := b.1) (T := T_5) (S := T_7) (T' := a.1) (S' := a.1) (F := 1 + u_1) hM hP ⟨by omega, by omega⟩ okT_8.2.1).2.1.symm) (Nat.le_of_ble_eq_true rfl) dL_areAlike_455 ?_
      have okT_12 : OkT ((b.1, T_7, b.2.2).1, cReplayT ((b.1, T_7, b.2.2)).1 ((b.1, T_7, b.2.2)).2.1 (1 + u_1) 0, (b.1, T_7, b.2.2).2.2) := ⟨okT_8.1, replay_T okT_8.1 ⟨by omega, by omega⟩ ⟨by omega, by omega⟩ okT_8.2.1, okT_8.2.2⟩
      generalize cReplayT ((b.1, T_7, b.2.2)).1 ((b.1, T_7, b.2.2)).2.1 (1 + u_1) 0 = T_11 at okT_12 ⊢
      change OkT (b.1, T_11, b.2.2) at okT_12
      refine z_ws (ws' := wD J ho Ao hp Ap (a.1, T_9, a.2.2) (b.1, T_11, b.2.2)) rfl ?_
      refine z_icmp_ne_same (tgt := 530) hC dL_areAlike_458 (by decide) ?_
      refine z_aload_n hC dL_areAlike_461 rfl 5 rfl ?_
      refine z_iload hC dL_areAlike_462 2 rfl ?_
      refine z_iconst hC dL_areAlike_464 ?_
      refine zo_replay (v := cReplayR a.1 T_9 (1 + u_1) 2) hC gL_areAlike_X5_replay ⟨Nat.le_of_ble_eq_true rfl, Nat.le_of_ble_eq_true rfl⟩ ⟨Nat.le_of_ble_eq_true rfl, Nat.le_of_ble_eq_true rfl⟩ okT_10 (1 + u_1) 2 (by unfold inR; omega) ⟨by decide, by decide⟩ rfl (Nat.le_of_ble_eq_true rfl) dL_areAlike_465 ?_
      have okT_14 : OkT ((a.1, T_9, a.2.2).1, cReplayT ((a.1, T_9, a.2.2)).1 ((a.1, T_9, a.2.2)).2.1 (1 + u_1) 2, (a.1, T_9, a.2.2).2.2) := ⟨okT_10.1, replay_T okT_10.1 ⟨by omega, by omega⟩ ⟨by omega, by omega⟩ okT_10.2.1, okT_10.2.2⟩
      generalize cReplayT ((a.1, T_9, a.2.2)).1 ((a.1, T_9, a.2.2)).2.1 (1 + u_1) 2 = T_13 at okT_14 ⊢
      change OkT (a.1, T_13, a.2.2) at okT_14
      refine z_ws (ws' := wD J ho Ao hp Ap (a.1, T_13, a.2.2) (b.1, T_11, b.2.2)) rfl ?_
      refine z_aload_n hC dL_areAlike_468 rfl 6 rfl ?_
      refine z_iload hC dL_areAlike_469 2 rfl ?_
      refine z_iconst hC dL_areAlike_471 ?_
      refine zp_replay (v := cReplayR a.1 T_9 (1 + u_1) 2) hC gL_areAlike_X5_replay ⟨Nat.le_of_ble_eq_true rfl, Nat.le_of_ble_eq_true rfl⟩ ⟨Nat.le_of_ble_eq_true rfl, Nat.le_of_ble_eq_true rfl⟩ okT_12 (1 + u_1) 2 (by unfold inR; omega) ⟨by decide, by decide⟩ ((replay_mir (E := a.1) (P := b.1) (T := T_9) (S := T_11) (T' := a.1) (S' := a.1) (F := 1 + u_1) hM hP ⟨by omega, by omega⟩ okT_12.2.1).2.2.1.symm) (Nat.le_of_ble_eq_true rfl) dL_areAlike_472 ?_
      have okT_16 : OkT ((b.1, T_11, b.2.2).1, cReplayT ((b.1, T_11, b.2.2)).1 ((b.1, T_11, b.2.2)).2.1 (1 + u_1) 2, (b.1, T_11, b.2.2).2.2) := ⟨okT_12.1, replay_T okT_12.1 ⟨by omega, by omega⟩ ⟨by omega, by omega⟩ okT_12.2.1, okT_12.2.2⟩
      generalize cReplayT ((b.1, T_11, b.2.2)).1 ((b.1, T_11, b.2.2)).2.1 (1 + u_1) 2 = T_15 at okT_16 ⊢
      change OkT (b.1, T_15, b.2.2) at okT_16
      refine z_ws (ws' := wD J ho Ao hp Ap (a.1, T_13, a.2.2) (b.1, T_15, b.2.2)) rfl ?_
      refine z_icmp_ne_same (tgt := 530) hC dL_areAlike_475 (by decide) ?_
      refine z_aload_n hC dL_areAlike_478 rfl 5 rfl ?_
      refine z_iload hC dL_areAlike_479 2 rfl ?_
      refine z_iconst hC dL_areAlike_481 ?_
      refine zo_replay (v := cReplayR a.1 T_13 (1 + u_1) 3) hC gL_areAlike_X5_replay ⟨Nat.le_of_ble_eq_true rfl, Nat.le_of_ble_eq_true rfl⟩ ⟨Nat.le_of_ble_eq_true rfl, Nat.le_of_ble_eq_true rfl⟩ okT_14 (1 + u_1) 3 (by unfold inR; omega) ⟨by decide, by decide⟩ rfl (Nat.le_of_ble_eq_true rfl) dL_areAlike_482 ?_
      have okT_18 : OkT ((a.1, T_13, a.2.2).1, cReplayT ((a.1, T_13, a.2.2)).1 ((a.1, T_13, a.2.2)).2.1 (1 + u_1) 3, (a.1, T_13, a.2.2).2.2) := ⟨okT_14.1, replay_T okT_14.1 ⟨by omega, by omega⟩ ⟨by omega, by omega⟩ okT_14.2.1, okT_14.2.2⟩
      generalize cReplayT ((a.1, T_13, a.2.2)).1 ((a.1, T_13, a.2.2)).2.1 (1 + u_1) 3 = T_17 at okT_18 ⊢
      change OkT (a.1, T_17, a.2.2) at okT_18
      refine z_ws (ws' := wD J ho Ao hp Ap (a.1, T_17, a.2.2) (b.1, T_15, b.2.2)) rfl ?_
      refine z_aload_n hC dL_areAlike_485 rfl 6 rfl ?_
      refine z_iload hC dL_areAlike_486 2 rfl ?_
      refine z_iconst hC dL_areAlike_488 ?_
      refine zp_replay (v := cReplayR b.1 T_15 (1 + u_1) 3) hC gL_areAlike_X5_replay ⟨Nat.le_of_ble_eq_true rfl, Nat.le_of_ble_eq_true rfl⟩ ⟨Nat.le_of_ble_eq_true rfl, Nat.le_of_ble_eq_true rfl⟩ okT_16 (1 + u_1) 3 (by unfold inR; omega) ⟨by decide, by decide⟩ rfl (Nat.le_of_ble_eq_true rfl) dL_areAlike_489 ?_
      have okT_20 : OkT ((b.1, T_15, b.2.2).1, cReplayT ((b.1, T_15, b.2.2)).1 ((b.1, T_15, b.2.2)).2.1 (1 + u_1) 3, (b.1, T_15, b.2.2).2.2) := ⟨okT_16.1, replay_T okT_16.1 ⟨by omega, by omega⟩ ⟨by omega, by omega⟩ okT_16.2.1, okT_16.2.2⟩
      generalize cReplayT ((b.1, T_15, b.2.2)).1 ((b.1, T_15, b.2.2)).2.1 (1 + u_1) 3 = T_19 at okT_20 ⊢
      change OkT (b.1, T_19, b.2.2) at okT_20
      refine z_ws (ws' := wD J ho Ao hp Ap (a.1, T_17, a.2.2) (b.1, T_19, b.2.2)) rfl ?_
      refine z_iload hC dL_areAlike_492 3 rfl ?_
      refine zt_against (x := cReplayR a.1 T_13 (1 + u_1) 3) hC gL_areAlike_L_against ⟨Nat.le_of_ble_eq_true rfl, Nat.le_of_ble_eq_true rfl⟩ ⟨Nat.le_of_ble_eq_true rfl, Nat.le_of_ble_eq_true rfl⟩ (by have q := replay_in (T := T_15) (F := 1 + u_1) (w := 3) hP ⟨by omega, by omega⟩ ⟨by decide, by decide⟩ okT_16.2.1; unfold inR; omega) (by rw [(replay_mir (E := a.1) (P := b.1) (T := T_13) (S := T_15) (T' := a.1) (S' := a.1) (F := 1 + u_1) hM hP ⟨by omega, by omega⟩ okT_16.2.1).2.2.2, eb1]) (Nat.le_of_ble_eq_true rfl) dL_areAlike_494 ?_
      refine z_icmp_ne_same (tgt := 530) hC dL_areAlike_497 (by decide) ?_
      refine z_aload_n hC dL_areAlike_500 rfl 5 rfl ?_
      refine z_iconst hC dL_areAlike_501 ?_
      refine zo_bestFilter (v := cBestR a.1 T_17 0) hC gL_areAlike_X5_bestFilter ⟨Nat.le_of_ble_eq_true rfl, Nat.le_of_ble_eq_true rfl⟩ ⟨Nat.le_of_ble_eq_true rfl, Nat.le_of_ble_eq_true rfl⟩ okT_18 0 ⟨by decide, by decide⟩ rfl (Nat.le_of_ble_eq_true rfl) dL_areAlike_502 ?_
      have okT_22 : OkT ((a.1, T_17, a.2.2).1, cBestT ((a.1, T_17, a.2.2)).1 ((a.1, T_17, a.2.2)).2.1 0, (a.1, T_17, a.2.2).2.2) := ⟨okT_18.1, best_T okT_18.1 okT_18.2.1 0, okT_18.2.2⟩
      generalize cBestT ((a.1, T_17, a.2.2)).1 ((a.1, T_17, a.2.2)).2.1 0 = T_21 at okT_22 ⊢
      change OkT (a.1, T_21, a.2.2) at okT_22
      refine z_ws (ws' := wD J ho Ao hp Ap (a.1, T_21, a.2.2) (b.1, T_19, b.2.2)) rfl ?_
      refine z_aload_n hC dL_areAlike_505 rfl 6 rfl ?_
      refine z_iconst hC dL_areAlike_506 ?_
      refine zp_bestFilter (v := cBestR a.1 T_17 0) hC gL_areAlike_X5_bestFilter ⟨Nat.le_of_ble_eq_true rfl, Nat.le_of_ble_eq_true rfl⟩ ⟨Nat.le_of_ble_eq_true rfl, Nat.le_of_ble_eq_true rfl⟩ okT_20 0 ⟨by decide, by decide⟩ ((bestR_mir hM hI hP (T := T_17) (S := T_19) okT_18.2.1 okT_20.2.1 0).symm) (Nat.le_of_ble_eq_true rfl) dL_areAlike_507 ?_
      have okT_24 : OkT ((b.1, T_19, b.2.2).1, cBestT ((b.1, T_19, b.2.2)).1 ((b.1, T_19, b.2.2)).2.1 0, (b.1, T_19, b.2.2).2.2) := ⟨okT_20.1, best_T okT_20.1 okT_20.2.1 0, okT_20.2.2⟩
      generalize cBestT ((b.1, T_19, b.2.2)).1 ((b.1, T_19, b.2.2)).2.1 0 = T_23 at okT_24 ⊢
      change OkT (b.1, T_23, b.2.2) at okT_24
      refine z_ws (ws' := wD J ho Ao hp Ap (a.1, T_21, a.2.2) (b.1, T_23, b.2.2)) rfl ?_
      refine z_icmp_ne_same (tgt := 530) hC dL_areAlike_510 (by decide) ?_
      refine z_aload_n hC dL_areAlike_513 rfl 5 rfl ?_
      refine z_iconst hC dL_areAlike_514 ?_
      refine zo_bestFilter (v := cBestR a.1 T_21 1) hC gL_areAlike_X5_bestFilter ⟨Nat.le_of_ble_eq_true rfl, Nat.le_of_ble_eq_true rfl⟩ ⟨Nat.le_of_ble_eq_true rfl, Nat.le_of_ble_eq_true rfl⟩ okT_22 1 ⟨by decide, by decide⟩ rfl (Nat.le_of_ble_eq_true rfl) dL_areAlike_515 ?_
      have okT_26 : OkT ((a.1, T_21, a.2.2).1, cBestT ((a.1, T_21, a.2.2)).1 ((a.1, T_21, a.2.2)).2.1 1, (a.1, T_21, a.2.2).2.2) := ⟨okT_22.1, best_T okT_22.1 okT_22.2.1 1, okT_22.2.2⟩
      generalize cBestT ((a.1, T_21, a.2.2)).1 ((a.1, T_21, a.2.2)).2.1 1 = T_25 at okT_26 ⊢
      change OkT (a.1, T_25, a.2.2) at okT_26
      refine z_ws (ws' := wD J ho Ao hp Ap (a.1, T_25, a.2.2) (b.1, T_23, b.2.2)) rfl ?_
      refine z_aload_n hC dL_areAlike_518 rfl 6 rfl ?_
      refine z_iconst hC dL_areAlike_519 ?_
      refine zp_bestFilter (v := cBestR a.1 T_21 1) hC gL_areAlike_X5_bestFilter ⟨Nat.le_of_ble_eq_true rfl, Nat.le_of_ble_eq_true rfl⟩ ⟨Nat.le_of_ble_eq_true rfl, Nat.le_of_ble_eq_true rfl⟩ okT_24 1 ⟨by decide, by decide⟩ ((bestR_mir hM hI hP (T := T_21) (S := T_23) okT_22.2.1 okT_24.2.1 1).symm) (Nat.le_of_ble_eq_true rfl) dL_areAlike_520 ?_
      have okT_28 : OkT ((b.1, T_23, b.2.2).1, cBestT ((b.1, T_23, b.2.2)).1 ((b.1, T_23, b.2.2)).2.1 1, (b.1, T_23, b.2.2).2.2) := ⟨okT_24.1, best_T okT_24.1 okT_24.2.1 1, okT_24.2.2⟩
      generalize cBestT ((b.1, T_23, b.2.2)).1 ((b.1, T_23, b.2.2)).2.1 1 = T_27 at okT_28 ⊢
      change OkT (b.1, T_27, b.2.2) at okT_28
      refine z_ws (ws' := wD J ho Ao hp Ap (a.1, T_25, a.2.2) (b.1, T_27, b.2.2)) rfl ?_
      refine z_icmp_ne_same (tgt := 530) hC dL_areAlike_523 (by decide) ?_
      refine z_iconst hC dL_areAlike_526 ?_
      refine z_goto (tgt := 531) hC dL_areAlike_527 (by decide) ?_
      exact z_iret hC hr rfl ((a.1, T_25, a.2.2), (b.1, T_27, b.2.2)) trivial rfl rfl dL_areAlike_531
  · skip
    by_cases c15 : a.1.1 15 ≤ 0
    · skip
      refine z_join (α := Unit) (fun u => True) (fun u => wD J ho Ao hp Ap a b) (fun u => [(6, .int (iI 1)), (5, .int (iI (1 + u_1))), (4, .int (iI 1000)), (3, .int (iI 40)), (0, .ref ho), (1, .ref hp), (2, .int (iI x))]) 267 (fun u => []) (fun u hu => ?_) (fun K_29 => ?_)
      · change Z _ _ _ _ _ _ _ _ _ _ _ _ _ _ _ _ (wD J ho Ao hp Ap a b) ([(6, .int (iI 1)), (5, .int (iI (1 + u_1))), (4, .int (iI 1000)), (3, .int (iI 40)), (0, .ref ho), (1, .ref hp), (2, .int (iI x))]) 267 ([])
        refine z_lv (lv' := _) [0, 1, 2, 3, 4, 5, 6] rfl ?_
        exact K_2 () trivial
      · skip
        refine z_aload_n hC dL_areAlike_223 rfl 3 rfl ?_
        refine zo_rate (v := lI 0) hC gL_areAlike_X5_rate ⟨Nat.le_of_ble_eq_true rfl, Nat.le_of_ble_eq_true rfl⟩ ⟨Nat.le_of_ble_eq_true rfl, Nat.le_of_ble_eq_true rfl⟩ hRel.1.T (rate_0 hI c15) (Nat.le_of_ble_eq_true rfl) dL_areAlike_224 ?_
        refine z_lconst (v := lI 0) hC dL_areAlike_227 (by decide) ?_
        refine z_lcmp (v := 0) hC dL_areAlike_228 (l_cmp_same _) ?_
        refine z_if_ne_f (tgt := 244) hC dL_areAlike_229 (by decide) ⟨by decide, by decide⟩ (by decide) ?_
        refine z_aload_n hC dL_areAlike_232 rfl 4 rfl ?_
        refine zp_rate (v := lI 0) hC gL_areAlike_X5_rate ⟨Nat.le_of_ble_eq_true rfl, Nat.le_of_ble_eq_true rfl⟩ ⟨Nat.le_of_ble_eq_true rfl, Nat.le_of_ble_eq_true rfl⟩ hRel.2.1.T (rate_0 hP (by rw [← m15]; exact c15)) (Nat.le_of_ble_eq_true rfl) dL_areAlike_233 ?_
        refine z_lconst (v := lI 0) hC dL_areAlike_236 (by decide) ?_
        refine z_lcmp (v := 0) hC dL_areAlike_237 (l_cmp_same _) ?_
        refine z_if_ne_f (tgt := 264) hC dL_areAlike_238 (by decide) ⟨by decide, by decide⟩ (by decide) ?_
        refine z_goto (tgt := 260) hC dL_areAlike_241 (by decide) ?_
        refine z_iconst hC dL_areAlike_260 ?_
        refine z_goto (tgt := 265) hC dL_areAlike_261 (by decide) ?_
        refine z_istore (lv' := [(6, .int (iI 1)), (5, .int (iI (1 + u_1))), (4, .int (iI 1000)), (3, .int (iI 40)), (0, .ref ho), (1, .ref hp), (2, .int (iI x))]) hC dL_areAlike_265 (by decide) rfl ?_
        refine z_lv (lv' := _) [0, 1, 2, 3, 4, 5, 6] rfl ?_
        exact K_29 () trivial
    · obtain ⟨X, hX, hXa, hXb⟩ := rate_p hI (by omega)
      refine z_join (α := Unit) (fun u => True) (fun u => wD J ho Ao hp Ap a b) (fun u => [(6, .int (iI 1)), (5, .int (iI (1 + u_1))), (4, .int (iI 1000)), (3, .int (iI 40)), (0, .ref ho), (1, .ref hp), (2, .int (iI x))]) 267 (fun u => []) (fun u hu => ?_) (fun K_30 => ?_)
      · change Z _ _ _ _ _ _ _ _ _ _ _ _ _ _ _ _ (wD J ho Ao hp Ap a b) ([(6, .int (iI 1)), (5, .int (iI (1 + u_1))), (4, .int (iI 1000)), (3, .int (iI 40)), (0, .ref ho), (1, .ref hp), (2, .int (iI x))]) 267 ([])
        refine z_lv (lv' := _) [0, 1, 2, 3, 4, 5, 6] rfl ?_
        exact K_2 () trivial
      · skip
        refine z_aload_n hC dL_areAlike_223 rfl 3 rfl ?_
        refine zo_rate (v := cRateR a.1) hC gL_areAlike_X5_rate ⟨Nat.le_of_ble_eq_true rfl, Nat.le_of_ble_eq_true rfl⟩ ⟨Nat.le_of_ble_eq_true rfl, Nat.le_of_ble_eq_true rfl⟩ hRel.1.T rfl (Nat.le_of_ble_eq_true rfl) dL_areAlike_224 ?_
        refine z_lconst (v := lI 0) hC dL_areAlike_227 (by decide) ?_
        have hcs : ∃ z : Int, (z = 1 ∨ z = -1) ∧ lg_cmp (cRateR a.1) (lI 0) = iI z := by obtain ⟨z, hz, ez⟩ := rate_sg hI; exact ⟨z, by omega, ez⟩
        obtain ⟨sg_31, hsg_31, hcs⟩ := hcs
        refine z_lcmp (v := sg_31) hC dL_areAlike_228 hcs ?_
        refine z_if_ne_t (tgt := 244) hC dL_areAlike_229 (by decide) (by unfold inR; omega) (by omega) ?_
        refine z_aload_n hC dL_areAlike_244 rfl 3 rfl ?_
        refine zo_rate (v := cRateR a.1) hC gL_areAlike_X5_rate ⟨Nat.le_of_ble_eq_true rfl, Nat.le_of_ble_eq_true rfl⟩ ⟨Nat.le_of_ble_eq_true rfl, Nat.le_of_ble_eq_true rfl⟩ hRel.1.T rfl (Nat.le_of_ble_eq_true rfl) dL_areAlike_245 ?_
        refine z_aload_n hC dL_areAlike_248 rfl 4 rfl ?_
        refine zp_rate (v := cRateR b.1) hC gL_areAlike_X5_rate ⟨Nat.le_of_ble_eq_true rfl, Nat.le_of_ble_eq_true rfl⟩ ⟨Nat.le_of_ble_eq_true rfl, Nat.le_of_ble_eq_true rfl⟩ hRel.2.1.T rfl (Nat.le_of_ble_eq_true rfl) dL_areAlike_249 ?_
        refine z_lxor (v := lI (-9223372036854775808)) hC dL_areAlike_252 (rate_mir hM hI hP (by omega) (fun z => absurd (hz15 z) (by omega))) ?_
        refine z_ldc2 hC kL_areAlike_1 dL_areAlike_253 ?_
        refine z_long (y := lI (-9223372036854775808)) hC (by decide) ?_
        refine z_lcmp (v := 0) hC dL_areAlike_256 (l_cmp_same _) ?_
        refine z_if_ne_f (tgt := 264) hC dL_areAlike_257 (by decide) ⟨by decide, by decide⟩ (by decide) ?_
        refine z_iconst hC dL_areAlike_260 ?_
        refine z_goto (tgt := 265) hC dL_areAlike_261 (by decide) ?_
        refine z_istore (lv' := [(6, .int (iI 1)), (5, .int (iI (1 + u_1))), (4, .int (iI 1000)), (3, .int (iI 40)), (0, .ref ho), (1, .ref hp), (2, .int (iI x))]) hC dL_areAlike_265 (by decide) rfl ?_
        refine z_lv (lv' := _) [0, 1, 2, 3, 4, 5, 6] rfl ?_
        exact K_30 () trivial
