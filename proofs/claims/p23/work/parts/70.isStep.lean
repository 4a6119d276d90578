/-! ===== p23: isStep ===== -/
abbrev rmL_isStep : Room := { frames := 6, cells := 0, slots := 0, locals := 119 }
set_option maxHeartbeats 16000000 in
set_option maxRecDepth 100000 in
theorem t_L_isStep (l : Launch) (D : va_G) (J : Nat → ClassId) (ho hp : Nat) (Ao Ap : Nat → Nat → Nat) (k : Nat) (hk48 : k ≤ 48) (a b : SPS) (hRel : Rel k a b) (x : Int) : ZM (S := SPS × SPS) l yL_isStep wsL_isStep rmL_isStep D J [.ref ho, .ref hp, .int (iI x)] (wD J ho Ao hp Ap a b) (fun u => Rel (k + 1) u.1 u.2) (fun _ => some (.int (iI 1))) (fun u => wD J ho Ao hp Ap u.1 u.2) := by
  have i2 : 0 ≤ a.1.1 2 ∧ a.1.1 2 ≤ 99999 := hRel.1.1.1.1
  have i3 : 0 ≤ a.1.1 3 ∧ a.1.1 3 < a.1.2.1 1 := hRel.1.1.1.2.1
  have e1 : a.1.2.1 1 = 1000 := hRel.1.1.2.2.2.1
  have is2 : 1 ≤ a.1.2.1 2 ∧ a.1.2.1 2 ≤ 9 := hRel.1.1.1.2.2.2.2.2.2.2.2.2.2.2.2.2.2.1
  have j3 : 0 ≤ b.1.1 3 ∧ b.1.1 3 < b.1.2.1 1 := hRel.2.1.1.1.2.1
  have f1 : b.1.2.1 1 = 1000 := hRel.2.1.1.2.2.2.1
  have i10 : 0 ≤ a.1.1 10 ∧ 0 ≤ a.1.1 11 ∧ 0 ≤ a.1.1 12 ∧ a.1.1 10 + a.1.1 11 + a.1.1 12 ≤ a.1.1 2 := hRel.1.1.1.2.2.2.2.2.2.2.2.1
  have iF2 : 0 ≤ a.2.2.1 2 ∧ a.2.2.1 2 ≤ 6 := hRel.1.2.2.2.1
  refine z_met (cc := cL_isStep) (nL := 13) (ret := (some .boolean)) (own := RL) (by decide) rfl rfl (Nat.le_of_ble_eq_true rfl) (fun p e s m args below meth c hC hr hin => ?_)
  refine z_lv0 (lv' := [(0, .ref ho), (1, .ref hp), (2, .int (iI x))]) rfl ?_
  refine z_iload_n hC dL_isStep_0 rfl 2 rfl ?_
  refine z_iconst hC dL_isStep_1 ?_
  refine z_ishrA hC dL_isStep_2 (fun y_1 => ?_)
  refine z_istore_n (lv' := [(3, .int (iI y_1)), (0, .ref ho), (1, .ref hp), (2, .int (iI x))]) hC dL_isStep_3 rfl (by decide) rfl ?_
  refine z_aload_n hC dL_isStep_4 rfl 1 rfl ?_
  refine z_iconst hC dL_isStep_5 ?_
  refine zo_count (v := a.1.1 2) hC gL_isStep_X5_count ⟨Nat.le_of_ble_eq_true rfl, Nat.le_of_ble_eq_true rfl⟩ ⟨Nat.le_of_ble_eq_true rfl, Nat.le_of_ble_eq_true rfl⟩ hRel.1.T 0 ⟨by decide, by decide⟩ rfl (Nat.le_of_ble_eq_true rfl) dL_isStep_6 ?_
  refine z_istore (lv' := [(4, .int (iI (a.1.1 2))), (3, .int (iI y_1)), (0, .ref ho), (1, .ref hp), (2, .int (iI x))]) hC dL_isStep_9 (by decide) rfl ?_
  refine z_aload_n hC dL_isStep_11 rfl 2 rfl ?_
  refine z_iconst hC dL_isStep_12 ?_
  refine zo_count (v := a.1.1 3) hC gL_isStep_X5_count ⟨Nat.le_of_ble_eq_true rfl, Nat.le_of_ble_eq_true rfl⟩ ⟨Nat.le_of_ble_eq_true rfl, Nat.le_of_ble_eq_true rfl⟩ hRel.1.T 1 ⟨by decide, by decide⟩ rfl (Nat.le_of_ble_eq_true rfl) dL_isStep_13 ?_
  refine z_istore (lv' := [(5, .int (iI (a.1.1 3))), (4, .int (iI (a.1.1 2))), (3, .int (iI y_1)), (0, .ref ho), (1, .ref hp), (2, .int (iI x))]) hC dL_isStep_16 (by decide) rfl ?_
  refine z_aload_n hC dL_isStep_18 rfl 3 rfl ?_
  refine z_bipush hC dL_isStep_19 (by decide) ?_
  refine zo_count (v := 1000) hC gL_isStep_X5_count ⟨Nat.le_of_ble_eq_true rfl, Nat.le_of_ble_eq_true rfl⟩ ⟨Nat.le_of_ble_eq_true rfl, Nat.le_of_ble_eq_true rfl⟩ hRel.1.T 11 ⟨by decide, by decide⟩ (show a.1.2.1 1 = 1000 from e1) (Nat.le_of_ble_eq_true rfl) dL_isStep_21 ?_
  refine z_istore (lv' := [(6, .int (iI 1000)), (5, .int (iI (a.1.1 3))), (4, .int (iI (a.1.1 2))), (3, .int (iI y_1)), (0, .ref ho), (1, .ref hp), (2, .int (iI x))]) hC dL_isStep_24 (by decide) rfl ?_
  refine z_iload_n hC dL_isStep_26 rfl 6 rfl ?_
  refine z_bipush hC dL_isStep_27 (by decide) ?_
  refine zt_up hC gL_isStep_L_up ⟨Nat.le_of_ble_eq_true rfl, Nat.le_of_ble_eq_true rfl⟩ ⟨Nat.le_of_ble_eq_true rfl, Nat.le_of_ble_eq_true rfl⟩ (by omega) (Nat.le_of_ble_eq_true rfl) dL_isStep_29 (fun u_2 hu_2 => ?_)
  rcases (show (0 ≤ u_2 ∧ u_2 ≤ 5) ∨ (6 ≤ u_2 ∧ u_2 ≤ 8) ∨ u_2 = 9 ∨ u_2 = 10 ∨ u_2 = 11 ∨ 11 < u_2 by omega) with hs | hs | hs | hs | hs | hs
  · refine z_tableIn (tgt := 96) (off := 64) hC dL_isStep_32 ⟨by omega, by omega⟩ (by omega) (by omega) (by rcases (show u_2 = 0 ∨ u_2 = 1 ∨ u_2 = 2 ∨ u_2 = 3 ∨ u_2 = 4 ∨ u_2 = 5 by omega) with z1 | z1 | z1 | z1 | z1 | z1 <;> (subst z1; rfl)) (by decide) ?_
    refine z_iload_n hC dL_isStep_96 rfl 3 rfl ?_
    refine z_iconst hC dL_isStep_97 ?_
    refine zt_up hC gL_isStep_L_up ⟨Nat.le_of_ble_eq_true rfl, Nat.le_of_ble_eq_true rfl⟩ ⟨Nat.le_of_ble_eq_true rfl, Nat.le_of_ble_eq_true rfl⟩ (by omega) (Nat.le_of_ble_eq_true rfl) dL_isStep_98 (fun u_3 hu_3 => ?_)
    refine z_istore (lv' := [(7, .int (iI u_3)), (6, .int (iI 1000)), (5, .int (iI (a.1.1 3))), (4, .int (iI (a.1.1 2))), (3, .int (iI y_1)), (0, .ref ho), (1, .ref hp), (2, .int (iI x))]) hC dL_isStep_101 (by decide) rfl ?_
    refine z_iload_n hC dL_isStep_103 rfl 4 rfl ?_
    refine z_iconst hC dL_isStep_104 ?_
    refine z_ishrA hC dL_isStep_105 (fun y_4 => ?_)
    refine z_bipush hC dL_isStep_106 (by decide) ?_
    refine zt_up hC gL_isStep_L_up ⟨Nat.le_of_ble_eq_true rfl, Nat.le_of_ble_eq_true rfl⟩ ⟨Nat.le_of_ble_eq_true rfl, Nat.le_of_ble_eq_true rfl⟩ (by omega) (Nat.le_of_ble_eq_true rfl) dL_isStep_108 (fun u_5 hu_5 => ?_)
    refine z_join (α := Int) (fun v8 => 0 ≤ v8 ∧ v8 ≤ 1) (fun v8 => wD J ho Ao hp Ap a b) (fun v8 => [(7, .int (iI u_3)), (6, .int (iI 1000)), (5, .int (iI (a.1.1 3))), (4, .int (iI (a.1.1 2))), (3, .int (iI y_1)), (0, .ref ho), (1, .ref hp), (2, .int (iI x))]) 119 (fun v8 => [.int (iI v8)]) (fun v8 hv8 => ?_) (fun K_6 => ?_)
    · change Z _ _ _ _ _ _ _ _ _ _ _ _ _ _ _ _ (wD J ho Ao hp Ap a b) ([(7, .int (iI u_3)), (6, .int (iI 1000)), (5, .int (iI (a.1.1 3))), (4, .int (iI (a.1.1 2))), (3, .int (iI y_1)), (0, .ref ho), (1, .ref hp), (2, .int (iI x))]) 119 ([.int (iI v8)])
      refine z_istore (lv' := [(8, .int (iI v8)), (7, .int (iI u_3)), (6, .int (iI 1000)), (5, .int (iI (a.1.1 3))), (4, .int (iI (a.1.1 2))), (3, .int (iI y_1)), (0, .ref ho), (1, .ref hp), (2, .int (iI x))]) hC dL_isStep_119 (by decide) rfl ?_
      refine z_iconst hC dL_isStep_121 ?_
      refine z_iload_n hC dL_isStep_122 rfl 5 rfl ?_
      refine z_iconst hC dL_isStep_123 ?_
      refine z_ishrA hC dL_isStep_124 (fun y_7 => ?_)
      refine z_iload_n hC dL_isStep_125 rfl 5 rfl ?_
      refine z_bipush hC dL_isStep_126 (by decide) ?_
      refine z_ishrA hC dL_isStep_128 (fun y_8 => ?_)
      refine z_iconst hC dL_isStep_129 ?_
      refine zt_up hC gL_isStep_L_up ⟨Nat.le_of_ble_eq_true rfl, Nat.le_of_ble_eq_true rfl⟩ ⟨Nat.le_of_ble_eq_true rfl, Nat.le_of_ble_eq_true rfl⟩ (by omega) (Nat.le_of_ble_eq_true rfl) dL_isStep_130 (fun u_9 hu_9 => ?_)
      refine z_join (α := Int) (fun v9 => v9 = 12 ∨ v9 = 2) (fun v9 => wD J ho Ao hp Ap a b) (fun v9 => [(8, .int (iI v8)), (7, .int (iI u_3)), (6, .int (iI 1000)), (5, .int (iI (a.1.1 3))), (4, .int (iI (a.1.1 2))), (3, .int (iI y_1)), (0, .ref ho), (1, .ref hp), (2, .int (iI x))]) 142 (fun v9 => [.int (iI v9), .int (iI y_7), .int (iI 1)]) (fun v9 hv9 => ?_) (fun K_10 => ?_)
      · change Z _ _ _ _ _ _ _ _ _ _ _ _ _ _ _ _ (wD J ho Ao hp Ap a b) ([(8, .int (iI v8)), (7, .int (iI u_3)), (6, .int (iI 1000)), (5, .int (iI (a.1.1 3))), (4, .int (iI (a.1.1 2))), (3, .int (iI y_1)), (0, .ref ho), (1, .ref hp), (2, .int (iI x))]) 142 ([.int (iI v9), .int (iI y_7), .int (iI 1)])
        refine zt_up hC gL_isStep_L_up ⟨Nat.le_of_ble_eq_true rfl, Nat.le_of_ble_eq_true rfl⟩ ⟨Nat.le_of_ble_eq_true rfl, Nat.le_of_ble_eq_true rfl⟩ (by omega) (Nat.le_of_ble_eq_true rfl) dL_isStep_142 (fun u_11 hu_11 => ?_)
        refine z_iadd hC dL_isStep_145 ?_
        refine z_istore (lv' := [(9, .int (iI (1 + u_11))), (8, .int (iI v8)), (7, .int (iI u_3)), (6, .int (iI 1000)), (5, .int (iI (a.1.1 3))), (4, .int (iI (a.1.1 2))), (3, .int (iI y_1)), (0, .ref ho), (1, .ref hp), (2, .int (iI x))]) hC dL_isStep_146 (by decide) rfl ?_
        refine z_aload_n hC dL_isStep_148 rfl 7 rfl ?_
        refine z_iconst hC dL_isStep_149 ?_
        refine zo_count (v := a.1.1 10) hC gL_isStep_X5_count ⟨Nat.le_of_ble_eq_true rfl, Nat.le_of_ble_eq_true rfl⟩ ⟨Nat.le_of_ble_eq_true rfl, Nat.le_of_ble_eq_true rfl⟩ hRel.1.T 5 ⟨by decide, by decide⟩ rfl (Nat.le_of_ble_eq_true rfl) dL_isStep_150 ?_
        refine z_istore (lv' := [(10, .int (iI (a.1.1 10))), (9, .int (iI (1 + u_11))), (8, .int (iI v8)), (7, .int (iI u_3)), (6, .int (iI 1000)), (5, .int (iI (a.1.1 3))), (4, .int (iI (a.1.1 2))), (3, .int (iI y_1)), (0, .ref ho), (1, .ref hp), (2, .int (iI x))]) hC dL_isStep_153 (by decide) rfl ?_
        refine z_aload_n hC dL_isStep_155 rfl 8 rfl ?_
        refine z_bipush hC dL_isStep_156 (by decide) ?_
        refine zo_count (v := a.1.1 11) hC gL_isStep_X5_count ⟨Nat.le_of_ble_eq_true rfl, Nat.le_of_ble_eq_true rfl⟩ ⟨Nat.le_of_ble_eq_true rfl, Nat.le_of_ble_eq_true rfl⟩ hRel.1.T 6 ⟨by decide, by decide⟩ rfl (Nat.le_of_ble_eq_true rfl) dL_isStep_158 ?_
        refine z_istore (lv' := [(11, .int (iI (a.1.1 11))), (10, .int (iI (a.1.1 10))), (9, .int (iI (1 + u_11))), (8, .int (iI v8)), (7, .int (iI u_3)), (6, .int (iI 1000)), (5, .int (iI (a.1.1 3))), (4, .int (iI (a.1.1 2))), (3, .int (iI y_1)), (0, .ref ho), (1, .ref hp), (2, .int (iI x))]) hC dL_isStep_161 (by decide) rfl ?_
        refine z_aload_n hC dL_isStep_163 rfl 9 rfl ?_
        refine z_iload hC dL_isStep_164 4 rfl ?_
        refine z_iload hC dL_isStep_166 3 rfl ?_
        refine z_iload hC dL_isStep_168 2 rfl ?_
        have hsq := swZ_in (x := u_3) (by omega)
        obtain ⟨g1, g2, g3, g4, g5, hR1⟩ := rel_feed (p := u_3) (i := v8) (n := 1 + u_11) hk48 hRel (by omega) (by omega) (by omega)
        generalize ht2 : cPassR b.1 (swZ u_3) v8 (1 + u_11) = t2 at g1 hR1
        generalize hE2 : cPassE b.1 (swZ u_3) v8 (1 + u_11) = E2 at hR1
        generalize ht1 : cPassR a.1 u_3 v8 (1 + u_11) = t1 at g1 g2 g3 hR1
        generalize hE1 : cPassE a.1 u_3 v8 (1 + u_11) = E1 at g2 g4 g5 hR1
        have k10 : 0 ≤ E1.1 10 ∧ 0 ≤ E1.1 11 ∧ 0 ≤ E1.1 12 ∧ E1.1 10 + E1.1 11 + E1.1 12 ≤ E1.1 2 := hR1.1.1.1.2.2.2.2.2.2.2.2.1
        have k2 : 0 ≤ E1.1 2 ∧ E1.1 2 ≤ 99999 := hR1.1.1.1.1
        refine zo_feed (v := t1) (E1 := E1) hC gL_isStep_X5_feed ⟨Nat.le_of_ble_eq_true rfl, Nat.le_of_ble_eq_true rfl⟩ ⟨Nat.le_of_ble_eq_true rfl, Nat.le_of_ble_eq_true rfl⟩ hRel.1.T u_3 v8 (1 + u_11) (by unfold inR; omega) (by unfold inR; omega) (by unfold inR; omega) ht1 hE1 (Nat.le_of_ble_eq_true rfl) dL_isStep_170 ?_
        refine z_istore (lv' := [(12, .int (iI t1)), (11, .int (iI (a.1.1 11))), (10, .int (iI (a.1.1 10))), (9, .int (iI (1 + u_11))), (8, .int (iI v8)), (7, .int (iI u_3)), (6, .int (iI 1000)), (5, .int (iI (a.1.1 3))), (4, .int (iI (a.1.1 2))), (3, .int (iI y_1)), (0, .ref ho), (1, .ref hp), (2, .int (iI x))]) hC dL_isStep_173 (by decide) rfl ?_
        refine z_iload hC dL_isStep_175 0 rfl ?_
        refine z_aload_n hC dL_isStep_177 rfl 11 rfl ?_
        refine z_iload hC dL_isStep_178 5 rfl ?_
        refine zt_there (x := swZ u_3) hC gL_isStep_L_there ⟨Nat.le_of_ble_eq_true rfl, Nat.le_of_ble_eq_true rfl⟩ ⟨Nat.le_of_ble_eq_true rfl, Nat.le_of_ble_eq_true rfl⟩ (by unfold inR; omega) rfl (Nat.le_of_ble_eq_true rfl) dL_isStep_180 ?_
        refine z_iload hC dL_isStep_183 4 rfl ?_
        refine z_iload hC dL_isStep_185 3 rfl ?_
        refine zp_feed (v := t2) (E1 := E2) hC gL_isStep_X5_feed ⟨Nat.le_of_ble_eq_true rfl, Nat.le_of_ble_eq_true rfl⟩ ⟨Nat.le_of_ble_eq_true rfl, Nat.le_of_ble_eq_true rfl⟩ hRel.2.1.T (swZ u_3) v8 (1 + u_11) (by unfold inR; omega) (by unfold inR; omega) (by unfold inR; omega) ht2 hE2 (Nat.le_of_ble_eq_true rfl) dL_isStep_187 ?_
        refine z_icmp_ne_f (tgt := 261) hC dL_isStep_190 (by decide) (by unfold inR; omega) (by unfold inR; omega) (by omega) ?_
        refine z_iload hC dL_isStep_193 0 rfl ?_
        refine z_aload_n hC dL_isStep_195 rfl 10 rfl ?_
        refine z_iconst hC dL_isStep_196 ?_
        refine zo_count (v := E1.1 10) hC gL_isStep_X5_count ⟨Nat.le_of_ble_eq_true rfl, Nat.le_of_ble_eq_true rfl⟩ ⟨Nat.le_of_ble_eq_true rfl, Nat.le_of_ble_eq_true rfl⟩ hR1.1.T 5 ⟨by decide, by decide⟩ rfl (Nat.le_of_ble_eq_true rfl) dL_isStep_197 ?_
        refine z_aload_n hC dL_isStep_200 rfl 10 rfl ?_
        refine z_bipush hC dL_isStep_201 (by decide) ?_
        refine zo_count (v := E1.1 11) hC gL_isStep_X5_count ⟨Nat.le_of_ble_eq_true rfl, Nat.le_of_ble_eq_true rfl⟩ ⟨Nat.le_of_ble_eq_true rfl, Nat.le_of_ble_eq_true rfl⟩ hR1.1.T 6 ⟨by decide, by decide⟩ rfl (Nat.le_of_ble_eq_true rfl) dL_isStep_203 ?_
        refine z_iadd hC dL_isStep_206 ?_
        refine z_iload hC dL_isStep_207 2 rfl ?_
        refine z_isub hC dL_isStep_209 ?_
        refine z_iload hC dL_isStep_210 1 rfl ?_
        refine z_isub hC dL_isStep_212 ?_
        refine z_icmp_ne_f (tgt := 261) hC dL_isStep_213 (by decide) (by unfold inR; omega) (by unfold inR; omega) (by omega) ?_
        refine z_iload hC dL_isStep_216 0 rfl ?_
        refine z_iconst hC dL_isStep_218 ?_
        refine z_icmp_gt_f (tgt := 261) hC dL_isStep_219 (by decide) (by unfold inR; omega) ⟨by decide, by decide⟩ (by omega) ?_
        refine z_aload_n hC dL_isStep_222 rfl 10 rfl ?_
        refine z_iconst hC dL_isStep_223 ?_
        refine zo_count (v := E1.1 2) hC gL_isStep_X5_count ⟨Nat.le_of_ble_eq_true rfl, Nat.le_of_ble_eq_true rfl⟩ ⟨Nat.le_of_ble_eq_true rfl, Nat.le_of_ble_eq_true rfl⟩ hR1.1.T 0 ⟨by decide, by decide⟩ rfl (Nat.le_of_ble_eq_true rfl) dL_isStep_224 ?_
        refine z_iload hC dL_isStep_227 8 rfl ?_
        refine z_iload hC dL_isStep_229 3 rfl ?_
        refine z_iadd hC dL_isStep_231 ?_
        refine z_icmp_ne_f (tgt := 261) hC dL_isStep_232 (by decide) (by unfold inR; omega) (by unfold inR; omega) (by omega) ?_
        refine z_aload_n hC dL_isStep_235 rfl 10 rfl ?_
        refine z_iconst hC dL_isStep_236 ?_
        refine z_iconst hC dL_isStep_237 ?_
        refine zo_log (v := u_3) hC gL_isStep_X5_log ⟨Nat.le_of_ble_eq_true rfl, Nat.le_of_ble_eq_true rfl⟩ ⟨Nat.le_of_ble_eq_true rfl, Nat.le_of_ble_eq_true rfl⟩ hR1.1.T 0 0 ⟨by decide, by decide⟩ ⟨by decide, by decide⟩ ((logR_of (E := E1) (w := 0) ⟨by decide, by omega⟩).1.trans g5.1) (Nat.le_of_ble_eq_true rfl) dL_isStep_238 ?_
        refine z_iload hC dL_isStep_241 5 rfl ?_
        refine z_icmp_ne_f (tgt := 261) hC dL_isStep_243 (by decide) (by unfold inR; omega) (by unfold inR; omega) (by omega) ?_
        refine z_aload_n hC dL_isStep_246 rfl 10 rfl ?_
        refine z_iconst hC dL_isStep_247 ?_
        refine z_iconst hC dL_isStep_248 ?_
        refine zo_log (v := v8) hC gL_isStep_X5_log ⟨Nat.le_of_ble_eq_true rfl, Nat.le_of_ble_eq_true rfl⟩ ⟨Nat.le_of_ble_eq_true rfl, Nat.le_of_ble_eq_true rfl⟩ hR1.1.T 0 1 ⟨by decide, by decide⟩ ⟨by decide, by decide⟩ ((logR_of (E := E1) (w := 0) ⟨by decide, by omega⟩).2.1.trans g5.2) (Nat.le_of_ble_eq_true rfl) dL_isStep_249 ?_
        refine z_iload hC dL_isStep_252 4 rfl ?_
        refine z_icmp_ne_f (tgt := 261) hC dL_isStep_254 (by decide) (by unfold inR; omega) (by unfold inR; omega) (by omega) ?_
        refine z_iconst hC dL_isStep_257 ?_
        refine z_goto (tgt := 262) hC dL_isStep_258 (by decide) ?_
        exact z_iret hC hr rfl (chS a t1 E1, chS b t2 E2) hR1 rfl rfl dL_isStep_262
      · skip
        refine z_if_ne (tgt := 141) hC dL_isStep_133 (by decide) (by unfold inR; omega) (fun c_133_12 => ?_) (fun c_133_12 => ?_)
        · refine z_iconst hC dL_isStep_141 ?_
          refine z_lv (lv' := _) [0, 1, 2, 3, 4, 5, 6, 7, 8] rfl ?_
          exact K_10 2 (by decide)
        · refine z_bipush hC dL_isStep_136 (by decide) ?_
          refine z_goto (tgt := 142) hC dL_isStep_138 (by decide) ?_
          refine z_lv (lv' := _) [0, 1, 2, 3, 4, 5, 6, 7, 8] rfl ?_
          exact K_10 12 (by decide)
    · skip
      refine z_if_ne (tgt := 118) hC dL_isStep_111 (by decide) (by unfold inR; omega) (fun c_111_13 => ?_) (fun c_111_13 => ?_)
      · refine z_iconst hC dL_isStep_118 ?_
        refine z_lv (lv' := _) [0, 1, 2, 3, 4, 5, 6, 7] rfl ?_
        exact K_6 0 ⟨by decide, by decide⟩
      · refine z_iconst hC dL_isStep_114 ?_
        refine z_goto (tgt := 119) hC dL_isStep_115 (by decide) ?_
        refine z_lv (lv' := _) [0, 1, 2, 3, 4, 5, 6, 7] rfl ?_
        exact K_6 1 ⟨by decide, by decide⟩
  · refine z_tableIn (tgt := 263) (off := 231) hC dL_isStep_32 ⟨by omega, by omega⟩ (by omega) (by omega) (by rcases (show u_2 = 6 ∨ u_2 = 7 ∨ u_2 = 8 by omega) with z1 | z1 | z1 <;> (subst z1; rfl)) (by decide) ?_
    refine z_iconst hC dL_isStep_263 ?_
    refine z_iload_n hC dL_isStep_264 rfl 3 rfl ?_
    refine z_iload_n hC dL_isStep_265 rfl 3 rfl ?_
    refine z_iconst hC dL_isStep_266 ?_
    refine z_ishrA hC dL_isStep_267 (fun y_14 => ?_)
    refine z_iconst hC dL_isStep_268 ?_
    refine zt_up hC gL_isStep_L_up ⟨Nat.le_of_ble_eq_true rfl, Nat.le_of_ble_eq_true rfl⟩ ⟨Nat.le_of_ble_eq_true rfl, Nat.le_of_ble_eq_true rfl⟩ (by omega) (Nat.le_of_ble_eq_true rfl) dL_isStep_269 (fun u_15 hu_15 => ?_)
    refine z_join (α := Int) (fun v9 => v9 = 40 ∨ v9 = 6) (fun v9 => wD J ho Ao hp Ap a b) (fun v9 => [(6, .int (iI 1000)), (5, .int (iI (a.1.1 3))), (4, .int (iI (a.1.1 2))), (3, .int (iI y_1)), (0, .ref ho), (1, .ref hp), (2, .int (iI x))]) 282 (fun v9 => [.int (iI v9), .int (iI y_1), .int (iI 1)]) (fun v9 hv9 => ?_) (fun K_16 => ?_)
    · change Z _ _ _ _ _ _ _ _ _ _ _ _ _ _ _ _ (wD J ho Ao hp Ap a b) ([(6, .int (iI 1000)), (5, .int (iI (a.1.1 3))), (4, .int (iI (a.1.1 2))), (3, .int (iI y_1)), (0, .ref ho), (1, .ref hp), (2, .int (iI x))]) 282 ([.int (iI v9), .int (iI y_1), .int (iI 1)])
      refine zt_up hC gL_isStep_L_up ⟨Nat.le_of_ble_eq_true rfl, Nat.le_of_ble_eq_true rfl⟩ ⟨Nat.le_of_ble_eq_true rfl, Nat.le_of_ble_eq_true rfl⟩ (by omega) (Nat.le_of_ble_eq_true rfl) dL_isStep_282 (fun u_17 hu_17 => ?_)
      refine z_iadd hC dL_isStep_285 ?_
      refine z_istore (lv' := [(7, .int (iI (1 + u_17))), (6, .int (iI 1000)), (5, .int (iI (a.1.1 3))), (4, .int (iI (a.1.1 2))), (3, .int (iI y_1)), (0, .ref ho), (1, .ref hp), (2, .int (iI x))]) hC dL_isStep_286 (by decide) rfl ?_
      refine z_iload_n hC dL_isStep_288 rfl 4 rfl ?_
      refine z_bipush hC dL_isStep_289 (by decide) ?_
      refine z_ishrA hC dL_isStep_291 (fun y_18 => ?_)
      refine z_iconst hC dL_isStep_292 ?_
      refine zt_up hC gL_isStep_L_up ⟨Nat.le_of_ble_eq_true rfl, Nat.le_of_ble_eq_true rfl⟩ ⟨Nat.le_of_ble_eq_true rfl, Nat.le_of_ble_eq_true rfl⟩ (by omega) (Nat.le_of_ble_eq_true rfl) dL_isStep_293 (fun u_19 hu_19 => ?_)
      refine z_if_ne (tgt := 303) hC dL_isStep_296 (by decide) (by unfold inR; omega) (fun c_296_20 => ?_) (fun c_296_20 => ?_)
      · refine z_iconst hC dL_isStep_303 ?_
        refine z_istore (lv' := [(8, .int (iI 0)), (7, .int (iI (1 + u_17))), (6, .int (iI 1000)), (5, .int (iI (a.1.1 3))), (4, .int (iI (a.1.1 2))), (3, .int (iI y_1)), (0, .ref ho), (1, .ref hp), (2, .int (iI x))]) hC dL_isStep_304 (by decide) rfl ?_
        refine z_aload_n hC dL_isStep_306 rfl 6 rfl ?_
        refine z_bipush hC dL_isStep_307 (by decide) ?_
        refine zo_count (v := a.1.2.1 2) hC gL_isStep_X5_count ⟨Nat.le_of_ble_eq_true rfl, Nat.le_of_ble_eq_true rfl⟩ ⟨Nat.le_of_ble_eq_true rfl, Nat.le_of_ble_eq_true rfl⟩ hRel.1.T 12 ⟨by decide, by decide⟩ rfl (Nat.le_of_ble_eq_true rfl) dL_isStep_309 ?_
        refine z_istore (lv' := [(9, .int (iI (a.1.2.1 2))), (8, .int (iI 0)), (7, .int (iI (1 + u_17))), (6, .int (iI 1000)), (5, .int (iI (a.1.1 3))), (4, .int (iI (a.1.1 2))), (3, .int (iI y_1)), (0, .ref ho), (1, .ref hp), (2, .int (iI x))]) hC dL_isStep_312 (by decide) rfl ?_
        refine z_aload_n hC dL_isStep_314 rfl 7 rfl ?_
        refine z_iload hC dL_isStep_315 1 rfl ?_
        refine z_if_eq_t (tgt := 326) hC dL_isStep_317 (by decide) ⟨by decide, by decide⟩ (by decide) ?_
        refine z_iload hC dL_isStep_326 2 rfl ?_
        obtain ⟨g1, g2, g3, g4, hR1⟩ := rel_turn2 (x := 1 + u_17) (y := -(1 + u_17)) (n := 1 + u_17) hk48 hRel (by omega) (by omega) (by omega)
        have hml := mul_in (a := 1 + u_17) (b := a.1.2.1 2) ⟨by omega, by omega⟩ ⟨by omega, by omega⟩
        have g4b : (cRevE a.1 (1 + u_17)).1 9 = 1 := by rw [g4]; exact if_pos (by omega)
        generalize ht2 : cRevR b.1 (-(1 + u_17)) = t2 at g2 hR1
        generalize hE2 : cRevE b.1 (-(1 + u_17)) = E2 at g2 hR1
        generalize ht1 : cRevR a.1 (1 + u_17) = t1 at g1 hR1
        generalize hE1 : cRevE a.1 (1 + u_17) = E1 at g3 g4b hR1
        have k2 : 0 ≤ E1.1 2 ∧ E1.1 2 ≤ 99999 := hR1.1.1.1.1
        have l3 : 0 ≤ E2.1 3 ∧ E2.1 3 < E2.2.1 1 := hR1.2.1.1.1.2.1
        have l1 : E2.2.1 1 = 1000 := hR1.2.1.1.2.2.2.1
        refine zo_turn (v := t1) (E1 := E1) hC gL_isStep_X5_turn ⟨Nat.le_of_ble_eq_true rfl, Nat.le_of_ble_eq_true rfl⟩ ⟨Nat.le_of_ble_eq_true rfl, Nat.le_of_ble_eq_true rfl⟩ hRel.1.T (1 + u_17) (by unfold inR; omega) ht1 hE1 (Nat.le_of_ble_eq_true rfl) dL_isStep_328 ?_
        refine z_istore (lv' := [(10, .int (iI t1)), (9, .int (iI (a.1.2.1 2))), (8, .int (iI 0)), (7, .int (iI (1 + u_17))), (6, .int (iI 1000)), (5, .int (iI (a.1.1 3))), (4, .int (iI (a.1.1 2))), (3, .int (iI y_1)), (0, .ref ho), (1, .ref hp), (2, .int (iI x))]) hC dL_isStep_331 (by decide) rfl ?_
        refine z_aload_n hC dL_isStep_333 rfl 9 rfl ?_
        refine z_iload hC dL_isStep_334 2 rfl ?_
        refine z_if_eq_t (tgt := 344) hC dL_isStep_336 (by decide) ⟨by decide, by decide⟩ (by decide) ?_
        refine z_iload hC dL_isStep_344 3 rfl ?_
        refine z_ineg hC dL_isStep_346 ?_
        refine zp_turn (v := t2) (E1 := E2) hC gL_isStep_X5_turn ⟨Nat.le_of_ble_eq_true rfl, Nat.le_of_ble_eq_true rfl⟩ ⟨Nat.le_of_ble_eq_true rfl, Nat.le_of_ble_eq_true rfl⟩ hRel.2.1.T (-(1 + u_17)) (by unfold inR; omega) ht2 hE2 (Nat.le_of_ble_eq_true rfl) dL_isStep_347 ?_
        refine z_istore (lv' := [(11, .int (iI t2)), (10, .int (iI t1)), (9, .int (iI (a.1.2.1 2))), (8, .int (iI 0)), (7, .int (iI (1 + u_17))), (6, .int (iI 1000)), (5, .int (iI (a.1.1 3))), (4, .int (iI (a.1.1 2))), (3, .int (iI y_1)), (0, .ref ho), (1, .ref hp), (2, .int (iI x))]) hC dL_isStep_350 (by decide) rfl ?_
        refine z_iload hC dL_isStep_352 3 rfl ?_
        refine z_if_eq_t (tgt := 368) hC dL_isStep_354 (by decide) ⟨by decide, by decide⟩ (by decide) ?_
        refine z_iload hC dL_isStep_368 4 rfl ?_
        refine z_iload hC dL_isStep_370 5 rfl ?_
        refine z_irem hC dL_isStep_372 (by omega) (by omega) (by omega) (by omega) ?_
        refine z_istore (lv' := [(12, .int (iI ((1 + u_17) % 1000))), (11, .int (iI t2)), (10, .int (iI t1)), (9, .int (iI (a.1.2.1 2))), (8, .int (iI 0)), (7, .int (iI (1 + u_17))), (6, .int (iI 1000)), (5, .int (iI (a.1.1 3))), (4, .int (iI (a.1.1 2))), (3, .int (iI y_1)), (0, .ref ho), (1, .ref hp), (2, .int (iI x))]) hC dL_isStep_373 (by decide) rfl ?_
        refine z_iload hC dL_isStep_375 2 rfl ?_
        refine z_iload hC dL_isStep_377 7 rfl ?_
        refine z_iload hC dL_isStep_379 0 rfl ?_
        refine z_iadd hC dL_isStep_381 ?_
        refine z_iload hC dL_isStep_382 6 rfl ?_
        refine z_irem hC dL_isStep_384 (by omega) (by omega) (by omega) (by omega) ?_
        refine z_icmp_ne_f (tgt := 436) hC dL_isStep_385 (by decide) (by unfold inR; omega) (by unfold inR; omega) (by omega) ?_
        refine z_iload hC dL_isStep_388 1 rfl ?_
        refine z_aload_n hC dL_isStep_390 rfl 11 rfl ?_
        refine z_iconst hC dL_isStep_391 ?_
        refine zp_count (v := E2.1 3) hC gL_isStep_X5_count ⟨Nat.le_of_ble_eq_true rfl, Nat.le_of_ble_eq_true rfl⟩ ⟨Nat.le_of_ble_eq_true rfl, Nat.le_of_ble_eq_true rfl⟩ hR1.2.1.T 1 ⟨by decide, by decide⟩ rfl (Nat.le_of_ble_eq_true rfl) dL_isStep_392 ?_
        refine z_icmp_ne_f (tgt := 436) hC dL_isStep_395 (by decide) (by unfold inR; omega) (by unfold inR; omega) (by omega) ?_
        refine z_aload_n hC dL_isStep_398 rfl 10 rfl ?_
        refine z_iconst hC dL_isStep_399 ?_
        refine zo_count (v := E1.1 2) hC gL_isStep_X5_count ⟨Nat.le_of_ble_eq_true rfl, Nat.le_of_ble_eq_true rfl⟩ ⟨Nat.le_of_ble_eq_true rfl, Nat.le_of_ble_eq_true rfl⟩ hR1.1.T 0 ⟨by decide, by decide⟩ rfl (Nat.le_of_ble_eq_true rfl) dL_isStep_400 ?_
        refine z_iload hC dL_isStep_403 8 rfl ?_
        refine z_iload hC dL_isStep_405 5 rfl ?_
        refine z_iload hC dL_isStep_407 3 rfl ?_
        refine z_imul hC dL_isStep_409 ?_
        refine z_iadd hC dL_isStep_410 ?_
        refine z_icmp_ne_f (tgt := 436) hC dL_isStep_411 (by decide) (by unfold inR; omega) (by unfold inR; omega) (by omega) ?_
        refine z_aload_n hC dL_isStep_414 rfl 10 rfl ?_
        refine z_iconst hC dL_isStep_415 ?_
        refine zo_count (v := E1.1 9) hC gL_isStep_X5_count ⟨Nat.le_of_ble_eq_true rfl, Nat.le_of_ble_eq_true rfl⟩ ⟨Nat.le_of_ble_eq_true rfl, Nat.le_of_ble_eq_true rfl⟩ hR1.1.T 4 ⟨by decide, by decide⟩ rfl (Nat.le_of_ble_eq_true rfl) dL_isStep_416 ?_
        refine z_iload hC dL_isStep_419 4 rfl ?_
        refine z_if_eq_t (tgt := 428) hC dL_isStep_421 (by decide) ⟨by decide, by decide⟩ (by decide) ?_
        refine z_iconst hC dL_isStep_428 ?_
        refine z_icmp_ne_f (tgt := 436) hC dL_isStep_429 (by decide) (by unfold inR; omega) ⟨by decide, by decide⟩ (by omega) ?_
        refine z_iconst hC dL_isStep_432 ?_
        refine z_goto (tgt := 437) hC dL_isStep_433 (by decide) ?_
        exact z_iret hC hr rfl (chS a t1 E1, chS b t2 E2) hR1 rfl rfl dL_isStep_437
      · refine z_iconst hC dL_isStep_299 ?_
        refine z_goto (tgt := 304) hC dL_isStep_300 (by decide) ?_
        refine z_istore (lv' := [(8, .int (iI 1)), (7, .int (iI (1 + u_17))), (6, .int (iI 1000)), (5, .int (iI (a.1.1 3))), (4, .int (iI (a.1.1 2))), (3, .int (iI y_1)), (0, .ref ho), (1, .ref hp), (2, .int (iI x))]) hC dL_isStep_304 (by decide) rfl ?_
        refine z_aload_n hC dL_isStep_306 rfl 6 rfl ?_
        refine z_bipush hC dL_isStep_307 (by decide) ?_
        refine zo_count (v := a.1.2.1 2) hC gL_isStep_X5_count ⟨Nat.le_of_ble_eq_true rfl, Nat.le_of_ble_eq_true rfl⟩ ⟨Nat.le_of_ble_eq_true rfl, Nat.le_of_ble_eq_true rfl⟩ hRel.1.T 12 ⟨by decide, by decide⟩ rfl (Nat.le_of_ble_eq_true rfl) dL_isStep_309 ?_
        refine z_istore (lv' := [(9, .int (iI (a.1.2.1 2))), (8, .int (iI 1)), (7, .int (iI (1 + u_17))), (6, .int (iI 1000)), (5, .int (iI (a.1.1 3))), (4, .int (iI (a.1.1 2))), (3, .int (iI y_1)), (0, .ref ho), (1, .ref hp), (2, .int (iI x))]) hC dL_isStep_312 (by decide) rfl ?_
        refine z_aload_n hC dL_isStep_314 rfl 7 rfl ?_
        refine z_iload hC dL_isStep_315 1 rfl ?_
        refine z_if_eq_f (tgt := 326) hC dL_isStep_317 (by decide) ⟨by decide, by decide⟩ (by decide) ?_
        refine z_iload hC dL_isStep_320 2 rfl ?_
        refine z_ineg hC dL_isStep_322 ?_
        refine z_goto (tgt := 328) hC dL_isStep_323 (by decide) ?_
        obtain ⟨g1, g2, g3, g4, hR1⟩ := rel_turn2 (x := -(1 + u_17)) (y := 1 + u_17) (n := 1 + u_17) hk48 hRel (by omega) (by omega) (by omega)
        have hml := mul_in (a := 1 + u_17) (b := a.1.2.1 2) ⟨by omega, by omega⟩ ⟨by omega, by omega⟩
        have g4b : (cRevE a.1 (-(1 + u_17))).1 9 = 2 := by rw [g4]; exact if_neg (by omega)
        generalize ht2 : cRevR b.1 (1 + u_17) = t2 at g2 hR1
        generalize hE2 : cRevE b.1 (1 + u_17) = E2 at g2 hR1
        generalize ht1 : cRevR a.1 (-(1 + u_17)) = t1 at g1 hR1
        generalize hE1 : cRevE a.1 (-(1 + u_17)) = E1 at g3 g4b hR1
        have k2 : 0 ≤ E1.1 2 ∧ E1.1 2 ≤ 99999 := hR1.1.1.1.1
        have l3 : 0 ≤ E2.1 3 ∧ E2.1 3 < E2.2.1 1 := hR1.2.1.1.1.2.1
        have l1 : E2.2.1 1 = 1000 := hR1.2.1.1.2.2.2.1
        refine zo_turn (v := t1) (E1 := E1) hC gL_isStep_X5_turn ⟨Nat.le_of_ble_eq_true rfl, Nat.le_of_ble_eq_true rfl⟩ ⟨Nat.le_of_ble_eq_true rfl, Nat.le_of_ble_eq_true rfl⟩ hRel.1.T (-(1 + u_17)) (by unfold inR; omega) ht1 hE1 (Nat.le_of_ble_eq_true rfl) dL_isStep_328 ?_
        refine z_istore (lv' := [(10, .int (iI t1)), (9, .int (iI (a.1.2.1 2))), (8, .int (iI 1)), (7, .int (iI (1 + u_17))), (6, .int (iI 1000)), (5, .int (iI (a.1.1 3))), (4, .int (iI (a.1.1 2))), (3, .int (iI y_1)), (0, .ref ho), (1, .ref hp), (2, .int (iI x))]) hC dL_isStep_331 (by decide) rfl ?_
        refine z_aload_n hC dL_isStep_333 rfl 9 rfl ?_
        refine z_iload hC dL_isStep_334 2 rfl ?_
        refine z_if_eq_f (tgt := 344) hC dL_isStep_336 (by decide) ⟨by decide, by decide⟩ (by decide) ?_
        refine z_iload hC dL_isStep_339 3 rfl ?_
        refine z_goto (tgt := 347) hC dL_isStep_341 (by decide) ?_
        refine zp_turn (v := t2) (E1 := E2) hC gL_isStep_X5_turn ⟨Nat.le_of_ble_eq_true rfl, Nat.le_of_ble_eq_true rfl⟩ ⟨Nat.le_of_ble_eq_true rfl, Nat.le_of_ble_eq_true rfl⟩ hRel.2.1.T (1 + u_17) (by unfold inR; omega) ht2 hE2 (Nat.le_of_ble_eq_true rfl) dL_isStep_347 ?_
        refine z_istore (lv' := [(11, .int (iI t2)), (10, .int (iI t1)), (9, .int (iI (a.1.2.1 2))), (8, .int (iI 1)), (7, .int (iI (1 + u_17))), (6, .int (iI 1000)), (5, .int (iI (a.1.1 3))), (4, .int (iI (a.1.1 2))), (3, .int (iI y_1)), (0, .ref ho), (1, .ref hp), (2, .int (iI x))]) hC dL_isStep_350 (by decide) rfl ?_
        refine z_iload hC dL_isStep_352 3 rfl ?_
        refine z_if_eq_f (tgt := 368) hC dL_isStep_354 (by decide) ⟨by decide, by decide⟩ (by decide) ?_
        refine z_iload hC dL_isStep_357 5 rfl ?_
        refine z_iload hC dL_isStep_359 4 rfl ?_
        refine z_iload hC dL_isStep_361 5 rfl ?_
        refine z_irem hC dL_isStep_363 (by omega) (by omega) (by omega) (by omega) ?_
        refine z_isub hC dL_isStep_364 ?_
        refine z_goto (tgt := 373) hC dL_isStep_365 (by decide) ?_
        refine z_istore (lv' := [(12, .int (iI (1000 - ((1 + u_17) % 1000)))), (11, .int (iI t2)), (10, .int (iI t1)), (9, .int (iI (a.1.2.1 2))), (8, .int (iI 1)), (7, .int (iI (1 + u_17))), (6, .int (iI 1000)), (5, .int (iI (a.1.1 3))), (4, .int (iI (a.1.1 2))), (3, .int (iI y_1)), (0, .ref ho), (1, .ref hp), (2, .int (iI x))]) hC dL_isStep_373 (by decide) rfl ?_
        refine z_iload hC dL_isStep_375 2 rfl ?_
        refine z_iload hC dL_isStep_377 7 rfl ?_
        refine z_iload hC dL_isStep_379 0 rfl ?_
        refine z_iadd hC dL_isStep_381 ?_
        refine z_iload hC dL_isStep_382 6 rfl ?_
        refine z_irem hC dL_isStep_384 (by omega) (by omega) (by omega) (by omega) ?_
        refine z_icmp_ne_f (tgt := 436) hC dL_isStep_385 (by decide) (by unfold inR; omega) (by unfold inR; omega) (by omega) ?_
        refine z_iload hC dL_isStep_388 1 rfl ?_
        refine z_aload_n hC dL_isStep_390 rfl 11 rfl ?_
        refine z_iconst hC dL_isStep_391 ?_
        refine zp_count (v := E2.1 3) hC gL_isStep_X5_count ⟨Nat.le_of_ble_eq_true rfl, Nat.le_of_ble_eq_true rfl⟩ ⟨Nat.le_of_ble_eq_true rfl, Nat.le_of_ble_eq_true rfl⟩ hR1.2.1.T 1 ⟨by decide, by decide⟩ rfl (Nat.le_of_ble_eq_true rfl) dL_isStep_392 ?_
        refine z_icmp_ne_f (tgt := 436) hC dL_isStep_395 (by decide) (by unfold inR; omega) (by unfold inR; omega) (by omega) ?_
        refine z_aload_n hC dL_isStep_398 rfl 10 rfl ?_
        refine z_iconst hC dL_isStep_399 ?_
        refine zo_count (v := E1.1 2) hC gL_isStep_X5_count ⟨Nat.le_of_ble_eq_true rfl, Nat.le_of_ble_eq_true rfl⟩ ⟨Nat.le_of_ble_eq_true rfl, Nat.le_of_ble_eq_true rfl⟩ hR1.1.T 0 ⟨by decide, by decide⟩ rfl (Nat.le_of_ble_eq_true rfl) dL_isStep_400 ?_
        refine z_iload hC dL_isStep_403 8 rfl ?_
        refine z_iload hC dL_isStep_405 5 rfl ?_
        refine z_iload hC dL_isStep_407 3 rfl ?_
        refine z_imul hC dL_isStep_409 ?_
        refine z_iadd hC dL_isStep_410 ?_
        refine z_icmp_ne_f (tgt := 436) hC dL_isStep_411 (by decide) (by unfold inR; omega) (by unfold inR; omega) (by omega) ?_
        refine z_aload_n hC dL_isStep_414 rfl 10 rfl ?_
        refine z_iconst hC dL_isStep_415 ?_
        refine zo_count (v := E1.1 9) hC gL_isStep_X5_count ⟨Nat.le_of_ble_eq_true rfl, Nat.le_of_ble_eq_true rfl⟩ ⟨Nat.le_of_ble_eq_true rfl, Nat.le_of_ble_eq_true rfl⟩ hR1.1.T 4 ⟨by decide, by decide⟩ rfl (Nat.le_of_ble_eq_true rfl) dL_isStep_416 ?_
        refine z_iload hC dL_isStep_419 4 rfl ?_
        refine z_if_eq_f (tgt := 428) hC dL_isStep_421 (by decide) ⟨by decide, by decide⟩ (by decide) ?_
        refine z_iconst hC dL_isStep_424 ?_
        refine z_goto (tgt := 429) hC dL_isStep_425 (by decide) ?_
        refine z_icmp_ne_f (tgt := 436) hC dL_isStep_429 (by decide) (by unfold inR; omega) ⟨by decide, by decide⟩ (by omega) ?_
        refine z_iconst hC dL_isStep_432 ?_
        refine z_goto (tgt := 437) hC dL_isStep_433 (by decide) ?_
        exact z_iret hC hr rfl (chS a t1 E1, chS b t2 E2) hR1 rfl rfl dL_isStep_437
    · skip
      refine z_if_ne (tgt := 280) hC dL_isStep_272 (by decide) (by unfold inR; omega) (fun c_272_21 => ?_) (fun c_272_21 => ?_)
      · refine z_bipush hC dL_isStep_280 (by decide) ?_
        refine z_lv (lv' := _) [0, 1, 2, 3, 4, 5, 6] rfl ?_
        exact K_16 6 (by decide)
      · refine z_bipush hC dL_isStep_275 (by decide) ?_
        refine z_goto (tgt := 282) hC dL_isStep_277 (by decide) ?_
        refine z_lv (lv' := _) [0, 1, 2, 3, 4, 5, 6] rfl ?_
        exact K_16 40 (by decide)
  · refine z_tableIn (tgt := 438) (off := 406) hC dL_isStep_32 ⟨by omega, by omega⟩ (by omega) (by omega) (by rcases (show u_2 = 9 by omega) with z1 <;> (subst z1; rfl)) (by decide) ?_
    refine z_iload_n hC dL_isStep_438 rfl 3 rfl ?_
    refine z_iconst hC dL_isStep_439 ?_
    refine zt_up hC gL_isStep_L_up ⟨Nat.le_of_ble_eq_true rfl, Nat.le_of_ble_eq_true rfl⟩ ⟨Nat.le_of_ble_eq_true rfl, Nat.le_of_ble_eq_true rfl⟩ (by omega) (Nat.le_of_ble_eq_true rfl) dL_isStep_440 (fun u_22 hu_22 => ?_)
    refine z_if_gt (tgt := 478) hC dL_isStep_443 (by decide) (by unfold inR; omega) (fun c_443_23 => ?_) (fun c_443_23 => ?_)
    · refine z_iconst hC dL_isStep_478 ?_
      refine z_goto (tgt := 483) hC dL_isStep_479 (by decide) ?_
      exact z_iret hC hr rfl (a, b) hRel.up rfl rfl dL_isStep_483
    · refine z_aload_n hC dL_isStep_446 rfl 4 rfl ?_
      have hR1 := rel_zero hRel
      refine zo_zero (v := a.1.1 3) (E1 := cClear a.1) hC gL_isStep_X5_zero ⟨Nat.le_of_ble_eq_true rfl, Nat.le_of_ble_eq_true rfl⟩ ⟨Nat.le_of_ble_eq_true rfl, Nat.le_of_ble_eq_true rfl⟩ hRel.1.T rfl rfl (Nat.le_of_ble_eq_true rfl) dL_isStep_447 ?_
      refine z_iload hC dL_isStep_450 1 rfl ?_
      refine z_icmp_ne_f (tgt := 482) hC dL_isStep_452 (by decide) (by unfold inR; omega) (by unfold inR; omega) (by omega) ?_
      refine z_aload_n hC dL_isStep_455 rfl 5 rfl ?_
      refine zp_zero (v := b.1.1 3) (E1 := cClear b.1) hC gL_isStep_X5_zero ⟨Nat.le_of_ble_eq_true rfl, Nat.le_of_ble_eq_true rfl⟩ ⟨Nat.le_of_ble_eq_true rfl, Nat.le_of_ble_eq_true rfl⟩ hRel.2.1.T rfl rfl (Nat.le_of_ble_eq_true rfl) dL_isStep_456 ?_
      refine z_if_lt_f (tgt := 482) hC dL_isStep_459 (by decide) (by unfold inR; omega) (by omega) ?_
      refine z_aload_n hC dL_isStep_462 rfl 4 rfl ?_
      refine z_iconst hC dL_isStep_463 ?_
      refine zo_count (v := 0) hC gL_isStep_X5_count ⟨Nat.le_of_ble_eq_true rfl, Nat.le_of_ble_eq_true rfl⟩ ⟨Nat.le_of_ble_eq_true rfl, Nat.le_of_ble_eq_true rfl⟩ hR1.1.T 1 ⟨by decide, by decide⟩ rfl (Nat.le_of_ble_eq_true rfl) dL_isStep_464 ?_
      refine z_if_ne_f (tgt := 482) hC dL_isStep_467 (by decide) ⟨by decide, by decide⟩ (by decide) ?_
      refine z_aload_n hC dL_isStep_470 rfl 4 rfl ?_
      refine z_iconst hC dL_isStep_471 ?_
      refine zo_count (v := 0) hC gL_isStep_X5_count ⟨Nat.le_of_ble_eq_true rfl, Nat.le_of_ble_eq_true rfl⟩ ⟨Nat.le_of_ble_eq_true rfl, Nat.le_of_ble_eq_true rfl⟩ hR1.1.T 2 ⟨by decide, by decide⟩ rfl (Nat.le_of_ble_eq_true rfl) dL_isStep_472 ?_
      refine z_if_ne_f (tgt := 482) hC dL_isStep_475 (by decide) ⟨by decide, by decide⟩ (by decide) ?_
      refine z_iconst hC dL_isStep_478 ?_
      refine z_goto (tgt := 483) hC dL_isStep_479 (by decide) ?_
      exact z_iret hC hr rfl (chS a (a.1.1 3) (cClear a.1), chS b (b.1.1 3) (cClear b.1)) hR1 rfl rfl dL_isStep_483
  · refine z_tableIn (tgt := 484) (off := 452) hC dL_isStep_32 ⟨by omega, by omega⟩ (by omega) (by omega) (by rcases (show u_2 = 10 by omega) with z1 <;> (subst z1; rfl)) (by decide) ?_
    refine z_aload_n hC dL_isStep_484 rfl 4 rfl ?_
    refine z_bipush hC dL_isStep_485 (by decide) ?_
    refine zo_count (v := a.2.2.1 2) hC gL_isStep_X5_count ⟨Nat.le_of_ble_eq_true rfl, Nat.le_of_ble_eq_true rfl⟩ ⟨Nat.le_of_ble_eq_true rfl, Nat.le_of_ble_eq_true rfl⟩ hRel.1.T 16 ⟨by decide, by decide⟩ rfl (Nat.le_of_ble_eq_true rfl) dL_isStep_487 ?_
    refine z_if_eq (tgt := 504) hC dL_isStep_490 (by decide) (by unfold inR; omega) (fun c_490_24 => ?_) (fun c_490_24 => ?_)
    · refine z_iconst hC dL_isStep_504 ?_
      refine z_goto (tgt := 509) hC dL_isStep_505 (by decide) ?_
      exact z_iret hC hr rfl (a, b) hRel.up rfl rfl dL_isStep_509
    · refine z_aload_n hC dL_isStep_493 rfl 4 rfl ?_
      have hR1 := (rel_un hRel (by omega)).up
      refine zo_undo (v := a.2.2.1 2 - 1) hC gL_isStep_X5_undo ⟨Nat.le_of_ble_eq_true rfl, Nat.le_of_ble_eq_true rfl⟩ ⟨Nat.le_of_ble_eq_true rfl, Nat.le_of_ble_eq_true rfl⟩ hRel.1.T (by unfold hBackR; exact if_neg (by omega)) (Nat.le_of_ble_eq_true rfl) dL_isStep_494 ?_
      refine z_aload_n hC dL_isStep_497 rfl 5 rfl ?_
      refine zp_undo (v := a.2.2.1 2 - 1) hC gL_isStep_X5_undo ⟨Nat.le_of_ble_eq_true rfl, Nat.le_of_ble_eq_true rfl⟩ ⟨Nat.le_of_ble_eq_true rfl, Nat.le_of_ble_eq_true rfl⟩ hRel.2.1.T (by rw [hRel.2.2.2.2.1]; unfold hBackR; exact if_neg (by omega)) (Nat.le_of_ble_eq_true rfl) dL_isStep_498 ?_
      refine z_icmp_ne_f (tgt := 508) hC dL_isStep_501 (by decide) (by unfold inR; omega) (by unfold inR; omega) (by omega) ?_
      refine z_iconst hC dL_isStep_504 ?_
      refine z_goto (tgt := 509) hC dL_isStep_505 (by decide) ?_
      exact z_iret hC hr rfl (unS a, unS b) hR1 rfl rfl dL_isStep_509
  · refine z_tableIn (tgt := 510) (off := 478) hC dL_isStep_32 ⟨by omega, by omega⟩ (by omega) (by omega) (by rcases (show u_2 = 11 by omega) with z1 <;> (subst z1; rfl)) (by decide) ?_
    refine z_iconst hC dL_isStep_510 ?_
    refine z_iload_n hC dL_isStep_511 rfl 3 rfl ?_
    refine z_iconst hC dL_isStep_512 ?_
    refine zt_up hC gL_isStep_L_up ⟨Nat.le_of_ble_eq_true rfl, Nat.le_of_ble_eq_true rfl⟩ ⟨Nat.le_of_ble_eq_true rfl, Nat.le_of_ble_eq_true rfl⟩ (by omega) (Nat.le_of_ble_eq_true rfl) dL_isStep_513 (fun u_25 hu_25 => ?_)
    refine z_iadd hC dL_isStep_516 ?_
    refine z_istore (lv' := [(7, .int (iI (2 + u_25))), (6, .int (iI 1000)), (5, .int (iI (a.1.1 3))), (4, .int (iI (a.1.1 2))), (3, .int (iI y_1)), (0, .ref ho), (1, .ref hp), (2, .int (iI x))]) hC dL_isStep_517 (by decide) rfl ?_
    refine z_iload hC dL_isStep_519 0 rfl ?_
    refine z_iconst hC dL_isStep_521 ?_
    refine z_join (α := Int) (fun v8 => (u_25 = 0 ∧ 1 ≤ v8 ∧ v8 ≤ 5) ∨ (u_25 = 1 ∧ 1 ≤ v8 ∧ v8 ≤ 99)) (fun v8 => wD J ho Ao hp Ap a b) (fun v8 => [(7, .int (iI (2 + u_25))), (6, .int (iI 1000)), (5, .int (iI (a.1.1 3))), (4, .int (iI (a.1.1 2))), (3, .int (iI y_1)), (0, .ref ho), (1, .ref hp), (2, .int (iI x))]) 547 (fun v8 => [.int (iI v8)]) (fun v8 hv8 => ?_) (fun K_26 => ?_)
    · change Z _ _ _ _ _ _ _ _ _ _ _ _ _ _ _ _ (wD J ho Ao hp Ap a b) ([(7, .int (iI (2 + u_25))), (6, .int (iI 1000)), (5, .int (iI (a.1.1 3))), (4, .int (iI (a.1.1 2))), (3, .int (iI y_1)), (0, .ref ho), (1, .ref hp), (2, .int (iI x))]) 547 ([.int (iI v8)])
      refine z_istore (lv' := [(8, .int (iI v8)), (7, .int (iI (2 + u_25))), (6, .int (iI 1000)), (5, .int (iI (a.1.1 3))), (4, .int (iI (a.1.1 2))), (3, .int (iI y_1)), (0, .ref ho), (1, .ref hp), (2, .int (iI x))]) hC dL_isStep_547 (by decide) rfl ?_
      refine z_aload_n hC dL_isStep_549 rfl 6 rfl ?_
      refine z_iload hC dL_isStep_550 1 rfl ?_
      refine z_iload hC dL_isStep_552 0 rfl ?_
      obtain ⟨g1, g2, g3, hR1⟩ := rel_set (x := 2 + u_25) (y := v8) hRel (by omega)
      generalize ht2 : cAdjR b.1 (2 + u_25) v8 = t2 at g1 hR1
      generalize hE2 : cAdjE b.1 (2 + u_25) v8 = E2 at hR1
      generalize ht1 : cAdjR a.1 (2 + u_25) v8 = t1 at g1 g2 hR1
      generalize hE1 : cAdjE a.1 (2 + u_25) v8 = E1 at g3 hR1
      refine zo_set (v := t1) (E1 := E1) hC gL_isStep_X5_set ⟨Nat.le_of_ble_eq_true rfl, Nat.le_of_ble_eq_true rfl⟩ ⟨Nat.le_of_ble_eq_true rfl, Nat.le_of_ble_eq_true rfl⟩ hRel.1.T (2 + u_25) v8 (by unfold inR; omega) (by unfold inR; omega) ht1 hE1 (Nat.le_of_ble_eq_true rfl) dL_isStep_554 ?_
      refine z_aload_n hC dL_isStep_557 rfl 7 rfl ?_
      refine z_iload hC dL_isStep_558 1 rfl ?_
      refine z_iload hC dL_isStep_560 0 rfl ?_
      refine zp_set (v := t2) (E1 := E2) hC gL_isStep_X5_set ⟨Nat.le_of_ble_eq_true rfl, Nat.le_of_ble_eq_true rfl⟩ ⟨Nat.le_of_ble_eq_true rfl, Nat.le_of_ble_eq_true rfl⟩ hRel.2.1.T (2 + u_25) v8 (by unfold inR; omega) (by unfold inR; omega) ht2 hE2 (Nat.le_of_ble_eq_true rfl) dL_isStep_562 ?_
      refine z_icmp_ne_f (tgt := 586) hC dL_isStep_565 (by decide) (by unfold inR; omega) (by unfold inR; omega) (by omega) ?_
      refine z_aload_n hC dL_isStep_568 rfl 6 rfl ?_
      refine z_bipush hC dL_isStep_569 (by decide) ?_
      refine z_iload hC dL_isStep_571 1 rfl ?_
      refine z_iadd hC dL_isStep_573 ?_
      refine zo_count (v := v8) hC gL_isStep_X5_count ⟨Nat.le_of_ble_eq_true rfl, Nat.le_of_ble_eq_true rfl⟩ ⟨Nat.le_of_ble_eq_true rfl, Nat.le_of_ble_eq_true rfl⟩ hR1.1.T (10 + (2 + u_25)) (by unfold inR; omega) (by rcases (show u_25 = 0 ∨ u_25 = 1 by omega) with z | z <;> (subst z; exact g3)) (Nat.le_of_ble_eq_true rfl) dL_isStep_574 ?_
      refine z_iload hC dL_isStep_577 0 rfl ?_
      refine z_icmp_ne_f (tgt := 586) hC dL_isStep_579 (by decide) (by unfold inR; omega) (by unfold inR; omega) (by omega) ?_
      refine z_iconst hC dL_isStep_582 ?_
      refine z_goto (tgt := 587) hC dL_isStep_583 (by decide) ?_
      exact z_iret hC hr rfl (chS a t1 E1, chS b t2 E2) hR1 rfl rfl dL_isStep_587
    · skip
      refine z_icmp_ne (tgt := 537) hC dL_isStep_522 (by decide) (by unfold inR; omega) ⟨by decide, by decide⟩ (fun c_522_27 => ?_) (fun c_522_27 => ?_)
      · refine z_iconst hC dL_isStep_537 ?_
        refine z_iload_n hC dL_isStep_538 rfl 4 rfl ?_
        refine z_iconst hC dL_isStep_539 ?_
        refine z_ishrA hC dL_isStep_540 (fun y_28 => ?_)
        refine z_bipush hC dL_isStep_541 (by decide) ?_
        refine zt_up hC gL_isStep_L_up ⟨Nat.le_of_ble_eq_true rfl, Nat.le_of_ble_eq_true rfl⟩ ⟨Nat.le_of_ble_eq_true rfl, Nat.le_of_ble_eq_true rfl⟩ (by omega) (Nat.le_of_ble_eq_true rfl) dL_isStep_543 (fun u_29 hu_29 => ?_)
        refine z_iadd hC dL_isStep_546 ?_
        refine z_lv (lv' := _) [0, 1, 2, 3, 4, 5, 6, 7] rfl ?_
        exact K_26 (1 + u_29) (by omega)
      · refine z_iconst hC dL_isStep_525 ?_
        refine z_iload_n hC dL_isStep_526 rfl 4 rfl ?_
        refine z_iconst hC dL_isStep_527 ?_
        refine z_ishrA hC dL_isStep_528 (fun y_30 => ?_)
        refine z_iconst hC dL_isStep_529 ?_
        refine zt_up hC gL_isStep_L_up ⟨Nat.le_of_ble_eq_true rfl, Nat.le_of_ble_eq_true rfl⟩ ⟨Nat.le_of_ble_eq_true rfl, Nat.le_of_ble_eq_true rfl⟩ (by omega) (Nat.le_of_ble_eq_true rfl) dL_isStep_530 (fun u_31 hu_31 => ?_)
        refine z_iadd hC dL_isStep_533 ?_
        refine z_goto (tgt := 547) hC dL_isStep_534 (by decide) ?_
        refine z_lv (lv' := _) [0, 1, 2, 3, 4, 5, 6, 7] rfl ?_
        exact K_26 (1 + u_31) (by omega)
  · refine z_tableOut (tgt := 588) hC dL_isStep_32 ⟨by omega, by omega⟩ (Or.inr hs) (by decide) ?_
    refine z_iload_n hC dL_isStep_588 rfl 3 rfl ?_
    refine z_iconst hC dL_isStep_589 ?_
    refine zt_up hC gL_isStep_L_up ⟨Nat.le_of_ble_eq_true rfl, Nat.le_of_ble_eq_true rfl⟩ ⟨Nat.le_of_ble_eq_true rfl, Nat.le_of_ble_eq_true rfl⟩ (by omega) (Nat.le_of_ble_eq_true rfl) dL_isStep_590 (fun u_32 hu_32 => ?_)
    refine z_istore (lv' := [(7, .int (iI u_32)), (6, .int (iI 1000)), (5, .int (iI (a.1.1 3))), (4, .int (iI (a.1.1 2))), (3, .int (iI y_1)), (0, .ref ho), (1, .ref hp), (2, .int (iI x))]) hC dL_isStep_593 (by decide) rfl ?_
    refine z_aload_n hC dL_isStep_595 rfl 5 rfl ?_
    refine z_iconst hC dL_isStep_596 ?_
    refine z_iload hC dL_isStep_597 0 rfl ?_
    obtain ⟨g1, g2, g3, hR1⟩ := rel_set (x := 4) (y := u_32) hRel (by omega)
    generalize ht2 : cAdjR b.1 4 u_32 = t2 at g1 hR1
    generalize hE2 : cAdjE b.1 4 u_32 = E2 at hR1
    generalize ht1 : cAdjR a.1 4 u_32 = t1 at g1 g2 hR1
    generalize hE1 : cAdjE a.1 4 u_32 = E1 at g3 hR1
    refine zo_set (v := t1) (E1 := E1) hC gL_isStep_X5_set ⟨Nat.le_of_ble_eq_true rfl, Nat.le_of_ble_eq_true rfl⟩ ⟨Nat.le_of_ble_eq_true rfl, Nat.le_of_ble_eq_true rfl⟩ hRel.1.T 4 u_32 ⟨by decide, by decide⟩ (by unfold inR; omega) ht1 hE1 (Nat.le_of_ble_eq_true rfl) dL_isStep_599 ?_
    refine z_aload_n hC dL_isStep_602 rfl 6 rfl ?_
    refine z_iconst hC dL_isStep_603 ?_
    refine z_iload hC dL_isStep_604 0 rfl ?_
    refine zp_set (v := t2) (E1 := E2) hC gL_isStep_X5_set ⟨Nat.le_of_ble_eq_true rfl, Nat.le_of_ble_eq_true rfl⟩ ⟨Nat.le_of_ble_eq_true rfl, Nat.le_of_ble_eq_true rfl⟩ hRel.2.1.T 4 u_32 ⟨by decide, by decide⟩ (by unfold inR; omega) ht2 hE2 (Nat.le_of_ble_eq_true rfl) dL_isStep_606 ?_
    refine z_icmp_ne_f (tgt := 628) hC dL_isStep_609 (by decide) (by unfold inR; omega) (by unfold inR; omega) (by omega) ?_
    refine z_aload_n hC dL_isStep_612 rfl 5 rfl ?_
    refine z_iconst hC dL_isStep_613 ?_
    refine z_bipush hC dL_isStep_614 (by decide) ?_
    refine zo_set (v := (-2)) (E1 := E1) hC gL_isStep_X5_set ⟨Nat.le_of_ble_eq_true rfl, Nat.le_of_ble_eq_true rfl⟩ ⟨Nat.le_of_ble_eq_true rfl, Nat.le_of_ble_eq_true rfl⟩ hR1.1.T 0 7 ⟨by decide, by decide⟩ ⟨by decide, by decide⟩ rfl rfl (Nat.le_of_ble_eq_true rfl) dL_isStep_616 ?_
    refine z_bipush hC dL_isStep_619 (by decide) ?_
    refine z_icmp_ne_f (tgt := 628) hC dL_isStep_621 (by decide) ⟨by decide, by decide⟩ ⟨by decide, by decide⟩ (by decide) ?_
    refine z_iconst hC dL_isStep_624 ?_
    refine z_goto (tgt := 629) hC dL_isStep_625 (by decide) ?_
    exact z_iret hC hr rfl (chS (chS a t1 E1) (-2) E1, chS b t2 E2) (rel_err hR1 (by decide)) rfl rfl dL_isStep_629
