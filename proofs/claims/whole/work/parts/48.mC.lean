set_option maxRecDepth 20000 in
theorem iX6_ticks_X6 : ∀ w ∈ u_ws RX6 TX6 13, w ∈ wsX6_ticks := zm_places _ [18, 19, 20, 21, 22, 23, 24, 25, 26, 27, 28, 29, 30] (by decide +kernel)
theorem kX6_ticks_1 : Cond.fieldLink RX6 7 "StepPairsModel" "all" "[I" ∈ wsX6_ticks := List.mem_of_getElem? (i := 1) rfl
abbrev rmX6_ticks : Room := { frames := 2, cells := 0, slots := 0, locals := 43 }
set_option maxHeartbeats 4000000 in
set_option maxRecDepth 100000 in
theorem t_X6_ticks (l : Launch) (D : va_G) (J : Nat → ClassId) (h : Nat) (a : Nat → Nat) (L pl sp nb dn er : Int) (A K T H S V P : Nat → Int) (q i : Int) (hq : 0 ≤ q ∧ q ≤ 3) (hi01 : 0 ≤ i ∧ i ≤ 1) (hI : InvM A) : ZX l yX6_ticks wsX6_ticks rmX6_ticks D J [.ref h, .int (iI q), .int (iI i)] (wM J h a L pl sp nb dn er A K T H S V P) (some (.int (iI (mStp (mDeed A q))))) (wM J h a L pl sp nb dn er (mTick A q i) K T H S V P) := by
  obtain ⟨m0, m1, m2, m3, m4, m5, m6, m7, m8, m9, m10, m13, m14, m15, m16, m17, m18, m19, m20, mg⟩ := id hI
  refine z_met (cc := cX6_ticks) (nL := 5) (ret := (some .boolean)) (own := RX6) (by decide) rfl rfl (Nat.le_of_ble_eq_true rfl) (fun p e s m args below meth c hC hr hin => ?_)
  refine z_lv0 (lv' := [(0, .ref h), (1, .int (iI q)), (2, .int (iI i))]) rfl ?_
  refine z_aload_n hC dX6_ticks_0 rfl 0 rfl ?_
  refine z_iload_n hC dX6_ticks_1 rfl 1 rfl ?_
  refine z_callV (wr := ([] : va_W)) (av := [.int (iI q)]) (st := []) hC (t_X6_deedOf l D J h a L pl sp nb dn er A K T H S V P q hq hI) gX6_ticks_X6_deedOf rfl 1 (by decide +kernel) ⟨Nat.le_of_ble_eq_true rfl, Nat.le_of_ble_eq_true rfl⟩ ⟨Nat.le_of_ble_eq_true rfl, Nat.le_of_ble_eq_true rfl⟩ [0, 1, 2, 3, 4, 5, 6, 7] [] rfl rfl rfl (by decide) rfl 0 rfl rfl rfl rfl rfl (Nat.le_of_ble_eq_true rfl) dX6_ticks_2 (fun _ _ => ?_)
  refine z_ws (ws' := wM J h a L pl sp nb dn er A K T H S V P) rfl ?_
  refine z_st (st' := [.int (iI (mDeed A q))]) rfl ?_
  have hd_1 := mDeed_in A q
  generalize hd : mDeed A q = d at *
  refine z_istore_n (lv' := [(3, .int (iI d)), (0, .ref h), (1, .int (iI q)), (2, .int (iI i))]) hC dX6_ticks_5 rfl (by decide) rfl ?_
  refine z_join (α := Nat → Int) (fun B21 => B21 = mT1 A d ∧ mF A B21) (fun B21 => wM J h a L pl sp nb dn er B21 K T H S V P) (fun B21 => [(3, .int (iI d)), (2, .int (iI i)), (1, .int (iI q)), (0, .ref h)]) 21 (fun B21 => []) (fun B21 hB21 => ?_) (fun K_2 => ?_)
  · change Z _ _ _ _ _ _ _ _ _ _ _ _ _ _ _ _ (wM J h a L pl sp nb dn er B21 K T H S V P) ([(3, .int (iI d)), (2, .int (iI i)), (1, .int (iI q)), (0, .ref h)]) 21 ([])
    obtain ⟨hB21, hF21⟩ := hB21
    obtain ⟨f214, f215, f2114, f2115, f2116, f2117, f217⟩ := id hF21
    refine z_join (α := Nat → Int) (fun B41 => B41 = mT2 A d ∧ mF A B41) (fun B41 => wM J h a L pl sp nb dn er B41 K T H S V P) (fun B41 => [(3, .int (iI d)), (2, .int (iI i)), (1, .int (iI q)), (0, .ref h)]) 41 (fun B41 => []) (fun B41 hB41 => ?_) (fun K_3 => ?_)
    · change Z _ _ _ _ _ _ _ _ _ _ _ _ _ _ _ _ (wM J h a L pl sp nb dn er B41 K T H S V P) ([(3, .int (iI d)), (2, .int (iI i)), (1, .int (iI q)), (0, .ref h)]) 41 ([])
      obtain ⟨hB41, hF41⟩ := hB41
      obtain ⟨f414, f415, f4114, f4115, f4116, f4117, f417⟩ := id hF41
      refine z_join (α := Nat → Int) (fun B63 => B63 = mT3 A q d ∧ mF A B63) (fun B63 => wM J h a L pl sp nb dn er B63 K T H S V P) (fun B63 => [(3, .int (iI d)), (2, .int (iI i)), (1, .int (iI q)), (0, .ref h)]) 63 (fun B63 => []) (fun B63 hB63 => ?_) (fun K_4 => ?_)
      · change Z _ _ _ _ _ _ _ _ _ _ _ _ _ _ _ _ (wM J h a L pl sp nb dn er B63 K T H S V P) ([(3, .int (iI d)), (2, .int (iI i)), (1, .int (iI q)), (0, .ref h)]) 63 ([])
        obtain ⟨hB63, hF63⟩ := hB63
        obtain ⟨f634, f635, f6314, f6315, f6316, f6317, f637⟩ := id hF63
        refine z_join (α := Nat → Int) (fun B82 => B82 = mT4 A q i d ∧ mF A B82) (fun B82 => wM J h a L pl sp nb dn er B82 K T H S V P) (fun B82 => [(3, .int (iI d)), (2, .int (iI i)), (1, .int (iI q)), (0, .ref h)]) 82 (fun B82 => []) (fun B82 hB82 => ?_) (fun K_5 => ?_)
        · change Z _ _ _ _ _ _ _ _ _ _ _ _ _ _ _ _ (wM J h a L pl sp nb dn er B82 K T H S V P) ([(3, .int (iI d)), (2, .int (iI i)), (1, .int (iI q)), (0, .ref h)]) 82 ([])
          obtain ⟨hB82, hF82⟩ := hB82
          obtain ⟨f824, f825, f8214, f8215, f8216, f8217, f827⟩ := id hF82
          refine z_join (α := Nat → Int) (fun B122 => B122 = mT5 A q i d ∧ B122 5 = A 5 ∧ B122 14 = A 14) (fun B122 => wM J h a L pl sp nb dn er B122 K T H S V P) (fun B122 => [(3, .int (iI d)), (2, .int (iI i)), (1, .int (iI q)), (0, .ref h)]) 122 (fun B122 => []) (fun B122 hB122 => ?_) (fun K_6 => ?_)
          · change Z _ _ _ _ _ _ _ _ _ _ _ _ _ _ _ _ (wM J h a L pl sp nb dn er B122 K T H S V P) ([(3, .int (iI d)), (2, .int (iI i)), (1, .int (iI q)), (0, .ref h)]) 122 ([])
            obtain ⟨hB122, hF122⟩ := hB122
            obtain ⟨f1225, f12214⟩ := id hF122
            refine z_join (α := Nat → Int) (fun B176 => B176 = mT7 A q i d ∧ B176 14 = (if A 14 < 200 then A 14 + 1 else A 14)) (fun B176 => wM J h a L pl sp nb dn er B176 K T H S V P) (fun B176 => [(3, .int (iI d)), (2, .int (iI i)), (1, .int (iI q)), (0, .ref h)]) 176 (fun B176 => []) (fun B176 hB176 => ?_) (fun K_7 => ?_)
            · change Z _ _ _ _ _ _ _ _ _ _ _ _ _ _ _ _ (wM J h a L pl sp nb dn er B176 K T H S V P) ([(3, .int (iI d)), (2, .int (iI i)), (1, .int (iI q)), (0, .ref h)]) 176 ([])
              obtain ⟨hB176, hF176⟩ := hB176
              have hr176 : 1 ≤ B176 14 ∧ B176 14 ≤ 200 := by rw [hF176]; split <;> omega
              refine z_aload_n hC dX6_ticks_176 rfl 3 rfl ?_
              refine z_getr hC zkX6 iX6_ticks_X6 0 rfl 0 (by decide) kX6_ticks_1 rfl rfl dX6_ticks_177 ?_
              refine z_bipush hC dX6_ticks_180 (by decide) ?_
              refine z_iald hC 1 rfl 0 rfl 14 rfl (by decide) (by decide) dX6_ticks_182 ?_
              refine z_iconst hC dX6_ticks_183 ?_
              refine z_isub hC dX6_ticks_184 ?_
              refine z_istore (lv' := [(4, .int (iI ((B176 14) - 1))), (3, .int (iI d)), (2, .int (iI i)), (1, .int (iI q)), (0, .ref h)]) hC dX6_ticks_185 (by decide) rfl ?_
              obtain ⟨hi, hhi⟩ : ∃ hi : Nat, (hi : Int) = B176 14 - 1 := ⟨(B176 14 - 1).toNat, by omega⟩
              refine z_lv (lv' := [(4, .int (iI ((B176 14) - 1))), (3, .int (iI d)), (2, .int (iI i)), (1, .int (iI q)), (0, .ref h)]) [0, 1, 2, 3, 4] rfl ?_
              refine z_ws (ws' := wM J h a L pl sp nb dn er (mSh B176 hi hi) K T H S V P) (by rw [mSh_0]) ?_
              refine z_lv0 (lv' := [(4, .int (iI (hi : Int))), (3, .int (iI d)), (2, .int (iI i)), (1, .int (iI q)), (0, .ref h)]) (by rw [hhi]) ?_
              refine z_loop (α := Nat) (fun nn k => k = nn ∧ k ≤ hi) (fun nn k => wM J h a L pl sp nb dn er (mSh B176 hi k) K T H S V P) (fun nn k => [(4, .int (iI (k : Int))), (3, .int (iI d)), (2, .int (iI i)), (1, .int (iI q)), (0, .ref h)]) 187 [] (fun nn k ih_8 hP_9 => ?_) (fun k hP_9 => ?_) hi hi ⟨rfl, Nat.le_refl _⟩
              · change Z _ _ _ _ _ _ _ _ _ _ _ _ _ _ _ _ (wM J h a L pl sp nb dn er (mSh B176 hi k) K T H S V P) ([(4, .int (iI (k : Int))), (3, .int (iI d)), (2, .int (iI i)), (1, .int (iI q)), (0, .ref h)]) 187 ([])
                obtain ⟨hk1, hk2⟩ := hP_9
                refine z_iload hC dX6_ticks_187 0 rfl ?_
                refine z_if_le_f (tgt := 220) hC dX6_ticks_189 (by decide) (by unfold inR; omega) (by omega) ?_
                refine z_aload_n hC dX6_ticks_192 rfl 4 rfl ?_
                refine z_getr hC zkX6 iX6_ticks_X6 0 rfl 0 (by decide) kX6_ticks_1 rfl rfl dX6_ticks_193 ?_
                refine z_bipush hC dX6_ticks_196 (by decide) ?_
                refine z_iload hC dX6_ticks_198 0 rfl ?_
                refine z_iadd hC dX6_ticks_200 ?_
                refine z_aload_n hC dX6_ticks_201 rfl 4 rfl ?_
                refine z_getr hC zkX6 iX6_ticks_X6 0 rfl 0 (by decide) kX6_ticks_1 rfl rfl dX6_ticks_202 ?_
                refine z_bipush hC dX6_ticks_205 (by decide) ?_
                refine z_iload hC dX6_ticks_207 0 rfl ?_
                refine z_iadd hC dX6_ticks_209 ?_
                refine z_iconst hC dX6_ticks_210 ?_
                refine z_isub hC dX6_ticks_211 ?_
                refine z_iald hC 1 rfl 0 rfl (21 + k - 1) (by omega) (by omega) (by decide) dX6_ticks_212 ?_
                refine z_iast (ws' := wM J h a L pl sp nb dn er (updZ (mSh B176 hi k) (21 + k) ((mSh B176 hi k) (21 + k - 1))) K T H S V P) hC 1 rfl 0 rfl (21 + k) (by omega) (by omega) (by decide) dX6_ticks_213 rfl ?_
                refine z_iinc (lv' := [(4, .int (iI ((k : Int) + (-1)))), (3, .int (iI d)), (2, .int (iI i)), (1, .int (iI q)), (0, .ref h)]) hC dX6_ticks_214 0 rfl (by decide) rfl ?_
                refine z_goto (tgt := 187) hC dX6_ticks_217 (by decide) ?_
                subst hk1
                refine z_ws (ws' := wM J h a L pl sp nb dn er (mSh B176 hi nn) K T H S V P) (congrArg (fun z => wM J h a L pl sp nb dn er z K T H S V P) (mSh_s B176 (by omega))) ?_
                refine z_lv0 (lv' := [(4, .int (iI (nn : Int))), (3, .int (iI d)), (2, .int (iI i)), (1, .int (iI q)), (0, .ref h)]) (by rw [show ((nn + 1 : Nat) : Int) + (-1) = (nn : Int) by omega]) ?_
                refine z_lv (lv' := _) [0, 1, 2, 3, 4] rfl ?_
                exact ih_8 nn ⟨rfl, by omega⟩
              · change Z _ _ _ _ _ _ _ _ _ _ _ _ _ _ _ _ (wM J h a L pl sp nb dn er (mSh B176 hi k) K T H S V P) ([(4, .int (iI (k : Int))), (3, .int (iI d)), (2, .int (iI i)), (1, .int (iI q)), (0, .ref h)]) 187 ([])
                obtain ⟨hk1, hk2⟩ := hP_9
                refine z_iload hC dX6_ticks_187 0 rfl ?_
                refine z_if_le_t (tgt := 220) hC dX6_ticks_189 (by decide) (by unfold inR; omega) (by omega) ?_
                refine z_aload_n hC dX6_ticks_220 rfl 4 rfl ?_
                refine z_getr hC zkX6 iX6_ticks_X6 0 rfl 0 (by decide) kX6_ticks_1 rfl rfl dX6_ticks_221 ?_
                refine z_bipush hC dX6_ticks_224 (by decide) ?_
                refine z_bipush hC dX6_ticks_226 (by decide) ?_
                refine z_iload_n hC dX6_ticks_228 rfl 3 rfl ?_
                refine z_imul hC dX6_ticks_229 ?_
                refine z_iconst hC dX6_ticks_230 ?_
                refine z_iload_n hC dX6_ticks_231 rfl 2 rfl ?_
                refine z_imul hC dX6_ticks_232 ?_
                refine z_iadd hC dX6_ticks_233 ?_
                refine z_iload_n hC dX6_ticks_234 rfl 1 rfl ?_
                refine z_iadd hC dX6_ticks_235 ?_
                refine z_iast (ws' := wM J h a L pl sp nb dn er (updZ (mSh B176 hi k) 21 (((8 * q) + (4 * i)) + d)) K T H S V P) hC 1 rfl 0 rfl 21 rfl (by decide) (by decide) dX6_ticks_236 rfl ?_
                refine z_iload_n hC dX6_ticks_237 rfl 1 rfl ?_
                refine z_iconst hC dX6_ticks_238 ?_
                refine z_icmp_eq (tgt := 247) hC dX6_ticks_239 (by decide) (by unfold inR; omega) ⟨by decide, by decide⟩ (fun c_239_10 => ?_) (fun c_239_10 => ?_)
                · refine z_iconst hC dX6_ticks_247 ?_
                  refine z_goto (tgt := 252) hC dX6_ticks_248 (by decide) ?_
                  exact z_iret hC hr rfl () trivial (hvi (by unfold mStp; (repeat' split) <;> first | rfl | omega)) (by subst hk1; subst hB176; unfold mTick; rw [hd, show (mT7 A q i d 14 - 1).toNat = hi by omega]) dX6_ticks_252
                · refine z_iload_n hC dX6_ticks_242 rfl 1 rfl ?_
                  refine z_iconst hC dX6_ticks_243 ?_
                  refine z_icmp_ne (tgt := 251) hC dX6_ticks_244 (by decide) (by unfold inR; omega) ⟨by decide, by decide⟩ (fun c_244_11 => ?_) (fun c_244_11 => ?_)
                  · refine z_iconst hC dX6_ticks_251 ?_
                    exact z_iret hC hr rfl () trivial (hvi (by unfold mStp; (repeat' split) <;> first | rfl | omega)) (by subst hk1; subst hB176; unfold mTick; rw [hd, show (mT7 A q i d 14 - 1).toNat = hi by omega]) dX6_ticks_252
                  · refine z_iconst hC dX6_ticks_247 ?_
                    refine z_goto (tgt := 252) hC dX6_ticks_248 (by decide) ?_
                    exact z_iret hC hr rfl () trivial (hvi (by unfold mStp; (repeat' split) <;> first | rfl | omega)) (by subst hk1; subst hB176; unfold mTick; rw [hd, show (mT7 A q i d 14 - 1).toNat = hi by omega]) dX6_ticks_252
            · skip
              refine z_aload_n hC dX6_ticks_122 rfl 3 rfl ?_
              refine z_getr hC zkX6 iX6_ticks_X6 0 rfl 0 (by decide) kX6_ticks_1 rfl rfl dX6_ticks_123 ?_
              refine z_bipush hC dX6_ticks_126 (by decide) ?_
              refine z_iload_n hC dX6_ticks_128 rfl 2 rfl ?_
              refine z_iast (ws' := wM J h a L pl sp nb dn er (updZ B122 15 q) K T H S V P) hC 1 rfl 0 rfl 15 rfl (by decide) (by decide) dX6_ticks_129 rfl ?_
              refine z_aload_n hC dX6_ticks_130 rfl 3 rfl ?_
              refine z_getr hC zkX6 iX6_ticks_X6 0 rfl 0 (by decide) kX6_ticks_1 rfl rfl dX6_ticks_131 ?_
              refine z_bipush hC dX6_ticks_134 (by decide) ?_
              refine z_iload_n hC dX6_ticks_136 rfl 1 rfl ?_
              refine z_iast (ws' := wM J h a L pl sp nb dn er (updZ (updZ B122 15 q) 17 i) K T H S V P) hC 1 rfl 0 rfl 17 rfl (by decide) (by decide) dX6_ticks_137 rfl ?_
              refine z_aload_n hC dX6_ticks_138 rfl 3 rfl ?_
              refine z_getr hC zkX6 iX6_ticks_X6 0 rfl 0 (by decide) kX6_ticks_1 rfl rfl dX6_ticks_139 ?_
              refine z_iconst hC dX6_ticks_142 ?_
              refine z_dup2 hC dX6_ticks_143 rfl rfl ?_
              refine z_iald hC 1 rfl 0 rfl 5 rfl (by decide) (by decide) dX6_ticks_144 ?_
              refine z_int (y := iI (B122 5)) hC rfl ?_
              refine z_iconst hC dX6_ticks_145 ?_
              refine z_iadd hC dX6_ticks_146 ?_
              refine z_iast (ws' := wM J h a L pl sp nb dn er (updZ (updZ (updZ B122 15 q) 17 i) 5 ((B122 5) + 1)) K T H S V P) hC 1 rfl 0 rfl 5 rfl (by decide) (by decide) dX6_ticks_147 rfl ?_
              refine z_aload_n hC dX6_ticks_148 rfl 3 rfl ?_
              refine z_getr hC zkX6 iX6_ticks_X6 0 rfl 0 (by decide) kX6_ticks_1 rfl rfl dX6_ticks_149 ?_
              refine z_bipush hC dX6_ticks_152 (by decide) ?_
              refine z_dup2 hC dX6_ticks_154 rfl rfl ?_
              refine z_iald hC 1 rfl 0 rfl 14 rfl (by decide) (by decide) dX6_ticks_155 ?_
              refine z_int (y := iI (B122 14)) hC rfl ?_
              refine z_aload_n hC dX6_ticks_156 rfl 3 rfl ?_
              refine z_getr hC zkX6 iX6_ticks_X6 0 rfl 0 (by decide) kX6_ticks_1 rfl rfl dX6_ticks_157 ?_
              refine z_bipush hC dX6_ticks_160 (by decide) ?_
              refine z_iald hC 1 rfl 0 rfl 14 rfl (by decide) (by decide) dX6_ticks_162 ?_
              refine z_int (y := iI (B122 14)) hC rfl ?_
              refine z_sipush hC dX6_ticks_163 (by decide) ?_
              refine z_icmp_ge (tgt := 173) hC dX6_ticks_166 (by decide) (by unfold inR; omega) ⟨by decide, by decide⟩ (fun c_166_12 => ?_) (fun c_166_12 => ?_)
              · refine z_iconst hC dX6_ticks_173 ?_
                refine z_iadd hC dX6_ticks_174 ?_
                refine z_iast (ws' := wM J h a L pl sp nb dn er (updZ (updZ (updZ (updZ B122 15 q) 17 i) 5 ((B122 5) + 1)) 14 ((B122 14) + 0)) K T H S V P) hC 1 rfl 0 rfl 14 rfl (by decide) (by decide) dX6_ticks_175 rfl ?_
                refine z_lv (lv' := _) [0, 1, 2, 3] rfl ?_
                exact K_7 (updZ (updZ (updZ (updZ B122 15 q) 17 i) 5 ((B122 5) + 1)) 14 ((B122 14) + 0)) ⟨by unfold mT7 mT6; rw [← hB122]; (repeat' split) <;> first | rfl | omega, by show B122 14 + 0 = _; rw [f12214]; split <;> omega⟩
              · refine z_iconst hC dX6_ticks_169 ?_
                refine z_goto (tgt := 174) hC dX6_ticks_170 (by decide) ?_
                refine z_iadd hC dX6_ticks_174 ?_
                refine z_iast (ws' := wM J h a L pl sp nb dn er (updZ (updZ (updZ (updZ B122 15 q) 17 i) 5 ((B122 5) + 1)) 14 ((B122 14) + 1)) K T H S V P) hC 1 rfl 0 rfl 14 rfl (by decide) (by decide) dX6_ticks_175 rfl ?_
                refine z_lv (lv' := _) [0, 1, 2, 3] rfl ?_
                exact K_7 (updZ (updZ (updZ (updZ B122 15 q) 17 i) 5 ((B122 5) + 1)) 14 ((B122 14) + 1)) ⟨by unfold mT7 mT6; rw [← hB122]; (repeat' split) <;> first | rfl | omega, by show B122 14 + 1 = _; rw [f12214]; split <;> omega⟩
          · skip
            refine z_aload_n hC dX6_ticks_82 rfl 3 rfl ?_
            refine z_getr hC zkX6 iX6_ticks_X6 0 rfl 0 (by decide) kX6_ticks_1 rfl rfl dX6_ticks_83 ?_
            refine z_bipush hC dX6_ticks_86 (by decide) ?_
            refine z_iload_n hC dX6_ticks_88 rfl 2 rfl ?_
            refine z_aload_n hC dX6_ticks_89 rfl 3 rfl ?_
            refine z_getr hC zkX6 iX6_ticks_X6 0 rfl 0 (by decide) kX6_ticks_1 rfl rfl dX6_ticks_90 ?_
            refine z_bipush hC dX6_ticks_93 (by decide) ?_
            refine z_iald hC 1 rfl 0 rfl 15 rfl (by decide) (by decide) dX6_ticks_95 ?_
            refine z_icmp_ne (tgt := 120) hC dX6_ticks_96 (by decide) (by unfold inR; omega) (by unfold inR; omega) (fun c_96_13 => ?_) (fun c_96_13 => ?_)
            · refine z_iconst hC dX6_ticks_120 ?_
              refine z_iast (ws' := wM J h a L pl sp nb dn er (updZ B82 16 1) K T H S V P) hC 1 rfl 0 rfl 16 rfl (by decide) (by decide) dX6_ticks_121 rfl ?_
              refine z_lv (lv' := _) [0, 1, 2, 3] rfl ?_
              exact K_6 (updZ B82 16 1) ⟨by unfold mT5; rw [← hB82]; (repeat' split) <;> first | rfl | omega, f825, f8214⟩
            · refine z_aload_n hC dX6_ticks_99 rfl 3 rfl ?_
              refine z_getr hC zkX6 iX6_ticks_X6 0 rfl 0 (by decide) kX6_ticks_1 rfl rfl dX6_ticks_100 ?_
              refine z_iconst hC dX6_ticks_103 ?_
              refine z_iald hC 1 rfl 0 rfl 5 rfl (by decide) (by decide) dX6_ticks_104 ?_
              refine z_if_le (tgt := 120) hC dX6_ticks_105 (by decide) (by unfold inR; omega) (fun c_105_14 => ?_) (fun c_105_14 => ?_)
              · refine z_iconst hC dX6_ticks_120 ?_
                refine z_iast (ws' := wM J h a L pl sp nb dn er (updZ B82 16 1) K T H S V P) hC 1 rfl 0 rfl 16 rfl (by decide) (by decide) dX6_ticks_121 rfl ?_
                refine z_lv (lv' := _) [0, 1, 2, 3] rfl ?_
                exact K_6 (updZ B82 16 1) ⟨by unfold mT5; rw [← hB82]; (repeat' split) <;> first | rfl | omega, f825, f8214⟩
              · refine z_aload_n hC dX6_ticks_108 rfl 3 rfl ?_
                refine z_getr hC zkX6 iX6_ticks_X6 0 rfl 0 (by decide) kX6_ticks_1 rfl rfl dX6_ticks_109 ?_
                refine z_bipush hC dX6_ticks_112 (by decide) ?_
                refine z_iald hC 1 rfl 0 rfl 16 rfl (by decide) (by decide) dX6_ticks_114 ?_
                refine z_iconst hC dX6_ticks_115 ?_
                refine z_iadd hC dX6_ticks_116 ?_
                refine z_goto (tgt := 121) hC dX6_ticks_117 (by decide) ?_
                refine z_iast (ws' := wM J h a L pl sp nb dn er (updZ B82 16 ((B82 16) + 1)) K T H S V P) hC 1 rfl 0 rfl 16 rfl (by decide) (by decide) dX6_ticks_121 rfl ?_
                refine z_lv (lv' := _) [0, 1, 2, 3] rfl ?_
                exact K_6 (updZ B82 16 ((B82 16) + 1)) ⟨by unfold mT5; rw [← hB82]; (repeat' split) <;> first | rfl | omega, f825, f8214⟩
        · skip
          refine z_iload_n hC dX6_ticks_63 rfl 1 rfl ?_
          refine z_iconst hC dX6_ticks_64 ?_
          refine z_icmp_ne (tgt := 82) hC dX6_ticks_65 (by decide) (by unfold inR; omega) ⟨by decide, by decide⟩ (fun c_65_15 => ?_) (fun c_65_15 => ?_)
          · refine z_lv (lv' := _) [0, 1, 2, 3] rfl ?_
            exact K_5 B63 ⟨by unfold mT4; rw [← hB63]; (repeat' split) <;> first | rfl | omega, hF63⟩
          · refine z_aload_n hC dX6_ticks_68 rfl 3 rfl ?_
            refine z_getr hC zkX6 iX6_ticks_X6 0 rfl 0 (by decide) kX6_ticks_1 rfl rfl dX6_ticks_69 ?_
            refine z_bipush hC dX6_ticks_72 (by decide) ?_
            refine z_iald hC 1 rfl 0 rfl 17 rfl (by decide) (by decide) dX6_ticks_74 ?_
            refine z_if_ne (tgt := 82) hC dX6_ticks_75 (by decide) (by unfold inR; omega) (fun c_75_16 => ?_) (fun c_75_16 => ?_)
            · refine z_lv (lv' := _) [0, 1, 2, 3] rfl ?_
              exact K_5 B63 ⟨by unfold mT4; rw [← hB63]; (repeat' split) <;> first | rfl | omega, hF63⟩
            · refine z_aload_n hC dX6_ticks_78 rfl 3 rfl ?_
              refine z_callV (wr := ([] : va_W)) (av := []) (st := []) hC (t_X6_rises l D J h a L pl sp nb dn er B63 K T H S V P  ⟨by omega, by omega⟩ f637) gX6_ticks_X6_rises rfl 0 (by decide +kernel) ⟨Nat.le_of_ble_eq_true rfl, Nat.le_of_ble_eq_true rfl⟩ ⟨Nat.le_of_ble_eq_true rfl, Nat.le_of_ble_eq_true rfl⟩ [0, 1, 2, 3, 4, 5, 6, 7] [] rfl rfl rfl (by decide) rfl 0 rfl rfl rfl rfl rfl (Nat.le_of_ble_eq_true rfl) dX6_ticks_79 (fun _ _ => ?_)
              refine z_ws (ws' := wM J h a L pl sp nb dn er (mRise B63) K T H S V P) rfl ?_
              refine z_st (st' := []) rfl ?_
              refine z_lv (lv' := _) [0, 1, 2, 3] rfl ?_
              exact K_5 (mRise B63) ⟨by unfold mT4; rw [← hB63]; (repeat' split) <;> first | rfl | omega, mF_rise hF63⟩
      · skip
        refine z_aload_n hC dX6_ticks_41 rfl 3 rfl ?_
        refine z_getr hC zkX6 iX6_ticks_X6 0 rfl 0 (by decide) kX6_ticks_1 rfl rfl dX6_ticks_42 ?_
        refine z_bipush hC dX6_ticks_45 (by decide) ?_
        refine z_iload_n hC dX6_ticks_47 rfl 0 rfl ?_
        refine z_if_le (tgt := 55) hC dX6_ticks_48 (by decide) (by unfold inR; omega) (fun c_48_17 => ?_) (fun c_48_17 => ?_)
        · refine z_aload_n hC dX6_ticks_55 rfl 3 rfl ?_
          refine z_getr hC zkX6 iX6_ticks_X6 0 rfl 0 (by decide) kX6_ticks_1 rfl rfl dX6_ticks_56 ?_
          refine z_bipush hC dX6_ticks_59 (by decide) ?_
          refine z_iald hC 1 rfl 0 rfl 8 rfl (by decide) (by decide) dX6_ticks_61 ?_
          refine z_iast (ws' := wM J h a L pl sp nb dn er (updZ B41 8 (B41 8)) K T H S V P) hC 1 rfl 0 rfl 8 rfl (by decide) (by decide) dX6_ticks_62 rfl ?_
          refine z_lv (lv' := _) [0, 1, 2, 3] rfl ?_
          exact K_4 (updZ B41 8 (B41 8)) ⟨by unfold mT3; rw [← hB41]; (repeat' split) <;> first | rfl | omega, hF41⟩
        · refine z_iload_n hC dX6_ticks_51 rfl 2 rfl ?_
          refine z_goto (tgt := 62) hC dX6_ticks_52 (by decide) ?_
          refine z_iast (ws' := wM J h a L pl sp nb dn er (updZ B41 8 q) K T H S V P) hC 1 rfl 0 rfl 8 rfl (by decide) (by decide) dX6_ticks_62 rfl ?_
          refine z_lv (lv' := _) [0, 1, 2, 3] rfl ?_
          exact K_4 (updZ B41 8 q) ⟨by unfold mT3; rw [← hB41]; (repeat' split) <;> first | rfl | omega, hF41⟩
    · skip
      refine z_aload_n hC dX6_ticks_21 rfl 3 rfl ?_
      refine z_getr hC zkX6 iX6_ticks_X6 0 rfl 0 (by decide) kX6_ticks_1 rfl rfl dX6_ticks_22 ?_
      refine z_bipush hC dX6_ticks_25 (by decide) ?_
      refine z_dup2 hC dX6_ticks_27 rfl rfl ?_
      refine z_iald hC 1 rfl 0 rfl 12 rfl (by decide) (by decide) dX6_ticks_28 ?_
      refine z_iload_n hC dX6_ticks_29 rfl 0 rfl ?_
      refine z_iconst hC dX6_ticks_30 ?_
      refine z_icmp_ne (tgt := 38) hC dX6_ticks_31 (by decide) (by unfold inR; omega) ⟨by decide, by decide⟩ (fun c_31_18 => ?_) (fun c_31_18 => ?_)
      · refine z_iconst hC dX6_ticks_38 ?_
        refine z_iadd hC dX6_ticks_39 ?_
        refine z_iast (ws' := wM J h a L pl sp nb dn er (updZ B21 12 ((B21 12) + 0)) K T H S V P) hC 1 rfl 0 rfl 12 rfl (by decide) (by decide) dX6_ticks_40 rfl ?_
        refine z_lv (lv' := _) [0, 1, 2, 3] rfl ?_
        exact K_3 (updZ B21 12 ((B21 12) + 0)) ⟨by unfold mT2; rw [← hB21]; (repeat' split) <;> first | rfl | omega, hF21⟩
      · refine z_iconst hC dX6_ticks_34 ?_
        refine z_goto (tgt := 39) hC dX6_ticks_35 (by decide) ?_
        refine z_iadd hC dX6_ticks_39 ?_
        refine z_iast (ws' := wM J h a L pl sp nb dn er (updZ B21 12 ((B21 12) + 1)) K T H S V P) hC 1 rfl 0 rfl 12 rfl (by decide) (by decide) dX6_ticks_40 rfl ?_
        refine z_lv (lv' := _) [0, 1, 2, 3] rfl ?_
        exact K_3 (updZ B21 12 ((B21 12) + 1)) ⟨by unfold mT2; rw [← hB21]; (repeat' split) <;> first | rfl | omega, hF21⟩
  · skip
    refine z_iload_n hC dX6_ticks_6 rfl 0 rfl ?_
    refine z_iconst hC dX6_ticks_7 ?_
    refine z_icmp_eq (tgt := 16) hC dX6_ticks_8 (by decide) (by unfold inR; omega) ⟨by decide, by decide⟩ (fun c_8_19 => ?_) (fun c_8_19 => ?_)
    · refine z_aload_n hC dX6_ticks_16 rfl 1 rfl ?_
      refine z_iload_n hC dX6_ticks_17 rfl 0 rfl ?_
      refine z_callV (wr := ([] : va_W)) (av := [.int (iI d)]) (st := []) hC (t_X6_steps l D J h a L pl sp nb dn er A K T H S V P d (by omega) hI) gX6_ticks_X6_steps rfl 1 (by decide +kernel) ⟨Nat.le_of_ble_eq_true rfl, Nat.le_of_ble_eq_true rfl⟩ ⟨Nat.le_of_ble_eq_true rfl, Nat.le_of_ble_eq_true rfl⟩ [0, 1, 2, 3, 4, 5, 6, 7] [] rfl rfl rfl (by decide) rfl 0 rfl rfl rfl rfl rfl (Nat.le_of_ble_eq_true rfl) dX6_ticks_18 (fun _ _ => ?_)
      refine z_ws (ws' := wM J h a L pl sp nb dn er (mSteps A d) K T H S V P) rfl ?_
      refine z_st (st' := []) rfl ?_
      refine z_lv (lv' := _) [0, 3, 2, 1] rfl ?_
      exact K_2 (mSteps A d) ⟨by unfold mT1; (repeat' split) <;> first | rfl | omega, mF_steps hI d⟩
    · refine z_iload_n hC dX6_ticks_11 rfl 0 rfl ?_
      refine z_iconst hC dX6_ticks_12 ?_
      refine z_icmp_ne (tgt := 21) hC dX6_ticks_13 (by decide) (by unfold inR; omega) ⟨by decide, by decide⟩ (fun c_13_20 => ?_) (fun c_13_20 => ?_)
      · refine z_lv (lv' := _) [0, 3, 2, 1] rfl ?_
        exact K_2 A ⟨by unfold mT1; (repeat' split) <;> first | rfl | omega, ⟨rfl, rfl, rfl, rfl, rfl, rfl, by omega, by omega⟩⟩
      · refine z_aload_n hC dX6_ticks_16 rfl 1 rfl ?_
        refine z_iload_n hC dX6_ticks_17 rfl 0 rfl ?_
        refine z_callV (wr := ([] : va_W)) (av := [.int (iI d)]) (st := []) hC (t_X6_steps l D J h a L pl sp nb dn er A K T H S V P d (by omega) hI) gX6_ticks_X6_steps rfl 1 (by decide +kernel) ⟨Nat.le_of_ble_eq_true rfl, Nat.le_of_ble_eq_true rfl⟩ ⟨Nat.le_of_ble_eq_true rfl, Nat.le_of_ble_eq_true rfl⟩ [0, 1, 2, 3, 4, 5, 6, 7] [] rfl rfl rfl (by decide) rfl 0 rfl rfl rfl rfl rfl (Nat.le_of_ble_eq_true rfl) dX6_ticks_18 (fun _ _ => ?_)
        refine z_ws (ws' := wM J h a L pl sp nb dn er (mSteps A d) K T H S V P) rfl ?_
        refine z_st (st' := []) rfl ?_
        refine z_lv (lv' := _) [0, 3, 2, 1] rfl ?_
        exact K_2 (mSteps A d) ⟨by unfold mT1; (repeat' split) <;> first | rfl | omega, mF_steps hI d⟩
