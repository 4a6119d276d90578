/-! ===== the law: cases 0, 1, 2, 3 ===== -/
set_option maxHeartbeats 4000000 in
set_option maxRecDepth 100000 in
theorem law_c0 {p : Program} {l : Launch} {e : Env} {s : State} {m : MethodId} {below : List Frame} {meth : Method} {c : Code} {D : va_G} {J : Nat → ClassId} {b N : Nat} {xs : Nat → Int32} {Q : State → Prop} {hx hm : Nat} {AA : Nat → Nat → Nat} {aa : Nat → Nat} {i : Nat} (hC : zC p s m #[Value.ref b] meth c (fun q : Nat => s.heap.size ≤ q) 4 D J cL_law RL wsL_law) (hX : va_X b N xs s s.heap) (hbl : b < s.heap.size) (hN : N ≤ 2048) (hi : i + 4 ≤ N) (kk : KL p l e s m below meth c D J b Q hx hm AA aa i 599) : KL p l e s m below meth c D J b Q hx hm AA aa i 128 := by
  have hbA : ¬ (fun q : Nat => s.heap.size ≤ q) b := Nat.not_le.mpr hbl
  intro E T F R G U V len pos pr ix nm C L sp nb dn er A K Tm H S Vm hSim
  obtain ⟨hR, hI, hM, hTg, hH, hSl, hl, hCh, her⟩ := id hSim
  have hF := hH.1
  have hL := hH.2.1
  have hF2 := hH.2.2.1
  have hG : 0 ≤ F 2 ∧ F 2 ≤ 6 := by rw [hF2]; exact hL
  have hU := hSl.1
  have heq : mSetR A ((xs (i + 1)).toInt) ((xs (i + 2)).toInt) = cAdjR E ((xs (i + 1)).toInt) ((xs (i + 2)).toInt) := (adj_rep hR hI).2
  refine z_aload_n hC dL_law_128 rfl 2 rfl ?_
  refine z_aload_n hC dL_law_129 rfl 3 rfl ?_
  refine z_iload_n hC dL_law_130 rfl 0 rfl ?_
  refine z_iconst hC dL_law_131 ?_
  refine z_iadd hC dL_law_132 ?_
  refine z_sld hC hX hbl hbA (i + 1) (by omega) (by omega) (by omega) dL_law_133 ?_
  refine z_aload_n hC dL_law_134 rfl 3 rfl ?_
  refine z_iload_n hC dL_law_135 rfl 0 rfl ?_
  refine z_iconst hC dL_law_136 ?_
  refine z_iadd hC dL_law_137 ?_
  refine z_sld hC hX hbl hbA (i + 2) (by omega) (by omega) (by omega) dL_law_138 ?_
  refine z_callV (wr := wM J hm aa L len sp nb dn er A K Tm H S Vm C) (av := [.int (iI (xs (i + 1)).toInt), .int (iI (xs (i + 2)).toInt)]) (st := []) hC (t_X5_set l D J hx AA E T F R G U V len pos pr ix nm C hI hTg hF hG hU hl hCh ((xs (i + 1)).toInt) ((xs (i + 2)).toInt) (inR_of (xs (i + 1))) (inR_of (xs (i + 2))) ) gL_law_X5_set rfl 2 (by decide +kernel) ⟨Nat.le_of_ble_eq_true rfl, Nat.le_of_ble_eq_true rfl⟩ ⟨Nat.le_of_ble_eq_true rfl, Nat.le_of_ble_eq_true rfl⟩ [0, 1, 2, 3, 4, 5, 6, 7, 8, 9, 10, 11, 12, 13, 14, 15, 16, 17, 18, 19, 20, 21, 22, 23, 24, 25, 26, 27, 28, 29, 30, 31, 32, 33, 34, 35, 36, 37, 38, 39, 40] [41, 42, 43, 44, 45, 46, 47, 48] rfl rfl rfl (by decide) rfl 0 rfl rfl rfl rfl rfl (Nat.le_of_ble_eq_true rfl) dL_law_139 (fun _ _ => ?_)
  refine z_cells (k := 600000) (n := 7302250) rfl rfl ?_
  refine z_ws (ws' := wM J hm aa L len sp nb dn er A K Tm H S Vm C ++ wSP J hx AA (cAdjE E ((xs (i + 1)).toInt) ((xs (i + 2)).toInt)) T (hKeep F (cAdjR E ((xs (i + 1)).toInt) ((xs (i + 2)).toInt))) (upR R (Int.toNat (F 1)) E) G U V len pos pr ix nm C) rfl ?_
  refine z_st (st' := [.int (iI (cAdjR E ((xs (i + 1)).toInt) ((xs (i + 2)).toInt)))]) rfl ?_
  refine z_aload_n hC dL_law_142 rfl 1 rfl ?_
  refine z_aload_n hC dL_law_143 rfl 3 rfl ?_
  refine z_iload_n hC dL_law_144 rfl 0 rfl ?_
  refine z_iconst hC dL_law_145 ?_
  refine z_iadd hC dL_law_146 ?_
  refine z_sld hC hX hbl hbA (i + 1) (by omega) (by omega) (by omega) dL_law_147 ?_
  refine z_aload_n hC dL_law_148 rfl 3 rfl ?_
  refine z_iload_n hC dL_law_149 rfl 0 rfl ?_
  refine z_iconst hC dL_law_150 ?_
  refine z_iadd hC dL_law_151 ?_
  refine z_sld hC hX hbl hbA (i + 2) (by omega) (by omega) (by omega) dL_law_152 ?_
  refine z_callV (wr := wSP J hx AA (cAdjE E ((xs (i + 1)).toInt) ((xs (i + 2)).toInt)) T (hKeep F (cAdjR E ((xs (i + 1)).toInt) ((xs (i + 2)).toInt))) (upR R (Int.toNat (F 1)) E) G U V len pos pr ix nm C) (av := [.int (iI (xs (i + 1)).toInt), .int (iI (xs (i + 2)).toInt)]) (st := [.int (iI (cAdjR E ((xs (i + 1)).toInt) ((xs (i + 2)).toInt)))]) hC (t_X6_set l D J hm aa L len sp nb dn er A K Tm H S Vm C ((xs (i + 1)).toInt) ((xs (i + 2)).toInt) (inR_of (xs (i + 1))) (inR_of (xs (i + 2))) hM hL) gL_law_X6_set rfl 2 (by decide +kernel) ⟨Nat.le_of_ble_eq_true rfl, Nat.le_of_ble_eq_true rfl⟩ ⟨Nat.le_of_ble_eq_true rfl, Nat.le_of_ble_eq_true rfl⟩ [0, 1, 2, 3, 4, 5, 6, 7] [8, 9, 10, 11, 12, 13, 14, 15, 16, 17, 18, 19, 20, 21, 22, 23, 24, 25, 26, 27, 28, 29, 30, 31, 32, 33, 34, 35, 36, 37, 38, 39, 40, 41, 42, 43, 44, 45, 46, 47, 48] rfl rfl rfl (by decide) rfl 0 rfl rfl rfl rfl rfl (Nat.le_of_ble_eq_true rfl) dL_law_153 (fun _ _ => ?_)
  refine z_cells (k := 600000) (n := 7302250) rfl rfl ?_
  refine z_ws (ws' := wSP J hx AA (cAdjE E ((xs (i + 1)).toInt) ((xs (i + 2)).toInt)) T (hKeep F (cAdjR E ((xs (i + 1)).toInt) ((xs (i + 2)).toInt))) (upR R (Int.toNat (F 1)) E) G U V len pos pr ix nm C ++ wM J hm aa (mChgL (mSetR A ((xs (i + 1)).toInt) ((xs (i + 2)).toInt)) L) len sp nb dn er (mSetA A ((xs (i + 1)).toInt) ((xs (i + 2)).toInt)) A Tm (mChgH (mSetR A ((xs (i + 1)).toInt) ((xs (i + 2)).toInt)) H A L) S Vm C) rfl ?_
  refine z_st (st' := [.int (iI (cAdjR E ((xs (i + 1)).toInt) ((xs (i + 2)).toInt))), .int (iI (cAdjR E ((xs (i + 1)).toInt) ((xs (i + 2)).toInt)))]) (congrArg (fun z => [Value.int (iI z), Value.int (iI (cAdjR E ((xs (i + 1)).toInt) ((xs (i + 2)).toInt)))]) heq) ?_
  refine z_icmp_same (tgt := 599) hC dL_law_156 (by decide) ?_
  exact kk (cAdjE E ((xs (i + 1)).toInt) ((xs (i + 2)).toInt)) T (hKeep F (cAdjR E ((xs (i + 1)).toInt) ((xs (i + 2)).toInt))) (upR R (Int.toNat (F 1)) E) G U V len pos pr ix nm C (mChgL (mSetR A ((xs (i + 1)).toInt) ((xs (i + 2)).toInt)) L) sp nb dn er (mSetA A ((xs (i + 1)).toInt) ((xs (i + 2)).toInt)) A Tm (mChgH (mSetR A ((xs (i + 1)).toInt) ((xs (i + 2)).toInt)) H A L) S Vm ⟨(adj_rep hR hI).1, adj_inv hI, mSet_inv hM, hTg, (by rw [heq]; exact hist_chg hH (row_of hR hI hM)), hSl, hl, hCh, her⟩
set_option maxHeartbeats 4000000 in
set_option maxRecDepth 100000 in
theorem law_c1 {p : Program} {l : Launch} {e : Env} {s : State} {m : MethodId} {below : List Frame} {meth : Method} {c : Code} {D : va_G} {J : Nat → ClassId} {b N : Nat} {xs : Nat → Int32} {Q : State → Prop} {hx hm : Nat} {AA : Nat → Nat → Nat} {aa : Nat → Nat} {i : Nat} (hC : zC p s m #[Value.ref b] meth c (fun q : Nat => s.heap.size ≤ q) 4 D J cL_law RL wsL_law) (hX : va_X b N xs s s.heap) (hbl : b < s.heap.size) (hN : N ≤ 2048) (hi : i + 4 ≤ N) (kk : KL p l e s m below meth c D J b Q hx hm AA aa i 599) : KL p l e s m below meth c D J b Q hx hm AA aa i 161 := by
  have hbA : ¬ (fun q : Nat => s.heap.size ≤ q) b := Nat.not_le.mpr hbl
  intro E T F R G U V len pos pr ix nm C L sp nb dn er A K Tm H S Vm hSim
  obtain ⟨hR, hI, hM, hTg, hH, hSl, hl, hCh, her⟩ := id hSim
  have hF := hH.1
  have hL := hH.2.1
  have hF2 := hH.2.2.1
  have hG : 0 ≤ F 2 ∧ F 2 ≤ 6 := by rw [hF2]; exact hL
  have hU := hSl.1
  have heq : mFeedR A ((xs (i + 1)).toInt) ((xs (i + 2)).toInt) ((xs (i + 3)).toInt) = cPassR E ((xs (i + 1)).toInt) ((xs (i + 2)).toInt) ((xs (i + 3)).toInt) := (pass_rep hR hI hM).2
  refine z_aload_n hC dL_law_161 rfl 2 rfl ?_
  refine z_aload_n hC dL_law_162 rfl 3 rfl ?_
  refine z_iload_n hC dL_law_163 rfl 0 rfl ?_
  refine z_iconst hC dL_law_164 ?_
  refine z_iadd hC dL_law_165 ?_
  refine z_sld hC hX hbl hbA (i + 1) (by omega) (by omega) (by omega) dL_law_166 ?_
  refine z_aload_n hC dL_law_167 rfl 3 rfl ?_
  refine z_iload_n hC dL_law_168 rfl 0 rfl ?_
  refine z_iconst hC dL_law_169 ?_
  refine z_iadd hC dL_law_170 ?_
  refine z_sld hC hX hbl hbA (i + 2) (by omega) (by omega) (by omega) dL_law_171 ?_
  refine z_aload_n hC dL_law_172 rfl 3 rfl ?_
  refine z_iload_n hC dL_law_173 rfl 0 rfl ?_
  refine z_iconst hC dL_law_174 ?_
  refine z_iadd hC dL_law_175 ?_
  refine z_sld hC hX hbl hbA (i + 3) (by omega) (by omega) (by omega) dL_law_176 ?_
  refine z_callV (wr := wM J hm aa L len sp nb dn er A K Tm H S Vm C) (av := [.int (iI (xs (i + 1)).toInt), .int (iI (xs (i + 2)).toInt), .int (iI (xs (i + 3)).toInt)]) (st := []) hC (t_X5_feed l D J hx AA E T F R G U V len pos pr ix nm C hI hTg hF hG hU hl hCh ((xs (i + 1)).toInt) ((xs (i + 2)).toInt) ((xs (i + 3)).toInt) (inR_of (xs (i + 1))) (inR_of (xs (i + 2))) (inR_of (xs (i + 3))) ) gL_law_X5_feed rfl 3 (by decide +kernel) ⟨Nat.le_of_ble_eq_true rfl, Nat.le_of_ble_eq_true rfl⟩ ⟨Nat.le_of_ble_eq_true rfl, Nat.le_of_ble_eq_true rfl⟩ [0, 1, 2, 3, 4, 5, 6, 7, 8, 9, 10, 11, 12, 13, 14, 15, 16, 17, 18, 19, 20, 21, 22, 23, 24, 25, 26, 27, 28, 29, 30, 31, 32, 33, 34, 35, 36, 37, 38, 39, 40] [41, 42, 43, 44, 45, 46, 47, 48] rfl rfl rfl (by decide) rfl 0 rfl rfl rfl rfl rfl (Nat.le_of_ble_eq_true rfl) dL_law_177 (fun _ _ => ?_)
  refine z_cells (k := 600000) (n := 7302250) rfl rfl ?_
  refine z_ws (ws' := wM J hm aa L len sp nb dn er A K Tm H S Vm C ++ wSP J hx AA (cPassE E ((xs (i + 1)).toInt) ((xs (i + 2)).toInt) ((xs (i + 3)).toInt)) T (hKeep F (cPassR E ((xs (i + 1)).toInt) ((xs (i + 2)).toInt) ((xs (i + 3)).toInt))) (upR R (Int.toNat (F 1)) E) G U V len pos pr ix nm C) rfl ?_
  refine z_st (st' := [.int (iI (cPassR E ((xs (i + 1)).toInt) ((xs (i + 2)).toInt) ((xs (i + 3)).toInt)))]) rfl ?_
  refine z_aload_n hC dL_law_180 rfl 1 rfl ?_
  refine z_aload_n hC dL_law_181 rfl 3 rfl ?_
  refine z_iload_n hC dL_law_182 rfl 0 rfl ?_
  refine z_iconst hC dL_law_183 ?_
  refine z_iadd hC dL_law_184 ?_
  refine z_sld hC hX hbl hbA (i + 1) (by omega) (by omega) (by omega) dL_law_185 ?_
  refine z_aload_n hC dL_law_186 rfl 3 rfl ?_
  refine z_iload_n hC dL_law_187 rfl 0 rfl ?_
  refine z_iconst hC dL_law_188 ?_
  refine z_iadd hC dL_law_189 ?_
  refine z_sld hC hX hbl hbA (i + 2) (by omega) (by omega) (by omega) dL_law_190 ?_
  refine z_aload_n hC dL_law_191 rfl 3 rfl ?_
  refine z_iload_n hC dL_law_192 rfl 0 rfl ?_
  refine z_iconst hC dL_law_193 ?_
  refine z_iadd hC dL_law_194 ?_
  refine z_sld hC hX hbl hbA (i + 3) (by omega) (by omega) (by omega) dL_law_195 ?_
  refine z_callV (wr := wSP J hx AA (cPassE E ((xs (i + 1)).toInt) ((xs (i + 2)).toInt) ((xs (i + 3)).toInt)) T (hKeep F (cPassR E ((xs (i + 1)).toInt) ((xs (i + 2)).toInt) ((xs (i + 3)).toInt))) (upR R (Int.toNat (F 1)) E) G U V len pos pr ix nm C) (av := [.int (iI (xs (i + 1)).toInt), .int (iI (xs (i + 2)).toInt), .int (iI (xs (i + 3)).toInt)]) (st := [.int (iI (cPassR E ((xs (i + 1)).toInt) ((xs (i + 2)).toInt) ((xs (i + 3)).toInt)))]) hC (t_X6_feed l D J hm aa L len sp nb dn er A K Tm H S Vm C ((xs (i + 1)).toInt) ((xs (i + 2)).toInt) ((xs (i + 3)).toInt) (inR_of (xs (i + 1))) (inR_of (xs (i + 2))) (inR_of (xs (i + 3))) hM hL) gL_law_X6_feed rfl 3 (by decide +kernel) ⟨Nat.le_of_ble_eq_true rfl, Nat.le_of_ble_eq_true rfl⟩ ⟨Nat.le_of_ble_eq_true rfl, Nat.le_of_ble_eq_true rfl⟩ [0, 1, 2, 3, 4, 5, 6, 7] [8, 9, 10, 11, 12, 13, 14, 15, 16, 17, 18, 19, 20, 21, 22, 23, 24, 25, 26, 27, 28, 29, 30, 31, 32, 33, 34, 35, 36, 37, 38, 39, 40, 41, 42, 43, 44, 45, 46, 47, 48] rfl rfl rfl (by decide) rfl 0 rfl rfl rfl rfl rfl (Nat.le_of_ble_eq_true rfl) dL_law_196 (fun _ _ => ?_)
  refine z_cells (k := 600000) (n := 7302250) rfl rfl ?_
  refine z_ws (ws' := wSP J hx AA (cPassE E ((xs (i + 1)).toInt) ((xs (i + 2)).toInt) ((xs (i + 3)).toInt)) T (hKeep F (cPassR E ((xs (i + 1)).toInt) ((xs (i + 2)).toInt) ((xs (i + 3)).toInt))) (upR R (Int.toNat (F 1)) E) G U V len pos pr ix nm C ++ wM J hm aa (mChgL (mFeedR A ((xs (i + 1)).toInt) ((xs (i + 2)).toInt) ((xs (i + 3)).toInt)) L) len sp nb dn er (mFeedA A ((xs (i + 1)).toInt) ((xs (i + 2)).toInt) ((xs (i + 3)).toInt)) A Tm (mChgH (mFeedR A ((xs (i + 1)).toInt) ((xs (i + 2)).toInt) ((xs (i + 3)).toInt)) H A L) S Vm C) rfl ?_
  refine z_st (st' := [.int (iI (cPassR E ((xs (i + 1)).toInt) ((xs (i + 2)).toInt) ((xs (i + 3)).toInt))), .int (iI (cPassR E ((xs (i + 1)).toInt) ((xs (i + 2)).toInt) ((xs (i + 3)).toInt)))]) (congrArg (fun z => [Value.int (iI z), Value.int (iI (cPassR E ((xs (i + 1)).toInt) ((xs (i + 2)).toInt) ((xs (i + 3)).toInt)))]) heq) ?_
  refine z_icmp_same (tgt := 599) hC dL_law_199 (by decide) ?_
  exact kk (cPassE E ((xs (i + 1)).toInt) ((xs (i + 2)).toInt) ((xs (i + 3)).toInt)) T (hKeep F (cPassR E ((xs (i + 1)).toInt) ((xs (i + 2)).toInt) ((xs (i + 3)).toInt))) (upR R (Int.toNat (F 1)) E) G U V len pos pr ix nm C (mChgL (mFeedR A ((xs (i + 1)).toInt) ((xs (i + 2)).toInt) ((xs (i + 3)).toInt)) L) sp nb dn er (mFeedA A ((xs (i + 1)).toInt) ((xs (i + 2)).toInt) ((xs (i + 3)).toInt)) A Tm (mChgH (mFeedR A ((xs (i + 1)).toInt) ((xs (i + 2)).toInt) ((xs (i + 3)).toInt)) H A L) S Vm ⟨(pass_rep hR hI hM).1, pass_inv hI, mFeed_inv hM, hTg, (by rw [heq]; exact hist_chg hH (row_of hR hI hM)), hSl, hl, hCh, her⟩
set_option maxHeartbeats 4000000 in
set_option maxRecDepth 100000 in
theorem law_c2 {p : Program} {l : Launch} {e : Env} {s : State} {m : MethodId} {below : List Frame} {meth : Method} {c : Code} {D : va_G} {J : Nat → ClassId} {b N : Nat} {xs : Nat → Int32} {Q : State → Prop} {hx hm : Nat} {AA : Nat → Nat → Nat} {aa : Nat → Nat} {i : Nat} (hC : zC p s m #[Value.ref b] meth c (fun q : Nat => s.heap.size ≤ q) 4 D J cL_law RL wsL_law) (hX : va_X b N xs s s.heap) (hbl : b < s.heap.size) (hN : N ≤ 2048) (hi : i + 4 ≤ N) (kk : KL p l e s m below meth c D J b Q hx hm AA aa i 599) : KL p l e s m below meth c D J b Q hx hm AA aa i 204 := by
  have hbA : ¬ (fun q : Nat => s.heap.size ≤ q) b := Nat.not_le.mpr hbl
  intro E T F R G U V len pos pr ix nm C L sp nb dn er A K Tm H S Vm hSim
  obtain ⟨hR, hI, hM, hTg, hH, hSl, hl, hCh, her⟩ := id hSim
  have hF := hH.1
  have hL := hH.2.1
  have hF2 := hH.2.2.1
  have hG : 0 ≤ F 2 ∧ F 2 ≤ 6 := by rw [hF2]; exact hL
  have hU := hSl.1
  have heq : mTurnR A ((xs (i + 1)).toInt) = cRevR E ((xs (i + 1)).toInt) := (rev_rep hR hI hM).2
  refine z_aload_n hC dL_law_204 rfl 2 rfl ?_
  refine z_aload_n hC dL_law_205 rfl 3 rfl ?_
  refine z_iload_n hC dL_law_206 rfl 0 rfl ?_
  refine z_iconst hC dL_law_207 ?_
  refine z_iadd hC dL_law_208 ?_
  refine z_sld hC hX hbl hbA (i + 1) (by omega) (by omega) (by omega) dL_law_209 ?_
  refine z_callV (wr := wM J hm aa L len sp nb dn er A K Tm H S Vm C) (av := [.int (iI (xs (i + 1)).toInt)]) (st := []) hC (t_X5_turn l D J hx AA E T F R G U V len pos pr ix nm C hI hTg hF hG hU hl hCh ((xs (i + 1)).toInt) (inR_of (xs (i + 1))) ) gL_law_X5_turn rfl 1 (by decide +kernel) ⟨Nat.le_of_ble_eq_true rfl, Nat.le_of_ble_eq_true rfl⟩ ⟨Nat.le_of_ble_eq_true rfl, Nat.le_of_ble_eq_true rfl⟩ [0, 1, 2, 3, 4, 5, 6, 7, 8, 9, 10, 11, 12, 13, 14, 15, 16, 17, 18, 19, 20, 21, 22, 23, 24, 25, 26, 27, 28, 29, 30, 31, 32, 33, 34, 35, 36, 37, 38, 39, 40] [41, 42, 43, 44, 45, 46, 47, 48] rfl rfl rfl (by decide) rfl 0 rfl rfl rfl rfl rfl (Nat.le_of_ble_eq_true rfl) dL_law_210 (fun _ _ => ?_)
  refine z_cells (k := 600000) (n := 7302250) rfl rfl ?_
  refine z_ws (ws' := wM J hm aa L len sp nb dn er A K Tm H S Vm C ++ wSP J hx AA (cRevE E ((xs (i + 1)).toInt)) T (hKeep F (cRevR E ((xs (i + 1)).toInt))) (upR R (Int.toNat (F 1)) E) G U V len pos pr ix nm C) rfl ?_
  refine z_st (st' := [.int (iI (cRevR E ((xs (i + 1)).toInt)))]) rfl ?_
  refine z_aload_n hC dL_law_213 rfl 1 rfl ?_
  refine z_aload_n hC dL_law_214 rfl 3 rfl ?_
  refine z_iload_n hC dL_law_215 rfl 0 rfl ?_
  refine z_iconst hC dL_law_216 ?_
  refine z_iadd hC dL_law_217 ?_
  refine z_sld hC hX hbl hbA (i + 1) (by omega) (by omega) (by omega) dL_law_218 ?_
  refine z_callV (wr := wSP J hx AA (cRevE E ((xs (i + 1)).toInt)) T (hKeep F (cRevR E ((xs (i + 1)).toInt))) (upR R (Int.toNat (F 1)) E) G U V len pos pr ix nm C) (av := [.int (iI (xs (i + 1)).toInt)]) (st := [.int (iI (cRevR E ((xs (i + 1)).toInt)))]) hC (t_X6_turn l D J hm aa L len sp nb dn er A K Tm H S Vm C ((xs (i + 1)).toInt) (inR_of (xs (i + 1))) hM hL) gL_law_X6_turn rfl 1 (by decide +kernel) ⟨Nat.le_of_ble_eq_true rfl, Nat.le_of_ble_eq_true rfl⟩ ⟨Nat.le_of_ble_eq_true rfl, Nat.le_of_ble_eq_true rfl⟩ [0, 1, 2, 3, 4, 5, 6, 7] [8, 9, 10, 11, 12, 13, 14, 15, 16, 17, 18, 19, 20, 21, 22, 23, 24, 25, 26, 27, 28, 29, 30, 31, 32, 33, 34, 35, 36, 37, 38, 39, 40, 41, 42, 43, 44, 45, 46, 47, 48] rfl rfl rfl (by decide) rfl 0 rfl rfl rfl rfl rfl (Nat.le_of_ble_eq_true rfl) dL_law_219 (fun _ _ => ?_)
  refine z_cells (k := 600000) (n := 7302250) rfl rfl ?_
  refine z_ws (ws' := wSP J hx AA (cRevE E ((xs (i + 1)).toInt)) T (hKeep F (cRevR E ((xs (i + 1)).toInt))) (upR R (Int.toNat (F 1)) E) G U V len pos pr ix nm C ++ wM J hm aa (mChgL (mTurnR A ((xs (i + 1)).toInt)) L) len sp nb dn er (mTurnA A ((xs (i + 1)).toInt)) A Tm (mChgH (mTurnR A ((xs (i + 1)).toInt)) H A L) S Vm C) rfl ?_
  refine z_st (st' := [.int (iI (cRevR E ((xs (i + 1)).toInt))), .int (iI (cRevR E ((xs (i + 1)).toInt)))]) (congrArg (fun z => [Value.int (iI z), Value.int (iI (cRevR E ((xs (i + 1)).toInt)))]) heq) ?_
  refine z_icmp_same (tgt := 599) hC dL_law_222 (by decide) ?_
  exact kk (cRevE E ((xs (i + 1)).toInt)) T (hKeep F (cRevR E ((xs (i + 1)).toInt))) (upR R (Int.toNat (F 1)) E) G U V len pos pr ix nm C (mChgL (mTurnR A ((xs (i + 1)).toInt)) L) sp nb dn er (mTurnA A ((xs (i + 1)).toInt)) A Tm (mChgH (mTurnR A ((xs (i + 1)).toInt)) H A L) S Vm ⟨(rev_rep hR hI hM).1, rev_inv hI, mTurn_inv hM, hTg, (by rw [heq]; exact hist_chg hH (row_of hR hI hM)), hSl, hl, hCh, her⟩
set_option maxHeartbeats 4000000 in
set_option maxRecDepth 100000 in
theorem law_c3 {p : Program} {l : Launch} {e : Env} {s : State} {m : MethodId} {below : List Frame} {meth : Method} {c : Code} {D : va_G} {J : Nat → ClassId} {b N : Nat} {xs : Nat → Int32} {Q : State → Prop} {hx hm : Nat} {AA : Nat → Nat → Nat} {aa : Nat → Nat} {i : Nat} (hC : zC p s m #[Value.ref b] meth c (fun q : Nat => s.heap.size ≤ q) 4 D J cL_law RL wsL_law) (hX : va_X b N xs s s.heap) (hbl : b < s.heap.size) (hN : N ≤ 2048) (hi : i + 4 ≤ N) (kk : KL p l e s m below meth c D J b Q hx hm AA aa i 599) : KL p l e s m below meth c D J b Q hx hm AA aa i 227 := by
  have hbA : ¬ (fun q : Nat => s.heap.size ≤ q) b := Nat.not_le.mpr hbl
  intro E T F R G U V len pos pr ix nm C L sp nb dn er A K Tm H S Vm hSim
  obtain ⟨hR, hI, hM, hTg, hH, hSl, hl, hCh, her⟩ := id hSim
  have hF := hH.1
  have hL := hH.2.1
  have hF2 := hH.2.2.1
  have hG : 0 ≤ F 2 ∧ F 2 ≤ 6 := by rw [hF2]; exact hL
  have hU := hSl.1
  have heq : A 6 = E.1 3 := hR.2.1.2.1
  refine z_aload_n hC dL_law_227 rfl 2 rfl ?_
  refine z_callV (wr := wM J hm aa L len sp nb dn er A K Tm H S Vm C) (av := []) (st := []) hC (t_X5_zero l D J hx AA E T F R G U V len pos pr ix nm C hI hTg hF hG hU hl hCh   ) gL_law_X5_zero rfl 0 (by decide +kernel) ⟨Nat.le_of_ble_eq_true rfl, Nat.le_of_ble_eq_true rfl⟩ ⟨Nat.le_of_ble_eq_true rfl, Nat.le_of_ble_eq_true rfl⟩ [0, 1, 2, 3, 4, 5, 6, 7, 8, 9, 10, 11, 12, 13, 14, 15, 16, 17, 18, 19, 20, 21, 22, 23, 24, 25, 26, 27, 28, 29, 30, 31, 32, 33, 34, 35, 36, 37, 38, 39, 40] [41, 42, 43, 44, 45, 46, 47, 48] rfl rfl rfl (by decide) rfl 0 rfl rfl rfl rfl rfl (Nat.le_of_ble_eq_true rfl) dL_law_228 (fun _ _ => ?_)
  refine z_cells (k := 600000) (n := 7302250) rfl rfl ?_
  refine z_ws (ws' := wM J hm aa L len sp nb dn er A K Tm H S Vm C ++ wSP J hx AA (cClear E) T (hKeep F (E.1 3)) (upR R (Int.toNat (F 1)) E) G U V len pos pr ix nm C) rfl ?_
  refine z_st (st' := [.int (iI (E.1 3))]) rfl ?_
  refine z_aload_n hC dL_law_231 rfl 1 rfl ?_
  refine z_callV (wr := wSP J hx AA (cClear E) T (hKeep F (E.1 3)) (upR R (Int.toNat (F 1)) E) G U V len pos pr ix nm C) (av := []) (st := [.int (iI (E.1 3))]) hC (t_X6_zero l D J hm aa L len sp nb dn er A K Tm H S Vm C   hL) gL_law_X6_zero rfl 0 (by decide +kernel) ⟨Nat.le_of_ble_eq_true rfl, Nat.le_of_ble_eq_true rfl⟩ ⟨Nat.le_of_ble_eq_true rfl, Nat.le_of_ble_eq_true rfl⟩ [0, 1, 2, 3, 4, 5, 6, 7] [8, 9, 10, 11, 12, 13, 14, 15, 16, 17, 18, 19, 20, 21, 22, 23, 24, 25, 26, 27, 28, 29, 30, 31, 32, 33, 34, 35, 36, 37, 38, 39, 40, 41, 42, 43, 44, 45, 46, 47, 48] rfl rfl rfl (by decide) rfl 0 rfl rfl rfl rfl rfl (Nat.le_of_ble_eq_true rfl) dL_law_232 (fun _ _ => ?_)
  refine z_cells (k := 600000) (n := 7302250) rfl rfl ?_
  refine z_ws (ws' := wSP J hx AA (cClear E) T (hKeep F (E.1 3)) (upR R (Int.toNat (F 1)) E) G U V len pos pr ix nm C ++ wM J hm aa (mChL L) len sp nb dn er (updZ (updZ A 6 0) 7 0) A Tm (mChH H A L) S Vm C) rfl ?_
  refine z_st (st' := [.int (iI (E.1 3)), .int (iI (E.1 3))]) (congrArg (fun z => [Value.int (iI z), Value.int (iI (E.1 3))]) heq) ?_
  refine z_icmp_same (tgt := 599) hC dL_law_235 (by decide) ?_
  exact kk (cClear E) T (hKeep F (E.1 3)) (upR R (Int.toNat (F 1)) E) G U V len pos pr ix nm C (mChL L) sp nb dn er (updZ (updZ A 6 0) 7 0) A Tm (mChH H A L) S Vm ⟨zero_rep hR, clear_inv hI, mZero_inv hM, hTg, hist_keep hH (row_of hR hI hM) hI.2.1.1, hSl, hl, hCh, her⟩
