/-! ===== the law: cases 4, 5, 6, 7, 8 ===== -/
set_option maxHeartbeats 4000000 in
set_option maxRecDepth 100000 in
theorem law_c4 {p : Program} {l : Launch} {e : Env} {s : State} {m : MethodId} {below : List Frame} {meth : Method} {c : Code} {D : va_G} {J : Nat → ClassId} {b N : Nat} {xs : Nat → Int32} {Q : State → Prop} {hx hm : Nat} {AA : Nat → Nat → Nat} {aa : Nat → Nat} {i : Nat} (hC : zC p s m #[Value.ref b] meth c (fun q : Nat => s.heap.size ≤ q) 4 D J cL_law RL wsL_law) (hX : va_X b N xs s s.heap) (hbl : b < s.heap.size) (hN : N ≤ 2048) (hi : i + 4 ≤ N) (kk : KL p l e s m below meth c D J b Q hx hm AA aa i 599) : KL p l e s m below meth c D J b Q hx hm AA aa i 240 := by
  have hbA : ¬ (fun q : Nat => s.heap.size ≤ q) b := Nat.not_le.mpr hbl
  intro E T F R G U V len pos pr ix nm C L sp nb dn er A K Tm H S Vm hSim
  obtain ⟨hR, hI, hM, hTg, hH, hSl, hl, hCh, her⟩ := id hSim
  have hF := hH.1
  have hL := hH.2.1
  have hF2 := hH.2.2.1
  have hG : 0 ≤ F 2 ∧ F 2 ≤ 6 := by rw [hF2]; exact hL
  have hU := hSl.1
  have heq : mLogR A ((xs (i + 1)).toInt) ((xs (i + 2)).toInt) = cLogR E ((xs (i + 1)).toInt) ((xs (i + 2)).toInt) := log_eq hR hI
  refine z_aload_n hC dL_law_240 rfl 2 rfl ?_
  refine z_aload_n hC dL_law_241 rfl 3 rfl ?_
  refine z_iload_n hC dL_law_242 rfl 0 rfl ?_
  refine z_iconst hC dL_law_243 ?_
  refine z_iadd hC dL_law_244 ?_
  refine z_sld hC hX hbl hbA (i + 1) (by omega) (by omega) (by omega) dL_law_245 ?_
  refine z_aload_n hC dL_law_246 rfl 3 rfl ?_
  refine z_iload_n hC dL_law_247 rfl 0 rfl ?_
  refine z_iconst hC dL_law_248 ?_
  refine z_iadd hC dL_law_249 ?_
  refine z_sld hC hX hbl hbA (i + 2) (by omega) (by omega) (by omega) dL_law_250 ?_
  refine z_callV (wr := wM J hm aa L len sp nb dn er A K Tm H S Vm C) (av := [.int (iI (xs (i + 1)).toInt), .int (iI (xs (i + 2)).toInt)]) (st := []) hC (t_X5_log l D J hx AA E T F R G U V len pos pr ix nm C hI hTg hF hG hU hl hCh ((xs (i + 1)).toInt) ((xs (i + 2)).toInt) (inR_of (xs (i + 1))) (inR_of (xs (i + 2))) ) gL_law_X5_log rfl 2 (by decide +kernel) ⟨Nat.le_of_ble_eq_true rfl, Nat.le_of_ble_eq_true rfl⟩ ⟨Nat.le_of_ble_eq_true rfl, Nat.le_of_ble_eq_true rfl⟩ [0, 1, 2, 3, 4, 5, 6, 7, 8, 9, 10, 11, 12, 13, 14, 15, 16, 17, 18, 19, 20, 21, 22, 23, 24, 25, 26, 27, 28, 29, 30, 31, 32, 33, 34, 35, 36, 37, 38, 39, 40] [41, 42, 43, 44, 45, 46, 47, 48] rfl rfl rfl (by decide) rfl 0 rfl rfl rfl rfl rfl (Nat.le_of_ble_eq_true rfl) dL_law_251 (fun _ _ => ?_)
  refine z_cells (k := 600000) (n := 7302250) rfl rfl ?_
  refine z_ws (ws' := wM J hm aa L len sp nb dn er A K Tm H S Vm C ++ wSP J hx AA E T F R G U V len pos pr ix nm C) rfl ?_
  refine z_st (st' := [.int (iI (cLogR E ((xs (i + 1)).toInt) ((xs (i + 2)).toInt)))]) rfl ?_
  refine z_aload_n hC dL_law_254 rfl 1 rfl ?_
  refine z_aload_n hC dL_law_255 rfl 3 rfl ?_
  refine z_iload_n hC dL_law_256 rfl 0 rfl ?_
  refine z_iconst hC dL_law_257 ?_
  refine z_iadd hC dL_law_258 ?_
  refine z_sld hC hX hbl hbA (i + 1) (by omega) (by omega) (by omega) dL_law_259 ?_
  refine z_aload_n hC dL_law_260 rfl 3 rfl ?_
  refine z_iload_n hC dL_law_261 rfl 0 rfl ?_
  refine z_iconst hC dL_law_262 ?_
  refine z_iadd hC dL_law_263 ?_
  refine z_sld hC hX hbl hbA (i + 2) (by omega) (by omega) (by omega) dL_law_264 ?_
  refine z_callV (wr := wSP J hx AA E T F R G U V len pos pr ix nm C) (av := [.int (iI (xs (i + 1)).toInt), .int (iI (xs (i + 2)).toInt)]) (st := [.int (iI (cLogR E ((xs (i + 1)).toInt) ((xs (i + 2)).toInt)))]) hC (t_X6_log l D J hm aa L len sp nb dn er A K Tm H S Vm C ((xs (i + 1)).toInt) ((xs (i + 2)).toInt) (inR_of (xs (i + 1))) (inR_of (xs (i + 2))) hM) gL_law_X6_log rfl 2 (by decide +kernel) ⟨Nat.le_of_ble_eq_true rfl, Nat.le_of_ble_eq_true rfl⟩ ⟨Nat.le_of_ble_eq_true rfl, Nat.le_of_ble_eq_true rfl⟩ [0, 1, 2, 3, 4, 5, 6, 7] [8, 9, 10, 11, 12, 13, 14, 15, 16, 17, 18, 19, 20, 21, 22, 23, 24, 25, 26, 27, 28, 29, 30, 31, 32, 33, 34, 35, 36, 37, 38, 39, 40, 41, 42, 43, 44, 45, 46, 47, 48] rfl rfl rfl (by decide) rfl 0 rfl rfl rfl rfl rfl (Nat.le_of_ble_eq_true rfl) dL_law_265 (fun _ _ => ?_)
  refine z_cells (k := 600000) (n := 7302250) rfl rfl ?_
  refine z_ws (ws' := wSP J hx AA E T F R G U V len pos pr ix nm C ++ wM J hm aa L len sp nb dn er A K Tm H S Vm C) rfl ?_
  refine z_st (st' := [.int (iI (cLogR E ((xs (i + 1)).toInt) ((xs (i + 2)).toInt))), .int (iI (cLogR E ((xs (i + 1)).toInt) ((xs (i + 2)).toInt)))]) (congrArg (fun z => [Value.int (iI z), Value.int (iI (cLogR E ((xs (i + 1)).toInt) ((xs (i + 2)).toInt)))]) heq) ?_
  refine z_icmp_same (tgt := 599) hC dL_law_268 (by decide) ?_
  exact kk E T F R G U V len pos pr ix nm C L sp nb dn er A K Tm H S Vm hSim
set_option maxHeartbeats 4000000 in
set_option maxRecDepth 100000 in
theorem law_c5 {p : Program} {l : Launch} {e : Env} {s : State} {m : MethodId} {below : List Frame} {meth : Method} {c : Code} {D : va_G} {J : Nat → ClassId} {b N : Nat} {xs : Nat → Int32} {Q : State → Prop} {hx hm : Nat} {AA : Nat → Nat → Nat} {aa : Nat → Nat} {i : Nat} (hC : zC p s m #[Value.ref b] meth c (fun q : Nat => s.heap.size ≤ q) 4 D J cL_law RL wsL_law) (hX : va_X b N xs s s.heap) (hbl : b < s.heap.size) (hN : N ≤ 2048) (hi : i + 4 ≤ N) (kk : KL p l e s m below meth c D J b Q hx hm AA aa i 599) : KL p l e s m below meth c D J b Q hx hm AA aa i 273 := by
  have hbA : ¬ (fun q : Nat => s.heap.size ≤ q) b := Nat.not_le.mpr hbl
  intro E T F R G U V len pos pr ix nm C L sp nb dn er A K Tm H S Vm hSim
  obtain ⟨hR, hI, hM, hTg, hH, hSl, hl, hCh, her⟩ := id hSim
  have hF := hH.1
  have hL := hH.2.1
  have hF2 := hH.2.2.1
  have hG : 0 ≤ F 2 ∧ F 2 ≤ 6 := by rw [hF2]; exact hL
  have hU := hSl.1
  have heq : mCountR A L len ((xs (i + 1)).toInt) = cCountR E F len ((xs (i + 1)).toInt) := count_eq hR hF2
  refine z_aload_n hC dL_law_273 rfl 2 rfl ?_
  refine z_aload_n hC dL_law_274 rfl 3 rfl ?_
  refine z_iload_n hC dL_law_275 rfl 0 rfl ?_
  refine z_iconst hC dL_law_276 ?_
  refine z_iadd hC dL_law_277 ?_
  refine z_sld hC hX hbl hbA (i + 1) (by omega) (by omega) (by omega) dL_law_278 ?_
  refine z_callV (wr := wM J hm aa L len sp nb dn er A K Tm H S Vm C) (av := [.int (iI (xs (i + 1)).toInt)]) (st := []) hC (t_X5_count l D J hx AA E T F R G U V len pos pr ix nm C hI hTg hF hG hU hl hCh ((xs (i + 1)).toInt) (inR_of (xs (i + 1))) ) gL_law_X5_count rfl 1 (by decide +kernel) ⟨Nat.le_of_ble_eq_true rfl, Nat.le_of_ble_eq_true rfl⟩ ⟨Nat.le_of_ble_eq_true rfl, Nat.le_of_ble_eq_true rfl⟩ [0, 1, 2, 3, 4, 5, 6, 7, 8, 9, 10, 11, 12, 13, 14, 15, 16, 17, 18, 19, 20, 21, 22, 23, 24, 25, 26, 27, 28, 29, 30, 31, 32, 33, 34, 35, 36, 37, 38, 39, 40] [41, 42, 43, 44, 45, 46, 47, 48] rfl rfl rfl (by decide) rfl 0 rfl rfl rfl rfl rfl (Nat.le_of_ble_eq_true rfl) dL_law_279 (fun _ _ => ?_)
  refine z_cells (k := 600000) (n := 7302250) rfl rfl ?_
  refine z_ws (ws' := wM J hm aa L len sp nb dn er A K Tm H S Vm C ++ wSP J hx AA E T F R G U V len pos pr ix nm C) rfl ?_
  refine z_st (st' := [.int (iI (cCountR E F len ((xs (i + 1)).toInt)))]) rfl ?_
  refine z_aload_n hC dL_law_282 rfl 1 rfl ?_
  refine z_aload_n hC dL_law_283 rfl 3 rfl ?_
  refine z_iload_n hC dL_law_284 rfl 0 rfl ?_
  refine z_iconst hC dL_law_285 ?_
  refine z_iadd hC dL_law_286 ?_
  refine z_sld hC hX hbl hbA (i + 1) (by omega) (by omega) (by omega) dL_law_287 ?_
  refine z_callV (wr := wSP J hx AA E T F R G U V len pos pr ix nm C) (av := [.int (iI (xs (i + 1)).toInt)]) (st := [.int (iI (cCountR E F len ((xs (i + 1)).toInt)))]) hC (t_X6_count l D J hm aa L len sp nb dn er A K Tm H S Vm C ((xs (i + 1)).toInt) (inR_of (xs (i + 1))) ) gL_law_X6_count rfl 1 (by decide +kernel) ⟨Nat.le_of_ble_eq_true rfl, Nat.le_of_ble_eq_true rfl⟩ ⟨Nat.le_of_ble_eq_true rfl, Nat.le_of_ble_eq_true rfl⟩ [0, 1, 2, 3, 4, 5, 6, 7] [8, 9, 10, 11, 12, 13, 14, 15, 16, 17, 18, 19, 20, 21, 22, 23, 24, 25, 26, 27, 28, 29, 30, 31, 32, 33, 34, 35, 36, 37, 38, 39, 40, 41, 42, 43, 44, 45, 46, 47, 48] rfl rfl rfl (by decide) rfl 0 rfl rfl rfl rfl rfl (Nat.le_of_ble_eq_true rfl) dL_law_288 (fun _ _ => ?_)
  refine z_cells (k := 600000) (n := 7302250) rfl rfl ?_
  refine z_ws (ws' := wSP J hx AA E T F R G U V len pos pr ix nm C ++ wM J hm aa L len sp nb dn er A K Tm H S Vm C) rfl ?_
  refine z_st (st' := [.int (iI (cCountR E F len ((xs (i + 1)).toInt))), .int (iI (cCountR E F len ((xs (i + 1)).toInt)))]) (congrArg (fun z => [Value.int (iI z), Value.int (iI (cCountR E F len ((xs (i + 1)).toInt)))]) heq) ?_
  refine z_icmp_same (tgt := 599) hC dL_law_291 (by decide) ?_
  exact kk E T F R G U V len pos pr ix nm C L sp nb dn er A K Tm H S Vm hSim
set_option maxHeartbeats 4000000 in
set_option maxRecDepth 100000 in
theorem law_c6 {p : Program} {l : Launch} {e : Env} {s : State} {m : MethodId} {below : List Frame} {meth : Method} {c : Code} {D : va_G} {J : Nat → ClassId} {b N : Nat} {xs : Nat → Int32} {Q : State → Prop} {hx hm : Nat} {AA : Nat → Nat → Nat} {aa : Nat → Nat} {i : Nat} (hC : zC p s m #[Value.ref b] meth c (fun q : Nat => s.heap.size ≤ q) 4 D J cL_law RL wsL_law) (hX : va_X b N xs s s.heap) (hbl : b < s.heap.size) (hN : N ≤ 2048) (hi : i + 4 ≤ N) (kk : KL p l e s m below meth c D J b Q hx hm AA aa i 599) : KL p l e s m below meth c D J b Q hx hm AA aa i 296 := by
  have hbA : ¬ (fun q : Nat => s.heap.size ≤ q) b := Nat.not_le.mpr hbl
  intro E T F R G U V len pos pr ix nm C L sp nb dn er A K Tm H S Vm hSim
  obtain ⟨hR, hI, hM, hTg, hH, hSl, hl, hCh, her⟩ := id hSim
  have hF := hH.1
  have hL := hH.2.1
  have hF2 := hH.2.2.1
  have hG : 0 ≤ F 2 ∧ F 2 ≤ 6 := by rw [hF2]; exact hL
  have hU := hSl.1
  have heq : mSpeedR A ((xs (i + 1)).toInt) = cSpeedR E ((xs (i + 1)).toInt) := speed_eq hR hI
  refine z_aload_n hC dL_law_296 rfl 2 rfl ?_
  refine z_aload_n hC dL_law_297 rfl 3 rfl ?_
  refine z_iload_n hC dL_law_298 rfl 0 rfl ?_
  refine z_iconst hC dL_law_299 ?_
  refine z_iadd hC dL_law_300 ?_
  refine z_sld hC hX hbl hbA (i + 1) (by omega) (by omega) (by omega) dL_law_301 ?_
  refine z_callV (wr := wM J hm aa L len sp nb dn er A K Tm H S Vm C) (av := [.int (iI (xs (i + 1)).toInt)]) (st := []) hC (t_X5_speed l D J hx AA E T F R G U V len pos pr ix nm C hI hTg hF hG hU hl hCh ((xs (i + 1)).toInt) (inR_of (xs (i + 1))) ) gL_law_X5_speed rfl 1 (by decide +kernel) ⟨Nat.le_of_ble_eq_true rfl, Nat.le_of_ble_eq_true rfl⟩ ⟨Nat.le_of_ble_eq_true rfl, Nat.le_of_ble_eq_true rfl⟩ [0, 1, 2, 3, 4, 5, 6, 7, 8, 9, 10, 11, 12, 13, 14, 15, 16, 17, 18, 19, 20, 21, 22, 23, 24, 25, 26, 27, 28, 29, 30, 31, 32, 33, 34, 35, 36, 37, 38, 39, 40] [41, 42, 43, 44, 45, 46, 47, 48] rfl rfl rfl (by decide) rfl 0 rfl rfl rfl rfl rfl (Nat.le_of_ble_eq_true rfl) dL_law_302 (fun _ _ => ?_)
  refine z_cells (k := 600000) (n := 7302250) rfl rfl ?_
  refine z_ws (ws' := wM J hm aa L len sp nb dn er A K Tm H S Vm C ++ wSP J hx AA E T F R G U V len pos pr ix nm C) rfl ?_
  refine z_st (st' := [.int (iI (cSpeedR E ((xs (i + 1)).toInt)))]) rfl ?_
  refine z_aload_n hC dL_law_305 rfl 1 rfl ?_
  refine z_aload_n hC dL_law_306 rfl 3 rfl ?_
  refine z_iload_n hC dL_law_307 rfl 0 rfl ?_
  refine z_iconst hC dL_law_308 ?_
  refine z_iadd hC dL_law_309 ?_
  refine z_sld hC hX hbl hbA (i + 1) (by omega) (by omega) (by omega) dL_law_310 ?_
  refine z_callV (wr := wSP J hx AA E T F R G U V len pos pr ix nm C) (av := [.int (iI (xs (i + 1)).toInt)]) (st := [.int (iI (cSpeedR E ((xs (i + 1)).toInt)))]) hC (t_X6_speed l D J hm aa L len sp nb dn er A K Tm H S Vm C ((xs (i + 1)).toInt) (inR_of (xs (i + 1))) hM) gL_law_X6_speed rfl 1 (by decide +kernel) ⟨Nat.le_of_ble_eq_true rfl, Nat.le_of_ble_eq_true rfl⟩ ⟨Nat.le_of_ble_eq_true rfl, Nat.le_of_ble_eq_true rfl⟩ [0, 1, 2, 3, 4, 5, 6, 7] [8, 9, 10, 11, 12, 13, 14, 15, 16, 17, 18, 19, 20, 21, 22, 23, 24, 25, 26, 27, 28, 29, 30, 31, 32, 33, 34, 35, 36, 37, 38, 39, 40, 41, 42, 43, 44, 45, 46, 47, 48] rfl rfl rfl (by decide) rfl 0 rfl rfl rfl rfl rfl (Nat.le_of_ble_eq_true rfl) dL_law_311 (fun _ _ => ?_)
  refine z_cells (k := 600000) (n := 7302250) rfl rfl ?_
  refine z_ws (ws' := wSP J hx AA E T F R G U V len pos pr ix nm C ++ wM J hm aa L len sp nb dn er A K Tm H S Vm C) rfl ?_
  refine z_st (st' := [.int (iI (cSpeedR E ((xs (i + 1)).toInt))), .int (iI (cSpeedR E ((xs (i + 1)).toInt)))]) (congrArg (fun z => [Value.int (iI z), Value.int (iI (cSpeedR E ((xs (i + 1)).toInt)))]) heq) ?_
  refine z_icmp_same (tgt := 599) hC dL_law_314 (by decide) ?_
  exact kk E T F R G U V len pos pr ix nm C L sp nb dn er A K Tm H S Vm hSim
set_option maxHeartbeats 4000000 in
set_option maxRecDepth 100000 in
theorem law_c7 {p : Program} {l : Launch} {e : Env} {s : State} {m : MethodId} {below : List Frame} {meth : Method} {c : Code} {D : va_G} {J : Nat → ClassId} {b N : Nat} {xs : Nat → Int32} {Q : State → Prop} {hx hm : Nat} {AA : Nat → Nat → Nat} {aa : Nat → Nat} {i : Nat} (hC : zC p s m #[Value.ref b] meth c (fun q : Nat => s.heap.size ≤ q) 4 D J cL_law RL wsL_law) (hX : va_X b N xs s s.heap) (hbl : b < s.heap.size) (hN : N ≤ 2048) (hi : i + 4 ≤ N) (kk : KL p l e s m below meth c D J b Q hx hm AA aa i 599) : KL p l e s m below meth c D J b Q hx hm AA aa i 319 := by
  have hbA : ¬ (fun q : Nat => s.heap.size ≤ q) b := Nat.not_le.mpr hbl
  intro E T F R G U V len pos pr ix nm C L sp nb dn er A K Tm H S Vm hSim
  obtain ⟨hR, hI, hM, hTg, hH, hSl, hl, hCh, her⟩ := id hSim
  have hF := hH.1
  have hL := hH.2.1
  have hF2 := hH.2.2.1
  have hG : 0 ≤ F 2 ∧ F 2 ≤ 6 := by rw [hF2]; exact hL
  have hU := hSl.1
  have heq : mRateR A = cRateR E := rate_eq hR hI
  refine z_aload_n hC dL_law_319 rfl 2 rfl ?_
  refine z_callV (wr := wM J hm aa L len sp nb dn er A K Tm H S Vm C) (av := []) (st := []) hC (t_X5_rate l D J hx AA E T F R G U V len pos pr ix nm C hI hTg hF hG hU hl hCh   ) gL_law_X5_rate rfl 0 (by decide +kernel) ⟨Nat.le_of_ble_eq_true rfl, Nat.le_of_ble_eq_true rfl⟩ ⟨Nat.le_of_ble_eq_true rfl, Nat.le_of_ble_eq_true rfl⟩ [0, 1, 2, 3, 4, 5, 6, 7, 8, 9, 10, 11, 12, 13, 14, 15, 16, 17, 18, 19, 20, 21, 22, 23, 24, 25, 26, 27, 28, 29, 30, 31, 32, 33, 34, 35, 36, 37, 38, 39, 40] [41, 42, 43, 44, 45, 46, 47, 48] rfl rfl rfl (by decide) rfl 0 rfl rfl rfl rfl rfl (Nat.le_of_ble_eq_true rfl) dL_law_320 (fun _ _ => ?_)
  refine z_cells (k := 600000) (n := 7302250) rfl rfl ?_
  refine z_ws (ws' := wM J hm aa L len sp nb dn er A K Tm H S Vm C ++ wSP J hx AA E T F R G U V len pos pr ix nm C) rfl ?_
  refine z_st (st' := [.long (cRateR E)]) rfl ?_
  refine z_aload_n hC dL_law_323 rfl 1 rfl ?_
  refine z_callV (wr := wSP J hx AA E T F R G U V len pos pr ix nm C) (av := []) (st := [.long (cRateR E)]) hC (t_X6_rate l D J hm aa L len sp nb dn er A K Tm H S Vm C   hM (per_in hR hI)) gL_law_X6_rate rfl 0 (by decide +kernel) ⟨Nat.le_of_ble_eq_true rfl, Nat.le_of_ble_eq_true rfl⟩ ⟨Nat.le_of_ble_eq_true rfl, Nat.le_of_ble_eq_true rfl⟩ [0, 1, 2, 3, 4, 5, 6, 7] [8, 9, 10, 11, 12, 13, 14, 15, 16, 17, 18, 19, 20, 21, 22, 23, 24, 25, 26, 27, 28, 29, 30, 31, 32, 33, 34, 35, 36, 37, 38, 39, 40, 41, 42, 43, 44, 45, 46, 47, 48] rfl rfl rfl (by decide) rfl 0 rfl rfl rfl rfl rfl (Nat.le_of_ble_eq_true rfl) dL_law_324 (fun _ _ => ?_)
  refine z_cells (k := 600000) (n := 7302250) rfl rfl ?_
  refine z_ws (ws' := wSP J hx AA E T F R G U V len pos pr ix nm C ++ wM J hm aa L len sp nb dn er A K Tm H S Vm C) rfl ?_
  refine z_st (st' := [.long (cRateR E), .long (cRateR E)]) (congrArg (fun z => [Value.long z, Value.long (cRateR E)]) heq) ?_
  refine z_lcmp (v := 0) hC dL_law_327 (l_cmp_same _) ?_
  refine z_if_eq (tgt := 599) hC dL_law_328 (by decide) inR_0 (fun _ => ?_) (fun h => absurd rfl h)
  exact kk E T F R G U V len pos pr ix nm C L sp nb dn er A K Tm H S Vm hSim
set_option maxHeartbeats 4000000 in
set_option maxRecDepth 100000 in
theorem law_c8 {p : Program} {l : Launch} {e : Env} {s : State} {m : MethodId} {below : List Frame} {meth : Method} {c : Code} {D : va_G} {J : Nat → ClassId} {b N : Nat} {xs : Nat → Int32} {Q : State → Prop} {hx hm : Nat} {AA : Nat → Nat → Nat} {aa : Nat → Nat} {i : Nat} (hC : zC p s m #[Value.ref b] meth c (fun q : Nat => s.heap.size ≤ q) 4 D J cL_law RL wsL_law) (hX : va_X b N xs s s.heap) (hbl : b < s.heap.size) (hN : N ≤ 2048) (hi : i + 4 ≤ N) (kk : KL p l e s m below meth c D J b Q hx hm AA aa i 599) : KL p l e s m below meth c D J b Q hx hm AA aa i 333 := by
  have hbA : ¬ (fun q : Nat => s.heap.size ≤ q) b := Nat.not_le.mpr hbl
  intro E T F R G U V len pos pr ix nm C L sp nb dn er A K Tm H S Vm hSim
  obtain ⟨hR, hI, hM, hTg, hH, hSl, hl, hCh, her⟩ := id hSim
  have hF := hH.1
  have hL := hH.2.1
  have hF2 := hH.2.2.1
  have hG : 0 ≤ F 2 ∧ F 2 ≤ 6 := by rw [hF2]; exact hL
  have hU := hSl.1
  have heq : mNoiseR A = cNoiseR E := noise_eq hR hI
  refine z_aload_n hC dL_law_333 rfl 2 rfl ?_
  refine z_callV (wr := wM J hm aa L len sp nb dn er A K Tm H S Vm C) (av := []) (st := []) hC (t_X5_noise l D J hx AA E T F R G U V len pos pr ix nm C hI hTg hF hG hU hl hCh   ) gL_law_X5_noise rfl 0 (by decide +kernel) ⟨Nat.le_of_ble_eq_true rfl, Nat.le_of_ble_eq_true rfl⟩ ⟨Nat.le_of_ble_eq_true rfl, Nat.le_of_ble_eq_true rfl⟩ [0, 1, 2, 3, 4, 5, 6, 7, 8, 9, 10, 11, 12, 13, 14, 15, 16, 17, 18, 19, 20, 21, 22, 23, 24, 25, 26, 27, 28, 29, 30, 31, 32, 33, 34, 35, 36, 37, 38, 39, 40] [41, 42, 43, 44, 45, 46, 47, 48] rfl rfl rfl (by decide) rfl 0 rfl rfl rfl rfl rfl (Nat.le_of_ble_eq_true rfl) dL_law_334 (fun _ _ => ?_)
  refine z_cells (k := 600000) (n := 7302250) rfl rfl ?_
  refine z_ws (ws' := wM J hm aa L len sp nb dn er A K Tm H S Vm C ++ wSP J hx AA E T F R G U V len pos pr ix nm C) rfl ?_
  refine z_st (st' := [.int (iI (cNoiseR E))]) rfl ?_
  refine z_aload_n hC dL_law_337 rfl 1 rfl ?_
  refine z_callV (wr := wSP J hx AA E T F R G U V len pos pr ix nm C) (av := []) (st := [.int (iI (cNoiseR E))]) hC (t_X6_noise l D J hm aa L len sp nb dn er A K Tm H S Vm C   hM) gL_law_X6_noise rfl 0 (by decide +kernel) ⟨Nat.le_of_ble_eq_true rfl, Nat.le_of_ble_eq_true rfl⟩ ⟨Nat.le_of_ble_eq_true rfl, Nat.le_of_ble_eq_true rfl⟩ [0, 1, 2, 3, 4, 5, 6, 7] [8, 9, 10, 11, 12, 13, 14, 15, 16, 17, 18, 19, 20, 21, 22, 23, 24, 25, 26, 27, 28, 29, 30, 31, 32, 33, 34, 35, 36, 37, 38, 39, 40, 41, 42, 43, 44, 45, 46, 47, 48] rfl rfl rfl (by decide) rfl 0 rfl rfl rfl rfl rfl (Nat.le_of_ble_eq_true rfl) dL_law_338 (fun _ _ => ?_)
  refine z_cells (k := 600000) (n := 7302250) rfl rfl ?_
  refine z_ws (ws' := wSP J hx AA E T F R G U V len pos pr ix nm C ++ wM J hm aa L len sp nb dn er A K Tm H S Vm C) rfl ?_
  refine z_st (st' := [.int (iI (cNoiseR E)), .int (iI (cNoiseR E))]) (congrArg (fun z => [Value.int (iI z), Value.int (iI (cNoiseR E))]) heq) ?_
  refine z_icmp_same (tgt := 599) hC dL_law_341 (by decide) ?_
  exact kk E T F R G U V len pos pr ix nm C L sp nb dn er A K Tm H S Vm hSim
