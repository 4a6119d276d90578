/-! ===== the law: cases 9, 10, 11, 12, 13 ===== -/
theorem kL_law_70 : Cond.constantLong RL 70 4294967295 ∈ wsL_law := List.mem_of_getElem? (i := 6) rfl
set_option maxHeartbeats 4000000 in
set_option maxRecDepth 100000 in
theorem law_c9 {p : Program} {l : Launch} {e : Env} {s : State} {m : MethodId} {below : List Frame} {meth : Method} {c : Code} {D : va_G} {J : Nat → ClassId} {b N : Nat} {xs : Nat → Int32} {Q : State → Prop} {hx hm : Nat} {AA : Nat → Nat → Nat} {aa : Nat → Nat} {i : Nat} (hC : zC p s m #[Value.ref b] meth c (fun q : Nat => s.heap.size ≤ q) 4 D J cL_law RL wsL_law) (hX : va_X b N xs s s.heap) (hbl : b < s.heap.size) (hN : N ≤ 2048) (hi : i + 4 ≤ N) (kk : KL p l e s m below meth c D J b Q hx hm AA aa i 599) : KL p l e s m below meth c D J b Q hx hm AA aa i 346 := by
  have hbA : ¬ (fun q : Nat => s.heap.size ≤ q) b := Nat.not_le.mpr hbl
  intro E T F R G U V len pos pr ix nm C L sp nb dn er A K Tm H S Vm hSim
  obtain ⟨hR, hI, hM, hTg, hH, hSl, hl, hCh, her⟩ := id hSim
  have hF := hH.1
  have hL := hH.2.1
  have hF2 := hH.2.2.1
  have hG : 0 ≤ F 2 ∧ F 2 ≤ 6 := by rw [hF2]; exact hL
  have hU := hSl.1
  have heq : mReplayR A ((xs (i + 1)).toInt) ((xs (i + 2)).toInt) = cReplayR E T ((xs (i + 1)).toInt) ((xs (i + 2)).toInt) := replay_eq hR hI hM hTg
  refine z_aload_n hC dL_law_346 rfl 2 rfl ?_
  refine z_aload_n hC dL_law_347 rfl 3 rfl ?_
  refine z_iload_n hC dL_law_348 rfl 0 rfl ?_
  refine z_iconst hC dL_law_349 ?_
  refine z_iadd hC dL_law_350 ?_
  refine z_sld hC hX hbl hbA (i + 1) (by omega) (by omega) (by omega) dL_law_351 ?_
  refine z_aload_n hC dL_law_352 rfl 3 rfl ?_
  refine z_iload_n hC dL_law_353 rfl 0 rfl ?_
  refine z_iconst hC dL_law_354 ?_
  refine z_iadd hC dL_law_355 ?_
  refine z_sld hC hX hbl hbA (i + 2) (by omega) (by omega) (by omega) dL_law_356 ?_
  refine z_callV (wr := wM J hm aa L len sp nb dn er A K Tm H S Vm C) (av := [.int (iI (xs (i + 1)).toInt), .int (iI (xs (i + 2)).toInt)]) (st := []) hC (t_X5_replay l D J hx AA E T F R G U V len pos pr ix nm C hI hTg hF hG hU hl hCh ((xs (i + 1)).toInt) ((xs (i + 2)).toInt) (inR_of (xs (i + 1))) (inR_of (xs (i + 2))) ) gL_law_X5_replay rfl 2 (by decide +kernel) ⟨Nat.le_of_ble_eq_true rfl, Nat.le_of_ble_eq_true rfl⟩ ⟨Nat.le_of_ble_eq_true rfl, Nat.le_of_ble_eq_true rfl⟩ [0, 1, 2, 3, 4, 5, 6, 7, 8, 9, 10, 11, 12, 13, 14, 15, 16, 17, 18, 19, 20, 21, 22, 23, 24, 25, 26, 27, 28, 29, 30, 31, 32, 33, 34, 35, 36, 37, 38, 39, 40] [41, 42, 43, 44, 45, 46, 47, 48] rfl rfl rfl (by decide) rfl 0 rfl rfl rfl rfl rfl (Nat.le_of_ble_eq_true rfl) dL_law_357 (fun _ _ => ?_)
  refine z_cells (k := 600000) (n := 7302250) rfl rfl ?_
  refine z_ws (ws' := wM J hm aa L len sp nb dn er A K Tm H S Vm C ++ wSP J hx AA E (cReplayT E T ((xs (i + 1)).toInt) ((xs (i + 2)).toInt)) F R G U V len pos pr ix nm C) rfl ?_
  refine z_st (st' := [.int (iI (cReplayR E T ((xs (i + 1)).toInt) ((xs (i + 2)).toInt)))]) rfl ?_
  refine z_aload_n hC dL_law_360 rfl 1 rfl ?_
  refine z_aload_n hC dL_law_361 rfl 3 rfl ?_
  refine z_iload_n hC dL_law_362 rfl 0 rfl ?_
  refine z_iconst hC dL_law_363 ?_
  refine z_iadd hC dL_law_364 ?_
  refine z_sld hC hX hbl hbA (i + 1) (by omega) (by omega) (by omega) dL_law_365 ?_
  refine z_aload_n hC dL_law_366 rfl 3 rfl ?_
  refine z_iload_n hC dL_law_367 rfl 0 rfl ?_
  refine z_iconst hC dL_law_368 ?_
  refine z_iadd hC dL_law_369 ?_
  refine z_sld hC hX hbl hbA (i + 2) (by omega) (by omega) (by omega) dL_law_370 ?_
  refine z_callV (wr := wSP J hx AA E (cReplayT E T ((xs (i + 1)).toInt) ((xs (i + 2)).toInt)) F R G U V len pos pr ix nm C) (av := [.int (iI (xs (i + 1)).toInt), .int (iI (xs (i + 2)).toInt)]) (st := [.int (iI (cReplayR E T ((xs (i + 1)).toInt) ((xs (i + 2)).toInt)))]) hC (t_X6_replay l D J hm aa L len sp nb dn er A K Tm H S Vm C ((xs (i + 1)).toInt) ((xs (i + 2)).toInt) (inR_of (xs (i + 1))) (inR_of (xs (i + 2))) hM) gL_law_X6_replay rfl 2 (by decide +kernel) ⟨Nat.le_of_ble_eq_true rfl, Nat.le_of_ble_eq_true rfl⟩ ⟨Nat.le_of_ble_eq_true rfl, Nat.le_of_ble_eq_true rfl⟩ [0, 1, 2, 3, 4, 5, 6, 7] [8, 9, 10, 11, 12, 13, 14, 15, 16, 17, 18, 19, 20, 21, 22, 23, 24, 25, 26, 27, 28, 29, 30, 31, 32, 33, 34, 35, 36, 37, 38, 39, 40, 41, 42, 43, 44, 45, 46, 47, 48] rfl rfl rfl (by decide) rfl 0 rfl rfl rfl rfl rfl (Nat.le_of_ble_eq_true rfl) dL_law_371 (fun _ _ => ?_)
  refine z_cells (k := 600000) (n := 7302250) rfl rfl ?_
  refine z_ws (ws' := wSP J hx AA E (cReplayT E T ((xs (i + 1)).toInt) ((xs (i + 2)).toInt)) F R G U V len pos pr ix nm C ++ wM J hm aa L len sp nb dn er A K (mReplayT A Tm ((xs (i + 1)).toInt) ((xs (i + 2)).toInt)) H S Vm C) rfl ?_
  refine z_st (st' := [.int (iI (cReplayR E T ((xs (i + 1)).toInt) ((xs (i + 2)).toInt))), .int (iI (cReplayR E T ((xs (i + 1)).toInt) ((xs (i + 2)).toInt)))]) (congrArg (fun z => [Value.int (iI z), Value.int (iI (cReplayR E T ((xs (i + 1)).toInt) ((xs (i + 2)).toInt)))]) heq) ?_
  refine z_icmp_same (tgt := 599) hC dL_law_374 (by decide) ?_
  exact kk E (cReplayT E T ((xs (i + 1)).toInt) ((xs (i + 2)).toInt)) F R G U V len pos pr ix nm C L sp nb dn er A K (mReplayT A Tm ((xs (i + 1)).toInt) ((xs (i + 2)).toInt)) H S Vm ⟨hR, hI, hM, replayT_g hI hTg, hH, hSl, hl, hCh, her⟩
set_option maxHeartbeats 4000000 in
set_option maxRecDepth 100000 in
theorem law_c10 {p : Program} {l : Launch} {e : Env} {s : State} {m : MethodId} {below : List Frame} {meth : Method} {c : Code} {D : va_G} {J : Nat → ClassId} {b N : Nat} {xs : Nat → Int32} {Q : State → Prop} {hx hm : Nat} {AA : Nat → Nat → Nat} {aa : Nat → Nat} {i : Nat} (hC : zC p s m #[Value.ref b] meth c (fun q : Nat => s.heap.size ≤ q) 4 D J cL_law RL wsL_law) (hX : va_X b N xs s s.heap) (hbl : b < s.heap.size) (hN : N ≤ 2048) (hi : i + 4 ≤ N) (kk : KL p l e s m below meth c D J b Q hx hm AA aa i 599) : KL p l e s m below meth c D J b Q hx hm AA aa i 379 := by
  have hbA : ¬ (fun q : Nat => s.heap.size ≤ q) b := Nat.not_le.mpr hbl
  intro E T F R G U V len pos pr ix nm C L sp nb dn er A K Tm H S Vm hSim
  obtain ⟨hR, hI, hM, hTg, hH, hSl, hl, hCh, her⟩ := id hSim
  have hF := hH.1
  have hL := hH.2.1
  have hF2 := hH.2.2.1
  have hG : 0 ≤ F 2 ∧ F 2 ≤ 6 := by rw [hF2]; exact hL
  have hU := hSl.1
  have heq : mBestR A ((xs (i + 1)).toInt) = cBestR E T ((xs (i + 1)).toInt) := bestR_eq hR hI hM hTg
  refine z_aload_n hC dL_law_379 rfl 2 rfl ?_
  refine z_aload_n hC dL_law_380 rfl 3 rfl ?_
  refine z_iload_n hC dL_law_381 rfl 0 rfl ?_
  refine z_iconst hC dL_law_382 ?_
  refine z_iadd hC dL_law_383 ?_
  refine z_sld hC hX hbl hbA (i + 1) (by omega) (by omega) (by omega) dL_law_384 ?_
  refine z_callV (wr := wM J hm aa L len sp nb dn er A K Tm H S Vm C) (av := [.int (iI (xs (i + 1)).toInt)]) (st := []) hC (t_X5_bestFilter l D J hx AA E T F R G U V len pos pr ix nm C hI hTg hF hG hU hl hCh ((xs (i + 1)).toInt) (inR_of (xs (i + 1))) ) gL_law_X5_bestFilter rfl 1 (by decide +kernel) ⟨Nat.le_of_ble_eq_true rfl, Nat.le_of_ble_eq_true rfl⟩ ⟨Nat.le_of_ble_eq_true rfl, Nat.le_of_ble_eq_true rfl⟩ [0, 1, 2, 3, 4, 5, 6, 7, 8, 9, 10, 11, 12, 13, 14, 15, 16, 17, 18, 19, 20, 21, 22, 23, 24, 25, 26, 27, 28, 29, 30, 31, 32, 33, 34, 35, 36, 37, 38, 39, 40] [41, 42, 43, 44, 45, 46, 47, 48] rfl rfl rfl (by decide) rfl 0 rfl rfl rfl rfl rfl (Nat.le_of_ble_eq_true rfl) dL_law_385 (fun _ _ => ?_)
  refine z_cells (k := 600000) (n := 7302250) rfl rfl ?_
  refine z_ws (ws' := wM J hm aa L len sp nb dn er A K Tm H S Vm C ++ wSP J hx AA E (cBestT E T ((xs (i + 1)).toInt)) F R G U V len pos pr ix nm C) rfl ?_
  refine z_st (st' := [.int (iI (cBestR E T ((xs (i + 1)).toInt)))]) rfl ?_
  refine z_aload_n hC dL_law_388 rfl 1 rfl ?_
  refine z_aload_n hC dL_law_389 rfl 3 rfl ?_
  refine z_iload_n hC dL_law_390 rfl 0 rfl ?_
  refine z_iconst hC dL_law_391 ?_
  refine z_iadd hC dL_law_392 ?_
  refine z_sld hC hX hbl hbA (i + 1) (by omega) (by omega) (by omega) dL_law_393 ?_
  refine z_callV (wr := wSP J hx AA E (cBestT E T ((xs (i + 1)).toInt)) F R G U V len pos pr ix nm C) (av := [.int (iI (xs (i + 1)).toInt)]) (st := [.int (iI (cBestR E T ((xs (i + 1)).toInt)))]) hC (t_X6_bestFilter l D J hm aa L len sp nb dn er A K Tm H S Vm C ((xs (i + 1)).toInt) (inR_of (xs (i + 1))) hM) gL_law_X6_bestFilter rfl 1 (by decide +kernel) ⟨Nat.le_of_ble_eq_true rfl, Nat.le_of_ble_eq_true rfl⟩ ⟨Nat.le_of_ble_eq_true rfl, Nat.le_of_ble_eq_true rfl⟩ [0, 1, 2, 3, 4, 5, 6, 7] [8, 9, 10, 11, 12, 13, 14, 15, 16, 17, 18, 19, 20, 21, 22, 23, 24, 25, 26, 27, 28, 29, 30, 31, 32, 33, 34, 35, 36, 37, 38, 39, 40, 41, 42, 43, 44, 45, 46, 47, 48] rfl rfl rfl (by decide) rfl 0 rfl rfl rfl rfl rfl (Nat.le_of_ble_eq_true rfl) dL_law_394 (fun _ _ => ?_)
  refine z_cells (k := 600000) (n := 7302250) rfl rfl ?_
  refine z_ws (ws' := wSP J hx AA E (cBestT E T ((xs (i + 1)).toInt)) F R G U V len pos pr ix nm C ++ wM J hm aa L len sp nb dn er A K (mBestT A Tm ((xs (i + 1)).toInt)) H S Vm C) rfl ?_
  refine z_st (st' := [.int (iI (cBestR E T ((xs (i + 1)).toInt))), .int (iI (cBestR E T ((xs (i + 1)).toInt)))]) (congrArg (fun z => [Value.int (iI z), Value.int (iI (cBestR E T ((xs (i + 1)).toInt)))]) heq) ?_
  refine z_icmp_same (tgt := 599) hC dL_law_397 (by decide) ?_
  exact kk E (cBestT E T ((xs (i + 1)).toInt)) F R G U V len pos pr ix nm C L sp nb dn er A K (mBestT A Tm ((xs (i + 1)).toInt)) H S Vm ⟨hR, hI, hM, bestT_g hI hTg, hH, hSl, hl, hCh, her⟩
set_option maxHeartbeats 4000000 in
set_option maxRecDepth 100000 in
theorem law_c11 {p : Program} {l : Launch} {e : Env} {s : State} {m : MethodId} {below : List Frame} {meth : Method} {c : Code} {D : va_G} {J : Nat → ClassId} {b N : Nat} {xs : Nat → Int32} {Q : State → Prop} {hx hm : Nat} {AA : Nat → Nat → Nat} {aa : Nat → Nat} {i : Nat} (hC : zC p s m #[Value.ref b] meth c (fun q : Nat => s.heap.size ≤ q) 4 D J cL_law RL wsL_law) (hX : va_X b N xs s s.heap) (hbl : b < s.heap.size) (hN : N ≤ 2048) (hi : i + 4 ≤ N) (kk : KL p l e s m below meth c D J b Q hx hm AA aa i 599) : KL p l e s m below meth c D J b Q hx hm AA aa i 402 := by
  have hbA : ¬ (fun q : Nat => s.heap.size ≤ q) b := Nat.not_le.mpr hbl
  intro E T F R G U V len pos pr ix nm C L sp nb dn er A K Tm H S Vm hSim
  obtain ⟨hR, hI, hM, hTg, hH, hSl, hl, hCh, her⟩ := id hSim
  have hF := hH.1
  have hL := hH.2.1
  have hF2 := hH.2.2.1
  have hG : 0 ≤ F 2 ∧ F 2 ≤ 6 := by rw [hF2]; exact hL
  have hU := hSl.1
  have heq : mWouldR A ((xs (i + 1)).toInt) = cWouldR E ((xs (i + 1)).toInt) := would_eq hR hI _
  refine z_aload_n hC dL_law_402 rfl 2 rfl ?_
  refine z_aload_n hC dL_law_403 rfl 3 rfl ?_
  refine z_iload_n hC dL_law_404 rfl 0 rfl ?_
  refine z_iconst hC dL_law_405 ?_
  refine z_iadd hC dL_law_406 ?_
  refine z_sld hC hX hbl hbA (i + 1) (by omega) (by omega) (by omega) dL_law_407 ?_
  refine z_callV (wr := wM J hm aa L len sp nb dn er A K Tm H S Vm C) (av := [.int (iI (xs (i + 1)).toInt)]) (st := []) hC (t_X5_would l D J hx AA E T F R G U V len pos pr ix nm C hI hTg hF hG hU hl hCh ((xs (i + 1)).toInt) (inR_of (xs (i + 1))) ) gL_law_X5_would rfl 1 (by decide +kernel) ⟨Nat.le_of_ble_eq_true rfl, Nat.le_of_ble_eq_true rfl⟩ ⟨Nat.le_of_ble_eq_true rfl, Nat.le_of_ble_eq_true rfl⟩ [0, 1, 2, 3, 4, 5, 6, 7, 8, 9, 10, 11, 12, 13, 14, 15, 16, 17, 18, 19, 20, 21, 22, 23, 24, 25, 26, 27, 28, 29, 30, 31, 32, 33, 34, 35, 36, 37, 38, 39, 40] [41, 42, 43, 44, 45, 46, 47, 48] rfl rfl rfl (by decide) rfl 0 rfl rfl rfl rfl rfl (Nat.le_of_ble_eq_true rfl) dL_law_408 (fun _ _ => ?_)
  refine z_cells (k := 600000) (n := 7302250) rfl rfl ?_
  refine z_ws (ws' := wM J hm aa L len sp nb dn er A K Tm H S Vm C ++ wSP J hx AA E T F R G U V len pos pr ix nm C) rfl ?_
  refine z_st (st' := [.int (iI (cWouldR E ((xs (i + 1)).toInt)))]) rfl ?_
  refine z_aload_n hC dL_law_411 rfl 1 rfl ?_
  refine z_aload_n hC dL_law_412 rfl 3 rfl ?_
  refine z_iload_n hC dL_law_413 rfl 0 rfl ?_
  refine z_iconst hC dL_law_414 ?_
  refine z_iadd hC dL_law_415 ?_
  refine z_sld hC hX hbl hbA (i + 1) (by omega) (by omega) (by omega) dL_law_416 ?_
  refine z_callV (wr := wSP J hx AA E T F R G U V len pos pr ix nm C) (av := [.int (iI (xs (i + 1)).toInt)]) (st := [.int (iI (cWouldR E ((xs (i + 1)).toInt)))]) hC (t_X6_would l D J hm aa L len sp nb dn er A K Tm H S Vm C ((xs (i + 1)).toInt) (inR_of (xs (i + 1))) hM) gL_law_X6_would rfl 1 (by decide +kernel) ⟨Nat.le_of_ble_eq_true rfl, Nat.le_of_ble_eq_true rfl⟩ ⟨Nat.le_of_ble_eq_true rfl, Nat.le_of_ble_eq_true rfl⟩ [0, 1, 2, 3, 4, 5, 6, 7] [8, 9, 10, 11, 12, 13, 14, 15, 16, 17, 18, 19, 20, 21, 22, 23, 24, 25, 26, 27, 28, 29, 30, 31, 32, 33, 34, 35, 36, 37, 38, 39, 40, 41, 42, 43, 44, 45, 46, 47, 48] rfl rfl rfl (by decide) rfl 0 rfl rfl rfl rfl rfl (Nat.le_of_ble_eq_true rfl) dL_law_417 (fun _ _ => ?_)
  refine z_cells (k := 600000) (n := 7302250) rfl rfl ?_
  refine z_ws (ws' := wSP J hx AA E T F R G U V len pos pr ix nm C ++ wM J hm aa L len sp nb dn er A K Tm H S Vm C) rfl ?_
  refine z_st (st' := [.int (iI (cWouldR E ((xs (i + 1)).toInt))), .int (iI (cWouldR E ((xs (i + 1)).toInt)))]) (congrArg (fun z => [Value.int (iI z), Value.int (iI (cWouldR E ((xs (i + 1)).toInt)))]) heq) ?_
  refine z_icmp_same (tgt := 599) hC dL_law_420 (by decide) ?_
  exact kk E T F R G U V len pos pr ix nm C L sp nb dn er A K Tm H S Vm hSim
set_option maxHeartbeats 4000000 in
set_option maxRecDepth 100000 in
theorem law_c12 {p : Program} {l : Launch} {e : Env} {s : State} {m : MethodId} {below : List Frame} {meth : Method} {c : Code} {D : va_G} {J : Nat → ClassId} {b N : Nat} {xs : Nat → Int32} {Q : State → Prop} {hx hm : Nat} {AA : Nat → Nat → Nat} {aa : Nat → Nat} {i : Nat} (hC : zC p s m #[Value.ref b] meth c (fun q : Nat => s.heap.size ≤ q) 4 D J cL_law RL wsL_law) (hX : va_X b N xs s s.heap) (hbl : b < s.heap.size) (hN : N ≤ 2048) (hi : i + 4 ≤ N) (kk : KL p l e s m below meth c D J b Q hx hm AA aa i 599) : KL p l e s m below meth c D J b Q hx hm AA aa i 425 := by
  have hbA : ¬ (fun q : Nat => s.heap.size ≤ q) b := Nat.not_le.mpr hbl
  intro E T F R G U V len pos pr ix nm C L sp nb dn er A K Tm H S Vm hSim
  obtain ⟨hR, hI, hM, hTg, hH, hSl, hl, hCh, her⟩ := id hSim
  have hF := hH.1
  have hL := hH.2.1
  have hF2 := hH.2.2.1
  have hG : 0 ≤ F 2 ∧ F 2 ≤ 6 := by rw [hF2]; exact hL
  have hU := hSl.1
  have heq : mDeedsR A ((xs (i + 1)).toInt) = cDeedsR E ((xs (i + 1)).toInt) := deeds_eq hR hI
  refine z_aload_n hC dL_law_425 rfl 2 rfl ?_
  refine z_aload_n hC dL_law_426 rfl 3 rfl ?_
  refine z_iload_n hC dL_law_427 rfl 0 rfl ?_
  refine z_iconst hC dL_law_428 ?_
  refine z_iadd hC dL_law_429 ?_
  refine z_sld hC hX hbl hbA (i + 1) (by omega) (by omega) (by omega) dL_law_430 ?_
  refine z_callV (wr := wM J hm aa L len sp nb dn er A K Tm H S Vm C) (av := [.int (iI (xs (i + 1)).toInt)]) (st := []) hC (t_X5_deeds l D J hx AA E T F R G U V len pos pr ix nm C hI hTg hF hG hU hl hCh ((xs (i + 1)).toInt) (inR_of (xs (i + 1))) ) gL_law_X5_deeds rfl 1 (by decide +kernel) ⟨Nat.le_of_ble_eq_true rfl, Nat.le_of_ble_eq_true rfl⟩ ⟨Nat.le_of_ble_eq_true rfl, Nat.le_of_ble_eq_true rfl⟩ [0, 1, 2, 3, 4, 5, 6, 7, 8, 9, 10, 11, 12, 13, 14, 15, 16, 17, 18, 19, 20, 21, 22, 23, 24, 25, 26, 27, 28, 29, 30, 31, 32, 33, 34, 35, 36, 37, 38, 39, 40] [41, 42, 43, 44, 45, 46, 47, 48] rfl rfl rfl (by decide) rfl 0 rfl rfl rfl rfl rfl (Nat.le_of_ble_eq_true rfl) dL_law_431 (fun _ _ => ?_)
  refine z_cells (k := 600000) (n := 7302250) rfl rfl ?_
  refine z_ws (ws' := wM J hm aa L len sp nb dn er A K Tm H S Vm C ++ wSP J hx AA E T F R G U V len pos pr ix nm C) rfl ?_
  refine z_st (st' := [.int (iI (cDeedsR E ((xs (i + 1)).toInt)))]) rfl ?_
  refine z_aload_n hC dL_law_434 rfl 1 rfl ?_
  refine z_aload_n hC dL_law_435 rfl 3 rfl ?_
  refine z_iload_n hC dL_law_436 rfl 0 rfl ?_
  refine z_iconst hC dL_law_437 ?_
  refine z_iadd hC dL_law_438 ?_
  refine z_sld hC hX hbl hbA (i + 1) (by omega) (by omega) (by omega) dL_law_439 ?_
  refine z_callV (wr := wSP J hx AA E T F R G U V len pos pr ix nm C) (av := [.int (iI (xs (i + 1)).toInt)]) (st := [.int (iI (cDeedsR E ((xs (i + 1)).toInt)))]) hC (t_X6_deeds l D J hm aa L len sp nb dn er A K Tm H S Vm C ((xs (i + 1)).toInt) (inR_of (xs (i + 1))) hM) gL_law_X6_deeds rfl 1 (by decide +kernel) ⟨Nat.le_of_ble_eq_true rfl, Nat.le_of_ble_eq_true rfl⟩ ⟨Nat.le_of_ble_eq_true rfl, Nat.le_of_ble_eq_true rfl⟩ [0, 1, 2, 3, 4, 5, 6, 7] [8, 9, 10, 11, 12, 13, 14, 15, 16, 17, 18, 19, 20, 21, 22, 23, 24, 25, 26, 27, 28, 29, 30, 31, 32, 33, 34, 35, 36, 37, 38, 39, 40, 41, 42, 43, 44, 45, 46, 47, 48] rfl rfl rfl (by decide) rfl 0 rfl rfl rfl rfl rfl (Nat.le_of_ble_eq_true rfl) dL_law_440 (fun _ _ => ?_)
  refine z_cells (k := 600000) (n := 7302250) rfl rfl ?_
  refine z_ws (ws' := wSP J hx AA E T F R G U V len pos pr ix nm C ++ wM J hm aa L len sp nb dn er A K Tm H S Vm C) rfl ?_
  refine z_st (st' := [.int (iI (cDeedsR E ((xs (i + 1)).toInt))), .int (iI (cDeedsR E ((xs (i + 1)).toInt)))]) (congrArg (fun z => [Value.int (iI z), Value.int (iI (cDeedsR E ((xs (i + 1)).toInt)))]) heq) ?_
  refine z_icmp_same (tgt := 599) hC dL_law_443 (by decide) ?_
  exact kk E T F R G U V len pos pr ix nm C L sp nb dn er A K Tm H S Vm hSim
set_option maxHeartbeats 4000000 in
set_option maxRecDepth 100000 in
theorem law_c13 {p : Program} {l : Launch} {e : Env} {s : State} {m : MethodId} {below : List Frame} {meth : Method} {c : Code} {D : va_G} {J : Nat → ClassId} {b N : Nat} {xs : Nat → Int32} {Q : State → Prop} {hx hm : Nat} {AA : Nat → Nat → Nat} {aa : Nat → Nat} {i : Nat} (hC : zC p s m #[Value.ref b] meth c (fun q : Nat => s.heap.size ≤ q) 4 D J cL_law RL wsL_law) (hX : va_X b N xs s s.heap) (hbl : b < s.heap.size) (hN : N ≤ 2048) (hi : i + 4 ≤ N) (kk : KL p l e s m below meth c D J b Q hx hm AA aa i 599) : KL p l e s m below meth c D J b Q hx hm AA aa i 448 := by
  have hbA : ¬ (fun q : Nat => s.heap.size ≤ q) b := Nat.not_le.mpr hbl
  intro E T F R G U V len pos pr ix nm C L sp nb dn er A K Tm H S Vm hSim
  obtain ⟨hR, hI, hM, hTg, hH, hSl, hl, hCh, her⟩ := id hSim
  have hF := hH.1
  have hL := hH.2.1
  have hF2 := hH.2.2.1
  have hG : 0 ≤ F 2 ∧ F 2 ≤ 6 := by rw [hF2]; exact hL
  have hU := hSl.1
  obtain ⟨X, hX64, hXv⟩ := long_nat (((iI (xs (i + 1)).toInt).toInt64 <<< ((iI 32).toInt64 &&& 63)) ||| ((iI (xs (i + 2)).toInt).toInt64 &&& 4294967295))
  have heq : mPutR X len = aR X len := (put_eq (C := C) hX64).1
  refine z_aload_n hC dL_law_448 rfl 2 rfl ?_
  refine z_aload_n hC dL_law_449 rfl 3 rfl ?_
  refine z_iload_n hC dL_law_450 rfl 0 rfl ?_
  refine z_iconst hC dL_law_451 ?_
  refine z_iadd hC dL_law_452 ?_
  refine z_sld hC hX hbl hbA (i + 1) (by omega) (by omega) (by omega) dL_law_453 ?_
  refine z_i2l hC dL_law_454 rfl ?_
  refine z_bipush hC dL_law_455 rfl ?_
  refine z_lshl hC dL_law_457 rfl ?_
  refine z_aload_n hC dL_law_458 rfl 3 rfl ?_
  refine z_iload_n hC dL_law_459 rfl 0 rfl ?_
  refine z_iconst hC dL_law_460 ?_
  refine z_iadd hC dL_law_461 ?_
  refine z_sld hC hX hbl hbA (i + 2) (by omega) (by omega) (by omega) dL_law_462 ?_
  refine z_i2l hC dL_law_463 rfl ?_
  refine z_ldc2 hC kL_law_70 dL_law_464 ?_
  refine z_land hC dL_law_467 rfl ?_
  refine z_lor hC dL_law_468 hXv ?_
  refine z_callV (wr := wM J hm aa L len sp nb dn er A K Tm H S Vm C) (av := [.long (lI (X : Int))]) (st := []) hC (t_X5_put l D J hx AA E T F R G U V len pos pr ix nm C hI hTg hF hG hU hl hCh  X hX64) gL_law_X5_put rfl 1 (by decide +kernel) ⟨Nat.le_of_ble_eq_true rfl, Nat.le_of_ble_eq_true rfl⟩ ⟨Nat.le_of_ble_eq_true rfl, Nat.le_of_ble_eq_true rfl⟩ [0, 1, 2, 3, 4, 5, 6, 7, 8, 9, 10, 11, 12, 13, 14, 15, 16, 17, 18, 19, 20, 21, 22, 23, 24, 25, 26, 27, 28, 29, 30, 31, 32, 33, 34, 35, 36, 37, 38, 39, 40] [41, 42, 43, 44, 45, 46, 47, 48] rfl rfl rfl (by decide) rfl 0 rfl rfl rfl rfl rfl (Nat.le_of_ble_eq_true rfl) dL_law_469 (fun _ _ => ?_)
  refine z_cells (k := 600000) (n := 7302250) rfl rfl ?_
  refine z_ws (ws' := wM J hm aa L len sp nb dn er A K Tm H S Vm C ++ wSP J hx AA E T F R G U V (aLen X len) pos pr ix nm (aC X C len)) rfl ?_
  refine z_st (st' := [.int (iI (aR X len))]) rfl ?_
  refine z_aload_n hC dL_law_472 rfl 1 rfl ?_
  refine z_aload_n hC dL_law_473 rfl 3 rfl ?_
  refine z_iload_n hC dL_law_474 rfl 0 rfl ?_
  refine z_iconst hC dL_law_475 ?_
  refine z_iadd hC dL_law_476 ?_
  refine z_sld hC hX hbl hbA (i + 1) (by omega) (by omega) (by omega) dL_law_477 ?_
  refine z_i2l hC dL_law_478 rfl ?_
  refine z_bipush hC dL_law_479 rfl ?_
  refine z_lshl hC dL_law_481 rfl ?_
  refine z_aload_n hC dL_law_482 rfl 3 rfl ?_
  refine z_iload_n hC dL_law_483 rfl 0 rfl ?_
  refine z_iconst hC dL_law_484 ?_
  refine z_iadd hC dL_law_485 ?_
  refine z_sld hC hX hbl hbA (i + 2) (by omega) (by omega) (by omega) dL_law_486 ?_
  refine z_i2l hC dL_law_487 rfl ?_
  refine z_ldc2 hC kL_law_70 dL_law_488 ?_
  refine z_land hC dL_law_491 rfl ?_
  refine z_lor hC dL_law_492 hXv ?_
  refine z_callV (wr := wSP J hx AA E T F R G U V (aLen X len) pos pr ix nm (aC X C len)) (av := [.long (lI (X : Int))]) (st := [.int (iI (aR X len))]) hC (t_X6_put l D J hm aa L len sp nb dn er A K Tm H S Vm C  X hX64 hl) gL_law_X6_put rfl 1 (by decide +kernel) ⟨Nat.le_of_ble_eq_true rfl, Nat.le_of_ble_eq_true rfl⟩ ⟨Nat.le_of_ble_eq_true rfl, Nat.le_of_ble_eq_true rfl⟩ [0, 1, 2, 3, 4, 5, 6, 7] [8, 9, 10, 11, 12, 13, 14, 15, 16, 17, 18, 19, 20, 21, 22, 23, 24, 25, 26, 27, 28, 29, 30, 31, 32, 33, 34, 35, 36, 37, 38, 39, 40, 41, 42, 43, 44, 45, 46, 47, 48] rfl rfl rfl (by decide) rfl 0 rfl rfl rfl rfl rfl (Nat.le_of_ble_eq_true rfl) dL_law_493 (fun _ _ => ?_)
  refine z_cells (k := 600000) (n := 7302250) rfl rfl ?_
  refine z_ws (ws' := wSP J hx AA E T F R G U V (aLen X len) pos pr ix nm (aC X C len) ++ wM J hm aa L (mPutL X len) sp nb dn er A K Tm H S Vm (mPutP X C len)) rfl ?_
  refine z_ws (ws' := wSP J hx AA E T F R G U V (aLen X len) pos pr ix nm (aC X C len) ++ wM J hm aa L (aLen X len) sp nb dn er A K Tm H S Vm (aC X C len)) (by rw [(put_eq (C := C) hX64).2.1, (put_eq (C := C) (len := len) hX64).2.2]) ?_
  refine z_st (st' := [.int (iI (aR X len)), .int (iI (aR X len))]) (congrArg (fun z => [Value.int (iI z), Value.int (iI (aR X len))]) heq) ?_
  refine z_icmp_same (tgt := 599) hC dL_law_496 (by decide) ?_
  exact kk E T F R G U V (aLen X len) pos pr ix nm (aC X C len) L sp nb dn er A K Tm H S Vm ⟨hR, hI, hM, hTg, hH, hSl, (put_in hl hCh).1, (put_in hl hCh).2, her⟩
