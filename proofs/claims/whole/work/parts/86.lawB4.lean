/-! ===== the law: cases 17, 18, 19 ===== -/
set_option maxHeartbeats 4000000 in
set_option maxRecDepth 100000 in
theorem law_c17 {p : Program} {l : Launch} {e : Env} {s : State} {m : MethodId} {below : List Frame} {meth : Method} {c : Code} {D : va_G} {J : Nat → ClassId} {b N : Nat} {xs : Nat → Int32} {Q : State → Prop} {hx hm : Nat} {AA : Nat → Nat → Nat} {aa : Nat → Nat} {i : Nat} (hC : zC p s m #[Value.ref b] meth c (fun q : Nat => s.heap.size ≤ q) 4 D J cL_law RL wsL_law) (hX : va_X b N xs s s.heap) (hbl : b < s.heap.size) (hN : N ≤ 2048) (hi : i + 4 ≤ N) (kk : KL p l e s m below meth c D J b Q hx hm AA aa i 599) : KL p l e s m below meth c D J b Q hx hm AA aa i 540 := by
  have hbA : ¬ (fun q : Nat => s.heap.size ≤ q) b := Nat.not_le.mpr hbl
  intro E T F R G U V len pos pr ix nm C L sp nb dn er A K Tm H S Vm hSim
  obtain ⟨hR, hI, hM, hTg, hH, hSl, hl, hCh, her⟩ := id hSim
  have hF := hH.1
  have hL := hH.2.1
  have hF2 := hH.2.2.1
  have hG : 0 ≤ F 2 ∧ F 2 ≤ 6 := by rw [hF2]; exact hL
  have hU := hSl.1
  have hu := undo_rep hH (row_of hR hI hM)
  obtain ⟨hr1, A1, hr3, hr4, hr5⟩ := hu.2.2
  have heq : mUndoR L = hBackR F := hu.1
  refine z_aload_n hC dL_law_540 rfl 2 rfl ?_
  refine z_callV (wr := wM J hm aa L len sp nb dn er A K Tm H S Vm C) (av := []) (st := []) hC (t_X5_undo l D J hx AA E T F R G U V len pos pr ix nm C hI hTg hF hG hU hl hCh   ) gL_law_X5_undo rfl 0 (by decide +kernel) ⟨Nat.le_of_ble_eq_true rfl, Nat.le_of_ble_eq_true rfl⟩ ⟨Nat.le_of_ble_eq_true rfl, Nat.le_of_ble_eq_true rfl⟩ [0, 1, 2, 3, 4, 5, 6, 7, 8, 9, 10, 11, 12, 13, 14, 15, 16, 17, 18, 19, 20, 21, 22, 23, 24, 25, 26, 27, 28, 29, 30, 31, 32, 33, 34, 35, 36, 37, 38, 39, 40] [41, 42, 43, 44, 45, 46, 47, 48] rfl rfl rfl (by decide) rfl 0 rfl rfl rfl rfl rfl (Nat.le_of_ble_eq_true rfl) dL_law_541 (fun _ _ => ?_)
  refine z_cells (k := 600000) (n := 7302250) rfl rfl ?_
  refine z_ws (ws' := wM J hm aa L len sp nb dn er A K Tm H S Vm C ++ wSP J hx AA (hBackE F R E) T (hBackF F) R G U V len pos pr ix nm C) rfl ?_
  refine z_st (st' := [.int (iI (hBackR F))]) rfl ?_
  refine z_aload_n hC dL_law_544 rfl 1 rfl ?_
  refine z_callV (wr := wSP J hx AA (hBackE F R E) T (hBackF F) R G U V len pos pr ix nm C) (av := []) (st := [.int (iI (hBackR F))]) hC (t_X6_undo l D J hm aa L len sp nb dn er A K Tm H S Vm C   hL) gL_law_X6_undo rfl 0 (by decide +kernel) ⟨Nat.le_of_ble_eq_true rfl, Nat.le_of_ble_eq_true rfl⟩ ⟨Nat.le_of_ble_eq_true rfl, Nat.le_of_ble_eq_true rfl⟩ [0, 1, 2, 3, 4, 5, 6, 7] [8, 9, 10, 11, 12, 13, 14, 15, 16, 17, 18, 19, 20, 21, 22, 23, 24, 25, 26, 27, 28, 29, 30, 31, 32, 33, 34, 35, 36, 37, 38, 39, 40, 41, 42, 43, 44, 45, 46, 47, 48] rfl rfl rfl (by decide) rfl 0 rfl rfl rfl rfl rfl (Nat.le_of_ble_eq_true rfl) dL_law_545 (fun _ _ => ?_)
  refine z_cells (k := 600000) (n := 7302250) rfl rfl ?_
  refine z_ws (ws' := wSP J hx AA (hBackE F R E) T (hBackF F) R G U V len pos pr ix nm C ++ wM J hm aa (mUndoL L) len sp nb dn er (mUndoA A H L) K Tm H S Vm C) rfl ?_
  refine z_arrg (g := A1) (ws' := wSP J hx AA (hBackE F R E) T (hBackF F) R G U V len pos pr ix nm C ++ wM J hm aa (mUndoL L) len sp nb dn er A1 K Tm H S Vm C) 42 rfl (fun j hj => hr5 j hj) rfl ?_
  refine z_st (st' := [.int (iI (hBackR F)), .int (iI (hBackR F))]) (congrArg (fun z => [Value.int (iI z), Value.int (iI (hBackR F))]) heq) ?_
  refine z_icmp_same (tgt := 599) hC dL_law_548 (by decide) ?_
  exact kk (hBackE F R E) T (hBackF F) R G U V len pos pr ix nm C (mUndoL L) sp nb dn er A1 K Tm H S Vm ⟨hr4, hr1, hr3, hTg, hu.2.1, hSl, hl, hCh, her⟩
set_option maxHeartbeats 4000000 in
set_option maxRecDepth 100000 in
theorem law_c18 {p : Program} {l : Launch} {e : Env} {s : State} {m : MethodId} {below : List Frame} {meth : Method} {c : Code} {D : va_G} {J : Nat → ClassId} {b N : Nat} {xs : Nat → Int32} {Q : State → Prop} {hx hm : Nat} {AA : Nat → Nat → Nat} {aa : Nat → Nat} {i : Nat} (hC : zC p s m #[Value.ref b] meth c (fun q : Nat => s.heap.size ≤ q) 4 D J cL_law RL wsL_law) (hX : va_X b N xs s s.heap) (hbl : b < s.heap.size) (hN : N ≤ 2048) (hi : i + 4 ≤ N) (kk : KL p l e s m below meth c D J b Q hx hm AA aa i 599) : KL p l e s m below meth c D J b Q hx hm AA aa i 553 := by
  have hbA : ¬ (fun q : Nat => s.heap.size ≤ q) b := Nat.not_le.mpr hbl
  intro E T F R G U V len pos pr ix nm C L sp nb dn er A K Tm H S Vm hSim
  obtain ⟨hR, hI, hM, hTg, hH, hSl, hl, hCh, her⟩ := id hSim
  have hF := hH.1
  have hL := hH.2.1
  have hF2 := hH.2.2.1
  have hG : 0 ≤ F 2 ∧ F 2 ≤ 6 := by rw [hF2]; exact hL
  have hU := hSl.1
  have heq : mSaveR A ((xs (i + 1)).toInt) = sR ((xs (i + 1)).toInt) E := (save_rep hSl hR hI hM).1
  refine z_aload_n hC dL_law_553 rfl 2 rfl ?_
  refine z_aload_n hC dL_law_554 rfl 3 rfl ?_
  refine z_iload_n hC dL_law_555 rfl 0 rfl ?_
  refine z_iconst hC dL_law_556 ?_
  refine z_iadd hC dL_law_557 ?_
  refine z_sld hC hX hbl hbA (i + 1) (by omega) (by omega) (by omega) dL_law_558 ?_
  refine z_callV (wr := wM J hm aa L len sp nb dn er A K Tm H S Vm C) (av := [.int (iI (xs (i + 1)).toInt)]) (st := []) hC (t_X5_save l D J hx AA E T F R G U V len pos pr ix nm C hI hTg hF hG hU hl hCh ((xs (i + 1)).toInt) (inR_of (xs (i + 1))) ) gL_law_X5_save rfl 1 (by decide +kernel) ⟨Nat.le_of_ble_eq_true rfl, Nat.le_of_ble_eq_true rfl⟩ ⟨Nat.le_of_ble_eq_true rfl, Nat.le_of_ble_eq_true rfl⟩ [0, 1, 2, 3, 4, 5, 6, 7, 8, 9, 10, 11, 12, 13, 14, 15, 16, 17, 18, 19, 20, 21, 22, 23, 24, 25, 26, 27, 28, 29, 30, 31, 32, 33, 34, 35, 36, 37, 38, 39, 40] [41, 42, 43, 44, 45, 46, 47, 48] rfl rfl rfl (by decide) rfl 0 rfl rfl rfl rfl rfl (Nat.le_of_ble_eq_true rfl) dL_law_559 (fun _ _ => ?_)
  refine z_cells (k := 600000) (n := 7302250) rfl rfl ?_
  refine z_ws (ws' := wM J hm aa L len sp nb dn er A K Tm H S Vm C ++ wSP J hx AA E T F R G (sU U ((xs (i + 1)).toInt)) (sV V ((xs (i + 1)).toInt) E) len pos pr ix nm C) rfl ?_
  refine z_st (st' := [.int (iI (sR ((xs (i + 1)).toInt) E))]) rfl ?_
  refine z_aload_n hC dL_law_562 rfl 1 rfl ?_
  refine z_aload_n hC dL_law_563 rfl 3 rfl ?_
  refine z_iload_n hC dL_law_564 rfl 0 rfl ?_
  refine z_iconst hC dL_law_565 ?_
  refine z_iadd hC dL_law_566 ?_
  refine z_sld hC hX hbl hbA (i + 1) (by omega) (by omega) (by omega) dL_law_567 ?_
  refine z_callV (wr := wSP J hx AA E T F R G (sU U ((xs (i + 1)).toInt)) (sV V ((xs (i + 1)).toInt) E) len pos pr ix nm C) (av := [.int (iI (xs (i + 1)).toInt)]) (st := [.int (iI (sR ((xs (i + 1)).toInt) E))]) hC (t_X6_save l D J hm aa L len sp nb dn er A K Tm H S Vm C ((xs (i + 1)).toInt) (inR_of (xs (i + 1))) ) gL_law_X6_save rfl 1 (by decide +kernel) ⟨Nat.le_of_ble_eq_true rfl, Nat.le_of_ble_eq_true rfl⟩ ⟨Nat.le_of_ble_eq_true rfl, Nat.le_of_ble_eq_true rfl⟩ [0, 1, 2, 3, 4, 5, 6, 7] [8, 9, 10, 11, 12, 13, 14, 15, 16, 17, 18, 19, 20, 21, 22, 23, 24, 25, 26, 27, 28, 29, 30, 31, 32, 33, 34, 35, 36, 37, 38, 39, 40, 41, 42, 43, 44, 45, 46, 47, 48] rfl rfl rfl (by decide) rfl 0 rfl rfl rfl rfl rfl (Nat.le_of_ble_eq_true rfl) dL_law_568 (fun _ _ => ?_)
  refine z_cells (k := 600000) (n := 7302250) rfl rfl ?_
  refine z_ws (ws' := wSP J hx AA E T F R G (sU U ((xs (i + 1)).toInt)) (sV V ((xs (i + 1)).toInt) E) len pos pr ix nm C ++ wM J hm aa L len sp nb dn er A K Tm H (mSaveS A S ((xs (i + 1)).toInt)) (mSaveV Vm ((xs (i + 1)).toInt)) C) rfl ?_
  refine z_st (st' := [.int (iI (sR ((xs (i + 1)).toInt) E)), .int (iI (sR ((xs (i + 1)).toInt) E))]) (congrArg (fun z => [Value.int (iI z), Value.int (iI (sR ((xs (i + 1)).toInt) E))]) heq) ?_
  refine z_icmp_same (tgt := 599) hC dL_law_571 (by decide) ?_
  exact kk E T F R G (sU U ((xs (i + 1)).toInt)) (sV V ((xs (i + 1)).toInt) E) len pos pr ix nm C L sp nb dn er A K Tm H (mSaveS A S ((xs (i + 1)).toInt)) (mSaveV Vm ((xs (i + 1)).toInt)) ⟨hR, hI, hM, hTg, hH, (save_rep hSl hR hI hM).2, hl, hCh, her⟩
set_option maxHeartbeats 4000000 in
set_option maxRecDepth 100000 in
theorem law_c19 {p : Program} {l : Launch} {e : Env} {s : State} {m : MethodId} {below : List Frame} {meth : Method} {c : Code} {D : va_G} {J : Nat → ClassId} {b N : Nat} {xs : Nat → Int32} {Q : State → Prop} {hx hm : Nat} {AA : Nat → Nat → Nat} {aa : Nat → Nat} {i : Nat} (hC : zC p s m #[Value.ref b] meth c (fun q : Nat => s.heap.size ≤ q) 4 D J cL_law RL wsL_law) (hX : va_X b N xs s s.heap) (hbl : b < s.heap.size) (hN : N ≤ 2048) (hi : i + 4 ≤ N) (kk : KL p l e s m below meth c D J b Q hx hm AA aa i 599) : KL p l e s m below meth c D J b Q hx hm AA aa i 576 := by
  have hbA : ¬ (fun q : Nat => s.heap.size ≤ q) b := Nat.not_le.mpr hbl
  intro E T F R G U V len pos pr ix nm C L sp nb dn er A K Tm H S Vm hSim
  obtain ⟨hR, hI, hM, hTg, hH, hSl, hl, hCh, her⟩ := id hSim
  have hF := hH.1
  have hL := hH.2.1
  have hF2 := hH.2.2.1
  have hG : 0 ≤ F 2 ∧ F 2 ≤ 6 := by rw [hF2]; exact hL
  have hU := hSl.1
  have hu := rest_rep (x := (xs (i + 1)).toInt) hH hSl (row_of hR hI hM)
  obtain ⟨hr1, A1, hr3, hr4, hr5⟩ := hu.2.2
  have heq : mRestR S Vm ((xs (i + 1)).toInt) = fR U V ((xs (i + 1)).toInt) := hu.1
  refine z_aload_n hC dL_law_576 rfl 2 rfl ?_
  refine z_aload_n hC dL_law_577 rfl 3 rfl ?_
  refine z_iload_n hC dL_law_578 rfl 0 rfl ?_
  refine z_iconst hC dL_law_579 ?_
  refine z_iadd hC dL_law_580 ?_
  refine z_sld hC hX hbl hbA (i + 1) (by omega) (by omega) (by omega) dL_law_581 ?_
  refine z_callV (wr := wM J hm aa L len sp nb dn er A K Tm H S Vm C) (av := [.int (iI (xs (i + 1)).toInt)]) (st := []) hC (t_X5_restore l D J hx AA E T F R G U V len pos pr ix nm C hI hTg hF hG hU hl hCh ((xs (i + 1)).toInt) (inR_of (xs (i + 1))) hSl.2.1) gL_law_X5_restore rfl 1 (by decide +kernel) ⟨Nat.le_of_ble_eq_true rfl, Nat.le_of_ble_eq_true rfl⟩ ⟨Nat.le_of_ble_eq_true rfl, Nat.le_of_ble_eq_true rfl⟩ [0, 1, 2, 3, 4, 5, 6, 7, 8, 9, 10, 11, 12, 13, 14, 15, 16, 17, 18, 19, 20, 21, 22, 23, 24, 25, 26, 27, 28, 29, 30, 31, 32, 33, 34, 35, 36, 37, 38, 39, 40] [41, 42, 43, 44, 45, 46, 47, 48] rfl rfl rfl (by decide) rfl 0 rfl rfl rfl rfl rfl (Nat.le_of_ble_eq_true rfl) dL_law_582 (fun _ _ => ?_)
  refine z_cells (k := 600000) (n := 7302250) rfl rfl ?_
  refine z_ws (ws' := wM J hm aa L len sp nb dn er A K Tm H S Vm C ++ wSP J hx AA (fE U V ((xs (i + 1)).toInt) E) T (hKeep F (fR U V ((xs (i + 1)).toInt))) (upR R (Int.toNat (F 1)) E) G U V len pos pr ix nm C) rfl ?_
  refine z_st (st' := [.int (iI (fR U V ((xs (i + 1)).toInt)))]) rfl ?_
  refine z_aload_n hC dL_law_585 rfl 1 rfl ?_
  refine z_aload_n hC dL_law_586 rfl 3 rfl ?_
  refine z_iload_n hC dL_law_587 rfl 0 rfl ?_
  refine z_iconst hC dL_law_588 ?_
  refine z_iadd hC dL_law_589 ?_
  refine z_sld hC hX hbl hbA (i + 1) (by omega) (by omega) (by omega) dL_law_590 ?_
  refine z_callV (wr := wSP J hx AA (fE U V ((xs (i + 1)).toInt) E) T (hKeep F (fR U V ((xs (i + 1)).toInt))) (upR R (Int.toNat (F 1)) E) G U V len pos pr ix nm C) (av := [.int (iI (xs (i + 1)).toInt)]) (st := [.int (iI (fR U V ((xs (i + 1)).toInt)))]) hC (t_X6_restore l D J hm aa L len sp nb dn er A K Tm H S Vm C ((xs (i + 1)).toInt) (inR_of (xs (i + 1))) hL hSl.2.2.1) gL_law_X6_restore rfl 1 (by decide +kernel) ⟨Nat.le_of_ble_eq_true rfl, Nat.le_of_ble_eq_true rfl⟩ ⟨Nat.le_of_ble_eq_true rfl, Nat.le_of_ble_eq_true rfl⟩ [0, 1, 2, 3, 4, 5, 6, 7] [8, 9, 10, 11, 12, 13, 14, 15, 16, 17, 18, 19, 20, 21, 22, 23, 24, 25, 26, 27, 28, 29, 30, 31, 32, 33, 34, 35, 36, 37, 38, 39, 40, 41, 42, 43, 44, 45, 46, 47, 48] rfl rfl rfl (by decide) rfl 0 rfl rfl rfl rfl rfl (Nat.le_of_ble_eq_true rfl) dL_law_591 (fun _ _ => ?_)
  refine z_cells (k := 600000) (n := 7302250) rfl rfl ?_
  refine z_ws (ws' := wSP J hx AA (fE U V ((xs (i + 1)).toInt) E) T (hKeep F (fR U V ((xs (i + 1)).toInt))) (upR R (Int.toNat (F 1)) E) G U V len pos pr ix nm C ++ wM J hm aa (mRestL Vm L ((xs (i + 1)).toInt)) len sp nb dn er (mRestA A S Vm ((xs (i + 1)).toInt)) (mRestK A K Vm ((xs (i + 1)).toInt)) Tm (mRestH H A Vm L ((xs (i + 1)).toInt)) S Vm C) rfl ?_
  refine z_arrg (g := A1) (ws' := wSP J hx AA (fE U V ((xs (i + 1)).toInt) E) T (hKeep F (fR U V ((xs (i + 1)).toInt))) (upR R (Int.toNat (F 1)) E) G U V len pos pr ix nm C ++ wM J hm aa (mRestL Vm L ((xs (i + 1)).toInt)) len sp nb dn er A1 (mRestK A K Vm ((xs (i + 1)).toInt)) Tm (mRestH H A Vm L ((xs (i + 1)).toInt)) S Vm C) 42 rfl (fun j hj => hr5 j hj) rfl ?_
  refine z_st (st' := [.int (iI (fR U V ((xs (i + 1)).toInt))), .int (iI (fR U V ((xs (i + 1)).toInt)))]) (congrArg (fun z => [Value.int (iI z), Value.int (iI (fR U V ((xs (i + 1)).toInt)))]) heq) ?_
  refine z_icmp_same (tgt := 599) hC dL_law_594 (by decide) ?_
  exact kk (fE U V ((xs (i + 1)).toInt) E) T (hKeep F (fR U V ((xs (i + 1)).toInt))) (upR R (Int.toNat (F 1)) E) G U V len pos pr ix nm C (mRestL Vm L ((xs (i + 1)).toInt)) sp nb dn er A1 (mRestK A K Vm ((xs (i + 1)).toInt)) Tm (mRestH H A Vm L ((xs (i + 1)).toInt)) S Vm ⟨hr4, hr1, hr3, hTg, hu.2.1, hSl, hl, hCh, her⟩
