/-! ===== the law: cases 14, 15, 16 ===== -/
set_option maxHeartbeats 4000000 in
set_option maxRecDepth 100000 in
theorem law_c14 {p : Program} {l : Launch} {e : Env} {s : State} {m : MethodId} {below : List Frame} {meth : Method} {c : Code} {D : va_G} {J : Nat → ClassId} {b N : Nat} {xs : Nat → Int32} {Q : State → Prop} {hx hm : Nat} {AA : Nat → Nat → Nat} {aa : Nat → Nat} {i : Nat} (hC : zC p s m #[Value.ref b] meth c (fun q : Nat => s.heap.size ≤ q) 4 D J cL_law RL wsL_law) (hX : va_X b N xs s s.heap) (hbl : b < s.heap.size) (hN : N ≤ 2048) (hi : i + 4 ≤ N) (kk : KL p l e s m below meth c D J b Q hx hm AA aa i 599) : KL p l e s m below meth c D J b Q hx hm AA aa i 501 := by
  have hbA : ¬ (fun q : Nat => s.heap.size ≤ q) b := Nat.not_le.mpr hbl
  intro E T F R G U V len pos pr ix nm C L sp nb dn er A K Tm H S Vm hSim
  obtain ⟨hR, hI, hM, hTg, hH, hSl, hl, hCh, her⟩ := id hSim
  have hF := hH.1
  have hL := hH.2.1
  have hF2 := hH.2.2.1
  have hG : 0 ≤ F 2 ∧ F 2 ≤ 6 := by rw [hF2]; exact hL
  have hU := hSl.1
  have heq : len = len := rfl
  refine z_aload_n hC dL_law_501 rfl 2 rfl ?_
  refine z_callV (wr := wM J hm aa L len sp nb dn er A K Tm H S Vm C) (av := []) (st := []) hC (t_X5_wipe l D J hx AA E T F R G U V len pos pr ix nm C hI hTg hF hG hU hl hCh   ) gL_law_X5_wipe rfl 0 (by decide +kernel) ⟨Nat.le_of_ble_eq_true rfl, Nat.le_of_ble_eq_true rfl⟩ ⟨Nat.le_of_ble_eq_true rfl, Nat.le_of_ble_eq_true rfl⟩ [0, 1, 2, 3, 4, 5, 6, 7, 8, 9, 10, 11, 12, 13, 14, 15, 16, 17, 18, 19, 20, 21, 22, 23, 24, 25, 26, 27, 28, 29, 30, 31, 32, 33, 34, 35, 36, 37, 38, 39, 40] [41, 42, 43, 44, 45, 46, 47, 48] rfl rfl rfl (by decide) rfl 0 rfl rfl rfl rfl rfl (Nat.le_of_ble_eq_true rfl) dL_law_502 (fun _ _ => ?_)
  refine z_cells (k := 600000) (n := 7302250) rfl rfl ?_
  refine z_ws (ws' := wM J hm aa L len sp nb dn er A K Tm H S Vm C ++ wSP J hx AA E T F R G U V 0 pos pr ix nm C) rfl ?_
  refine z_st (st' := [.int (iI (len))]) rfl ?_
  refine z_aload_n hC dL_law_505 rfl 1 rfl ?_
  refine z_callV (wr := wSP J hx AA E T F R G U V 0 pos pr ix nm C) (av := []) (st := [.int (iI (len))]) hC (t_X6_wipe l D J hm aa L len sp nb dn er A K Tm H S Vm C   ) gL_law_X6_wipe rfl 0 (by decide +kernel) ⟨Nat.le_of_ble_eq_true rfl, Nat.le_of_ble_eq_true rfl⟩ ⟨Nat.le_of_ble_eq_true rfl, Nat.le_of_ble_eq_true rfl⟩ [0, 1, 2, 3, 4, 5, 6, 7] [8, 9, 10, 11, 12, 13, 14, 15, 16, 17, 18, 19, 20, 21, 22, 23, 24, 25, 26, 27, 28, 29, 30, 31, 32, 33, 34, 35, 36, 37, 38, 39, 40, 41, 42, 43, 44, 45, 46, 47, 48] rfl rfl rfl (by decide) rfl 0 rfl rfl rfl rfl rfl (Nat.le_of_ble_eq_true rfl) dL_law_506 (fun _ _ => ?_)
  refine z_cells (k := 600000) (n := 7302250) rfl rfl ?_
  refine z_ws (ws' := wSP J hx AA E T F R G U V 0 pos pr ix nm C ++ wM J hm aa L 0 sp nb dn er A K Tm H S Vm C) rfl ?_
  refine z_st (st' := [.int (iI (len)), .int (iI (len))]) (congrArg (fun z => [Value.int (iI z), Value.int (iI (len))]) heq) ?_
  refine z_icmp_same (tgt := 599) hC dL_law_509 (by decide) ?_
  exact kk E T F R G U V 0 pos pr ix nm C L sp nb dn er A K Tm H S Vm ⟨hR, hI, hM, hTg, hH, hSl, ⟨Int.le_refl 0, by decide⟩, hCh, her⟩
set_option maxHeartbeats 4000000 in
set_option maxRecDepth 100000 in
theorem law_c15 {p : Program} {l : Launch} {e : Env} {s : State} {m : MethodId} {below : List Frame} {meth : Method} {c : Code} {D : va_G} {J : Nat → ClassId} {b N : Nat} {xs : Nat → Int32} {Q : State → Prop} {hx hm : Nat} {AA : Nat → Nat → Nat} {aa : Nat → Nat} {i : Nat} (hC : zC p s m #[Value.ref b] meth c (fun q : Nat => s.heap.size ≤ q) 4 D J cL_law RL wsL_law) (hX : va_X b N xs s s.heap) (hbl : b < s.heap.size) (hN : N ≤ 2048) (hi : i + 4 ≤ N) (kk : KL p l e s m below meth c D J b Q hx hm AA aa i 599) : KL p l e s m below meth c D J b Q hx hm AA aa i 514 := by
  have hbA : ¬ (fun q : Nat => s.heap.size ≤ q) b := Nat.not_le.mpr hbl
  intro E T F R G U V len pos pr ix nm C L sp nb dn er A K Tm H S Vm hSim
  obtain ⟨hR, hI, hM, hTg, hH, hSl, hl, hCh, her⟩ := id hSim
  have hF := hH.1
  have hL := hH.2.1
  have hF2 := hH.2.2.1
  have hG : 0 ≤ F 2 ∧ F 2 ≤ 6 := by rw [hF2]; exact hL
  have hU := hSl.1
  have heq : (mFlt C len 81 (A, er, 0, nb)).2 = (pFault C len 81 (0, pr, ix, nm)).2 := (flt_rep hl).1
  refine z_aload_n hC dL_law_514 rfl 2 rfl ?_
  refine z_callV (wr := wM J hm aa L len sp nb dn er A K Tm H S Vm C) (av := []) (st := []) hC (t_X5_fault l D J hx AA E T F R G U V len pos pr ix nm C hI hTg hF hG hU hl hCh   ) gL_law_X5_fault rfl 0 (by decide +kernel) ⟨Nat.le_of_ble_eq_true rfl, Nat.le_of_ble_eq_true rfl⟩ ⟨Nat.le_of_ble_eq_true rfl, Nat.le_of_ble_eq_true rfl⟩ [0, 1, 2, 3, 4, 5, 6, 7, 8, 9, 10, 11, 12, 13, 14, 15, 16, 17, 18, 19, 20, 21, 22, 23, 24, 25, 26, 27, 28, 29, 30, 31, 32, 33, 34, 35, 36, 37, 38, 39, 40] [41, 42, 43, 44, 45, 46, 47, 48] rfl rfl rfl (by decide) rfl 0 rfl rfl rfl rfl rfl (Nat.le_of_ble_eq_true rfl) dL_law_515 (fun _ _ => ?_)
  refine z_cells (k := 600000) (n := 7302250) rfl rfl ?_
  refine z_ws (ws' := wM J hm aa L len sp nb dn er A K Tm H S Vm C ++ wSP J hx AA E T F R G U V len ((pFault C len 81 (0, pr, ix, nm)).1.1) ((pFault C len 81 (0, pr, ix, nm)).1.2.1) ((pFault C len 81 (0, pr, ix, nm)).1.2.2.1) ((pFault C len 81 (0, pr, ix, nm)).1.2.2.2) C) rfl ?_
  refine z_st (st' := [.int (iI ((pFault C len 81 (0, pr, ix, nm)).2))]) rfl ?_
  refine z_aload_n hC dL_law_518 rfl 1 rfl ?_
  refine z_callV (wr := wSP J hx AA E T F R G U V len ((pFault C len 81 (0, pr, ix, nm)).1.1) ((pFault C len 81 (0, pr, ix, nm)).1.2.1) ((pFault C len 81 (0, pr, ix, nm)).1.2.2.1) ((pFault C len 81 (0, pr, ix, nm)).1.2.2.2) C) (av := []) (st := [.int (iI ((pFault C len 81 (0, pr, ix, nm)).2))]) hC (t_X6_fault l D J hm aa L len sp nb dn er A K Tm H S Vm C   hl hCh hM her) gL_law_X6_fault rfl 0 (by decide +kernel) ⟨Nat.le_of_ble_eq_true rfl, Nat.le_of_ble_eq_true rfl⟩ ⟨Nat.le_of_ble_eq_true rfl, Nat.le_of_ble_eq_true rfl⟩ [0, 1, 2, 3, 4, 5, 6, 7] [8, 9, 10, 11, 12, 13, 14, 15, 16, 17, 18, 19, 20, 21, 22, 23, 24, 25, 26, 27, 28, 29, 30, 31, 32, 33, 34, 35, 36, 37, 38, 39, 40, 41, 42, 43, 44, 45, 46, 47, 48] rfl rfl rfl (by decide) rfl 0 rfl rfl rfl rfl rfl (Nat.le_of_ble_eq_true rfl) dL_law_519 (fun _ _ => ?_)
  refine z_cells (k := 600000) (n := 7302250) rfl rfl ?_
  refine z_ws (ws' := wSP J hx AA E T F R G U V len ((pFault C len 81 (0, pr, ix, nm)).1.1) ((pFault C len 81 (0, pr, ix, nm)).1.2.1) ((pFault C len 81 (0, pr, ix, nm)).1.2.2.1) ((pFault C len 81 (0, pr, ix, nm)).1.2.2.2) C ++ wM J hm aa L len ((mFlt C len 81 (A, er, 0, nb)).1.2.2.1) ((mFlt C len 81 (A, er, 0, nb)).1.2.2.2) 0 ((mFlt C len 81 (A, er, 0, nb)).1.2.1) ((mFlt C len 81 (A, er, 0, nb)).1.1) K Tm H S Vm C) rfl ?_
  refine z_st (st' := [.int (iI ((pFault C len 81 (0, pr, ix, nm)).2)), .int (iI ((pFault C len 81 (0, pr, ix, nm)).2))]) (congrArg (fun z => [Value.int (iI z), Value.int (iI ((pFault C len 81 (0, pr, ix, nm)).2))]) heq) ?_
  refine z_icmp_same (tgt := 599) hC dL_law_522 (by decide) ?_
  exact kk E T F R G U V len ((pFault C len 81 (0, pr, ix, nm)).1.1) ((pFault C len 81 (0, pr, ix, nm)).1.2.1) ((pFault C len 81 (0, pr, ix, nm)).1.2.2.1) ((pFault C len 81 (0, pr, ix, nm)).1.2.2.2) C L ((mFlt C len 81 (A, er, 0, nb)).1.2.2.1) ((mFlt C len 81 (A, er, 0, nb)).1.2.2.2) 0 ((mFlt C len 81 (A, er, 0, nb)).1.2.1) ((mFlt C len 81 (A, er, 0, nb)).1.1) K Tm H S Vm (by rw [(flt_rep (C := C) (A := A) (er := er) (nb := nb) (pr := pr) (ix := ix) (nm := nm) hl).2.1, (flt_rep (C := C) (A := A) (er := er) (nb := nb) (pr := pr) (ix := ix) (nm := nm) hl).2.2]; exact hSim)
set_option maxHeartbeats 4000000 in
set_option maxRecDepth 100000 in
theorem law_c16 {p : Program} {l : Launch} {e : Env} {s : State} {m : MethodId} {below : List Frame} {meth : Method} {c : Code} {D : va_G} {J : Nat → ClassId} {b N : Nat} {xs : Nat → Int32} {Q : State → Prop} {hx hm : Nat} {AA : Nat → Nat → Nat} {aa : Nat → Nat} {i : Nat} (hC : zC p s m #[Value.ref b] meth c (fun q : Nat => s.heap.size ≤ q) 4 D J cL_law RL wsL_law) (hX : va_X b N xs s s.heap) (hbl : b < s.heap.size) (hN : N ≤ 2048) (hi : i + 4 ≤ N) (kk : KL p l e s m below meth c D J b Q hx hm AA aa i 599) : KL p l e s m below meth c D J b Q hx hm AA aa i 527 := by
  have hbA : ¬ (fun q : Nat => s.heap.size ≤ q) b := Nat.not_le.mpr hbl
  intro E T F R G U V len pos pr ix nm C L sp nb dn er A K Tm H S Vm hSim
  obtain ⟨hR, hI, hM, hTg, hH, hSl, hl, hCh, her⟩ := id hSim
  have hF := hH.1
  have hL := hH.2.1
  have hF2 := hH.2.2.1
  have hG : 0 ≤ F 2 ∧ F 2 ≤ 6 := by rw [hF2]; exact hL
  have hU := hSl.1
  have ho := out_rep (C := C) (s := (pos, pr, ix, nm)) (er := er) (nb := nb) hl hR hI hM her hH
  have hol : 0 ≤ cOutL C len (pos, pr, ix, nm) ∧ cOutL C len (pos, pr, ix, nm) ≤ 80 := by
    unfold cOutL
    split <;> omega
  have heq : (if (mCoF C len A er nb).2 = -6 then (mCoO C len A er nb).2 else -3) = cOutR C len E (pos, pr, ix, nm) := ho.1
  refine z_aload_n hC dL_law_527 rfl 2 rfl ?_
  refine z_callV (wr := wM J hm aa L len sp nb dn er A K Tm H S Vm C) (av := []) (st := []) hC (t_X5_carryOut l D J hx AA E T F R G U V len pos pr ix nm C hI hTg hF hG hU hl hCh   ) gL_law_X5_carryOut rfl 0 (by decide +kernel) ⟨Nat.le_of_ble_eq_true rfl, Nat.le_of_ble_eq_true rfl⟩ ⟨Nat.le_of_ble_eq_true rfl, Nat.le_of_ble_eq_true rfl⟩ [0, 1, 2, 3, 4, 5, 6, 7, 8, 9, 10, 11, 12, 13, 14, 15, 16, 17, 18, 19, 20, 21, 22, 23, 24, 25, 26, 27, 28, 29, 30, 31, 32, 33, 34, 35, 36, 37, 38, 39, 40] [41, 42, 43, 44, 45, 46, 47, 48] rfl rfl rfl (by decide) rfl 0 rfl rfl rfl rfl rfl (Nat.le_of_ble_eq_true rfl) dL_law_528 (fun _ _ => ?_)
  refine z_cells (k := 600000) (n := 7302250) rfl rfl ?_
  refine z_ws (ws' := wM J hm aa L len sp nb dn er A K Tm H S Vm C ++ wSP J hx AA (cOutE C len E (pos, pr, ix, nm)) T (cOutF C len E (pos, pr, ix, nm) F) (cOutH C len E (pos, pr, ix, nm) F R) G U V (cOutL C len (pos, pr, ix, nm)) ((cOutS C len E (pos, pr, ix, nm)).1) ((cOutS C len E (pos, pr, ix, nm)).2.1) ((cOutS C len E (pos, pr, ix, nm)).2.2.1) ((cOutS C len E (pos, pr, ix, nm)).2.2.2) C) rfl ?_
  refine z_st (st' := [.int (iI (cOutR C len E (pos, pr, ix, nm)))]) rfl ?_
  refine z_aload_n hC dL_law_531 rfl 1 rfl ?_
  refine z_callV (wr := wSP J hx AA (cOutE C len E (pos, pr, ix, nm)) T (cOutF C len E (pos, pr, ix, nm) F) (cOutH C len E (pos, pr, ix, nm) F R) G U V (cOutL C len (pos, pr, ix, nm)) ((cOutS C len E (pos, pr, ix, nm)).1) ((cOutS C len E (pos, pr, ix, nm)).2.1) ((cOutS C len E (pos, pr, ix, nm)).2.2.1) ((cOutS C len E (pos, pr, ix, nm)).2.2.2) C) (av := []) (st := [.int (iI (cOutR C len E (pos, pr, ix, nm)))]) hC (t_X6_carryOut l D J hm aa L len sp nb dn er A K Tm H S Vm C   hl hCh hM her hL) gL_law_X6_carryOut rfl 0 (by decide +kernel) ⟨Nat.le_of_ble_eq_true rfl, Nat.le_of_ble_eq_true rfl⟩ ⟨Nat.le_of_ble_eq_true rfl, Nat.le_of_ble_eq_true rfl⟩ [0, 1, 2, 3, 4, 5, 6, 7] [8, 9, 10, 11, 12, 13, 14, 15, 16, 17, 18, 19, 20, 21, 22, 23, 24, 25, 26, 27, 28, 29, 30, 31, 32, 33, 34, 35, 36, 37, 38, 39, 40, 41, 42, 43, 44, 45, 46, 47, 48] rfl rfl rfl (by decide) rfl 0 rfl rfl rfl rfl rfl (Nat.le_of_ble_eq_true rfl) dL_law_532 (fun _ _ => ?_)
  refine z_cells (k := 600000) (n := 7302250) rfl rfl ?_
  refine z_ws (ws' := wSP J hx AA (cOutE C len E (pos, pr, ix, nm)) T (cOutF C len E (pos, pr, ix, nm) F) (cOutH C len E (pos, pr, ix, nm) F R) G U V (cOutL C len (pos, pr, ix, nm)) ((cOutS C len E (pos, pr, ix, nm)).1) ((cOutS C len E (pos, pr, ix, nm)).2.1) ((cOutS C len E (pos, pr, ix, nm)).2.2.1) ((cOutS C len E (pos, pr, ix, nm)).2.2.2) C ++ wM J hm aa (if (mCoF C len A er nb).2 = -6 then mChL L else L) (if (mCoF C len A er nb).2 = -6 then 0 else len) (if (mCoF C len A er nb).2 = -6 then (mCoO C len A er nb).1.2.2.1 else (mCoF C len A er nb).1.2.2.1) (if (mCoF C len A er nb).2 = -6 then (mCoO C len A er nb).1.2.2.2 else (mCoF C len A er nb).1.2.2.2) (if (mCoF C len A er nb).2 = -6 then 1 else 0) (if (mCoF C len A er nb).2 = -6 then (mCoO C len A er nb).1.2.1 else er) (if (mCoF C len A er nb).2 = -6 then (mCoO C len A er nb).1.1 else A) (if (mCoF C len A er nb).2 = -6 then A else K) Tm (if (mCoF C len A er nb).2 = -6 then mChH H A L else H) S Vm C) rfl ?_
  refine z_ws (ws' := wSP J hx AA (cOutE C len E (pos, pr, ix, nm)) T (cOutF C len E (pos, pr, ix, nm) F) (cOutH C len E (pos, pr, ix, nm) F R) G U V (cOutL C len (pos, pr, ix, nm)) ((cOutS C len E (pos, pr, ix, nm)).1) ((cOutS C len E (pos, pr, ix, nm)).2.1) ((cOutS C len E (pos, pr, ix, nm)).2.2.1) ((cOutS C len E (pos, pr, ix, nm)).2.2.2) C ++ wM J hm aa (if (mCoF C len A er nb).2 = -6 then mChL L else L) (cOutL C len (pos, pr, ix, nm)) (if (mCoF C len A er nb).2 = -6 then (mCoO C len A er nb).1.2.2.1 else (mCoF C len A er nb).1.2.2.1) (if (mCoF C len A er nb).2 = -6 then (mCoO C len A er nb).1.2.2.2 else (mCoF C len A er nb).1.2.2.2) (if (mCoF C len A er nb).2 = -6 then 1 else 0) (if (mCoF C len A er nb).2 = -6 then (mCoO C len A er nb).1.2.1 else er) (if (mCoF C len A er nb).2 = -6 then (mCoO C len A er nb).1.1 else A) (if (mCoF C len A er nb).2 = -6 then A else K) Tm (if (mCoF C len A er nb).2 = -6 then mChH H A L else H) S Vm C) (by rw [ho.2.2.2.1]) ?_
  refine z_st (st' := [.int (iI (cOutR C len E (pos, pr, ix, nm))), .int (iI (cOutR C len E (pos, pr, ix, nm)))]) (congrArg (fun z => [Value.int (iI z), Value.int (iI (cOutR C len E (pos, pr, ix, nm)))]) heq) ?_
  refine z_icmp_same (tgt := 599) hC dL_law_535 (by decide) ?_
  exact kk (cOutE C len E (pos, pr, ix, nm)) T (cOutF C len E (pos, pr, ix, nm) F) (cOutH C len E (pos, pr, ix, nm) F R) G U V (cOutL C len (pos, pr, ix, nm)) ((cOutS C len E (pos, pr, ix, nm)).1) ((cOutS C len E (pos, pr, ix, nm)).2.1) ((cOutS C len E (pos, pr, ix, nm)).2.2.1) ((cOutS C len E (pos, pr, ix, nm)).2.2.2) C (if (mCoF C len A er nb).2 = -6 then mChL L else L) (if (mCoF C len A er nb).2 = -6 then (mCoO C len A er nb).1.2.2.1 else (mCoF C len A er nb).1.2.2.1) (if (mCoF C len A er nb).2 = -6 then (mCoO C len A er nb).1.2.2.2 else (mCoF C len A er nb).1.2.2.2) (if (mCoF C len A er nb).2 = -6 then 1 else 0) (if (mCoF C len A er nb).2 = -6 then (mCoO C len A er nb).1.2.1 else er) (if (mCoF C len A er nb).2 = -6 then (mCoO C len A er nb).1.1 else A) (if (mCoF C len A er nb).2 = -6 then A else K) Tm (if (mCoF C len A er nb).2 = -6 then mChH H A L else H) S Vm ⟨ho.2.1.1, ho.2.1.2.1, ho.2.1.2.2, hTg, ho.2.2.2.2, hSl, hol, hCh, ho.2.2.1⟩
