/-! ===== the law's loop ===== -/
set_option maxHeartbeats 4000000 in
set_option maxRecDepth 100000 in
theorem law_next {p : Program} {l : Launch} {e : Env} {s : State} {m : MethodId} {below : List Frame} {meth : Method} {c : Code} {D : va_G} {J : Nat → ClassId} {b : Nat} {Q : State → Prop} {hx hm : Nat} {AA : Nat → Nat → Nat} {aa : Nat → Nat} {i : Nat} (hC : zC p s m #[Value.ref b] meth c (fun q : Nat => s.heap.size ≤ q) 4 D J cL_law RL wsL_law) (kk : KL p l e s m below meth c D J b Q hx hm AA aa (i + 4) 18) : KL p l e s m below meth c D J b Q hx hm AA aa i 599 := by
  intro E T F R G U V len pos pr ix nm C L sp nb dn er A K Tm H S Vm hSim
  refine z_iinc (lv' := [(3, .int (iI ((i : Int) + 4))), (2, .ref hm), (1, .ref hx), (0, .ref b)]) hC dL_law_599 0 rfl (by decide) rfl ?_
  refine z_goto (tgt := 18) hC dL_law_602 (by decide) ?_
  refine z_lv0 (lv' := [(3, .int (iI ((i + 4 : Nat) : Int))), (2, .ref hm), (1, .ref hx), (0, .ref b)]) (by rw [show ((i + 4 : Nat) : Int) = (i : Int) + 4 by omega]) ?_
  exact kk E T F R G U V len pos pr ix nm C L sp nb dn er A K Tm H S Vm hSim
set_option maxHeartbeats 4000000 in
set_option maxRecDepth 100000 in
theorem law_switch {p : Program} {l : Launch} {e : Env} {s : State} {m : MethodId} {below : List Frame} {meth : Method} {c : Code} {D : va_G} {J : Nat → ClassId} {b N : Nat} {xs : Nat → Int32} {Q : State → Prop} {hx hm : Nat} {AA : Nat → Nat → Nat} {aa : Nat → Nat} {i : Nat} (hC : zC p s m #[Value.ref b] meth c (fun q : Nat => s.heap.size ≤ q) 4 D J cL_law RL wsL_law) (hX : va_X b N xs s s.heap) (hbl : b < s.heap.size) (hN : N ≤ 2048) (hi : i + 4 ≤ N) (kk : KL p l e s m below meth c D J b Q hx hm AA aa i 599) : KL p l e s m below meth c D J b Q hx hm AA aa i 26 := by
  have hbA : ¬ (fun q : Nat => s.heap.size ≤ q) b := Nat.not_le.mpr hbl
  intro E T F R G U V len pos pr ix nm C L sp nb dn er A K Tm H S Vm hSim
  refine z_aload_n hC dL_law_26 rfl 3 rfl ?_
  refine z_iload_n hC dL_law_27 rfl 0 rfl ?_
  refine z_sld hC hX hbl hbA i rfl (by omega) (by omega) dL_law_28 ?_
  refine z_bipush hC dL_law_29 rfl ?_
  refine z_iandR hC dL_law_31 (iI_and31 _) ?_
  have hw : 0 ≤ (xs i).toInt % 32 ∧ (xs i).toInt % 32 < 32 := by omega
  generalize (xs i).toInt % 32 = w at hw ⊢
  rcases (show w = 0 ∨ w = 1 ∨ w = 2 ∨ w = 3 ∨ w = 4 ∨ w = 5 ∨ w = 6 ∨ w = 7 ∨ w = 8 ∨ w = 9 ∨ w = 10 ∨ w = 11 ∨ w = 12 ∨ w = 13 ∨ w = 14 ∨ w = 15 ∨ w = 16 ∨ w = 17 ∨ w = 18 ∨ w = 19 ∨ 19 < w by omega) with rfl | rfl | rfl | rfl | rfl | rfl | rfl | rfl | rfl | rfl | rfl | rfl | rfl | rfl | rfl | rfl | rfl | rfl | rfl | rfl | h
  · refine z_tableIn (tgt := 128) (off := 96) hC dL_law_32 ⟨by decide, by decide⟩ (by decide) (by decide) rfl (by decide) ?_
    exact law_c0 hC hX hbl hN hi kk E T F R G U V len pos pr ix nm C L sp nb dn er A K Tm H S Vm hSim
  · refine z_tableIn (tgt := 161) (off := 129) hC dL_law_32 ⟨by decide, by decide⟩ (by decide) (by decide) rfl (by decide) ?_
    exact law_c1 hC hX hbl hN hi kk E T F R G U V len pos pr ix nm C L sp nb dn er A K Tm H S Vm hSim
  · refine z_tableIn (tgt := 204) (off := 172) hC dL_law_32 ⟨by decide, by decide⟩ (by decide) (by decide) rfl (by decide) ?_
    exact law_c2 hC hX hbl hN hi kk E T F R G U V len pos pr ix nm C L sp nb dn er A K Tm H S Vm hSim
  · refine z_tableIn (tgt := 227) (off := 195) hC dL_law_32 ⟨by decide, by decide⟩ (by decide) (by decide) rfl (by decide) ?_
    exact law_c3 hC hX hbl hN hi kk E T F R G U V len pos pr ix nm C L sp nb dn er A K Tm H S Vm hSim
  · refine z_tableIn (tgt := 240) (off := 208) hC dL_law_32 ⟨by decide, by decide⟩ (by decide) (by decide) rfl (by decide) ?_
    exact law_c4 hC hX hbl hN hi kk E T F R G U V len pos pr ix nm C L sp nb dn er A K Tm H S Vm hSim
  · refine z_tableIn (tgt := 273) (off := 241) hC dL_law_32 ⟨by decide, by decide⟩ (by decide) (by decide) rfl (by decide) ?_
    exact law_c5 hC hX hbl hN hi kk E T F R G U V len pos pr ix nm C L sp nb dn er A K Tm H S Vm hSim
  · refine z_tableIn (tgt := 296) (off := 264) hC dL_law_32 ⟨by decide, by decide⟩ (by decide) (by decide) rfl (by decide) ?_
    exact law_c6 hC hX hbl hN hi kk E T F R G U V len pos pr ix nm C L sp nb dn er A K Tm H S Vm hSim
  · refine z_tableIn (tgt := 319) (off := 287) hC dL_law_32 ⟨by decide, by decide⟩ (by decide) (by decide) rfl (by decide) ?_
    exact law_c7 hC hX hbl hN hi kk E T F R G U V len pos pr ix nm C L sp nb dn er A K Tm H S Vm hSim
  · refine z_tableIn (tgt := 333) (off := 301) hC dL_law_32 ⟨by decide, by decide⟩ (by decide) (by decide) rfl (by decide) ?_
    exact law_c8 hC hX hbl hN hi kk E T F R G U V len pos pr ix nm C L sp nb dn er A K Tm H S Vm hSim
  · refine z_tableIn (tgt := 346) (off := 314) hC dL_law_32 ⟨by decide, by decide⟩ (by decide) (by decide) rfl (by decide) ?_
    exact law_c9 hC hX hbl hN hi kk E T F R G U V len pos pr ix nm C L sp nb dn er A K Tm H S Vm hSim
  · refine z_tableIn (tgt := 379) (off := 347) hC dL_law_32 ⟨by decide, by decide⟩ (by decide) (by decide) rfl (by decide) ?_
    exact law_c10 hC hX hbl hN hi kk E T F R G U V len pos pr ix nm C L sp nb dn er A K Tm H S Vm hSim
  · refine z_tableIn (tgt := 402) (off := 370) hC dL_law_32 ⟨by decide, by decide⟩ (by decide) (by decide) rfl (by decide) ?_
    exact law_c11 hC hX hbl hN hi kk E T F R G U V len pos pr ix nm C L sp nb dn er A K Tm H S Vm hSim
  · refine z_tableIn (tgt := 425) (off := 393) hC dL_law_32 ⟨by decide, by decide⟩ (by decide) (by decide) rfl (by decide) ?_
    exact law_c12 hC hX hbl hN hi kk E T F R G U V len pos pr ix nm C L sp nb dn er A K Tm H S Vm hSim
  · refine z_tableIn (tgt := 448) (off := 416) hC dL_law_32 ⟨by decide, by decide⟩ (by decide) (by decide) rfl (by decide) ?_
    exact law_c13 hC hX hbl hN hi kk E T F R G U V len pos pr ix nm C L sp nb dn er A K Tm H S Vm hSim
  · refine z_tableIn (tgt := 501) (off := 469) hC dL_law_32 ⟨by decide, by decide⟩ (by decide) (by decide) rfl (by decide) ?_
    exact law_c14 hC hX hbl hN hi kk E T F R G U V len pos pr ix nm C L sp nb dn er A K Tm H S Vm hSim
  · refine z_tableIn (tgt := 514) (off := 482) hC dL_law_32 ⟨by decide, by decide⟩ (by decide) (by decide) rfl (by decide) ?_
    exact law_c15 hC hX hbl hN hi kk E T F R G U V len pos pr ix nm C L sp nb dn er A K Tm H S Vm hSim
  · refine z_tableIn (tgt := 527) (off := 495) hC dL_law_32 ⟨by decide, by decide⟩ (by decide) (by decide) rfl (by decide) ?_
    exact law_c16 hC hX hbl hN hi kk E T F R G U V len pos pr ix nm C L sp nb dn er A K Tm H S Vm hSim
  · refine z_tableIn (tgt := 540) (off := 508) hC dL_law_32 ⟨by decide, by decide⟩ (by decide) (by decide) rfl (by decide) ?_
    exact law_c17 hC hX hbl hN hi kk E T F R G U V len pos pr ix nm C L sp nb dn er A K Tm H S Vm hSim
  · refine z_tableIn (tgt := 553) (off := 521) hC dL_law_32 ⟨by decide, by decide⟩ (by decide) (by decide) rfl (by decide) ?_
    exact law_c18 hC hX hbl hN hi kk E T F R G U V len pos pr ix nm C L sp nb dn er A K Tm H S Vm hSim
  · refine z_tableIn (tgt := 576) (off := 544) hC dL_law_32 ⟨by decide, by decide⟩ (by decide) (by decide) rfl (by decide) ?_
    exact law_c19 hC hX hbl hN hi kk E T F R G U V len pos pr ix nm C L sp nb dn er A K Tm H S Vm hSim
  · refine z_tableOut (tgt := 599) hC dL_law_32 ⟨by omega, by omega⟩ (Or.inr h) (by decide) ?_
    exact kk E T F R G U V len pos pr ix nm C L sp nb dn er A K Tm H S Vm hSim
set_option maxHeartbeats 4000000 in
set_option maxRecDepth 100000 in
theorem law_loop {p : Program} {l : Launch} {e : Env} {s : State} {m : MethodId} {below : List Frame} {meth : Method} {c : Code} {D : va_G} {J : Nat → ClassId} {b N : Nat} {xs : Nat → Int32} {hx hm : Nat} {AA : Nat → Nat → Nat} {aa : Nat → Nat} (hC : zC p s m #[Value.ref b] meth c (fun q : Nat => s.heap.size ≤ q) 4 D J cL_law RL wsL_law) (hX : va_X b N xs s s.heap) (hbl : b < s.heap.size) (hN : N ≤ 2048) (hr : meth.sig.returnType = ret) :
    ∀ (n i : Nat), N ≤ i + 4 * n + 3 → i ≤ N + 3 → KL p l e s m below meth c D J b (lw_Z below #[Value.ref b] s) hx hm AA aa i 18 := by
  have hbA : ¬ (fun q : Nat => s.heap.size ≤ q) b := Nat.not_le.mpr hbl
  intro n
  induction n with
  | zero =>
    intro i h1 h2 E T F R G U V len pos pr ix nm C L sp nb dn er A K Tm H S Vm hSim
    refine z_iload_n hC dL_law_18 rfl 0 rfl ?_
    refine z_aload_n hC dL_law_19 rfl 3 rfl ?_
    refine z_slen hC hX hbl hbA dL_law_20 ?_
    refine z_iconst hC dL_law_21 ?_
    refine z_isub hC dL_law_22 ?_
    refine z_icmp_gt_t (tgt := 605) hC dL_law_23 (by decide) ⟨by omega, by omega⟩ ⟨by omega, by omega⟩ (by omega) ?_
    refine z_iconst hC dL_law_605 ?_
    exact z_law_end hC hr
  | succ n ih =>
    intro i h1 h2 E T F R G U V len pos pr ix nm C L sp nb dn er A K Tm H S Vm hSim
    refine z_iload_n hC dL_law_18 rfl 0 rfl ?_
    refine z_aload_n hC dL_law_19 rfl 3 rfl ?_
    refine z_slen hC hX hbl hbA dL_law_20 ?_
    refine z_iconst hC dL_law_21 ?_
    refine z_isub hC dL_law_22 ?_
    by_cases h : i + 4 ≤ N
    · refine z_icmp_gt_f (tgt := 605) hC dL_law_23 (by decide) ⟨by omega, by omega⟩ ⟨by omega, by omega⟩ (by omega) ?_
      exact law_switch hC hX hbl hN h (law_next hC (ih (i + 4) (by omega) (by omega))) E T F R G U V len pos pr ix nm C L sp nb dn er A K Tm H S Vm hSim
    · refine z_icmp_gt_t (tgt := 605) hC dL_law_23 (by decide) ⟨by omega, by omega⟩ ⟨by omega, by omega⟩ (by omega) ?_
      refine z_iconst hC dL_law_605 ?_
      exact z_law_end hC hr
