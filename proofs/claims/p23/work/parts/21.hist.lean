set_option maxRecDepth 20000 in
theorem iX2_nextRow_X2 : ∀ w ∈ u_ws RX2 TX2 3, w ∈ wsX2_nextRow := zm_places _ [3, 4, 5] (by decide +kernel)
theorem kX2_nextRow_1 : Cond.fieldLink RX2 18 "StepPairs$History" "next" "I" ∈ wsX2_nextRow := List.mem_of_getElem? (i := 1) rfl
theorem kX2_nextRow_2 : Cond.fieldLink RX2 13 "StepPairs$History" "rows" "[LStepPairs$Encoder;" ∈ wsX2_nextRow := List.mem_of_getElem? (i := 2) rfl
abbrev rmX2_nextRow : Room := { frames := 0, cells := 0, slots := 0, locals := 0 }
set_option maxHeartbeats 4000000 in
set_option maxRecDepth 100000 in
theorem t_X2_nextRow (l : Launch) (D : va_G) (J : Nat → ClassId) (h r : Nat) (ra : Nat → Nat) (F : Nat → Int) (hF : 0 ≤ F 1 ∧ F 1 < 7) : ZX l yX2_nextRow wsX2_nextRow rmX2_nextRow D J [.ref h] ([cO 1 h [some r, none, none] F, cQ (J 3) r 7 (fun j => some (ra j))]) (some (.ref (ra (Int.toNat (F 1))))) ([cO 1 h [some r, none, none] F, cQ (J 3) r 7 (fun j => some (ra j))]) := by
  refine z_met (cc := cX2_nextRow) (nL := 1) (ret := (some (.object "StepPairs$Encoder"))) (own := RX2) (by decide) rfl rfl (Nat.le_of_ble_eq_true rfl) (fun p e s m args below meth c hC hr hin => ?_)
  refine z_lv0 (lv' := [(0, .ref h)]) rfl ?_
  refine z_aload_n hC dX2_nextRow_0 rfl 0 rfl ?_
  refine z_geti hC zkX2 iX2_nextRow_X2 0 rfl 1 (by decide) kX2_nextRow_1 rfl rfl dX2_nextRow_1 ?_
  refine z_if_lt_f (tgt := 28) hC dX2_nextRow_4 (by decide) (by unfold inR; omega) (by omega) ?_
  refine z_aload_n hC dX2_nextRow_7 rfl 0 rfl ?_
  refine z_geti hC zkX2 iX2_nextRow_X2 0 rfl 1 (by decide) kX2_nextRow_1 rfl rfl dX2_nextRow_8 ?_
  refine z_bipush hC dX2_nextRow_11 (by decide) ?_
  refine z_icmp_ge_f (tgt := 28) hC dX2_nextRow_13 (by decide) (by unfold inR; omega) ⟨by decide, by decide⟩ (by omega) ?_
  refine z_aload_n hC dX2_nextRow_16 rfl 0 rfl ?_
  refine z_getr hC zkX2 iX2_nextRow_X2 0 rfl 0 (by decide) kX2_nextRow_2 rfl rfl dX2_nextRow_17 ?_
  refine z_aload_n hC dX2_nextRow_20 rfl 0 rfl ?_
  refine z_geti hC zkX2 iX2_nextRow_X2 0 rfl 1 (by decide) kX2_nextRow_1 rfl rfl dX2_nextRow_21 ?_
  refine z_aald hC 1 rfl rfl (Int.toNat (F 1)) (Int.toNat_of_nonneg (by omega)).symm (by omega) (by decide) (r := (ra (Int.toNat (F 1)))) rfl dX2_nextRow_24 ?_
  refine z_goto (tgt := 29) hC dX2_nextRow_25 (by decide) ?_
  exact z_aret hC hr (Or.inl ⟨_, rfl⟩) () trivial (by rfl) (by rfl) dX2_nextRow_29
abbrev rmX2_prepare : Room := { frames := 2, cells := 0, slots := 0, locals := 61 }
set_option maxHeartbeats 4000000 in
set_option maxRecDepth 100000 in
theorem t_X2_prepare (l : Launch) (D : va_G) (J : Nat → ClassId) (h r h0 h1 h2 : Nat) (ra rb rc : Nat → Nat) (F : Nat → Int) (R : Nat → Enc) (E : Enc) (hF : 0 ≤ F 1 ∧ F 1 < 7) : ZX l yX2_prepare wsX2_prepare rmX2_prepare D J [.ref h, .ref h0] ([cO 1 h [some r, none, none] F, cQ (J 3) r 7 (fun j => some (ra j))] ++ (wE J (ra 0) (rb 0) (rc 0) (R 0) ++ (wE J (ra 1) (rb 1) (rc 1) (R 1) ++ (wE J (ra 2) (rb 2) (rc 2) (R 2) ++ (wE J (ra 3) (rb 3) (rc 3) (R 3) ++ (wE J (ra 4) (rb 4) (rc 4) (R 4) ++ (wE J (ra 5) (rb 5) (rc 5) (R 5) ++ (wE J (ra 6) (rb 6) (rc 6) (R 6) ++ wE J h0 h1 h2 E)))))))) none (wH J h r ra rb rc F (upR R (Int.toNat (F 1)) E) ++ wE J h0 h1 h2 E) := by
  refine z_met (cc := cX2_prepare) (nL := 2) (ret := none) (own := RX2) (by decide) rfl rfl (Nat.le_of_ble_eq_true rfl) (fun p e s m args below meth c hC hr hin => ?_)
  refine z_lv0 (lv' := [(0, .ref h), (1, .ref h0)]) rfl ?_
  rcases (show Int.toNat (F 1) = 0 ∨ Int.toNat (F 1) = 1 ∨ Int.toNat (F 1) = 2 ∨ Int.toNat (F 1) = 3 ∨ Int.toNat (F 1) = 4 ∨ Int.toNat (F 1) = 5 ∨ Int.toNat (F 1) = 6 by omega) with hk | hk | hk | hk | hk | hk | hk
  · skip
    refine z_aload_n hC dX2_prepare_0 rfl 1 rfl ?_
    refine z_aload_n hC dX2_prepare_1 rfl 0 rfl ?_
    refine z_callV (wr := wE J (ra 0) (rb 0) (rc 0) (R 0) ++ (wE J (ra 1) (rb 1) (rc 1) (R 1) ++ (wE J (ra 2) (rb 2) (rc 2) (R 2) ++ (wE J (ra 3) (rb 3) (rc 3) (R 3) ++ (wE J (ra 4) (rb 4) (rc 4) (R 4) ++ (wE J (ra 5) (rb 5) (rc 5) (R 5) ++ (wE J (ra 6) (rb 6) (rc 6) (R 6) ++ wE J h0 h1 h2 E))))))) (av := []) (st := [.ref h0]) hC (t_X2_nextRow l D J h r ra F hF) gX2_prepare_X2_nextRow rfl 0 (by decide +kernel) ⟨Nat.le_of_ble_eq_true rfl, Nat.le_of_ble_eq_true rfl⟩ ⟨Nat.le_of_ble_eq_true rfl, Nat.le_of_ble_eq_true rfl⟩ [0, 1] [2, 3, 4, 5, 6, 7, 8, 9, 10, 11, 12, 13, 14, 15, 16, 17, 18, 19, 20, 21, 22, 23, 24, 25] rfl rfl rfl (by decide) rfl 0 rfl rfl rfl rfl rfl (Nat.le_of_ble_eq_true rfl) dX2_prepare_2 (fun _ _ => ?_)
    refine z_perm (ws' := [cO 1 h [some r, none, none] F, cQ (J 3) r 7 (fun j => some (ra j))] ++ (wE J (ra 0) (rb 0) (rc 0) (R 0) ++ (wE J (ra 1) (rb 1) (rc 1) (R 1) ++ (wE J (ra 2) (rb 2) (rc 2) (R 2) ++ (wE J (ra 3) (rb 3) (rc 3) (R 3) ++ (wE J (ra 4) (rb 4) (rc 4) (R 4) ++ (wE J (ra 5) (rb 5) (rc 5) (R 5) ++ (wE J (ra 6) (rb 6) (rc 6) (R 6) ++ wE J h0 h1 h2 E)))))))) [24, 25, 0, 1, 2, 3, 4, 5, 6, 7, 8, 9, 10, 11, 12, 13, 14, 15, 16, 17, 18, 19, 20, 21, 22, 23] rfl rfl ?_
    refine z_st (st' := [.ref (ra (Int.toNat (F 1))), .ref h0]) rfl ?_
    refine z_st (st' := [.ref (ra 0), .ref h0]) (by rw [show Int.toNat (F 1) = 0 from hk]) ?_
    refine z_callS (wr := [cO 1 h [some r, none, none] F, cQ (J 3) r 7 (fun j => some (ra j))] ++ (wE J (ra 1) (rb 1) (rc 1) (R 1) ++ (wE J (ra 2) (rb 2) (rc 2) (R 2) ++ (wE J (ra 3) (rb 3) (rc 3) (R 3) ++ (wE J (ra 4) (rb 4) (rc 4) (R 4) ++ (wE J (ra 5) (rb 5) (rc 5) (R 5) ++ wE J (ra 6) (rb 6) (rc 6) (R 6))))))) (av := [.ref h0, .ref (ra 0)]) (st := []) hC (t_X1_copy l D J h0 h1 h2 (ra 0) (rb 0) (rc 0) E (R 0)) gX2_prepare_X1_copy rfl 2 (by decide +kernel) ⟨Nat.le_of_ble_eq_true rfl, Nat.le_of_ble_eq_true rfl⟩ ⟨Nat.le_of_ble_eq_true rfl, Nat.le_of_ble_eq_true rfl⟩ [23, 24, 25, 2, 3, 4] [0, 1, 5, 6, 7, 8, 9, 10, 11, 12, 13, 14, 15, 16, 17, 18, 19, 20, 21, 22] rfl rfl rfl (by decide) rfl rfl rfl (Nat.le_of_ble_eq_true rfl) dX2_prepare_5 (fun _ _ => ?_)
    refine z_perm (ws' := [cO 1 h [some r, none, none] F, cQ (J 3) r 7 (fun j => some (ra j))] ++ (wE J (ra 0) (rb 0) (rc 0) E ++ (wE J (ra 1) (rb 1) (rc 1) (R 1) ++ (wE J (ra 2) (rb 2) (rc 2) (R 2) ++ (wE J (ra 3) (rb 3) (rc 3) (R 3) ++ (wE J (ra 4) (rb 4) (rc 4) (R 4) ++ (wE J (ra 5) (rb 5) (rc 5) (R 5) ++ (wE J (ra 6) (rb 6) (rc 6) (R 6) ++ wE J h0 h1 h2 E)))))))) [0, 1, 23, 24, 25, 2, 3, 4, 5, 6, 7, 8, 9, 10, 11, 12, 13, 14, 15, 16, 17, 18, 19, 20, 21, 22] rfl rfl ?_
    refine z_st (st' := []) rfl ?_
    exact z_vret hC hr () trivial rfl (by rw [hk]; rfl) dX2_prepare_8
  · skip
    refine z_aload_n hC dX2_prepare_0 rfl 1 rfl ?_
    refine z_aload_n hC dX2_prepare_1 rfl 0 rfl ?_
    refine z_callV (wr := wE J (ra 0) (rb 0) (rc 0) (R 0) ++ (wE J (ra 1) (rb 1) (rc 1) (R 1) ++ (wE J (ra 2) (rb 2) (rc 2) (R 2) ++ (wE J (ra 3) (rb 3) (rc 3) (R 3) ++ (wE J (ra 4) (rb 4) (rc 4) (R 4) ++ (wE J (ra 5) (rb 5) (rc 5) (R 5) ++ (wE J (ra 6) (rb 6) (rc 6) (R 6) ++ wE J h0 h1 h2 E))))))) (av := []) (st := [.ref h0]) hC (t_X2_nextRow l D J h r ra F hF) gX2_prepare_X2_nextRow rfl 0 (by decide +kernel) ⟨Nat.le_of_ble_eq_true rfl, Nat.le_of_ble_eq_true rfl⟩ ⟨Nat.le_of_ble_eq_true rfl, Nat.le_of_ble_eq_true rfl⟩ [0, 1] [2, 3, 4, 5, 6, 7, 8, 9, 10, 11, 12, 13, 14, 15, 16, 17, 18, 19, 20, 21, 22, 23, 24, 25] rfl rfl rfl (by decide) rfl 0 rfl rfl rfl rfl rfl (Nat.le_of_ble_eq_true rfl) dX2_prepare_2 (fun _ _ => ?_)
    refine z_perm (ws' := [cO 1 h [some r, none, none] F, cQ (J 3) r 7 (fun j => some (ra j))] ++ (wE J (ra 0) (rb 0) (rc 0) (R 0) ++ (wE J (ra 1) (rb 1) (rc 1) (R 1) ++ (wE J (ra 2) (rb 2) (rc 2) (R 2) ++ (wE J (ra 3) (rb 3) (rc 3) (R 3) ++ (wE J (ra 4) (rb 4) (rc 4) (R 4) ++ (wE J (ra 5) (rb 5) (rc 5) (R 5) ++ (wE J (ra 6) (rb 6) (rc 6) (R 6) ++ wE J h0 h1 h2 E)))))))) [24, 25, 0, 1, 2, 3, 4, 5, 6, 7, 8, 9, 10, 11, 12, 13, 14, 15, 16, 17, 18, 19, 20, 21, 22, 23] rfl rfl ?_
    refine z_st (st' := [.ref (ra (Int.toNat (F 1))), .ref h0]) rfl ?_
    refine z_st (st' := [.ref (ra 1), .ref h0]) (by rw [show Int.toNat (F 1) = 1 from hk]) ?_
    refine z_callS (wr := [cO 1 h [some r, none, none] F, cQ (J 3) r 7 (fun j => some (ra j))] ++ (wE J (ra 0) (rb 0) (rc 0) (R 0) ++ (wE J (ra 2) (rb 2) (rc 2) (R 2) ++ (wE J (ra 3) (rb 3) (rc 3) (R 3) ++ (wE J (ra 4) (rb 4) (rc 4) (R 4) ++ (wE J (ra 5) (rb 5) (rc 5) (R 5) ++ wE J (ra 6) (rb 6) (rc 6) (R 6))))))) (av := [.ref h0, .ref (ra 1)]) (st := []) hC (t_X1_copy l D J h0 h1 h2 (ra 1) (rb 1) (rc 1) E (R 1)) gX2_prepare_X1_copy rfl 2 (by decide +kernel) ⟨Nat.le_of_ble_eq_true rfl, Nat.le_of_ble_eq_true rfl⟩ ⟨Nat.le_of_ble_eq_true rfl, Nat.le_of_ble_eq_true rfl⟩ [23, 24, 25, 5, 6, 7] [0, 1, 2, 3, 4, 8, 9, 10, 11, 12, 13, 14, 15, 16, 17, 18, 19, 20, 21, 22] rfl rfl rfl (by decide) rfl rfl rfl (Nat.le_of_ble_eq_true rfl) dX2_prepare_5 (fun _ _ => ?_)
    refine z_perm (ws' := [cO 1 h [some r, none, none] F, cQ (J 3) r 7 (fun j => some (ra j))] ++ (wE J (ra 0) (rb 0) (rc 0) (R 0) ++ (wE J (ra 1) (rb 1) (rc 1) E ++ (wE J (ra 2) (rb 2) (rc 2) (R 2) ++ (wE J (ra 3) (rb 3) (rc 3) (R 3) ++ (wE J (ra 4) (rb 4) (rc 4) (R 4) ++ (wE J (ra 5) (rb 5) (rc 5) (R 5) ++ (wE J (ra 6) (rb 6) (rc 6) (R 6) ++ wE J h0 h1 h2 E)))))))) [0, 1, 2, 3, 4, 23, 24, 25, 5, 6, 7, 8, 9, 10, 11, 12, 13, 14, 15, 16, 17, 18, 19, 20, 21, 22] rfl rfl ?_
    refine z_st (st' := []) rfl ?_
    exact z_vret hC hr () trivial rfl (by rw [hk]; rfl) dX2_prepare_8
  · skip
    refine z_aload_n hC dX2_prepare_0 rfl 1 rfl ?_
    refine z_aload_n hC dX2_prepare_1 rfl 0 rfl ?_
    refine z_callV (wr := wE J (ra 0) (rb 0) (rc 0) (R 0) ++ (wE J (ra 1) (rb 1) (rc 1) (R 1) ++ (wE J (ra 2) (rb 2) (rc 2) (R 2) ++ (wE J (ra 3) (rb 3) (rc 3) (R 3) ++ (wE J (ra 4) (rb 4) (rc 4) (R 4) ++ (wE J (ra 5) (rb 5) (rc 5) (R 5) ++ (wE J (ra 6) (rb 6) (rc 6) (R 6) ++ wE J h0 h1 h2 E))))))) (av := []) (st := [.ref h0]) hC (t_X2_nextRow l D J h r ra F hF) gX2_prepare_X2_nextRow rfl 0 (by decide +kernel) ⟨Nat.le_of_ble_eq_true rfl, Nat.le_of_ble_eq_true rfl⟩ ⟨Nat.le_of_ble_eq_true rfl, Nat.le_of_ble_eq_true rfl⟩ [0, 1] [2, 3, 4, 5, 6, 7, 8, 9, 10, 11, 12, 13, 14, 15, 16, 17, 18, 19, 20, 21, 22, 23, 24, 25] rfl rfl rfl (by decide) rfl 0 rfl rfl rfl rfl rfl (Nat.le_of_ble_eq_true rfl) dX2_prepare_2 (fun _ _ => ?_)
    refine z_perm (ws' := [cO 1 h [some r, none, none] F, cQ (J 3) r 7 (fun j => some (ra j))] ++ (wE J (ra 0) (rb 0) (rc 0) (R 0) ++ (wE J (ra 1) (rb 1) (rc 1) (R 1) ++ (wE J (ra 2) (rb 2) (rc 2) (R 2) ++ (wE J (ra 3) (rb 3) (rc 3) (R 3) ++ (wE J (ra 4) (rb 4) (rc 4) (R 4) ++ (wE J (ra 5) (rb 5) (rc 5) (R 5) ++ (wE J (ra 6) (rb 6) (rc 6) (R 6) ++ wE J h0 h1 h2 E)))))))) [24, 25, 0, 1, 2, 3, 4, 5, 6, 7, 8, 9, 10, 11, 12, 13, 14, 15, 16, 17, 18, 19, 20, 21, 22, 23] rfl rfl ?_
    refine z_st (st' := [.ref (ra (Int.toNat (F 1))), .ref h0]) rfl ?_
    refine z_st (st' := [.ref (ra 2), .ref h0]) (by rw [show Int.toNat (F 1) = 2 from hk]) ?_
    refine z_callS (wr := [cO 1 h [some r, none, none] F, cQ (J 3) r 7 (fun j => some (ra j))] ++ (wE J (ra 0) (rb 0) (rc 0) (R 0) ++ (wE J (ra 1) (rb 1) (rc 1) (R 1) ++ (wE J (ra 3) (rb 3) (rc 3) (R 3) ++ (wE J (ra 4) (rb 4) (rc 4) (R 4) ++ (wE J (ra 5) (rb 5) (rc 5) (R 5) ++ wE J (ra 6) (rb 6) (rc 6) (R 6))))))) (av := [.ref h0, .ref (ra 2)]) (st := []) hC (t_X1_copy l D J h0 h1 h2 (ra 2) (rb 2) (rc 2) E (R 2)) gX2_prepare_X1_copy rfl 2 (by decide +kernel) ⟨Nat.le_of_ble_eq_true rfl, Nat.le_of_ble_eq_true rfl⟩ ⟨Nat.le_of_ble_eq_true rfl, Nat.le_of_ble_eq_true rfl⟩ [23, 24, 25, 8, 9, 10] [0, 1, 2, 3, 4, 5, 6, 7, 11, 12, 13, 14, 15, 16, 17, 18, 19, 20, 21, 22] rfl rfl rfl (by decide) rfl rfl rfl (Nat.le_of_ble_eq_true rfl) dX2_prepare_5 (fun _ _ => ?_)
    refine z_perm (ws' := [cO 1 h [some r, none, none] F, cQ (J 3) r 7 (fun j => some (ra j))] ++ (wE J (ra 0) (rb 0) (rc 0) (R 0) ++ (wE J (ra 1) (rb 1) (rc 1) (R 1) ++ (wE J (ra 2) (rb 2) (rc 2) E ++ (wE J (ra 3) (rb 3) (rc 3) (R 3) ++ (wE J (ra 4) (rb 4) (rc 4) (R 4) ++ (wE J (ra 5) (rb 5) (rc 5) (R 5) ++ (wE J (ra 6) (rb 6) (rc 6) (R 6) ++ wE J h0 h1 h2 E)))))))) [0, 1, 2, 3, 4, 5, 6, 7, 23, 24, 25, 8, 9, 10, 11, 12, 13, 14, 15, 16, 17, 18, 19, 20, 21, 22] rfl rfl ?_
    refine z_st (st' := []) rfl ?_
    exact z_vret hC hr () trivial rfl (by rw [hk]; rfl) dX2_prepare_8
  · skip
    refine z_aload_n hC dX2_prepare_0 rfl 1 rfl ?_
    refine z_aload_n hC dX2_prepare_1 rfl 0 rfl ?_
    refine z_callV (wr := wE J (ra 0) (rb 0) (rc 0) (R 0) ++ (wE J (ra 1) (rb 1) (rc 1) (R 1) ++ (wE J (ra 2) (rb 2) (rc 2) (R 2) ++ (wE J (ra 3) (rb 3) (rc 3) (R 3) ++ (wE J (ra 4) (rb 4) (rc 4) (R 4) ++ (wE J (ra 5) (rb 5) (rc 5) (R 5) ++ (wE J (ra 6) (rb 6) (rc 6) (R 6) ++ wE J h0 h1 h2 E))))))) (av := []) (st := [.ref h0]) hC (t_X2_nextRow l D J h r ra F hF) gX2_prepare_X2_nextRow rfl 0 (by decide +kernel) ⟨Nat.le_of_ble_eq_true rfl, Nat.le_of_ble_eq_true rfl⟩ ⟨Nat.le_of_ble_eq_true rfl, Nat.le_of_ble_eq_true rfl⟩ [0, 1] [2, 3, 4, 5, 6, 7, 8, 9, 10, 11, 12, 13, 14, 15, 16, 17, 18, 19, 20, 21, 22, 23, 24, 25] rfl rfl rfl (by decide) rfl 0 rfl rfl rfl rfl rfl (Nat.le_of_ble_eq_true rfl) dX2_prepare_2 (fun _ _ => ?_)
    refine z_perm (ws' := [cO 1 h [some r, none, none] F, cQ (J 3) r 7 (fun j => some (ra j))] ++ (wE J (ra 0) (rb 0) (rc 0) (R 0) ++ (wE J (ra 1) (rb 1) (rc 1) (R 1) ++ (wE J (ra 2) (rb 2) (rc 2) (R 2) ++ (wE J (ra 3) (rb 3) (rc 3) (R 3) ++ (wE J (ra 4) (rb 4) (rc 4) (R 4) ++ (wE J (ra 5) (rb 5) (rc 5) (R 5) ++ (wE J (ra 6) (rb 6) (rc 6) (R 6) ++ wE J h0 h1 h2 E)))))))) [24, 25, 0, 1, 2, 3, 4, 5, 6, 7, 8, 9, 10, 11, 12, 13, 14, 15, 16, 17, 18, 19, 20, 21, 22, 23] rfl rfl ?_
    refine z_st (st' := [.ref (ra (Int.toNat (F 1))), .ref h0]) rfl ?_
    refine z_st (st' := [.ref (ra 3), .ref h0]) (by rw [show Int.toNat (F 1) = 3 from hk]) ?_
    refine z_callS (wr := [cO 1 h [some r, none, none] F, cQ (J 3) r 7 (fun j => some (ra j))] ++ (wE J (ra 0) (rb 0) (rc 0) (R 0) ++ (wE J (ra 1) (rb 1) (rc 1) (R 1) ++ (wE J (ra 2) (rb 2) (rc 2) (R 2) ++ (wE J (ra 4) (rb 4) (rc 4) (R 4) ++ (wE J (ra 5) (rb 5) (rc 5) (R 5) ++ wE J (ra 6) (rb 6) (rc 6) (R 6))))))) (av := [.ref h0, .ref (ra 3)]) (st := []) hC (t_X1_copy l D J h0 h1 h2 (ra 3) (rb 3) (rc 3) E (R 3)) gX2_prepare_X1_copy rfl 2 (by decide +kernel) ⟨Nat.le_of_ble_eq_true rfl, Nat.le_of_ble_eq_true rfl⟩ ⟨Nat.le_of_ble_eq_true rfl, Nat.le_of_ble_eq_true rfl⟩ [23, 24, 25, 11, 12, 13] [0, 1, 2, 3, 4, 5, 6, 7, 8, 9, 10, 14, 15, 16, 17, 18, 19, 20, 21, 22] rfl rfl rfl (by decide) rfl rfl rfl (Nat.le_of_ble_eq_true rfl) dX2_prepare_5 (fun _ _ => ?_)
    refine z_perm (ws' := [cO 1 h [some r, none, none] F, cQ (J 3) r 7 (fun j => some (ra j))] ++ (wE J (ra 0) (rb 0) (rc 0) (R 0) ++ (wE J (ra 1) (rb 1) (rc 1) (R 1) ++ (wE J (ra 2) (rb 2) (rc 2) (R 2) ++ (wE J (ra 3) (rb 3) (rc 3) E ++ (wE J (ra 4) (rb 4) (rc 4) (R 4) ++ (wE J (ra 5) (rb 5) (rc 5) (R 5) ++ (wE J (ra 6) (rb 6) (rc 6) (R 6) ++ wE J h0 h1 h2 E)))))))) [0, 1, 2, 3, 4, 5, 6, 7, 8, 9, 10, 23, 24, 25, 11, 12, 13, 14, 15, 16, 17, 18, 19, 20, 21, 22] rfl rfl ?_
    refine z_st (st' := []) rfl ?_
    exact z_vret hC hr () trivial rfl (by rw [hk]; rfl) dX2_prepare_8
  · skip
    refine z_aload_n hC dX2_prepare_0 rfl 1 rfl ?_
    refine z_aload_n hC dX2_prepare_1 rfl 0 rfl ?_
    refine z_callV (wr := wE J (ra 0) (rb 0) (rc 0) (R 0) ++ (wE J (ra 1) (rb 1) (rc 1) (R 1) ++ (wE J (ra 2) (rb 2) (rc 2) (R 2) ++ (wE J (ra 3) (rb 3) (rc 3) (R 3) ++ (wE J (ra 4) (rb 4) (rc 4) (R 4) ++ (wE J (ra 5) (rb 5) (rc 5) (R 5) ++ (wE J (ra 6) (rb 6) (rc 6) (R 6) ++ wE J h0 h1 h2 E))))))) (av := []) (st := [.ref h0]) hC (t_X2_nextRow l D J h r ra F hF) gX2_prepare_X2_nextRow rfl 0 (by decide +kernel) ⟨Nat.le_of_ble_eq_true rfl, Nat.le_of_ble_eq_true rfl⟩ ⟨Nat.le_of_ble_eq_true rfl, Nat.le_of_ble_eq_true rfl⟩ [0, 1] [2, 3, 4, 5, 6, 7, 8, 9, 10, 11, 12, 13, 14, 15, 16, 17, 18, 19, 20, 21, 22, 23, 24, 25] rfl rfl rfl (by decide) rfl 0 rfl rfl rfl rfl rfl (Nat.le_of_ble_eq_true rfl) dX2_prepare_2 (fun _ _ => ?_)
    refine z_perm (ws' := [cO 1 h [some r, none, none] F, cQ (J 3) r 7 (fun j => some (ra j))] ++ (wE J (ra 0) (rb 0) (rc 0) (R 0) ++ (wE J (ra 1) (rb 1) (rc 1) (R 1) ++ (wE J (ra 2) (rb 2) (rc 2) (R 2) ++ (wE J (ra 3) (rb 3) (rc 3) (R 3) ++ (wE J (ra 4) (rb 4) (rc 4) (R 4) ++ (wE J (ra 5) (rb 5) (rc 5) (R 5) ++ (wE J (ra 6) (rb 6) (rc 6) (R 6) ++ wE J h0 h1 h2 E)))))))) [24, 25, 0, 1, 2, 3, 4, 5, 6, 7, 8, 9, 10, 11, 12, 13, 14, 15, 16, 17, 18, 19, 20, 21, 22, 23] rfl rfl ?_
    refine z_st (st' := [.ref (ra (Int.toNat (F 1))), .ref h0]) rfl ?_
    refine z_st (st' := [.ref (ra 4), .ref h0]) (by rw [show Int.toNat (F 1) = 4 from hk]) ?_
    refine z_callS (wr := [cO 1 h [some r, none, none] F, cQ (J 3) r 7 (fun j => some (ra j))] ++ (wE J (ra 0) (rb 0) (rc 0) (R 0) ++ (wE J (ra 1) (rb 1) (rc 1) (R 1) ++ (wE J (ra 2) (rb 2) (rc 2) (R 2) ++ (wE J (ra 3) (rb 3) (rc 3) (R 3) ++ (wE J (ra 5) (rb 5) (rc 5) (R 5) ++ wE J (ra 6) (rb 6) (rc 6) (R 6))))))) (av := [.ref h0, .ref (ra 4)]) (st := []) hC (t_X1_copy l D J h0 h1 h2 (ra 4) (rb 4) (rc 4) E (R 4)) gX2_prepare_X1_copy rfl 2 (by decide +kernel) ⟨Nat.le_of_ble_eq_true rfl, Nat.le_of_ble_eq_true rfl⟩ ⟨Nat.le_of_ble_eq_true rfl, Nat.le_of_ble_eq_true rfl⟩ [23, 24, 25, 14, 15, 16] [0, 1, 2, 3, 4, 5, 6, 7, 8, 9, 10, 11, 12, 13, 17, 18, 19, 20, 21, 22] rfl rfl rfl (by decide) rfl rfl rfl (Nat.le_of_ble_eq_true rfl) dX2_prepare_5 (fun _ _ => ?_)
    refine z_perm (ws' := [cO 1 h [some r, none, none] F, cQ (J 3) r 7 (fun j => some (ra j))] ++ (wE J (ra 0) (rb 0) (rc 0) (R 0) ++ (wE J (ra 1) (rb 1) (rc 1) (R 1) ++ (wE J (ra 2) (rb 2) (rc 2) (R 2) ++ (wE J (ra 3) (rb 3) (rc 3) (R 3) ++ (wE J (ra 4) (rb 4) (rc 4) E ++ (wE J (ra 5) (rb 5) (rc 5) (R 5) ++ (wE J (ra 6) (rb 6) (rc 6) (R 6) ++ wE J h0 h1 h2 E)))))))) [0, 1, 2, 3, 4, 5, 6, 7, 8, 9, 10, 11, 12, 13, 23, 24, 25, 14, 15, 16, 17, 18, 19, 20, 21, 22] rfl rfl ?_
    refine z_st (st' := []) rfl ?_
    exact z_vret hC hr () trivial rfl (by rw [hk]; rfl) dX2_prepare_8
  · skip
    refine z_aload_n hC dX2_prepare_0 rfl 1 rfl ?_
    refine z_aload_n hC dX2_prepare_1 rfl 0 rfl ?_
    refine z_callV (wr := wE J (ra 0) (rb 0) (rc 0) (R 0) ++ (wE J (ra 1) (rb 1) (rc 1) (R 1) ++ (wE J (ra 2) (rb 2) (rc 2) (R 2) ++ (wE J (ra 3) (rb 3) (rc 3) (R 3) ++ (wE J (ra 4) (rb 4) (rc 4) (R 4) ++ (wE J (ra 5) (rb 5) (rc 5) (R 5) ++ (wE J (ra 6) (rb 6) (rc 6) (R 6) ++ wE J h0 h1 h2 E))))))) (av := []) (st := [.ref h0]) hC (t_X2_nextRow l D J h r ra F hF) gX2_prepare_X2_nextRow rfl 0 (by decide +kernel) ⟨Nat.le_of_ble_eq_true rfl, Nat.le_of_ble_eq_true rfl⟩ ⟨Nat.le_of_ble_eq_true rfl, Nat.le_of_ble_eq_true rfl⟩ [0, 1] [2, 3, 4, 5, 6, 7, 8, 9, 10, 11, 12, 13, 14, 15, 16, 17, 18, 19, 20, 21, 22, 23, 24, 25] rfl rfl rfl (by decide) rfl 0 rfl rfl rfl rfl rfl (Nat.le_of_ble_eq_true rfl) dX2_prepare_2 (fun _ _ => ?_)
    refine z_perm (ws' := [cO 1 h [some r, none, none] F, cQ (J 3) r 7 (fun j => some (ra j))] ++ (wE J (ra 0) (rb 0) (rc 0) (R 0) ++ (wE J (ra 1) (rb 1) (rc 1) (R 1) ++ (wE J (ra 2) (rb 2) (rc 2) (R 2) ++ (wE J (ra 3) (rb 3) (rc 3) (R 3) ++ (wE J (ra 4) (rb 4) (rc 4) (R 4) ++ (wE J (ra 5) (rb 5) (rc 5) (R 5) ++ (wE J (ra 6) (rb 6) (rc 6) (R 6) ++ wE J h0 h1 h2 E)))))))) [24, 25, 0, 1, 2, 3, 4, 5, 6, 7, 8, 9, 10, 11, 12, 13, 14, 15, 16, 17, 18, 19, 20, 21, 22, 23] rfl rfl ?_
    refine z_st (st' := [.ref (ra (Int.toNat (F 1))), .ref h0]) rfl ?_
    refine z_st (st' := [.ref (ra 5), .ref h0]) (by rw [show Int.toNat (F 1) = 5 from hk]) ?_
    refine z_callS (wr := [cO 1 h [some r, none, none] F, cQ (J 3) r 7 (fun j => some (ra j))] ++ (wE J (ra 0) (rb 0) (rc 0) (R 0) ++ (wE J (ra 1) (rb 1) (rc 1) (R 1) ++ (wE J (ra 2) (rb 2) (rc 2) (R 2) ++ (wE J (ra 3) (rb 3) (rc 3) (R 3) ++ (wE J (ra 4) (rb 4) (rc 4) (R 4) ++ wE J (ra 6) (rb 6) (rc 6) (R 6))))))) (av := [.ref h0, .ref (ra 5)]) (st := []) hC (t_X1_copy l D J h0 h1 h2 (ra 5) (rb 5) (rc 5) E (R 5)) gX2_prepare_X1_copy rfl 2 (by decide +kernel) ⟨Nat.le_of_ble_eq_true rfl, Nat.le_of_ble_eq_true rfl⟩ ⟨Nat.le_of_ble_eq_true rfl, Nat.le_of_ble_eq_true rfl⟩ [23, 24, 25, 17, 18, 19] [0, 1, 2, 3, 4, 5, 6, 7, 8, 9, 10, 11, 12, 13, 14, 15, 16, 20, 21, 22] rfl rfl rfl (by decide) rfl rfl rfl (Nat.le_of_ble_eq_true rfl) dX2_prepare_5 (fun _ _ => ?_)
    refine z_perm (ws' := [cO 1 h [some r, none, none] F, cQ (J 3) r 7 (fun j => some (ra j))] ++ (wE J (ra 0) (rb 0) (rc 0) (R 0) ++ (wE J (ra 1) (rb 1) (rc 1) (R 1) ++ (wE J (ra 2) (rb 2) (rc 2) (R 2) ++ (wE J (ra 3) (rb 3) (rc 3) (R 3) ++ (wE J (ra 4) (rb 4) (rc 4) (R 4) ++ (wE J (ra 5) (rb 5) (rc 5) E ++ (wE J (ra 6) (rb 6) (rc 6) (R 6) ++ wE J h0 h1 h2 E)))))))) [0, 1, 2, 3, 4, 5, 6, 7, 8, 9, 10, 11, 12, 13, 14, 15, 16, 23, 24, 25, 17, 18, 19, 20, 21, 22] rfl rfl ?_
    refine z_st (st' := []) rfl ?_
    exact z_vret hC hr () trivial rfl (by rw [hk]; rfl) dX2_prepare_8
  · skip
    refine z_aload_n hC dX2_prepare_0 rfl 1 rfl ?_
    refine z_aload_n hC dX2_prepare_1 rfl 0 rfl ?_
    refine z_callV (wr := wE J (ra 0) (rb 0) (rc 0) (R 0) ++ (wE J (ra 1) (rb 1) (rc 1) (R 1) ++ (wE J (ra 2) (rb 2) (rc 2) (R 2) ++ (wE J (ra 3) (rb 3) (rc 3) (R 3) ++ (wE J (ra 4) (rb 4) (rc 4) (R 4) ++ (wE J (ra 5) (rb 5) (rc 5) (R 5) ++ (wE J (ra 6) (rb 6) (rc 6) (R 6) ++ wE J h0 h1 h2 E))))))) (av := []) (st := [.ref h0]) hC (t_X2_nextRow l D J h r ra F hF) gX2_prepare_X2_nextRow rfl 0 (by decide +kernel) ⟨Nat.le_of_ble_eq_true rfl, Nat.le_of_ble_eq_true rfl⟩ ⟨Nat.le_of_ble_eq_true rfl, Nat.le_of_ble_eq_true rfl⟩ [0, 1] [2, 3, 4, 5, 6, 7, 8, 9, 10, 11, 12, 13, 14, 15, 16, 17, 18, 19, 20, 21, 22, 23, 24, 25] rfl rfl rfl (by decide) rfl 0 rfl rfl rfl rfl rfl (Nat.le_of_ble_eq_true rfl) dX2_prepare_2 (fun _ _ => ?_)
    refine z_perm (ws' := [cO 1 h [some r, none, none] F, cQ (J 3) r 7 (fun j => some (ra j))] ++ (wE J (ra 0) (rb 0) (rc 0) (R 0) ++ (wE J (ra 1) (rb 1) (rc 1) (R 1) ++ (wE J (ra 2) (rb 2) (rc 2) (R 2) ++ (wE J (ra 3) (rb 3) (rc 3) (R 3) ++ (wE J (ra 4) (rb 4) (rc 4) (R 4) ++ (wE J (ra 5) (rb 5) (rc 5) (R 5) ++ (wE J (ra 6) (rb 6) (rc 6) (R 6) ++ wE J h0 h1 h2 E)))))))) [24, 25, 0, 1, 2, 3, 4, 5, 6, 7, 8, 9, 10, 11, 12, 13, 14, 15, 16, 17, 18, 19, 20, 21, 22, 23] rfl rfl ?_
    refine z_st (st' := [.ref (ra (Int.toNat (F 1))), .ref h0]) rfl ?_
    refine z_st (st' := [.ref (ra 6), .ref h0]) (by rw [show Int.toNat (F 1) = 6 from hk]) ?_
    refine z_callS (wr := [cO 1 h [some r, none, none] F, cQ (J 3) r 7 (fun j => some (ra j))] ++ (wE J (ra 0) (rb 0) (rc 0) (R 0) ++ (wE J (ra 1) (rb 1) (rc 1) (R 1) ++ (wE J (ra 2) (rb 2) (rc 2) (R 2) ++ (wE J (ra 3) (rb 3) (rc 3) (R 3) ++ (wE J (ra 4) (rb 4) (rc 4) (R 4) ++ wE J (ra 5) (rb 5) (rc 5) (R 5))))))) (av := [.ref h0, .ref (ra 6)]) (st := []) hC (t_X1_copy l D J h0 h1 h2 (ra 6) (rb 6) (rc 6) E (R 6)) gX2_prepare_X1_copy rfl 2 (by decide +kernel) ⟨Nat.le_of_ble_eq_true rfl, Nat.le_of_ble_eq_true rfl⟩ ⟨Nat.le_of_ble_eq_true rfl, Nat.le_of_ble_eq_true rfl⟩ [23, 24, 25, 20, 21, 22] [0, 1, 2, 3, 4, 5, 6, 7, 8, 9, 10, 11, 12, 13, 14, 15, 16, 17, 18, 19] rfl rfl rfl (by decide) rfl rfl rfl (Nat.le_of_ble_eq_true rfl) dX2_prepare_5 (fun _ _ => ?_)
    refine z_perm (ws' := [cO 1 h [some r, none, none] F, cQ (J 3) r 7 (fun j => some (ra j))] ++ (wE J (ra 0) (rb 0) (rc 0) (R 0) ++ (wE J (ra 1) (rb 1) (rc 1) (R 1) ++ (wE J (ra 2) (rb 2) (rc 2) (R 2) ++ (wE J (ra 3) (rb 3) (rc 3) (R 3) ++ (wE J (ra 4) (rb 4) (rc 4) (R 4) ++ (wE J (ra 5) (rb 5) (rc 5) (R 5) ++ (wE J (ra 6) (rb 6) (rc 6) E ++ wE J h0 h1 h2 E)))))))) [0, 1, 2, 3, 4, 5, 6, 7, 8, 9, 10, 11, 12, 13, 14, 15, 16, 17, 18, 19, 23, 24, 25, 20, 21, 22] rfl rfl ?_
    refine z_st (st' := []) rfl ?_
    exact z_vret hC hr () trivial rfl (by rw [hk]; rfl) dX2_prepare_8
set_option maxRecDepth 20000 in
theorem iX2_takeBack_X2 : ∀ w ∈ u_ws RX2 TX2 3, w ∈ wsX2_takeBack := zm_places _ [33, 34, 35] (by decide +kernel)
theorem kX2_takeBack_1 : Cond.fieldLink RX2 30 "StepPairs$History" "size" "I" ∈ wsX2_takeBack := List.mem_of_getElem? (i := 1) rfl
theorem kX2_takeBack_2 : Cond.fieldLink RX2 18 "StepPairs$History" "next" "I" ∈ wsX2_takeBack := List.mem_of_getElem? (i := 2) rfl
abbrev rmX2_takeBack : Room := { frames := 2, cells := 0, slots := 0, locals := 61 }
set_option maxHeartbeats 4000000 in
set_option maxRecDepth 100000 in
theorem t_X2_takeBack (l : Launch) (D : va_G) (J : Nat → ClassId) (h r h0 h1 h2 : Nat) (ra rb rc : Nat → Nat) (F : Nat → Int) (R : Nat → Enc) (E : Enc) (hF : 0 ≤ F 1 ∧ F 1 < 7) (hG : 0 ≤ F 2 ∧ F 2 ≤ 6) : ZX l yX2_takeBack wsX2_takeBack rmX2_takeBack D J [.ref h, .ref h0] ([cO 1 h [some r, none, none] F, cQ (J 3) r 7 (fun j => some (ra j))] ++ (wE J (ra 0) (rb 0) (rc 0) (R 0) ++ (wE J (ra 1) (rb 1) (rc 1) (R 1) ++ (wE J (ra 2) (rb 2) (rc 2) (R 2) ++ (wE J (ra 3) (rb 3) (rc 3) (R 3) ++ (wE J (ra 4) (rb 4) (rc 4) (R 4) ++ (wE J (ra 5) (rb 5) (rc 5) (R 5) ++ (wE J (ra 6) (rb 6) (rc 6) (R 6) ++ wE J h0 h1 h2 E)))))))) (some (.int (iI (hBackR F)))) (wH J h r ra rb rc (hBackF F) R ++ wE J h0 h1 h2 (hBackE F R E)) := by
  refine z_met (cc := cX2_takeBack) (nL := 2) (ret := (some .int)) (own := RX2) (by decide) rfl rfl (Nat.le_of_ble_eq_true rfl) (fun p e s m args below meth c hC hr hin => ?_)
  refine z_lv0 (lv' := [(0, .ref h), (1, .ref h0)]) rfl ?_
  rcases (show Int.toNat ((F 1 + 7 - 1) % 7) = 0 ∨ Int.toNat ((F 1 + 7 - 1) % 7) = 1 ∨ Int.toNat ((F 1 + 7 - 1) % 7) = 2 ∨ Int.toNat ((F 1 + 7 - 1) % 7) = 3 ∨ Int.toNat ((F 1 + 7 - 1) % 7) = 4 ∨ Int.toNat ((F 1 + 7 - 1) % 7) = 5 ∨ Int.toNat ((F 1 + 7 - 1) % 7) = 6 by omega) with hk | hk | hk | hk | hk | hk | hk
  · skip
    refine z_aload_n hC dX2_takeBack_0 rfl 0 rfl ?_
    refine z_geti hC zkX2 iX2_takeBack_X2 0 rfl 2 (by decide) kX2_takeBack_1 rfl rfl dX2_takeBack_1 ?_
    refine z_if_ne (tgt := 10) hC dX2_takeBack_4 (by decide) (by unfold inR; omega) (fun c_4_1 => ?_) (fun c_4_1 => ?_)
    · refine z_aload_n hC dX2_takeBack_10 rfl 0 rfl ?_
      refine z_aload_n hC dX2_takeBack_11 rfl 0 rfl ?_
      refine z_geti hC zkX2 iX2_takeBack_X2 0 rfl 1 (by decide) kX2_takeBack_2 rfl rfl dX2_takeBack_12 ?_
      refine z_bipush hC dX2_takeBack_15 (by decide) ?_
      refine z_iadd hC dX2_takeBack_17 ?_
      refine z_iconst hC dX2_takeBack_18 ?_
      refine z_isub hC dX2_takeBack_19 ?_
      refine z_bipush hC dX2_takeBack_20 (by decide) ?_
      refine z_irem hC dX2_takeBack_22 (by omega) (by omega) (by omega) (by omega) ?_
      refine z_puti (ws' := [cO 1 h [some r, none, none] (updZ F 1 ((((F 1) + 7) - 1) % 7)), cQ (J 3) r 7 (fun j => some (ra j))] ++ (wE J (ra 0) (rb 0) (rc 0) (R 0) ++ (wE J (ra 1) (rb 1) (rc 1) (R 1) ++ (wE J (ra 2) (rb 2) (rc 2) (R 2) ++ (wE J (ra 3) (rb 3) (rc 3) (R 3) ++ (wE J (ra 4) (rb 4) (rc 4) (R 4) ++ (wE J (ra 5) (rb 5) (rc 5) (R 5) ++ (wE J (ra 6) (rb 6) (rc 6) (R 6) ++ wE J h0 h1 h2 E)))))))) hC zkX2 iX2_takeBack_X2 0 rfl 1 (by decide) kX2_takeBack_2 rfl rfl rfl rfl rfl rfl dX2_takeBack_23 rfl ?_
      refine z_aload_n hC dX2_takeBack_26 rfl 0 rfl ?_
      refine z_dup hC dX2_takeBack_27 rfl ?_
      refine z_geti hC zkX2 iX2_takeBack_X2 0 rfl 2 (by decide) kX2_takeBack_1 rfl rfl dX2_takeBack_28 ?_
      refine z_int (y := iI (F 2)) hC (rfl) ?_
      refine z_iconst hC dX2_takeBack_31 ?_
      refine z_isub hC dX2_takeBack_32 ?_
      refine z_puti (ws' := [cO 1 h [some r, none, none] (updZ (updZ F 1 ((((F 1) + 7) - 1) % 7)) 2 ((F 2) - 1)), cQ (J 3) r 7 (fun j => some (ra j))] ++ (wE J (ra 0) (rb 0) (rc 0) (R 0) ++ (wE J (ra 1) (rb 1) (rc 1) (R 1) ++ (wE J (ra 2) (rb 2) (rc 2) (R 2) ++ (wE J (ra 3) (rb 3) (rc 3) (R 3) ++ (wE J (ra 4) (rb 4) (rc 4) (R 4) ++ (wE J (ra 5) (rb 5) (rc 5) (R 5) ++ (wE J (ra 6) (rb 6) (rc 6) (R 6) ++ wE J h0 h1 h2 E)))))))) hC zkX2 iX2_takeBack_X2 0 rfl 2 (by decide) kX2_takeBack_1 rfl rfl rfl rfl rfl rfl dX2_takeBack_33 rfl ?_
      refine z_aload_n hC dX2_takeBack_36 rfl 0 rfl ?_
      refine z_callV (wr := wE J (ra 0) (rb 0) (rc 0) (R 0) ++ (wE J (ra 1) (rb 1) (rc 1) (R 1) ++ (wE J (ra 2) (rb 2) (rc 2) (R 2) ++ (wE J (ra 3) (rb 3) (rc 3) (R 3) ++ (wE J (ra 4) (rb 4) (rc 4) (R 4) ++ (wE J (ra 5) (rb 5) (rc 5) (R 5) ++ (wE J (ra 6) (rb 6) (rc 6) (R 6) ++ wE J h0 h1 h2 E))))))) (av := []) (st := []) hC (t_X2_nextRow l D J h r ra (updZ (updZ F 1 ((((F 1) + 7) - 1) % 7)) 2 ((F 2) - 1)) (by show 0 ≤ (F 1 + 7 - 1) % 7 ∧ (F 1 + 7 - 1) % 7 < 7; omega)) gX2_takeBack_X2_nextRow rfl 0 (by decide +kernel) ⟨Nat.le_of_ble_eq_true rfl, Nat.le_of_ble_eq_true rfl⟩ ⟨Nat.le_of_ble_eq_true rfl, Nat.le_of_ble_eq_true rfl⟩ [0, 1] [2, 3, 4, 5, 6, 7, 8, 9, 10, 11, 12, 13, 14, 15, 16, 17, 18, 19, 20, 21, 22, 23, 24, 25] rfl rfl rfl (by decide) rfl 0 rfl rfl rfl rfl rfl (Nat.le_of_ble_eq_true rfl) dX2_takeBack_37 (fun _ _ => ?_)
      refine z_perm (ws' := [cO 1 h [some r, none, none] (updZ (updZ F 1 ((((F 1) + 7) - 1) % 7)) 2 ((F 2) - 1)), cQ (J 3) r 7 (fun j => some (ra j))] ++ (wE J (ra 0) (rb 0) (rc 0) (R 0) ++ (wE J (ra 1) (rb 1) (rc 1) (R 1) ++ (wE J (ra 2) (rb 2) (rc 2) (R 2) ++ (wE J (ra 3) (rb 3) (rc 3) (R 3) ++ (wE J (ra 4) (rb 4) (rc 4) (R 4) ++ (wE J (ra 5) (rb 5) (rc 5) (R 5) ++ (wE J (ra 6) (rb 6) (rc 6) (R 6) ++ wE J h0 h1 h2 E)))))))) [24, 25, 0, 1, 2, 3, 4, 5, 6, 7, 8, 9, 10, 11, 12, 13, 14, 15, 16, 17, 18, 19, 20, 21, 22, 23] rfl rfl ?_
      refine z_st (st' := [.ref (ra (Int.toNat ((updZ (updZ F 1 ((((F 1) + 7) - 1) % 7)) 2 ((F 2) - 1)) 1)))]) rfl ?_
      refine z_st (st' := [.ref (ra 0)]) (by rw [show Int.toNat ((updZ (updZ F 1 ((((F 1) + 7) - 1) % 7)) 2 ((F 2) - 1)) 1) = 0 from hk]) ?_
      refine z_aload_n hC dX2_takeBack_40 rfl 1 rfl ?_
      refine z_callS (wr := [cO 1 h [some r, none, none] (updZ (updZ F 1 ((((F 1) + 7) - 1) % 7)) 2 ((F 2) - 1)), cQ (J 3) r 7 (fun j => some (ra j))] ++ (wE J (ra 1) (rb 1) (rc 1) (R 1) ++ (wE J (ra 2) (rb 2) (rc 2) (R 2) ++ (wE J (ra 3) (rb 3) (rc 3) (R 3) ++ (wE J (ra 4) (rb 4) (rc 4) (R 4) ++ (wE J (ra 5) (rb 5) (rc 5) (R 5) ++ wE J (ra 6) (rb 6) (rc 6) (R 6))))))) (av := [.ref (ra 0), .ref h0]) (st := []) hC (t_X1_copy l D J (ra 0) (rb 0) (rc 0) h0 h1 h2 (R 0) E) gX2_takeBack_X1_copy rfl 2 (by decide +kernel) ⟨Nat.le_of_ble_eq_true rfl, Nat.le_of_ble_eq_true rfl⟩ ⟨Nat.le_of_ble_eq_true rfl, Nat.le_of_ble_eq_true rfl⟩ [2, 3, 4, 23, 24, 25] [0, 1, 5, 6, 7, 8, 9, 10, 11, 12, 13, 14, 15, 16, 17, 18, 19, 20, 21, 22] rfl rfl rfl (by decide) rfl rfl rfl (Nat.le_of_ble_eq_true rfl) dX2_takeBack_41 (fun _ _ => ?_)
      refine z_perm (ws' := [cO 1 h [some r, none, none] (updZ (updZ F 1 ((((F 1) + 7) - 1) % 7)) 2 ((F 2) - 1)), cQ (J 3) r 7 (fun j => some (ra j))] ++ (wE J (ra 0) (rb 0) (rc 0) (R 0) ++ (wE J (ra 1) (rb 1) (rc 1) (R 1) ++ (wE J (ra 2) (rb 2) (rc 2) (R 2) ++ (wE J (ra 3) (rb 3) (rc 3) (R 3) ++ (wE J (ra 4) (rb 4) (rc 4) (R 4) ++ (wE J (ra 5) (rb 5) (rc 5) (R 5) ++ (wE J (ra 6) (rb 6) (rc 6) (R 6) ++ wE J h0 h1 h2 (R 0))))))))) [0, 1, 20, 21, 22, 2, 3, 4, 5, 6, 7, 8, 9, 10, 11, 12, 13, 14, 15, 16, 17, 18, 19, 23, 24, 25] rfl rfl ?_
      refine z_st (st' := []) rfl ?_
      refine z_aload_n hC dX2_takeBack_44 rfl 0 rfl ?_
      refine z_geti hC zkX2 iX2_takeBack_X2 0 rfl 2 (by decide) kX2_takeBack_1 rfl rfl dX2_takeBack_45 ?_
      refine z_int (y := iI ((F 2) - 1)) hC (rfl) ?_
      exact z_iret hC hr rfl () trivial (hvi (by unfold hBackR; split <;> first | rfl | omega)) (by unfold hBackF hBackE; rw [if_neg (by omega), if_neg (by omega), hk]; rfl) dX2_takeBack_48
    · refine z_bipush hC dX2_takeBack_7 (by decide) ?_
      exact z_iret hC hr rfl () trivial (hvi (by unfold hBackR; split <;> first | rfl | omega)) (by unfold hBackF hBackE; rw [if_pos (by omega), if_pos (by omega)]; rfl) dX2_takeBack_9
  · skip
    refine z_aload_n hC dX2_takeBack_0 rfl 0 rfl ?_
    refine z_geti hC zkX2 iX2_takeBack_X2 0 rfl 2 (by decide) kX2_takeBack_1 rfl rfl dX2_takeBack_1 ?_
    refine z_if_ne (tgt := 10) hC dX2_takeBack_4 (by decide) (by unfold inR; omega) (fun c_4_2 => ?_) (fun c_4_2 => ?_)
    · refine z_aload_n hC dX2_takeBack_10 rfl 0 rfl ?_
      refine z_aload_n hC dX2_takeBack_11 rfl 0 rfl ?_
      refine z_geti hC zkX2 iX2_takeBack_X2 0 rfl 1 (by decide) kX2_takeBack_2 rfl rfl dX2_takeBack_12 ?_
      refine z_bipush hC dX2_takeBack_15 (by decide) ?_
      refine z_iadd hC dX2_takeBack_17 ?_
      refine z_iconst hC dX2_takeBack_18 ?_
      refine z_isub hC dX2_takeBack_19 ?_
      refine z_bipush hC dX2_takeBack_20 (by decide) ?_
      refine z_irem hC dX2_takeBack_22 (by omega) (by omega) (by omega) (by omega) ?_
      refine z_puti (ws' := [cO 1 h [some r, none, none] (updZ F 1 ((((F 1) + 7) - 1) % 7)), cQ (J 3) r 7 (fun j => some (ra j))] ++ (wE J (ra 0) (rb 0) (rc 0) (R 0) ++ (wE J (ra 1) (rb 1) (rc 1) (R 1) ++ (wE J (ra 2) (rb 2) (rc 2) (R 2) ++ (wE J (ra 3) (rb 3) (rc 3) (R 3) ++ (wE J (ra 4) (rb 4) (rc 4) (R 4) ++ (wE J (ra 5) (rb 5) (rc 5) (R 5) ++ (wE J (ra 6) (rb 6) (rc 6) (R 6) ++ wE J h0 h1 h2 E)))))))) hC zkX2 iX2_takeBack_X2 0 rfl 1 (by decide) kX2_takeBack_2 rfl rfl rfl rfl rfl rfl dX2_takeBack_23 rfl ?_
      refine z_aload_n hC dX2_takeBack_26 rfl 0 rfl ?_
      refine z_dup hC dX2_takeBack_27 rfl ?_
      refine z_geti hC zkX2 iX2_takeBack_X2 0 rfl 2 (by decide) kX2_takeBack_1 rfl rfl dX2_takeBack_28 ?_
      refine z_int (y := iI (F 2)) hC (rfl) ?_
      refine z_iconst hC dX2_takeBack_31 ?_
      refine z_isub hC dX2_takeBack_32 ?_
      refine z_puti (ws' := [cO 1 h [some r, none, none] (updZ (updZ F 1 ((((F 1) + 7) - 1) % 7)) 2 ((F 2) - 1)), cQ (J 3) r 7 (fun j => some (ra j))] ++ (wE J (ra 0) (rb 0) (rc 0) (R 0) ++ (wE J (ra 1) (rb 1) (rc 1) (R 1) ++ (wE J (ra 2) (rb 2) (rc 2) (R 2) ++ (wE J (ra 3) (rb 3) (rc 3) (R 3) ++ (wE J (ra 4) (rb 4) (rc 4) (R 4) ++ (wE J (ra 5) (rb 5) (rc 5) (R 5) ++ (wE J (ra 6) (rb 6) (rc 6) (R 6) ++ wE J h0 h1 h2 E)))))))) hC zkX2 iX2_takeBack_X2 0 rfl 2 (by decide) kX2_takeBack_1 rfl rfl rfl rfl rfl rfl dX2_takeBack_33 rfl ?_
      refine z_aload_n hC dX2_takeBack_36 rfl 0 rfl ?_
      refine z_callV (wr := wE J (ra 0) (rb 0) (rc 0) (R 0) ++ (wE J (ra 1) (rb 1) (rc 1) (R 1) ++ (wE J (ra 2) (rb 2) (rc 2) (R 2) ++ (wE J (ra 3) (rb 3) (rc 3) (R 3) ++ (wE J (ra 4) (rb 4) (rc 4) (R 4) ++ (wE J (ra 5) (rb 5) (rc 5) (R 5) ++ (wE J (ra 6) (rb 6) (rc 6) (R 6) ++ wE J h0 h1 h2 E))))))) (av := []) (st := []) hC (t_X2_nextRow l D J h r ra (updZ (updZ F 1 ((((F 1) + 7) - 1) % 7)) 2 ((F 2) - 1)) (by show 0 ≤ (F 1 + 7 - 1) % 7 ∧ (F 1 + 7 - 1) % 7 < 7; omega)) gX2_takeBack_X2_nextRow rfl 0 (by decide +kernel) ⟨Nat.le_of_ble_eq_true rfl, Nat.le_of_ble_eq_true rfl⟩ ⟨Nat.le_of_ble_eq_true rfl, Nat.le_of_ble_eq_true rfl⟩ [0, 1] [2, 3, 4, 5, 6, 7, 8, 9, 10, 11, 12, 13, 14, 15, 16, 17, 18, 19, 20, 21, 22, 23, 24, 25] rfl rfl rfl (by decide) rfl 0 rfl rfl rfl rfl rfl (Nat.le_of_ble_eq_true rfl) dX2_takeBack_37 (fun _ _ => ?_)
      refine z_perm (ws' := [cO 1 h [some r, none, none] (updZ (updZ F 1 ((((F 1) + 7) - 1) % 7)) 2 ((F 2) - 1)), cQ (J 3) r 7 (fun j => some (ra j))] ++ (wE J (ra 0) (rb 0) (rc 0) (R 0) ++ (wE J (ra 1) (rb 1) (rc 1) (R 1) ++ (wE J (ra 2) (rb 2) (rc 2) (R 2) ++ (wE J (ra 3) (rb 3) (rc 3) (R 3) ++ (wE J (ra 4) (rb 4) (rc 4) (R 4) ++ (wE J (ra 5) (rb 5) (rc 5) (R 5) ++ (wE J (ra 6) (rb 6) (rc 6) (R 6) ++ wE J h0 h1 h2 E)))))))) [24, 25, 0, 1, 2, 3, 4, 5, 6, 7, 8, 9, 10, 11, 12, 13, 14, 15, 16, 17, 18, 19, 20, 21, 22, 23] rfl rfl ?_
      refine z_st (st' := [.ref (ra (Int.toNat ((updZ (updZ F 1 ((((F 1) + 7) - 1) % 7)) 2 ((F 2) - 1)) 1)))]) rfl ?_
      refine z_st (st' := [.ref (ra 1)]) (by rw [show Int.toNat ((updZ (updZ F 1 ((((F 1) + 7) - 1) % 7)) 2 ((F 2) - 1)) 1) = 1 from hk]) ?_
      refine z_aload_n hC dX2_takeBack_40 rfl 1 rfl ?_
      refine z_callS (wr := [cO 1 h [some r, none, none] (updZ (updZ F 1 ((((F 1) + 7) - 1) % 7)) 2 ((F 2) - 1)), cQ (J 3) r 7 (fun j => some (ra j))] ++ (wE J (ra 0) (rb 0) (rc 0) (R 0) ++ (wE J (ra 2) (rb 2) (rc 2) (R 2) ++ (wE J (ra 3) (rb 3) (rc 3) (R 3) ++ (wE J (ra 4) (rb 4) (rc 4) (R 4) ++ (wE J (ra 5) (rb 5) (rc 5) (R 5) ++ wE J (ra 6) (rb 6) (rc 6) (R 6))))))) (av := [.ref (ra 1), .ref h0]) (st := []) hC (t_X1_copy l D J (ra 1) (rb 1) (rc 1) h0 h1 h2 (R 1) E) gX2_takeBack_X1_copy rfl 2 (by decide +kernel) ⟨Nat.le_of_ble_eq_true rfl, Nat.le_of_ble_eq_true rfl⟩ ⟨Nat.le_of_ble_eq_true rfl, Nat.le_of_ble_eq_true rfl⟩ [5, 6, 7, 23, 24, 25] [0, 1, 2, 3, 4, 8, 9, 10, 11, 12, 13, 14, 15, 16, 17, 18, 19, 20, 21, 22] rfl rfl rfl (by decide) rfl rfl rfl (Nat.le_of_ble_eq_true rfl) dX2_takeBack_41 (fun _ _ => ?_)
      refine z_perm (ws' := [cO 1 h [some r, none, none] (updZ (updZ F 1 ((((F 1) + 7) - 1) % 7)) 2 ((F 2) - 1)), cQ (J 3) r 7 (fun j => some (ra j))] ++ (wE J (ra 0) (rb 0) (rc 0) (R 0) ++ (wE J (ra 1) (rb 1) (rc 1) (R 1) ++ (wE J (ra 2) (rb 2) (rc 2) (R 2) ++ (wE J (ra 3) (rb 3) (rc 3) (R 3) ++ (wE J (ra 4) (rb 4) (rc 4) (R 4) ++ (wE J (ra 5) (rb 5) (rc 5) (R 5) ++ (wE J (ra 6) (rb 6) (rc 6) (R 6) ++ wE J h0 h1 h2 (R 1))))))))) [0, 1, 2, 3, 4, 20, 21, 22, 5, 6, 7, 8, 9, 10, 11, 12, 13, 14, 15, 16, 17, 18, 19, 23, 24, 25] rfl rfl ?_
      refine z_st (st' := []) rfl ?_
      refine z_aload_n hC dX2_takeBack_44 rfl 0 rfl ?_
      refine z_geti hC zkX2 iX2_takeBack_X2 0 rfl 2 (by decide) kX2_takeBack_1 rfl rfl dX2_takeBack_45 ?_
      refine z_int (y := iI ((F 2) - 1)) hC (rfl) ?_
      exact z_iret hC hr rfl () trivial (hvi (by unfold hBackR; split <;> first | rfl | omega)) (by unfold hBackF hBackE; rw [if_neg (by omega), if_neg (by omega), hk]; rfl) dX2_takeBack_48
    · refine z_bipush hC dX2_takeBack_7 (by decide) ?_
      exact z_iret hC hr rfl () trivial (hvi (by unfold hBackR; split <;> first | rfl | omega)) (by unfold hBackF hBackE; rw [if_pos (by omega), if_pos (by omega)]; rfl) dX2_takeBack_9
  · skip
    refine z_aload_n hC dX2_takeBack_0 rfl 0 rfl ?_
    refine z_geti hC zkX2 iX2_takeBack_X2 0 rfl 2 (by decide) kX2_takeBack_1 rfl rfl dX2_takeBack_1 ?_
    refine z_if_ne (tgt := 10) hC dX2_takeBack_4 (by decide) (by unfold inR; omega) (fun c_4_3 => ?_) (fun c_4_3 => ?_)
    · refine z_aload_n hC dX2_takeBack_10 rfl 0 rfl ?_
      refine z_aload_n hC dX2_takeBack_11 rfl 0 rfl ?_
      refine z_geti hC zkX2 iX2_takeBack_X2 0 rfl 1 (by decide) kX2_takeBack_2 rfl rfl dX2_takeBack_12 ?_
      refine z_bipush hC dX2_takeBack_15 (by decide) ?_
      refine z_iadd hC dX2_takeBack_17 ?_
      refine z_iconst hC dX2_takeBack_18 ?_
      refine z_isub hC dX2_takeBack_19 ?_
      refine z_bipush hC dX2_takeBack_20 (by decide) ?_
      refine z_irem hC dX2_takeBack_22 (by omega) (by omega) (by omega) (by omega) ?_
      refine z_puti (ws' := [cO 1 h [some r, none, none] (updZ F 1 ((((F 1) + 7) - 1) % 7)), cQ (J 3) r 7 (fun j => some (ra j))] ++ (wE J (ra 0) (rb 0) (rc 0) (R 0) ++ (wE J (ra 1) (rb 1) (rc 1) (R 1) ++ (wE J (ra 2) (rb 2) (rc 2) (R 2) ++ (wE J (ra 3) (rb 3) (rc 3) (R 3) ++ (wE J (ra 4) (rb 4) (rc 4) (R 4) ++ (wE J (ra 5) (rb 5) (rc 5) (R 5) ++ (wE J (ra 6) (rb 6) (rc 6) (R 6) ++ wE J h0 h1 h2 E)))))))) hC zkX2 iX2_takeBack_X2 0 rfl 1 (by decide) kX2_takeBack_2 rfl rfl rfl rfl rfl rfl dX2_takeBack_23 rfl ?_
      refine z_aload_n hC dX2_takeBack_26 rfl 0 rfl ?_
      refine z_dup hC dX2_takeBack_27 rfl ?_
      refine z_geti hC zkX2 iX2_takeBack_X2 0 rfl 2 (by decide) kX2_takeBack_1 rfl rfl dX2_takeBack_28 ?_
      refine z_int (y := iI (F 2)) hC (rfl) ?_
      refine z_iconst hC dX2_takeBack_31 ?_
      refine z_isub hC dX2_takeBack_32 ?_
      refine z_puti (ws' := [cO 1 h [some r, none, none] (updZ (updZ F 1 ((((F 1) + 7) - 1) % 7)) 2 ((F 2) - 1)), cQ (J 3) r 7 (fun j => some (ra j))] ++ (wE J (ra 0) (rb 0) (rc 0) (R 0) ++ (wE J (ra 1) (rb 1) (rc 1) (R 1) ++ (wE J (ra 2) (rb 2) (rc 2) (R 2) ++ (wE J (ra 3) (rb 3) (rc 3) (R 3) ++ (wE J (ra 4) (rb 4) (rc 4) (R 4) ++ (wE J (ra 5) (rb 5) (rc 5) (R 5) ++ (wE J (ra 6) (rb 6) (rc 6) (R 6) ++ wE J h0 h1 h2 E)))))))) hC zkX2 iX2_takeBack_X2 0 rfl 2 (by decide) kX2_takeBack_1 rfl rfl rfl rfl rfl rfl dX2_takeBack_33 rfl ?_
      refine z_aload_n hC dX2_takeBack_36 rfl 0 rfl ?_
      refine z_callV (wr := wE J (ra 0) (rb 0) (rc 0) (R 0) ++ (wE J (ra 1) (rb 1) (rc 1) (R 1) ++ (wE J (ra 2) (rb 2) (rc 2) (R 2) ++ (wE J (ra 3) (rb 3) (rc 3) (R 3) ++ (wE J (ra 4) (rb 4) (rc 4) (R 4) ++ (wE J (ra 5) (rb 5) (rc 5) (R 5) ++ (wE J (ra 6) (rb 6) (rc 6) (R 6) ++ wE J h0 h1 h2 E))))))) (av := []) (st := []) hC (t_X2_nextRow l D J h r ra (updZ (updZ F 1 ((((F 1) + 7) - 1) % 7)) 2 ((F 2) - 1)) (by show 0 ≤ (F 1 + 7 - 1) % 7 ∧ (F 1 + 7 - 1) % 7 < 7; omega)) gX2_takeBack_X2_nextRow rfl 0 (by decide +kernel) ⟨Nat.le_of_ble_eq_true rfl, Nat.le_of_ble_eq_true rfl⟩ ⟨Nat.le_of_ble_eq_true rfl, Nat.le_of_ble_eq_true rfl⟩ [0, 1] [2, 3, 4, 5, 6, 7, 8, 9, 10, 11, 12, 13, 14, 15, 16, 17, 18, 19, 20, 21, 22, 23, 24, 25] rfl rfl rfl (by decide) rfl 0 rfl rfl rfl rfl rfl (Nat.le_of_ble_eq_true rfl) dX2_takeBack_37 (fun _ _ => ?_)
      refine z_perm (ws' := [cO 1 h [some r, none, none] (updZ (updZ F 1 ((((F 1) + 7) - 1) % 7)) 2 ((F 2) - 1)), cQ (J 3) r 7 (fun j => some (ra j))] ++ (wE J (ra 0) (rb 0) (rc 0) (R 0) ++ (wE J (ra 1) (rb 1) (rc 1) (R 1) ++ (wE J (ra 2) (rb 2) (rc 2) (R 2) ++ (wE J (ra 3) (rb 3) (rc 3) (R 3) ++ (wE J (ra 4) (rb 4) (rc 4) (R 4) ++ (wE J (ra 5) (rb 5) (rc 5) (R 5) ++ (wE J (ra 6) (rb 6) (rc 6) (R 6) ++ wE J h0 h1 h2 E)))))))) [24, 25, 0, 1, 2, 3, 4, 5, 6, 7, 8, 9, 10, 11, 12, 13, 14, 15, 16, 17, 18, 19, 20, 21, 22, 23] rfl rfl ?_
      refine z_st (st' := [.ref (ra (Int.toNat ((updZ (updZ F 1 ((((F 1) + 7) - 1) % 7)) 2 ((F 2) - 1)) 1)))]) rfl ?_
      refine z_st (st' := [.ref (ra 2)]) (by rw [show Int.toNat ((updZ (updZ F 1 ((((F 1) + 7) - 1) % 7)) 2 ((F 2) - 1)) 1) = 2 from hk]) ?_
      refine z_aload_n hC dX2_takeBack_40 rfl 1 rfl ?_
      refine z_callS (wr := [cO 1 h [some r, none, none] (updZ (updZ F 1 ((((F 1) + 7) - 1) % 7)) 2 ((F 2) - 1)), cQ (J 3) r 7 (fun j => some (ra j))] ++ (wE J (ra 0) (rb 0) (rc 0) (R 0) ++ (wE J (ra 1) (rb 1) (rc 1) (R 1) ++ (wE J (ra 3) (rb 3) (rc 3) (R 3) ++ (wE J (ra 4) (rb 4) (rc 4) (R 4) ++ (wE J (ra 5) (rb 5) (rc 5) (R 5) ++ wE J (ra 6) (rb 6) (rc 6) (R 6))))))) (av := [.ref (ra 2), .ref h0]) (st := []) hC (t_X1_copy l D J (ra 2) (rb 2) (rc 2) h0 h1 h2 (R 2) E) gX2_takeBack_X1_copy rfl 2 (by decide +kernel) ⟨Nat.le_of_ble_eq_true rfl, Nat.le_of_ble_eq_true rfl⟩ ⟨Nat.le_of_ble_eq_true rfl, Nat.le_of_ble_eq_true rfl⟩ [8, 9, 10, 23, 24, 25] [0, 1, 2, 3, 4, 5, 6, 7, 11, 12, 13, 14, 15, 16, 17, 18, 19, 20, 21, 22] rfl rfl rfl (by decide) rfl rfl rfl (Nat.le_of_ble_eq_true rfl) dX2_takeBack_41 (fun _ _ => ?_)
      refine z_perm (ws' := [cO 1 h [some r, none, none] (updZ (updZ F 1 ((((F 1) + 7) - 1) % 7)) 2 ((F 2) - 1)), cQ (J 3) r 7 (fun j => some (ra j))] ++ (wE J (ra 0) (rb 0) (rc 0) (R 0) ++ (wE J (ra 1) (rb 1) (rc 1) (R 1) ++ (wE J (ra 2) (rb 2) (rc 2) (R 2) ++ (wE J (ra 3) (rb 3) (rc 3) (R 3) ++ (wE J (ra 4) (rb 4) (rc 4) (R 4) ++ (wE J (ra 5) (rb 5) (rc 5) (R 5) ++ (wE J (ra 6) (rb 6) (rc 6) (R 6) ++ wE J h0 h1 h2 (R 2))))))))) [0, 1, 2, 3, 4, 5, 6, 7, 20, 21, 22, 8, 9, 10, 11, 12, 13, 14, 15, 16, 17, 18, 19, 23, 24, 25] rfl rfl ?_
      refine z_st (st' := []) rfl ?_
      refine z_aload_n hC dX2_takeBack_44 rfl 0 rfl ?_
      refine z_geti hC zkX2 iX2_takeBack_X2 0 rfl 2 (by decide) kX2_takeBack_1 rfl rfl dX2_takeBack_45 ?_
      refine z_int (y := iI ((F 2) - 1)) hC (rfl) ?_
      exact z_iret hC hr rfl () trivial (hvi (by unfold hBackR; split <;> first | rfl | omega)) (by unfold hBackF hBackE; rw [if_neg (by omega), if_neg (by omega), hk]; rfl) dX2_takeBack_48
    · refine z_bipush hC dX2_takeBack_7 (by decide) ?_
      exact z_iret hC hr rfl () trivial (hvi (by unfold hBackR; split <;> first | rfl | omega)) (by unfold hBackF hBackE; rw [if_pos (by omega), if_pos (by omega)]; rfl) dX2_takeBack_9
  · skip
    refine z_aload_n hC dX2_takeBack_0 rfl 0 rfl ?_
    refine z_geti hC zkX2 iX2_takeBack_X2 0 rfl 2 (by decide) kX2_takeBack_1 rfl rfl dX2_takeBack_1 ?_
    refine z_if_ne (tgt := 10) hC dX2_takeBack_4 (by decide) (by unfold inR; omega) (fun c_4_4 => ?_) (fun c_4_4 => ?_)
    · refine z_aload_n hC dX2_takeBack_10 rfl 0 rfl ?_
      refine z_aload_n hC dX2_takeBack_11 rfl 0 rfl ?_
      refine z_geti hC zkX2 iX2_takeBack_X2 0 rfl 1 (by decide) kX2_takeBack_2 rfl rfl dX2_takeBack_12 ?_
      refine z_bipush hC dX2_takeBack_15 (by decide) ?_
      refine z_iadd hC dX2_takeBack_17 ?_
      refine z_iconst hC dX2_takeBack_18 ?_
      refine z_isub hC dX2_takeBack_19 ?_
      refine z_bipush hC dX2_takeBack_20 (by decide) ?_
      refine z_irem hC dX2_takeBack_22 (by omega) (by omega) (by omega) (by omega) ?_
      refine z_puti (ws' := [cO 1 h [some r, none, none] (updZ F 1 ((((F 1) + 7) - 1) % 7)), cQ (J 3) r 7 (fun j => some (ra j))] ++ (wE J (ra 0) (rb 0) (rc 0) (R 0) ++ (wE J (ra 1) (rb 1) (rc 1) (R 1) ++ (wE J (ra 2) (rb 2) (rc 2) (R 2) ++ (wE J (ra 3) (rb 3) (rc 3) (R 3) ++ (wE J (ra 4) (rb 4) (rc 4) (R 4) ++ (wE J (ra 5) (rb 5) (rc 5) (R 5) ++ (wE J (ra 6) (rb 6) (rc 6) (R 6) ++ wE J h0 h1 h2 E)))))))) hC zkX2 iX2_takeBack_X2 0 rfl 1 (by decide) kX2_takeBack_2 rfl rfl rfl rfl rfl rfl dX2_takeBack_23 rfl ?_
      refine z_aload_n hC dX2_takeBack_26 rfl 0 rfl ?_
      refine z_dup hC dX2_takeBack_27 rfl ?_
      refine z_geti hC zkX2 iX2_takeBack_X2 0 rfl 2 (by decide) kX2_takeBack_1 rfl rfl dX2_takeBack_28 ?_
      refine z_int (y := iI (F 2)) hC (rfl) ?_
      refine z_iconst hC dX2_takeBack_31 ?_
      refine z_isub hC dX2_takeBack_32 ?_
      refine z_puti (ws' := [cO 1 h [some r, none, none] (updZ (updZ F 1 ((((F 1) + 7) - 1) % 7)) 2 ((F 2) - 1)), cQ (J 3) r 7 (fun j => some (ra j))] ++ (wE J (ra 0) (rb 0) (rc 0) (R 0) ++ (wE J (ra 1) (rb 1) (rc 1) (R 1) ++ (wE J (ra 2) (rb 2) (rc 2) (R 2) ++ (wE J (ra 3) (rb 3) (rc 3) (R 3) ++ (wE J (ra 4) (rb 4) (rc 4) (R 4) ++ (wE J (ra 5) (rb 5) (rc 5) (R 5) ++ (wE J (ra 6) (rb 6) (rc 6) (R 6) ++ wE J h0 h1 h2 E)))))))) hC zkX2 iX2_takeBack_X2 0 rfl 2 (by decide) kX2_takeBack_1 rfl rfl rfl rfl rfl rfl dX2_takeBack_33 rfl ?_
      refine z_aload_n hC dX2_takeBack_36 rfl 0 rfl ?_
      refine z_callV (wr := wE J (ra 0) (rb 0) (rc 0) (R 0) ++ (wE J (ra 1) (rb 1) (rc 1) (R 1) ++ (wE J (ra 2) (rb 2) (rc 2) (R 2) ++ (wE J (ra 3) (rb 3) (rc 3) (R 3) ++ (wE J (ra 4) (rb 4) (rc 4) (R 4) ++ (wE J (ra 5) (rb 5) (rc 5) (R 5) ++ (wE J (ra 6) (rb 6) (rc 6) (R 6) ++ wE J h0 h1 h2 E))))))) (av := []) (st := []) hC (t_X2_nextRow l D J h r ra (updZ (updZ F 1 ((((F 1) + 7) - 1) % 7)) 2 ((F 2) - 1)) (by show 0 ≤ (F 1 + 7 - 1) % 7 ∧ (F 1 + 7 - 1) % 7 < 7; omega)) gX2_takeBack_X2_nextRow rfl 0 (by decide +kernel) ⟨Nat.le_of_ble_eq_true rfl, Nat.le_of_ble_eq_true rfl⟩ ⟨Nat.le_of_ble_eq_true rfl, Nat.le_of_ble_eq_true rfl⟩ [0, 1] [2, 3, 4, 5, 6, 7, 8, 9, 10, 11, 12, 13, 14, 15, 16, 17, 18, 19, 20, 21, 22, 23, 24, 25] rfl rfl rfl (by decide) rfl 0 rfl rfl rfl rfl rfl (Nat.le_of_ble_eq_true rfl) dX2_takeBack_37 (fun _ _ => ?_)
      refine z_perm (ws' := [cO 1 h [some r, none, none] (updZ (updZ F 1 ((((F 1) + 7) - 1) % 7)) 2 ((F 2) - 1)), cQ (J 3) r 7 (fun j => some (ra j))] ++ (wE J (ra 0) (rb 0) (rc 0) (R 0) ++ (wE J (ra 1) (rb 1) (rc 1) (R 1) ++ (wE J (ra 2) (rb 2) (rc 2) (R 2) ++ (wE J (ra 3) (rb 3) (rc 3) (R 3) ++ (wE J (ra 4) (rb 4) (rc 4) (R 4) ++ (wE J (ra 5) (rb 5) (rc 5) (R 5) ++ (wE J (ra 6) (rb 6) (rc 6) (R 6) ++ wE J h0 h1 h2 E)))))))) [24, 25, 0, 1, 2, 3, 4, 5, 6, 7, 8, 9, 10, 11, 12, 13, 14, 15, 16, 17, 18, 19, 20, 21, 22, 23] rfl rfl ?_
      refine z_st (st' := [.ref (ra (Int.toNat ((updZ (updZ F 1 ((((F 1) + 7) - 1) % 7)) 2 ((F 2) - 1)) 1)))]) rfl ?_
      refine z_st (st' := [.ref (ra 3)]) (by rw [show Int.toNat ((updZ (updZ F 1 ((((F 1) + 7) - 1) % 7)) 2 ((F 2) - 1)) 1) = 3 from hk]) ?_
      refine z_aload_n hC dX2_takeBack_40 rfl 1 rfl ?_
      refine z_callS (wr := [cO 1 h [some r, none, none] (updZ (updZ F 1 ((((F 1) + 7) - 1) % 7)) 2 ((F 2) - 1)), cQ (J 3) r 7 (fun j => some (ra j))] ++ (wE J (ra 0) (rb 0) (rc 0) (R 0) ++ (wE J (ra 1) (rb 1) (rc 1) (R 1) ++ (wE J (ra 2) (rb 2) (rc 2) (R 2) ++ (wE J (ra 4) (rb 4) (rc 4) (R 4) ++ (wE J (ra 5) (rb 5) (rc 5) (R 5) ++ wE J (ra 6) (rb 6) (rc 6) (R 6))))))) (av := [.ref (ra 3), .ref h0]) (st := []) hC (t_X1_copy l D J (ra 3) (rb 3) (rc 3) h0 h1 h2 (R 3) E) gX2_takeBack_X1_copy rfl 2 (by decide +kernel) ⟨Nat.le_of_ble_eq_true rfl, Nat.le_of_ble_eq_true rfl⟩ ⟨Nat.le_of_ble_eq_true rfl, Nat.le_of_ble_eq_true rfl⟩ [11, 12, 13, 23, 24, 25] [0, 1, 2, 3, 4, 5, 6, 7, 8, 9, 10, 14, 15, 16, 17, 18, 19, 20, 21, 22] rfl rfl rfl (by decide) rfl rfl rfl (Nat.le_of_ble_eq_true rfl) dX2_takeBack_41 (fun _ _ => ?_)
      refine z_perm (ws' := [cO 1 h [some r, none, none] (updZ (updZ F 1 ((((F 1) + 7) - 1) % 7)) 2 ((F 2) - 1)), cQ (J 3) r 7 (fun j => some (ra j))] ++ (wE J (ra 0) (rb 0) (rc 0) (R 0) ++ (wE J (ra 1) (rb 1) (rc 1) (R 1) ++ (wE J (ra 2) (rb 2) (rc 2) (R 2) ++ (wE J (ra 3) (rb 3) (rc 3) (R 3) ++ (wE J (ra 4) (rb 4) (rc 4) (R 4) ++ (wE J (ra 5) (rb 5) (rc 5) (R 5) ++ (wE J (ra 6) (rb 6) (rc 6) (R 6) ++ wE J h0 h1 h2 (R 3))))))))) [0, 1, 2, 3, 4, 5, 6, 7, 8, 9, 10, 20, 21, 22, 11, 12, 13, 14, 15, 16, 17, 18, 19, 23, 24, 25] rfl rfl ?_
      refine z_st (st' := []) rfl ?_
      refine z_aload_n hC dX2_takeBack_44 rfl 0 rfl ?_
      refine z_geti hC zkX2 iX2_takeBack_X2 0 rfl 2 (by decide) kX2_takeBack_1 rfl rfl dX2_takeBack_45 ?_
      refine z_int (y := iI ((F 2) - 1)) hC (rfl) ?_
      exact z_iret hC hr rfl () trivial (hvi (by unfold hBackR; split <;> first | rfl | omega)) (by unfold hBackF hBackE; rw [if_neg (by omega), if_neg (by omega), hk]; rfl) dX2_takeBack_48
    · refine z_bipush hC dX2_takeBack_7 (by decide) ?_
      exact z_iret hC hr rfl () trivial (hvi (by unfold hBackR; split <;> first | rfl | omega)) (by unfold hBackF hBackE; rw [if_pos (by omega), if_pos (by omega)]; rfl) dX2_takeBack_9
  · skip
    refine z_aload_n hC dX2_takeBack_0 rfl 0 rfl ?_
    refine z_geti hC zkX2 iX2_takeBack_X2 0 rfl 2 (by decide) kX2_takeBack_1 rfl rfl dX2_takeBack_1 ?_
    refine z_if_ne (tgt := 10) hC dX2_takeBack_4 (by decide) (by unfold inR; omega) (fun c_4_5 => ?_) (fun c_4_5 => ?_)
    · refine z_aload_n hC dX2_takeBack_10 rfl 0 rfl ?_
      refine z_aload_n hC dX2_takeBack_11 rfl 0 rfl ?_
      refine z_geti hC zkX2 iX2_takeBack_X2 0 rfl 1 (by decide) kX2_takeBack_2 rfl rfl dX2_takeBack_12 ?_
      refine z_bipush hC dX2_takeBack_15 (by decide) ?_
      refine z_iadd hC dX2_takeBack_17 ?_
      refine z_iconst hC dX2_takeBack_18 ?_
      refine z_isub hC dX2_takeBack_19 ?_
      refine z_bipush hC dX2_takeBack_20 (by decide) ?_
      refine z_irem hC dX2_takeBack_22 (by omega) (by omega) (by omega) (by omega) ?_
      refine z_puti (ws' := [cO 1 h [some r, none, none] (updZ F 1 ((((F 1) + 7) - 1) % 7)), cQ (J 3) r 7 (fun j => some (ra j))] ++ (wE J (ra 0) (rb 0) (rc 0) (R 0) ++ (wE J (ra 1) (rb 1) (rc 1) (R 1) ++ (wE J (ra 2) (rb 2) (rc 2) (R 2) ++ (wE J (ra 3) (rb 3) (rc 3) (R 3) ++ (wE J (ra 4) (rb 4) (rc 4) (R 4) ++ (wE J (ra 5) (rb 5) (rc 5) (R 5) ++ (wE J (ra 6) (rb 6) (rc 6) (R 6) ++ wE J h0 h1 h2 E)))))))) hC zkX2 iX2_takeBack_X2 0 rfl 1 (by decide) kX2_takeBack_2 rfl rfl rfl rfl rfl rfl dX2_takeBack_23 rfl ?_
      refine z_aload_n hC dX2_takeBack_26 rfl 0 rfl ?_
      refine z_dup hC dX2_takeBack_27 rfl ?_
      refine z_geti hC zkX2 iX2_takeBack_X2 0 rfl 2 (by decide) kX2_takeBack_1 rfl rfl dX2_takeBack_28 ?_
      refine z_int (y := iI (F 2)) hC (rfl) ?_
      refine z_iconst hC dX2_takeBack_31 ?_
      refine z_isub hC dX2_takeBack_32 ?_
      refine z_puti (ws' := [cO 1 h [some r, none, none] (updZ (updZ F 1 ((((F 1) + 7) - 1) % 7)) 2 ((F 2) - 1)), cQ (J 3) r 7 (fun j => some (ra j))] ++ (wE J (ra 0) (rb 0) (rc 0) (R 0) ++ (wE J (ra 1) (rb 1) (rc 1) (R 1) ++ (wE J (ra 2) (rb 2) (rc 2) (R 2) ++ (wE J (ra 3) (rb 3) (rc 3) (R 3) ++ (wE J (ra 4) (rb 4) (rc 4) (R 4) ++ (wE J (ra 5) (rb 5) (rc 5) (R 5) ++ (wE J (ra 6) (rb 6) (rc 6) (R 6) ++ wE J h0 h1 h2 E)))))))) hC zkX2 iX2_takeBack_X2 0 rfl 2 (by decide) kX2_takeBack_1 rfl rfl rfl rfl rfl rfl dX2_takeBack_33 rfl ?_
      refine z_aload_n hC dX2_takeBack_36 rfl 0 rfl ?_
      refine z_callV (wr := wE J (ra 0) (rb 0) (rc 0) (R 0) ++ (wE J (ra 1) (rb 1) (rc 1) (R 1) ++ (wE J (ra 2) (rb 2) (rc 2) (R 2) ++ (wE J (ra 3) (rb 3) (rc 3) (R 3) ++ (wE J (ra 4) (rb 4) (rc 4) (R 4) ++ (wE J (ra 5) (rb 5) (rc 5) (R 5) ++ (wE J (ra 6) (rb 6) (rc 6) (R 6) ++ wE J h0 h1 h2 E))))))) (av := []) (st := []) hC (t_X2_nextRow l D J h r ra (updZ (updZ F 1 ((((F 1) + 7) - 1) % 7)) 2 ((F 2) - 1)) (by show 0 ≤ (F 1 + 7 - 1) % 7 ∧ (F 1 + 7 - 1) % 7 < 7; omega)) gX2_takeBack_X2_nextRow rfl 0 (by decide +kernel) ⟨Nat.le_of_ble_eq_true rfl, Nat.le_of_ble_eq_true rfl⟩ ⟨Nat.le_of_ble_eq_true rfl, Nat.le_of_ble_eq_true rfl⟩ [0, 1] [2, 3, 4, 5, 6, 7, 8, 9, 10, 11, 12, 13, 14, 15, 16, 17, 18, 19, 20, 21, 22, 23, 24, 25] rfl rfl rfl (by decide) rfl 0 rfl rfl rfl rfl rfl (Nat.le_of_ble_eq_true rfl) dX2_takeBack_37 (fun _ _ => ?_)
      refine z_perm (ws' := [cO 1 h [some r, none, none] (updZ (updZ F 1 ((((F 1) + 7) - 1) % 7)) 2 ((F 2) - 1)), cQ (J 3) r 7 (fun j => some (ra j))] ++ (wE J (ra 0) (rb 0) (rc 0) (R 0) ++ (wE J (ra 1) (rb 1) (rc 1) (R 1) ++ (wE J (ra 2) (rb 2) (rc 2) (R 2) ++ (wE J (ra 3) (rb 3) (rc 3) (R 3) ++ (wE J (ra 4) (rb 4) (rc 4) (R 4) ++ (wE J (ra 5) (rb 5) (rc 5) (R 5) ++ (wE J (ra 6) (rb 6) (rc 6) (R 6) ++ wE J h0 h1 h2 E)))))))) [24, 25, 0, 1, 2, 3, 4, 5, 6, 7, 8, 9, 10, 11, 12, 13, 14, 15, 16, 17, 18, 19, 20, 21, 22, 23] rfl rfl ?_
      refine z_st (st' := [.ref (ra (Int.toNat ((updZ (updZ F 1 ((((F 1) + 7) - 1) % 7)) 2 ((F 2) - 1)) 1)))]) rfl ?_
      refine z_st (st' := [.ref (ra 4)]) (by rw [show Int.toNat ((updZ (updZ F 1 ((((F 1) + 7) - 1) % 7)) 2 ((F 2) - 1)) 1) = 4 from hk]) ?_
      refine z_aload_n hC dX2_takeBack_40 rfl 1 rfl ?_
      refine z_callS (wr := [cO 1 h [some r, none, none] (updZ (updZ F 1 ((((F 1) + 7) - 1) % 7)) 2 ((F 2) - 1)), cQ (J 3) r 7 (fun j => some (ra j))] ++ (wE J (ra 0) (rb 0) (rc 0) (R 0) ++ (wE J (ra 1) (rb 1) (rc 1) (R 1) ++ (wE J (ra 2) (rb 2) (rc 2) (R 2) ++ (wE J (ra 3) (rb 3) (rc 3) (R 3) ++ (wE J (ra 5) (rb 5) (rc 5) (R 5) ++ wE J (ra 6) (rb 6) (rc 6) (R 6))))))) (av := [.ref (ra 4), .ref h0]) (st := []) hC (t_X1_copy l D J (ra 4) (rb 4) (rc 4) h0 h1 h2 (R 4) E) gX2_takeBack_X1_copy rfl 2 (by decide +kernel) ⟨Nat.le_of_ble_eq_true rfl, Nat.le_of_ble_eq_true rfl⟩ ⟨Nat.le_of_ble_eq_true rfl, Nat.le_of_ble_eq_true rfl⟩ [14, 15, 16, 23, 24, 25] [0, 1, 2, 3, 4, 5, 6, 7, 8, 9, 10, 11, 12, 13, 17, 18, 19, 20, 21, 22] rfl rfl rfl (by decide) rfl rfl rfl (Nat.le_of_ble_eq_true rfl) dX2_takeBack_41 (fun _ _ => ?_)
      refine z_perm (ws' := [cO 1 h [some r, none, none] (updZ (updZ F 1 ((((F 1) + 7) - 1) % 7)) 2 ((F 2) - 1)), cQ (J 3) r 7 (fun j => some (ra j))] ++ (wE J (ra 0) (rb 0) (rc 0) (R 0) ++ (wE J (ra 1) (rb 1) (rc 1) (R 1) ++ (wE J (ra 2) (rb 2) (rc 2) (R 2) ++ (wE J (ra 3) (rb 3) (rc 3) (R 3) ++ (wE J (ra 4) (rb 4) (rc 4) (R 4) ++ (wE J (ra 5) (rb 5) (rc 5) (R 5) ++ (wE J (ra 6) (rb 6) (rc 6) (R 6) ++ wE J h0 h1 h2 (R 4))))))))) [0, 1, 2, 3, 4, 5, 6, 7, 8, 9, 10, 11, 12, 13, 20, 21, 22, 14, 15, 16, 17, 18, 19, 23, 24, 25] rfl rfl ?_
      refine z_st (st' := []) rfl ?_
      refine z_aload_n hC dX2_takeBack_44 rfl 0 rfl ?_
      refine z_geti hC zkX2 iX2_takeBack_X2 0 rfl 2 (by decide) kX2_takeBack_1 rfl rfl dX2_takeBack_45 ?_
      refine z_int (y := iI ((F 2) - 1)) hC (rfl) ?_
      exact z_iret hC hr rfl () trivial (hvi (by unfold hBackR; split <;> first | rfl | omega)) (by unfold hBackF hBackE; rw [if_neg (by omega), if_neg (by omega), hk]; rfl) dX2_takeBack_48
    · refine z_bipush hC dX2_takeBack_7 (by decide) ?_
      exact z_iret hC hr rfl () trivial (hvi (by unfold hBackR; split <;> first | rfl | omega)) (by unfold hBackF hBackE; rw [if_pos (by omega), if_pos (by omega)]; rfl) dX2_takeBack_9
  · skip
    refine z_aload_n hC dX2_takeBack_0 rfl 0 rfl ?_
    refine z_geti hC zkX2 iX2_takeBack_X2 0 rfl 2 (by decide) kX2_takeBack_1 rfl rfl dX2_takeBack_1 ?_
    refine z_if_ne (tgt := 10) hC dX2_takeBack_4 (by decide) (by unfold inR; omega) (fun c_4_6 => ?_) (fun c_4_6 => ?_)
    · refine z_aload_n hC dX2_takeBack_10 rfl 0 rfl ?_
      refine z_aload_n hC dX2_takeBack_11 rfl 0 rfl ?_
      refine z_geti hC zkX2 iX2_takeBack_X2 0 rfl 1 (by decide) kX2_takeBack_2 rfl rfl dX2_takeBack_12 ?_
      refine z_bipush hC dX2_takeBack_15 (by decide) ?_
      refine z_iadd hC dX2_takeBack_17 ?_
      refine z_iconst hC dX2_takeBack_18 ?_
      refine z_isub hC dX2_takeBack_19 ?_
      refine z_bipush hC dX2_takeBack_20 (by decide) ?_
      refine z_irem hC dX2_takeBack_22 (by omega) (by omega) (by omega) (by omega) ?_
      refine z_puti (ws' := [cO 1 h [some r, none, none] (updZ F 1 ((((F 1) + 7) - 1) % 7)), cQ (J 3) r 7 (fun j => some (ra j))] ++ (wE J (ra 0) (rb 0) (rc 0) (R 0) ++ (wE J (ra 1) (rb 1) (rc 1) (R 1) ++ (wE J (ra 2) (rb 2) (rc 2) (R 2) ++ (wE J (ra 3) (rb 3) (rc 3) (R 3) ++ (wE J (ra 4) (rb 4) (rc 4) (R 4) ++ (wE J (ra 5) (rb 5) (rc 5) (R 5) ++ (wE J (ra 6) (rb 6) (rc 6) (R 6) ++ wE J h0 h1 h2 E)))))))) hC zkX2 iX2_takeBack_X2 0 rfl 1 (by decide) kX2_takeBack_2 rfl rfl rfl rfl rfl rfl dX2_takeBack_23 rfl ?_
      refine z_aload_n hC dX2_takeBack_26 rfl 0 rfl ?_
      refine z_dup hC dX2_takeBack_27 rfl ?_
      refine z_geti hC zkX2 iX2_takeBack_X2 0 rfl 2 (by decide) kX2_takeBack_1 rfl rfl dX2_takeBack_28 ?_
      refine z_int (y := iI (F 2)) hC (rfl) ?_
      refine z_iconst hC dX2_takeBack_31 ?_
      refine z_isub hC dX2_takeBack_32 ?_
      refine z_puti (ws' := [cO 1 h [some r, none, none] (updZ (updZ F 1 ((((F 1) + 7) - 1) % 7)) 2 ((F 2) - 1)), cQ (J 3) r 7 (fun j => some (ra j))] ++ (wE J (ra 0) (rb 0) (rc 0) (R 0) ++ (wE J (ra 1) (rb 1) (rc 1) (R 1) ++ (wE J (ra 2) (rb 2) (rc 2) (R 2) ++ (wE J (ra 3) (rb 3) (rc 3) (R 3) ++ (wE J (ra 4) (rb 4) (rc 4) (R 4) ++ (wE J (ra 5) (rb 5) (rc 5) (R 5) ++ (wE J (ra 6) (rb 6) (rc 6) (R 6) ++ wE J h0 h1 h2 E)))))))) hC zkX2 iX2_takeBack_X2 0 rfl 2 (by decide) kX2_takeBack_1 rfl rfl rfl rfl rfl rfl dX2_takeBack_33 rfl ?_
      refine z_aload_n hC dX2_takeBack_36 rfl 0 rfl ?_
      refine z_callV (wr := wE J (ra 0) (rb 0) (rc 0) (R 0) ++ (wE J (ra 1) (rb 1) (rc 1) (R 1) ++ (wE J (ra 2) (rb 2) (rc 2) (R 2) ++ (wE J (ra 3) (rb 3) (rc 3) (R 3) ++ (wE J (ra 4) (rb 4) (rc 4) (R 4) ++ (wE J (ra 5) (rb 5) (rc 5) (R 5) ++ (wE J (ra 6) (rb 6) (rc 6) (R 6) ++ wE J h0 h1 h2 E))))))) (av := []) (st := []) hC (t_X2_nextRow l D J h r ra (updZ (updZ F 1 ((((F 1) + 7) - 1) % 7)) 2 ((F 2) - 1)) (by show 0 ≤ (F 1 + 7 - 1) % 7 ∧ (F 1 + 7 - 1) % 7 < 7; omega)) gX2_takeBack_X2_nextRow rfl 0 (by decide +kernel) ⟨Nat.le_of_ble_eq_true rfl, Nat.le_of_ble_eq_true rfl⟩ ⟨Nat.le_of_ble_eq_true rfl, Nat.le_of_ble_eq_true rfl⟩ [0, 1] [2, 3, 4, 5, 6, 7, 8, 9, 10, 11, 12, 13, 14, 15, 16, 17, 18, 19, 20, 21, 22, 23, 24, 25] rfl rfl rfl (by decide) rfl 0 rfl rfl rfl rfl rfl (Nat.le_of_ble_eq_true rfl) dX2_takeBack_37 (fun _ _ => ?_)
      refine z_perm (ws' := [cO 1 h [some r, none, none] (updZ (updZ F 1 ((((F 1) + 7) - 1) % 7)) 2 ((F 2) - 1)), cQ (J 3) r 7 (fun j => some (ra j))] ++ (wE J (ra 0) (rb 0) (rc 0) (R 0) ++ (wE J (ra 1) (rb 1) (rc 1) (R 1) ++ (wE J (ra 2) (rb 2) (rc 2) (R 2) ++ (wE J (ra 3) (rb 3) (rc 3) (R 3) ++ (wE J (ra 4) (rb 4) (rc 4) (R 4) ++ (wE J (ra 5) (rb 5) (rc 5) (R 5) ++ (wE J (ra 6) (rb 6) (rc 6) (R 6) ++ wE J h0 h1 h2 E)))))))) [24, 25, 0, 1, 2, 3, 4, 5, 6, 7, 8, 9, 10, 11, 12, 13, 14, 15, 16, 17, 18, 19, 20, 21, 22, 23] rfl rfl ?_
      refine z_st (st' := [.ref (ra (Int.toNat ((updZ (updZ F 1 ((((F 1) + 7) - 1) % 7)) 2 ((F 2) - 1)) 1)))]) rfl ?_
      refine z_st (st' := [.ref (ra 5)]) (by rw [show Int.toNat ((updZ (updZ F 1 ((((F 1) + 7) - 1) % 7)) 2 ((F 2) - 1)) 1) = 5 from hk]) ?_
      refine z_aload_n hC dX2_takeBack_40 rfl 1 rfl ?_
      refine z_callS (wr := [cO 1 h [some r, none, none] (updZ (updZ F 1 ((((F 1) + 7) - 1) % 7)) 2 ((F 2) - 1)), cQ (J 3) r 7 (fun j => some (ra j))] ++ (wE J (ra 0) (rb 0) (rc 0) (R 0) ++ (wE J (ra 1) (rb 1) (rc 1) (R 1) ++ (wE J (ra 2) (rb 2) (rc 2) (R 2) ++ (wE J (ra 3) (rb 3) (rc 3) (R 3) ++ (wE J (ra 4) (rb 4) (rc 4) (R 4) ++ wE J (ra 6) (rb 6) (rc 6) (R 6))))))) (av := [.ref (ra 5), .ref h0]) (st := []) hC (t_X1_copy l D J (ra 5) (rb 5) (rc 5) h0 h1 h2 (R 5) E) gX2_takeBack_X1_copy rfl 2 (by decide +kernel) ⟨Nat.le_of_ble_eq_true rfl, Nat.le_of_ble_eq_true rfl⟩ ⟨Nat.le_of_ble_eq_true rfl, Nat.le_of_ble_eq_true rfl⟩ [17, 18, 19, 23, 24, 25] [0, 1, 2, 3, 4, 5, 6, 7, 8, 9, 10, 11, 12, 13, 14, 15, 16, 20, 21, 22] rfl rfl rfl (by decide) rfl rfl rfl (Nat.le_of_ble_eq_true rfl) dX2_takeBack_41 (fun _ _ => ?_)
      refine z_perm (ws' := [cO 1 h [some r, none, none] (updZ (updZ F 1 ((((F 1) + 7) - 1) % 7)) 2 ((F 2) - 1)), cQ (J 3) r 7 (fun j => some (ra j))] ++ (wE J (ra 0) (rb 0) (rc 0) (R 0) ++ (wE J (ra 1) (rb 1) (rc 1) (R 1) ++ (wE J (ra 2) (rb 2) (rc 2) (R 2) ++ (wE J (ra 3) (rb 3) (rc 3) (R 3) ++ (wE J (ra 4) (rb 4) (rc 4) (R 4) ++ (wE J (ra 5) (rb 5) (rc 5) (R 5) ++ (wE J (ra 6) (rb 6) (rc 6) (R 6) ++ wE J h0 h1 h2 (R 5))))))))) [0, 1, 2, 3, 4, 5, 6, 7, 8, 9, 10, 11, 12, 13, 14, 15, 16, 20, 21, 22, 17, 18, 19, 23, 24, 25] rfl rfl ?_
      refine z_st (st' := []) rfl ?_
      refine z_aload_n hC dX2_takeBack_44 rfl 0 rfl ?_
      refine z_geti hC zkX2 iX2_takeBack_X2 0 rfl 2 (by decide) kX2_takeBack_1 rfl rfl dX2_takeBack_45 ?_
      refine z_int (y := iI ((F 2) - 1)) hC (rfl) ?_
      exact z_iret hC hr rfl () trivial (hvi (by unfold hBackR; split <;> first | rfl | omega)) (by unfold hBackF hBackE; rw [if_neg (by omega), if_neg (by omega), hk]; rfl) dX2_takeBack_48
    · refine z_bipush hC dX2_takeBack_7 (by decide) ?_
      exact z_iret hC hr rfl () trivial (hvi (by unfold hBackR; split <;> first | rfl | omega)) (by unfold hBackF hBackE; rw [if_pos (by omega), if_pos (by omega)]; rfl) dX2_takeBack_9
  · skip
    refine z_aload_n hC dX2_takeBack_0 rfl 0 rfl ?_
    refine z_geti hC zkX2 iX2_takeBack_X2 0 rfl 2 (by decide) kX2_takeBack_1 rfl rfl dX2_takeBack_1 ?_
    refine z_if_ne (tgt := 10) hC dX2_takeBack_4 (by decide) (by unfold inR; omega) (fun c_4_7 => ?_) (fun c_4_7 => ?_)
    · refine z_aload_n hC dX2_takeBack_10 rfl 0 rfl ?_
      refine z_aload_n hC dX2_takeBack_11 rfl 0 rfl ?_
      refine z_geti hC zkX2 iX2_takeBack_X2 0 rfl 1 (by decide) kX2_takeBack_2 rfl rfl dX2_takeBack_12 ?_
      refine z_bipush hC dX2_takeBack_15 (by decide) ?_
      refine z_iadd hC dX2_takeBack_17 ?_
      refine z_iconst hC dX2_takeBack_18 ?_
      refine z_isub hC dX2_takeBack_19 ?_
      refine z_bipush hC dX2_takeBack_20 (by decide) ?_
      refine z_irem hC dX2_takeBack_22 (by omega) (by omega) (by omega) (by omega) ?_
      refine z_puti (ws' := [cO 1 h [some r, none, none] (updZ F 1 ((((F 1) + 7) - 1) % 7)), cQ (J 3) r 7 (fun j => some (ra j))] ++ (wE J (ra 0) (rb 0) (rc 0) (R 0) ++ (wE J (ra 1) (rb 1) (rc 1) (R 1) ++ (wE J (ra 2) (rb 2) (rc 2) (R 2) ++ (wE J (ra 3) (rb 3) (rc 3) (R 3) ++ (wE J (ra 4) (rb 4) (rc 4) (R 4) ++ (wE J (ra 5) (rb 5) (rc 5) (R 5) ++ (wE J (ra 6) (rb 6) (rc 6) (R 6) ++ wE J h0 h1 h2 E)))))))) hC zkX2 iX2_takeBack_X2 0 rfl 1 (by decide) kX2_takeBack_2 rfl rfl rfl rfl rfl rfl dX2_takeBack_23 rfl ?_
      refine z_aload_n hC dX2_takeBack_26 rfl 0 rfl ?_
      refine z_dup hC dX2_takeBack_27 rfl ?_
      refine z_geti hC zkX2 iX2_takeBack_X2 0 rfl 2 (by decide) kX2_takeBack_1 rfl rfl dX2_takeBack_28 ?_
      refine z_int (y := iI (F 2)) hC (rfl) ?_
      refine z_iconst hC dX2_takeBack_31 ?_
      refine z_isub hC dX2_takeBack_32 ?_
      refine z_puti (ws' := [cO 1 h [some r, none, none] (updZ (updZ F 1 ((((F 1) + 7) - 1) % 7)) 2 ((F 2) - 1)), cQ (J 3) r 7 (fun j => some (ra j))] ++ (wE J (ra 0) (rb 0) (rc 0) (R 0) ++ (wE J (ra 1) (rb 1) (rc 1) (R 1) ++ (wE J (ra 2) (rb 2) (rc 2) (R 2) ++ (wE J (ra 3) (rb 3) (rc 3) (R 3) ++ (wE J (ra 4) (rb 4) (rc 4) (R 4) ++ (wE J (ra 5) (rb 5) (rc 5) (R 5) ++ (wE J (ra 6) (rb 6) (rc 6) (R 6) ++ wE J h0 h1 h2 E)))))))) hC zkX2 iX2_takeBack_X2 0 rfl 2 (by decide) kX2_takeBack_1 rfl rfl rfl rfl rfl rfl dX2_takeBack_33 rfl ?_
      refine z_aload_n hC dX2_takeBack_36 rfl 0 rfl ?_
      refine z_callV (wr := wE J (ra 0) (rb 0) (rc 0) (R 0) ++ (wE J (ra 1) (rb 1) (rc 1) (R 1) ++ (wE J (ra 2) (rb 2) (rc 2) (R 2) ++ (wE J (ra 3) (rb 3) (rc 3) (R 3) ++ (wE J (ra 4) (rb 4) (rc 4) (R 4) ++ (wE J (ra 5) (rb 5) (rc 5) (R 5) ++ (wE J (ra 6) (rb 6) (rc 6) (R 6) ++ wE J h0 h1 h2 E))))))) (av := []) (st := []) hC (t_X2_nextRow l D J h r ra (updZ (updZ F 1 ((((F 1) + 7) - 1) % 7)) 2 ((F 2) - 1)) (by show 0 ≤ (F 1 + 7 - 1) % 7 ∧ (F 1 + 7 - 1) % 7 < 7; omega)) gX2_takeBack_X2_nextRow rfl 0 (by decide +kernel) ⟨Nat.le_of_ble_eq_true rfl, Nat.le_of_ble_eq_true rfl⟩ ⟨Nat.le_of_ble_eq_true rfl, Nat.le_of_ble_eq_true rfl⟩ [0, 1] [2, 3, 4, 5, 6, 7, 8, 9, 10, 11, 12, 13, 14, 15, 16, 17, 18, 19, 20, 21, 22, 23, 24, 25] rfl rfl rfl (by decide) rfl 0 rfl rfl rfl rfl rfl (Nat.le_of_ble_eq_true rfl) dX2_takeBack_37 (fun _ _ => ?_)
      refine z_perm (ws' := [cO 1 h [some r, none, none] (updZ (updZ F 1 ((((F 1) + 7) - 1) % 7)) 2 ((F 2) - 1)), cQ (J 3) r 7 (fun j => some (ra j))] ++ (wE J (ra 0) (rb 0) (rc 0) (R 0) ++ (wE J (ra 1) (rb 1) (rc 1) (R 1) ++ (wE J (ra 2) (rb 2) (rc 2) (R 2) ++ (wE J (ra 3) (rb 3) (rc 3) (R 3) ++ (wE J (ra 4) (rb 4) (rc 4) (R 4) ++ (wE J (ra 5) (rb 5) (rc 5) (R 5) ++ (wE J (ra 6) (rb 6) (rc 6) (R 6) ++ wE J h0 h1 h2 E)))))))) [24, 25, 0, 1, 2, 3, 4, 5, 6, 7, 8, 9, 10, 11, 12, 13, 14, 15, 16, 17, 18, 19, 20, 21, 22, 23] rfl rfl ?_
      refine z_st (st' := [.ref (ra (Int.toNat ((updZ (updZ F 1 ((((F 1) + 7) - 1) % 7)) 2 ((F 2) - 1)) 1)))]) rfl ?_
      refine z_st (st' := [.ref (ra 6)]) (by rw [show Int.toNat ((updZ (updZ F 1 ((((F 1) + 7) - 1) % 7)) 2 ((F 2) - 1)) 1) = 6 from hk]) ?_
      refine z_aload_n hC dX2_takeBack_40 rfl 1 rfl ?_
      refine z_callS (wr := [cO 1 h [some r, none, none] (updZ (updZ F 1 ((((F 1) + 7) - 1) % 7)) 2 ((F 2) - 1)), cQ (J 3) r 7 (fun j => some (ra j))] ++ (wE J (ra 0) (rb 0) (rc 0) (R 0) ++ (wE J (ra 1) (rb 1) (rc 1) (R 1) ++ (wE J (ra 2) (rb 2) (rc 2) (R 2) ++ (wE J (ra 3) (rb 3) (rc 3) (R 3) ++ (wE J (ra 4) (rb 4) (rc 4) (R 4) ++ wE J (ra 5) (rb 5) (rc 5) (R 5))))))) (av := [.ref (ra 6), .ref h0]) (st := []) hC (t_X1_copy l D J (ra 6) (rb 6) (rc 6) h0 h1 h2 (R 6) E) gX2_takeBack_X1_copy rfl 2 (by decide +kernel) ⟨Nat.le_of_ble_eq_true rfl, Nat.le_of_ble_eq_true rfl⟩ ⟨Nat.le_of_ble_eq_true rfl, Nat.le_of_ble_eq_true rfl⟩ [20, 21, 22, 23, 24, 25] [0, 1, 2, 3, 4, 5, 6, 7, 8, 9, 10, 11, 12, 13, 14, 15, 16, 17, 18, 19] rfl rfl rfl (by decide) rfl rfl rfl (Nat.le_of_ble_eq_true rfl) dX2_takeBack_41 (fun _ _ => ?_)
      refine z_ws (ws' := [cO 1 h [some r, none, none] (updZ (updZ F 1 ((((F 1) + 7) - 1) % 7)) 2 ((F 2) - 1)), cQ (J 3) r 7 (fun j => some (ra j))] ++ (wE J (ra 0) (rb 0) (rc 0) (R 0) ++ (wE J (ra 1) (rb 1) (rc 1) (R 1) ++ (wE J (ra 2) (rb 2) (rc 2) (R 2) ++ (wE J (ra 3) (rb 3) (rc 3) (R 3) ++ (wE J (ra 4) (rb 4) (rc 4) (R 4) ++ (wE J (ra 5) (rb 5) (rc 5) (R 5) ++ (wE J (ra 6) (rb 6) (rc 6) (R 6) ++ wE J h0 h1 h2 (R 6))))))))) rfl ?_
      refine z_st (st' := []) rfl ?_
      refine z_aload_n hC dX2_takeBack_44 rfl 0 rfl ?_
      refine z_geti hC zkX2 iX2_takeBack_X2 0 rfl 2 (by decide) kX2_takeBack_1 rfl rfl dX2_takeBack_45 ?_
      refine z_int (y := iI ((F 2) - 1)) hC (rfl) ?_
      exact z_iret hC hr rfl () trivial (hvi (by unfold hBackR; split <;> first | rfl | omega)) (by unfold hBackF hBackE; rw [if_neg (by omega), if_neg (by omega), hk]; rfl) dX2_takeBack_48
    · refine z_bipush hC dX2_takeBack_7 (by decide) ?_
      exact z_iret hC hr rfl () trivial (hvi (by unfold hBackR; split <;> first | rfl | omega)) (by unfold hBackF hBackE; rw [if_pos (by omega), if_pos (by omega)]; rfl) dX2_takeBack_9
set_option maxRecDepth 20000 in
theorem iX2_keepUnlessError_X2 : ∀ w ∈ u_ws RX2 TX2 3, w ∈ wsX2_keepUnlessError := zm_places _ [7, 8, 9] (by decide +kernel)
theorem kX2_keepUnlessError_1 : Cond.fieldLink RX2 18 "StepPairs$History" "next" "I" ∈ wsX2_keepUnlessError := List.mem_of_getElem? (i := 1) rfl
theorem kX2_keepUnlessError_2 : Cond.fieldLink RX2 30 "StepPairs$History" "size" "I" ∈ wsX2_keepUnlessError := List.mem_of_getElem? (i := 2) rfl
theorem kX2_keepUnlessError_3 : Cond.methodLink RX2 33 Lib.Math.min.name ∈ wsX2_keepUnlessError := List.mem_of_getElem? (i := 3) rfl
theorem kX2_keepUnlessError_4 : Cond.static Lib.Math.min.name ∈ wsX2_keepUnlessError := List.mem_of_getElem? (i := 4) rfl
theorem kX2_keepUnlessError_5 : Cond.initialized "java/lang/Math" ∈ wsX2_keepUnlessError := List.mem_of_getElem? (i := 5) rfl
theorem kX2_keepUnlessError_6 : Cond.code Lib.Math.min.name Lib.Math.min.code 2 (some .int) ∈ wsX2_keepUnlessError := List.mem_of_getElem? (i := 6) rfl
abbrev rmX2_keepUnlessError : Room := { frames := 1, cells := 0, slots := 0, locals := 14 }
set_option maxHeartbeats 4000000 in
set_option maxRecDepth 100000 in
theorem t_X2_keepUnlessError (l : Launch) (D : va_G) (J : Nat → ClassId) (h r : Nat) (F : Nat → Int) (x : Int) (hx : inR x) (hF : 0 ≤ F 1 ∧ F 1 < 7) (hG : 0 ≤ F 2 ∧ F 2 ≤ 6) : ZX l yX2_keepUnlessError wsX2_keepUnlessError rmX2_keepUnlessError D J [.ref h, .int (iI x)] ([cO 1 h [some r, none, none] F]) (some (.int (iI x))) ([cO 1 h [some r, none, none] (hKeep F x)]) := by
  unfold inR at hx
  refine z_met (cc := cX2_keepUnlessError) (nL := 2) (ret := (some .int)) (own := RX2) (by decide) rfl rfl (Nat.le_of_ble_eq_true rfl) (fun p e s m args below meth c hC hr hin => ?_)
  refine z_lv0 (lv' := [(0, .ref h), (1, .int (iI x))]) rfl ?_
  refine z_iload_n hC dX2_keepUnlessError_0 rfl 1 rfl ?_
  refine z_if_lt (tgt := 32) hC dX2_keepUnlessError_1 (by decide) (by unfold inR; omega) (fun c_1_1 => ?_) (fun c_1_1 => ?_)
  · refine z_iload_n hC dX2_keepUnlessError_32 rfl 1 rfl ?_
    exact z_iret hC hr rfl () trivial (rfl) (by unfold hKeep; split <;> first | rfl | omega) dX2_keepUnlessError_33
  · refine z_aload_n hC dX2_keepUnlessError_4 rfl 0 rfl ?_
    refine z_aload_n hC dX2_keepUnlessError_5 rfl 0 rfl ?_
    refine z_geti hC zkX2 iX2_keepUnlessError_X2 0 rfl 1 (by decide) kX2_keepUnlessError_1 rfl rfl dX2_keepUnlessError_6 ?_
    refine z_iconst hC dX2_keepUnlessError_9 ?_
    refine z_iadd hC dX2_keepUnlessError_10 ?_
    refine z_bipush hC dX2_keepUnlessError_11 (by decide) ?_
    refine z_irem hC dX2_keepUnlessError_13 (by omega) (by omega) (by omega) (by omega) ?_
    refine z_puti (ws' := [cO 1 h [some r, none, none] (updZ F 1 (((F 1) + 1) % 7))]) hC zkX2 iX2_keepUnlessError_X2 0 rfl 1 (by decide) kX2_keepUnlessError_1 rfl rfl rfl rfl rfl rfl dX2_keepUnlessError_14 rfl ?_
    refine z_aload_n hC dX2_keepUnlessError_17 rfl 0 rfl ?_
    refine z_aload_n hC dX2_keepUnlessError_18 rfl 0 rfl ?_
    refine z_geti hC zkX2 iX2_keepUnlessError_X2 0 rfl 2 (by decide) kX2_keepUnlessError_2 rfl rfl dX2_keepUnlessError_19 ?_
    refine z_int (y := iI (F 2)) hC (rfl) ?_
    refine z_iconst hC dX2_keepUnlessError_22 ?_
    refine z_iadd hC dX2_keepUnlessError_23 ?_
    refine z_bipush hC dX2_keepUnlessError_24 (by decide) ?_
    refine z_min hC kX2_keepUnlessError_3 kX2_keepUnlessError_4 kX2_keepUnlessError_5 kX2_keepUnlessError_6 (Nat.le_of_ble_eq_true rfl) (Nat.le_of_ble_eq_true rfl) ⟨Nat.le_of_ble_eq_true rfl, Nat.le_of_ble_eq_true rfl⟩ (by unfold inR; omega) ⟨by decide, by decide⟩ dX2_keepUnlessError_26 ?_
    refine z_puti (ws' := [cO 1 h [some r, none, none] (updZ (updZ F 1 (((F 1) + 1) % 7)) 2 (min ((F 2) + 1) 6))]) hC zkX2 iX2_keepUnlessError_X2 0 rfl 2 (by decide) kX2_keepUnlessError_2 rfl rfl rfl rfl rfl rfl dX2_keepUnlessError_29 rfl ?_
    refine z_iload_n hC dX2_keepUnlessError_32 rfl 1 rfl ?_
    exact z_iret hC hr rfl () trivial (rfl) (by unfold hKeep; split <;> first | rfl | omega) dX2_keepUnlessError_33
