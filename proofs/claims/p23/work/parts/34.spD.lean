set_option maxRecDepth 20000 in
theorem iX5_deeds_X5 : ∀ w ∈ u_ws RX5 TX5 5, w ∈ wsX5_deeds := zm_places _ [26, 27, 28, 29, 30] (by decide +kernel)
theorem kX5_deeds_1 : Cond.fieldLink RX5 10 "StepPairs" "encoder" "LStepPairs$Encoder;" ∈ wsX5_deeds := List.mem_of_getElem? (i := 1) rfl
abbrev rmX5_deeds : Room := { frames := 5, cells := 0, slots := 0, locals := 97 }
set_option maxHeartbeats 4000000 in
set_option maxRecDepth 100000 in
theorem t_X5_deeds (l : Launch) (D : va_G) (J : Nat → ClassId) (h : Nat) (A : Nat → Nat → Nat) (E T : Enc) (F : Nat → Int) (R : Nat → Enc) (G U : Nat → Int) (V : Nat → Enc) (len pos pr ix nm : Int) (C : Nat → Int) (hI : InvE E) (hTg : ∀ j, 0 ≤ T.2.2 j ∧ T.2.2 j ≤ 31) (hF : 0 ≤ F 1 ∧ F 1 < 7) (hG : 0 ≤ F 2 ∧ F 2 ≤ 6) (hU : ∀ j, 0 ≤ U j ∧ U j ≤ 1) (hl : 0 ≤ len ∧ len ≤ 80) (hCh : ∀ j, 0 ≤ C j ∧ C j ≤ 126) (x : Int) (hx : inR x) : ZX l yX5_deeds wsX5_deeds rmX5_deeds D J [.ref h, .int (iI x)] (wSP J h A E T F R G U V len pos pr ix nm C) (some (.int (iI (cDeedsR E x)))) (wSP J h A E T F R G U V len pos pr ix nm C) := by
  have hR := hI
  obtain ⟨hE2, hE3, hE4, hE5, hE6, hE7, hE8, hE9, hE10, hE13, hE14, hE15, hs0, hs1, hs2, hs3, hs4, hg⟩ := hR
  unfold inR at hx
  refine z_met (cc := cX5_deeds) (nL := 4) (ret := (some .int)) (own := RX5) (by decide) rfl rfl (Nat.le_of_ble_eq_true rfl) (fun p e s m args below meth c hC hr hin => ?_)
  refine z_lv0 (lv' := [(0, .ref h), (1, .int (iI x))]) rfl ?_
  refine z_iload_n hC dX5_deeds_0 rfl 1 rfl ?_
  refine z_if_lt (tgt := 9) hC dX5_deeds_1 (by decide) (by unfold inR; omega) (fun c_1_1 => ?_) (fun c_1_1 => ?_)
  · refine z_bipush hC dX5_deeds_9 (by decide) ?_
    exact z_iret hC hr rfl () trivial (hvi (by unfold cDeedsR; (repeat' split) <;> first | rfl | omega)) (rfl) dX5_deeds_11
  · refine z_iload_n hC dX5_deeds_4 rfl 1 rfl ?_
    refine z_iconst hC dX5_deeds_5 ?_
    refine z_icmp_le (tgt := 12) hC dX5_deeds_6 (by decide) (by unfold inR; omega) ⟨by decide, by decide⟩ (fun c_6_2 => ?_) (fun c_6_2 => ?_)
    · refine z_iconst hC dX5_deeds_12 ?_
      refine z_istore_n (lv' := [(2, .int (iI 0)), (0, .ref h), (1, .int (iI x))]) hC dX5_deeds_13 rfl (by decide) rfl ?_
      refine z_iconst hC dX5_deeds_14 ?_
      refine z_istore_n (lv' := [(3, .int (iI 0)), (2, .int (iI 0)), (0, .ref h), (1, .int (iI x))]) hC dX5_deeds_15 rfl (by decide) rfl ?_
      refine z_lv (lv' := [(3, .int (iI 0)), (2, .int (iI 0)), (0, .ref h), (1, .int (iI x))]) [0, 1, 2, 3] rfl ?_
      refine z_loop (α := Nat) (fun nn i => (i : Int) + (nn : Int) = min (E.1 2) 200) (fun nn i => wSP J h A E T F R G U V len pos pr ix nm C) (fun nn i => [(3, .int (iI (i : Int))), (2, .int (iI (cDs E x i))), (0, .ref h), (1, .int (iI x))]) 16 [] (fun nn i ih_3 hP_4 => ?_) (fun i hP_4 => ?_) (Int.toNat (min (E.1 2) 200)) 0 (by show ((0 : Nat) : Int) + _ = _; omega)
      · change Z _ _ _ _ _ _ _ _ _ _ _ _ _ _ _ _ (wSP J h A E T F R G U V len pos pr ix nm C) ([(3, .int (iI (i : Int))), (2, .int (iI (cDs E x i))), (0, .ref h), (1, .int (iI x))]) 16 ([])
        have hago : 0 ≤ (i : Int) ∧ (i : Int) < min (E.1 2) 200 := ⟨by omega, by omega⟩
        have hda := cDat_in hg (f := E.1) (i : Int)
        unfold cDat at hda
        refine z_iload_n hC dX5_deeds_16 rfl 0 rfl ?_
        refine z_aload_n hC dX5_deeds_17 rfl 2 rfl ?_
        refine z_getr hC zkX5 iX5_deeds_X5 0 rfl 0 (by decide) kX5_deeds_1 rfl rfl dX5_deeds_18 ?_
        refine z_callV (wr := [cO 4 h [some (A 0 0), some (A 1 0), some (A 2 0), some (A 6 0), some (A 10 0)] (fun _ => 0)] ++ (wE J (A 1 0) (A 1 1) (A 1 2) T ++ ([cO 1 (A 2 0) [some (A 2 1), none, none] F, cQ (J 3) (A 2 1) 7 (fun j => some (A 3 j))] ++ (wE J (A 3 0) (A 4 0) (A 5 0) (R 0) ++ (wE J (A 3 1) (A 4 1) (A 5 1) (R 1) ++ (wE J (A 3 2) (A 4 2) (A 5 2) (R 2) ++ (wE J (A 3 3) (A 4 3) (A 5 3) (R 3) ++ (wE J (A 3 4) (A 4 4) (A 5 4) (R 4) ++ (wE J (A 3 5) (A 4 5) (A 5 5) (R 5) ++ (wE J (A 3 6) (A 4 6) (A 5 6) (R 6) ++ ([cO 3 (A 6 0) [some (A 6 1), some (A 6 2)] G, cQ (J 3) (A 6 1) 2 (fun j => some (A 7 j)), cI (J 2) (A 6 2) 2 U] ++ (wE J (A 7 0) (A 8 0) (A 9 0) (V 0) ++ (wE J (A 7 1) (A 8 1) (A 9 1) (V 1) ++ [cO 2 (A 10 0) [some (A 10 1), none, none, none, none, none] (padK len pos pr ix nm), cI (J 1) (A 10 1) 80 C]))))))))))))) (av := []) (st := [.int (iI (i : Int))]) hC (t_X1_logged l D J (A 0 0) (A 0 1) (A 0 2) E  hE2) gX5_deeds_X1_logged rfl 0 (by decide +kernel) ⟨Nat.le_of_ble_eq_true rfl, Nat.le_of_ble_eq_true rfl⟩ ⟨Nat.le_of_ble_eq_true rfl, Nat.le_of_ble_eq_true rfl⟩ [1, 2, 3] [0, 4, 5, 6, 7, 8, 9, 10, 11, 12, 13, 14, 15, 16, 17, 18, 19, 20, 21, 22, 23, 24, 25, 26, 27, 28, 29, 30, 31, 32, 33, 34, 35, 36, 37, 38, 39, 40] rfl rfl rfl (by decide) rfl 0 rfl rfl rfl rfl rfl (Nat.le_of_ble_eq_true rfl) dX5_deeds_21 (fun _ _ => ?_)
        refine z_perm (ws' := wSP J h A E T F R G U V len pos pr ix nm C) [0, 38, 39, 40, 1, 2, 3, 4, 5, 6, 7, 8, 9, 10, 11, 12, 13, 14, 15, 16, 17, 18, 19, 20, 21, 22, 23, 24, 25, 26, 27, 28, 29, 30, 31, 32, 33, 34, 35, 36, 37] rfl rfl ?_
        refine z_st (st' := [.int (iI (min (E.1 2) 200)), .int (iI (i : Int))]) rfl ?_
        refine z_icmp_ge_f (tgt := 48) hC dX5_deeds_24 (by decide) (by unfold inR; omega) (by unfold inR; omega) (by omega) ?_
        refine z_aload_n hC dX5_deeds_27 rfl 2 rfl ?_
        refine z_getr hC zkX5 iX5_deeds_X5 0 rfl 0 (by decide) kX5_deeds_1 rfl rfl dX5_deeds_28 ?_
        refine z_iload_n hC dX5_deeds_31 rfl 0 rfl ?_
        refine z_callV (wr := [cO 4 h [some (A 0 0), some (A 1 0), some (A 2 0), some (A 6 0), some (A 10 0)] (fun _ => 0)] ++ (wE J (A 1 0) (A 1 1) (A 1 2) T ++ ([cO 1 (A 2 0) [some (A 2 1), none, none] F, cQ (J 3) (A 2 1) 7 (fun j => some (A 3 j))] ++ (wE J (A 3 0) (A 4 0) (A 5 0) (R 0) ++ (wE J (A 3 1) (A 4 1) (A 5 1) (R 1) ++ (wE J (A 3 2) (A 4 2) (A 5 2) (R 2) ++ (wE J (A 3 3) (A 4 3) (A 5 3) (R 3) ++ (wE J (A 3 4) (A 4 4) (A 5 4) (R 4) ++ (wE J (A 3 5) (A 4 5) (A 5 5) (R 5) ++ (wE J (A 3 6) (A 4 6) (A 5 6) (R 6) ++ ([cO 3 (A 6 0) [some (A 6 1), some (A 6 2)] G, cQ (J 3) (A 6 1) 2 (fun j => some (A 7 j)), cI (J 2) (A 6 2) 2 U] ++ (wE J (A 7 0) (A 8 0) (A 9 0) (V 0) ++ (wE J (A 7 1) (A 8 1) (A 9 1) (V 1) ++ [cO 2 (A 10 0) [some (A 10 1), none, none, none, none, none] (padK len pos pr ix nm), cI (J 1) (A 10 1) 80 C]))))))))))))) (av := [.int (iI (i : Int))]) (st := []) hC (t_X1_deedAt l D J (A 0 0) (A 0 1) (A 0 2) E (i : Int) hago hE2 hg) gX5_deeds_X1_deedAt rfl 1 (by decide +kernel) ⟨Nat.le_of_ble_eq_true rfl, Nat.le_of_ble_eq_true rfl⟩ ⟨Nat.le_of_ble_eq_true rfl, Nat.le_of_ble_eq_true rfl⟩ [1, 2, 3] [0, 4, 5, 6, 7, 8, 9, 10, 11, 12, 13, 14, 15, 16, 17, 18, 19, 20, 21, 22, 23, 24, 25, 26, 27, 28, 29, 30, 31, 32, 33, 34, 35, 36, 37, 38, 39, 40] rfl rfl rfl (by decide) rfl 0 rfl rfl rfl rfl rfl (Nat.le_of_ble_eq_true rfl) dX5_deeds_32 (fun _ _ => ?_)
        refine z_perm (ws' := wSP J h A E T F R G U V len pos pr ix nm C) [0, 38, 39, 40, 1, 2, 3, 4, 5, 6, 7, 8, 9, 10, 11, 12, 13, 14, 15, 16, 17, 18, 19, 20, 21, 22, 23, 24, 25, 26, 27, 28, 29, 30, 31, 32, 33, 34, 35, 36, 37] rfl rfl ?_
        refine z_st (st' := [.int (iI ((cEnt E.1 E.2.2 (i : Int)) / 2 ^ 3))]) rfl ?_
        refine z_iload_n hC dX5_deeds_35 rfl 3 rfl ?_
        refine z_icmp_ne (tgt := 42) hC dX5_deeds_36 (by decide) (by unfold inR; omega) (by unfold inR; omega) (fun c_36_5 => ?_) (fun c_36_5 => ?_)
        · refine z_iinc (lv' := [(3, .int (iI ((i : Int) + 1))), (2, .int (iI (cDs E x i))), (0, .ref h), (1, .int (iI x))]) hC dX5_deeds_42 0 rfl (by decide) rfl ?_
          refine z_goto (tgt := 16) hC dX5_deeds_45 (by decide) ?_
          have e2 : cDs E x (i + 1) = cDs E x i := by show (if _ then _ else _) = _; split <;> first | rfl | omega
          refine z_lv0 (lv' := [(3, .int (iI ((i : Int) + 1))), (2, .int (iI (cDs E x (i + 1)))), (0, .ref h), (1, .int (iI x))]) (by rw [e2]) ?_
          refine z_lv (lv' := _) [0, 1, 2, 3] rfl ?_
          exact ih_3 (i + 1) (by omega)
        · refine z_iinc (lv' := [(2, .int (iI ((cDs E x i) + 1))), (3, .int (iI (i : Int))), (0, .ref h), (1, .int (iI x))]) hC dX5_deeds_39 1 rfl (by decide) rfl ?_
          refine z_iinc (lv' := [(3, .int (iI ((i : Int) + 1))), (2, .int (iI ((cDs E x i) + 1))), (0, .ref h), (1, .int (iI x))]) hC dX5_deeds_42 1 rfl (by decide) rfl ?_
          refine z_goto (tgt := 16) hC dX5_deeds_45 (by decide) ?_
          have e2 : cDs E x (i + 1) = (cDs E x i) + 1 := by show (if _ then _ else _) = _; split <;> first | rfl | omega
          refine z_lv0 (lv' := [(3, .int (iI ((i : Int) + 1))), (2, .int (iI (cDs E x (i + 1)))), (0, .ref h), (1, .int (iI x))]) (by rw [e2]) ?_
          refine z_lv (lv' := _) [0, 1, 2, 3] rfl ?_
          exact ih_3 (i + 1) (by omega)
      · change Z _ _ _ _ _ _ _ _ _ _ _ _ _ _ _ _ (wSP J h A E T F R G U V len pos pr ix nm C) ([(3, .int (iI (i : Int))), (2, .int (iI (cDs E x i))), (0, .ref h), (1, .int (iI x))]) 16 ([])
        have hin : i = Int.toNat (min (E.1 2) 200) := by omega
        refine z_iload_n hC dX5_deeds_16 rfl 0 rfl ?_
        refine z_aload_n hC dX5_deeds_17 rfl 2 rfl ?_
        refine z_getr hC zkX5 iX5_deeds_X5 0 rfl 0 (by decide) kX5_deeds_1 rfl rfl dX5_deeds_18 ?_
        refine z_callV (wr := [cO 4 h [some (A 0 0), some (A 1 0), some (A 2 0), some (A 6 0), some (A 10 0)] (fun _ => 0)] ++ (wE J (A 1 0) (A 1 1) (A 1 2) T ++ ([cO 1 (A 2 0) [some (A 2 1), none, none] F, cQ (J 3) (A 2 1) 7 (fun j => some (A 3 j))] ++ (wE J (A 3 0) (A 4 0) (A 5 0) (R 0) ++ (wE J (A 3 1) (A 4 1) (A 5 1) (R 1) ++ (wE J (A 3 2) (A 4 2) (A 5 2) (R 2) ++ (wE J (A 3 3) (A 4 3) (A 5 3) (R 3) ++ (wE J (A 3 4) (A 4 4) (A 5 4) (R 4) ++ (wE J (A 3 5) (A 4 5) (A 5 5) (R 5) ++ (wE J (A 3 6) (A 4 6) (A 5 6) (R 6) ++ ([cO 3 (A 6 0) [some (A 6 1), some (A 6 2)] G, cQ (J 3) (A 6 1) 2 (fun j => some (A 7 j)), cI (J 2) (A 6 2) 2 U] ++ (wE J (A 7 0) (A 8 0) (A 9 0) (V 0) ++ (wE J (A 7 1) (A 8 1) (A 9 1) (V 1) ++ [cO 2 (A 10 0) [some (A 10 1), none, none, none, none, none] (padK len pos pr ix nm), cI (J 1) (A 10 1) 80 C]))))))))))))) (av := []) (st := [.int (iI (i : Int))]) hC (t_X1_logged l D J (A 0 0) (A 0 1) (A 0 2) E  hE2) gX5_deeds_X1_logged rfl 0 (by decide +kernel) ⟨Nat.le_of_ble_eq_true rfl, Nat.le_of_ble_eq_true rfl⟩ ⟨Nat.le_of_ble_eq_true rfl, Nat.le_of_ble_eq_true rfl⟩ [1, 2, 3] [0, 4, 5, 6, 7, 8, 9, 10, 11, 12, 13, 14, 15, 16, 17, 18, 19, 20, 21, 22, 23, 24, 25, 26, 27, 28, 29, 30, 31, 32, 33, 34, 35, 36, 37, 38, 39, 40] rfl rfl rfl (by decide) rfl 0 rfl rfl rfl rfl rfl (Nat.le_of_ble_eq_true rfl) dX5_deeds_21 (fun _ _ => ?_)
        refine z_perm (ws' := wSP J h A E T F R G U V len pos pr ix nm C) [0, 38, 39, 40, 1, 2, 3, 4, 5, 6, 7, 8, 9, 10, 11, 12, 13, 14, 15, 16, 17, 18, 19, 20, 21, 22, 23, 24, 25, 26, 27, 28, 29, 30, 31, 32, 33, 34, 35, 36, 37] rfl rfl ?_
        refine z_st (st' := [.int (iI (min (E.1 2) 200)), .int (iI (i : Int))]) rfl ?_
        refine z_icmp_ge_t (tgt := 48) hC dX5_deeds_24 (by decide) (by unfold inR; omega) (by unfold inR; omega) (by omega) ?_
        refine z_iload_n hC dX5_deeds_48 rfl 1 rfl ?_
        exact z_iret hC hr rfl () trivial (hvi (by subst hin; unfold cDeedsR; (repeat' split) <;> first | rfl | omega)) (rfl) dX5_deeds_49
    · refine z_bipush hC dX5_deeds_9 (by decide) ?_
      exact z_iret hC hr rfl () trivial (hvi (by unfold cDeedsR; (repeat' split) <;> first | rfl | omega)) (rfl) dX5_deeds_11
