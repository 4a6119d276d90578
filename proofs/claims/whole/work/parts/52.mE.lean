abbrev rmX6_copy : Room := { frames := 0, cells := 0, slots := 0, locals := 0 }
set_option maxHeartbeats 4000000 in
set_option maxRecDepth 100000 in
theorem t_X6_copy (l : Launch) (D : va_G) (J : Nat → ClassId) (x y : Nat) (f g : Nat → Int) : ZX l yX6_copy wsX6_copy rmX6_copy D J [.ref x, .ref y] ([cI (J 0) x 222 f, cI (J 0) y 222 g]) none ([cI (J 0) x 222 f, cI (J 0) y 222 f]) := by
  refine z_met (cc := cX6_copy) (nL := 3) (ret := none) (own := RX6) (by decide) rfl rfl (Nat.le_of_ble_eq_true rfl) (fun p e s m args below meth c hC hr hin => ?_)
  refine z_lv0 (lv' := [(0, .ref x), (1, .ref y)]) rfl ?_
  refine z_iconst hC dX6_copy_0 ?_
  refine z_istore_n (lv' := [(2, .int (iI 0)), (0, .ref x), (1, .ref y)]) hC dX6_copy_1 rfl (by decide) rfl ?_
  refine z_lv (lv' := [(2, .int (iI 0)), (0, .ref x), (1, .ref y)]) [0, 1, 2] rfl ?_
  refine z_ws (ws' := [cI (J 0) x 222 f, cI (J 0) y 222 (mCp f g 0)]) (by rw [mCp_0]) ?_
  refine z_loop (α := Nat) (fun nn k => k + nn = 222) (fun nn k => [cI (J 0) x 222 f, cI (J 0) y 222 (mCp f g k)]) (fun nn k => [(2, .int (iI (k : Int))), (0, .ref x), (1, .ref y)]) 2 [] (fun nn k ih_1 hP_2 => ?_) (fun k hP_2 => ?_) 222 0 rfl
  · change Z _ _ _ _ _ _ _ _ _ _ _ _ _ _ _ _ ([cI (J 0) x 222 f, cI (J 0) y 222 (mCp f g k)]) ([(2, .int (iI (k : Int))), (0, .ref x), (1, .ref y)]) 2 ([])
    refine z_iload_n hC dX6_copy_2 rfl 0 rfl ?_
    refine z_sipush hC dX6_copy_3 (by decide) ?_
    refine z_icmp_ge_f (tgt := 21) hC dX6_copy_6 (by decide) (by unfold inR; omega) ⟨by decide, by decide⟩ (by omega) ?_
    refine z_aload_n hC dX6_copy_9 rfl 2 rfl ?_
    refine z_iload_n hC dX6_copy_10 rfl 0 rfl ?_
    refine z_aload_n hC dX6_copy_11 rfl 1 rfl ?_
    refine z_iload_n hC dX6_copy_12 rfl 0 rfl ?_
    refine z_iald hC 0 rfl 0 rfl k rfl (by omega) (by decide) dX6_copy_13 ?_
    refine z_iast (ws' := [cI (J 0) x 222 f, cI (J 0) y 222 (updZ (mCp f g k) k (f k))]) hC 1 rfl 0 rfl k rfl (by omega) (by decide) dX6_copy_14 rfl ?_
    refine z_iinc (lv' := [(2, .int (iI ((k : Int) + 1))), (0, .ref x), (1, .ref y)]) hC dX6_copy_15 0 rfl (by decide) rfl ?_
    refine z_goto (tgt := 2) hC dX6_copy_18 (by decide) ?_
    refine z_ws (ws' := [cI (J 0) x 222 f, cI (J 0) y 222 (mCp f g (k + 1))]) (congrArg (fun z => [cI (J 0) x 222 f, cI (J 0) y 222 z]) (mCp_s f g k)) ?_
    refine z_lv (lv' := _) [0, 1, 2] rfl ?_
    exact ih_1 (k + 1) (by omega)
  · change Z _ _ _ _ _ _ _ _ _ _ _ _ _ _ _ _ ([cI (J 0) x 222 f, cI (J 0) y 222 (mCp f g k)]) ([(2, .int (iI (k : Int))), (0, .ref x), (1, .ref y)]) 2 ([])
    refine z_arrg (g := f) (ws' := [cI (J 0) x 222 f, cI (J 0) y 222 f]) 1 rfl (fun j hj => if_pos (by omega)) rfl ?_
    refine z_iload_n hC dX6_copy_2 rfl 0 rfl ?_
    refine z_sipush hC dX6_copy_3 (by decide) ?_
    refine z_icmp_ge_t (tgt := 21) hC dX6_copy_6 (by decide) (by unfold inR; omega) ⟨by decide, by decide⟩ (by omega) ?_
    exact z_vret hC hr () trivial rfl (rfl) dX6_copy_21
set_option maxRecDepth 20000 in
theorem iX6_beginsAnew_X6 : ∀ w ∈ u_ws RX6 TX6 13, w ∈ wsX6_beginsAnew := zm_places _ [2, 3, 4, 5, 6, 7, 8, 9, 10, 11, 12, 13, 14] (by decide +kernel)
theorem kX6_beginsAnew_1 : Cond.fieldLink RX6 7 "StepPairsModel" "all" "[I" ∈ wsX6_beginsAnew := List.mem_of_getElem? (i := 1) rfl
abbrev rmX6_beginsAnew : Room := { frames := 0, cells := 0, slots := 0, locals := 0 }
set_option maxHeartbeats 4000000 in
set_option maxRecDepth 100000 in
theorem t_X6_beginsAnew (l : Launch) (D : va_G) (J : Nat → ClassId) (h : Nat) (a : Nat → Nat) (L pl sp nb dn er : Int) (A K T H S V P : Nat → Int)  : ZX l yX6_beginsAnew wsX6_beginsAnew rmX6_beginsAnew D J [.ref h] (wM J h a L pl sp nb dn er A K T H S V P) none (wM J h a L pl sp nb dn er (mFresh A) K T H S V P) := by
  refine z_met (cc := cX6_beginsAnew) (nL := 2) (ret := none) (own := RX6) (by decide) rfl rfl (Nat.le_of_ble_eq_true rfl) (fun p e s m args below meth c hC hr hin => ?_)
  refine z_lv0 (lv' := [(0, .ref h)]) rfl ?_
  refine z_iconst hC dX6_beginsAnew_0 ?_
  refine z_istore_n (lv' := [(1, .int (iI 5)), (0, .ref h)]) hC dX6_beginsAnew_1 rfl (by decide) rfl ?_
  refine z_lv (lv' := [(1, .int (iI 5)), (0, .ref h)]) [0, 1] rfl ?_
  refine z_ws (ws' := wM J h a L pl sp nb dn er (mZ A 5) K T H S V P) (by rw [mZ_5]) ?_
  refine z_loop (α := Nat) (fun nn k => k + nn = 222 ∧ 5 ≤ k) (fun nn k => wM J h a L pl sp nb dn er (mZ A k) K T H S V P) (fun nn k => [(1, .int (iI (k : Int))), (0, .ref h)]) 2 [] (fun nn k ih_1 hP_2 => ?_) (fun k hP_2 => ?_) 217 5 ⟨rfl, Nat.le_refl _⟩
  · change Z _ _ _ _ _ _ _ _ _ _ _ _ _ _ _ _ (wM J h a L pl sp nb dn er (mZ A k) K T H S V P) ([(1, .int (iI (k : Int))), (0, .ref h)]) 2 ([])
    obtain ⟨hk1, hk2⟩ := hP_2
    refine z_iload_n hC dX6_beginsAnew_2 rfl 0 rfl ?_
    refine z_sipush hC dX6_beginsAnew_3 (by decide) ?_
    refine z_icmp_ge_f (tgt := 22) hC dX6_beginsAnew_6 (by decide) (by unfold inR; omega) ⟨by decide, by decide⟩ (by omega) ?_
    refine z_aload_n hC dX6_beginsAnew_9 rfl 1 rfl ?_
    refine z_getr hC zkX6 iX6_beginsAnew_X6 0 rfl 0 (by decide) kX6_beginsAnew_1 rfl rfl dX6_beginsAnew_10 ?_
    refine z_iload_n hC dX6_beginsAnew_13 rfl 0 rfl ?_
    refine z_iconst hC dX6_beginsAnew_14 ?_
    refine z_iast (ws' := wM J h a L pl sp nb dn er (updZ (mZ A k) k 0) K T H S V P) hC 1 rfl 0 rfl k rfl (by omega) (by decide) dX6_beginsAnew_15 rfl ?_
    refine z_iinc (lv' := [(1, .int (iI ((k : Int) + 1))), (0, .ref h)]) hC dX6_beginsAnew_16 0 rfl (by decide) rfl ?_
    refine z_goto (tgt := 2) hC dX6_beginsAnew_19 (by decide) ?_
    refine z_ws (ws' := wM J h a L pl sp nb dn er (mZ A (k + 1)) K T H S V P) (congrArg (fun z => wM J h a L pl sp nb dn er z K T H S V P) (mZ_s A (by omega))) ?_
    refine z_lv (lv' := _) [0, 1] rfl ?_
    exact ih_1 (k + 1) ⟨by omega, by omega⟩
  · change Z _ _ _ _ _ _ _ _ _ _ _ _ _ _ _ _ (wM J h a L pl sp nb dn er (mZ A k) K T H S V P) ([(1, .int (iI (k : Int))), (0, .ref h)]) 2 ([])
    obtain ⟨hk1, hk2⟩ := hP_2
    have hk3 : k = 222 := by omega
    refine z_iload_n hC dX6_beginsAnew_2 rfl 0 rfl ?_
    refine z_sipush hC dX6_beginsAnew_3 (by decide) ?_
    refine z_icmp_ge_t (tgt := 22) hC dX6_beginsAnew_6 (by decide) (by unfold inR; omega) ⟨by decide, by decide⟩ (by omega) ?_
    refine z_aload_n hC dX6_beginsAnew_22 rfl 1 rfl ?_
    refine z_getr hC zkX6 iX6_beginsAnew_X6 0 rfl 0 (by decide) kX6_beginsAnew_1 rfl rfl dX6_beginsAnew_23 ?_
    refine z_bipush hC dX6_beginsAnew_26 (by decide) ?_
    refine z_bipush hC dX6_beginsAnew_28 (by decide) ?_
    refine z_iast (ws' := wM J h a L pl sp nb dn er (updZ (mZ A k) 18 (-6)) K T H S V P) hC 1 rfl 0 rfl 18 rfl (by decide) (by decide) dX6_beginsAnew_30 rfl ?_
    refine z_aload_n hC dX6_beginsAnew_31 rfl 1 rfl ?_
    refine z_getr hC zkX6 iX6_beginsAnew_X6 0 rfl 0 (by decide) kX6_beginsAnew_1 rfl rfl dX6_beginsAnew_32 ?_
    refine z_bipush hC dX6_beginsAnew_35 (by decide) ?_
    refine z_bipush hC dX6_beginsAnew_37 (by decide) ?_
    refine z_iast (ws' := wM J h a L pl sp nb dn er (updZ (updZ (mZ A k) 18 (-6)) 19 (-6)) K T H S V P) hC 1 rfl 0 rfl 19 rfl (by decide) (by decide) dX6_beginsAnew_39 rfl ?_
    exact z_vret hC hr () trivial rfl (by subst hk3; rfl) dX6_beginsAnew_40
set_option maxRecDepth 20000 in
theorem iX6_changed_X6 : ∀ w ∈ u_ws RX6 TX6 13, w ∈ wsX6_changed := zm_places _ [4, 5, 6, 7, 8, 9, 10, 11, 12, 13, 14, 15, 16] (by decide +kernel)
theorem kX6_changed_1 : Cond.fieldLink RX6 34 "StepPairsModel" "historyLong" "I" ∈ wsX6_changed := List.mem_of_getElem? (i := 1) rfl
theorem kX6_changed_2 : Cond.fieldLink RX6 19 "StepPairsModel" "history" "[I" ∈ wsX6_changed := List.mem_of_getElem? (i := 2) rfl
theorem kX6_changed_3 : Cond.fieldLink RX6 13 "StepPairsModel" "kept" "[I" ∈ wsX6_changed := List.mem_of_getElem? (i := 3) rfl
abbrev rmX6_changed : Room := { frames := 0, cells := 0, slots := 0, locals := 0 }
set_option maxHeartbeats 4000000 in
set_option maxRecDepth 100000 in
theorem t_X6_changed (l : Launch) (D : va_G) (J : Nat → ClassId) (h : Nat) (a : Nat → Nat) (L pl sp nb dn er : Int) (A K T H S V P : Nat → Int) (x : Int) (hL : 0 ≤ L ∧ L ≤ 6) : ZX l yX6_changed wsX6_changed rmX6_changed D J [.ref h, .int (iI x)] (wM J h a L pl sp nb dn er A K T H S V P) (some (.int (iI (x)))) (wM J h a (mChL L) pl sp nb dn er A K T (mChH H K L) S V P) := by
  refine z_met (cc := cX6_changed) (nL := 3) (ret := (some .int)) (own := RX6) (by decide) rfl rfl (Nat.le_of_ble_eq_true rfl) (fun p e s m args below meth c hC hr hin => ?_)
  refine z_lv0 (lv' := [(0, .ref h), (1, .int (iI x))]) rfl ?_
  refine z_aload_n hC dX6_changed_0 rfl 0 rfl ?_
  refine z_geti hC zkX6 iX6_changed_X6 0 rfl 4 (by decide) kX6_changed_1 rfl rfl dX6_changed_1 ?_
  refine z_int (y := iI L) hC (rfl) ?_
  refine z_bipush hC dX6_changed_4 (by decide) ?_
  refine z_icmp_ne (tgt := 50) hC dX6_changed_6 (by decide) (by unfold inR; omega) ⟨by decide, by decide⟩ (fun c_6_1 => ?_) (fun c_6_1 => ?_)
  · refine z_iconst hC dX6_changed_50 ?_
    refine z_istore_n (lv' := [(2, .int (iI 0)), (0, .ref h), (1, .int (iI x))]) hC dX6_changed_51 rfl (by decide) rfl ?_
    refine z_lv (lv' := [(2, .int (iI 0)), (0, .ref h), (1, .int (iI x))]) [0, 1, 2] rfl ?_
    refine z_ws (ws' := wM J h a L pl sp nb dn er A K T (mHc H K L.toNat 0) S V P) (by rw [mHc_0]) ?_
    refine z_loop (α := Nat) (fun nn k => k + nn = 222) (fun nn k => wM J h a L pl sp nb dn er A K T (mHc H K L.toNat k) S V P) (fun nn k => [(2, .int (iI (k : Int))), (0, .ref h), (1, .int (iI x))]) 52 [] (fun nn k ih_2 hP_3 => ?_) (fun k hP_3 => ?_) 222 0 rfl
    · change Z _ _ _ _ _ _ _ _ _ _ _ _ _ _ _ _ (wM J h a L pl sp nb dn er A K T (mHc H K L.toNat k) S V P) ([(2, .int (iI (k : Int))), (0, .ref h), (1, .int (iI x))]) 52 ([])
      refine z_iload_n hC dX6_changed_52 rfl 0 rfl ?_
      refine z_sipush hC dX6_changed_53 (by decide) ?_
      refine z_icmp_ge_f (tgt := 86) hC dX6_changed_56 (by decide) (by unfold inR; omega) ⟨by decide, by decide⟩ (by omega) ?_
      refine z_aload_n hC dX6_changed_59 rfl 1 rfl ?_
      refine z_getr hC zkX6 iX6_changed_X6 0 rfl 3 (by decide) kX6_changed_2 rfl rfl dX6_changed_60 ?_
      refine z_sipush hC dX6_changed_63 (by decide) ?_
      refine z_aload_n hC dX6_changed_66 rfl 1 rfl ?_
      refine z_geti hC zkX6 iX6_changed_X6 0 rfl 4 (by decide) kX6_changed_1 rfl rfl dX6_changed_67 ?_
      refine z_int (y := iI L) hC (rfl) ?_
      refine z_imul hC dX6_changed_70 ?_
      refine z_iload_n hC dX6_changed_71 rfl 0 rfl ?_
      refine z_iadd hC dX6_changed_72 ?_
      refine z_aload_n hC dX6_changed_73 rfl 1 rfl ?_
      refine z_getr hC zkX6 iX6_changed_X6 0 rfl 1 (by decide) kX6_changed_3 rfl rfl dX6_changed_74 ?_
      refine z_iload_n hC dX6_changed_77 rfl 0 rfl ?_
      refine z_iald hC 2 rfl 0 rfl k rfl (by omega) (by decide) dX6_changed_78 ?_
      refine z_iast (ws' := wM J h a L pl sp nb dn er A K T (updZ (mHc H K L.toNat k) (222 * L.toNat + k) (K k)) S V P) hC 4 rfl 0 rfl (222 * L.toNat + k) (by omega) (by omega) (by decide) dX6_changed_79 rfl ?_
      refine z_iinc (lv' := [(2, .int (iI ((k : Int) + 1))), (0, .ref h), (1, .int (iI x))]) hC dX6_changed_80 0 rfl (by decide) rfl ?_
      refine z_goto (tgt := 52) hC dX6_changed_83 (by decide) ?_
      refine z_ws (ws' := wM J h a L pl sp nb dn er A K T (mHc H K L.toNat (k + 1)) S V P) (congrArg (fun z => wM J h a L pl sp nb dn er A K T z S V P) (mHc_s H K L.toNat k)) ?_
      refine z_lv (lv' := _) [0, 1, 2] rfl ?_
      exact ih_2 (k + 1) (by omega)
    · change Z _ _ _ _ _ _ _ _ _ _ _ _ _ _ _ _ (wM J h a L pl sp nb dn er A K T (mHc H K L.toNat k) S V P) ([(2, .int (iI (k : Int))), (0, .ref h), (1, .int (iI x))]) 52 ([])
      have hk3 : k = 222 := by omega
      refine z_iload_n hC dX6_changed_52 rfl 0 rfl ?_
      refine z_sipush hC dX6_changed_53 (by decide) ?_
      refine z_icmp_ge_t (tgt := 86) hC dX6_changed_56 (by decide) (by unfold inR; omega) ⟨by decide, by decide⟩ (by omega) ?_
      refine z_aload_n hC dX6_changed_86 rfl 1 rfl ?_
      refine z_dup hC dX6_changed_87 rfl ?_
      refine z_geti hC zkX6 iX6_changed_X6 0 rfl 4 (by decide) kX6_changed_1 rfl rfl dX6_changed_88 ?_
      refine z_int (y := iI L) hC (rfl) ?_
      refine z_iconst hC dX6_changed_91 ?_
      refine z_iadd hC dX6_changed_92 ?_
      refine z_puti (ws' := wM J h a (L + 1) pl sp nb dn er A K T (mHc H K L.toNat k) S V P) hC zkX6 iX6_changed_X6 0 rfl 4 (by decide) kX6_changed_1 rfl rfl rfl rfl rfl rfl dX6_changed_93 rfl ?_
      refine z_iload_n hC dX6_changed_96 rfl 2 rfl ?_
      exact z_iret hC hr rfl () trivial (rfl) (by subst hk3; unfold mChH mChL; rw [if_neg (by omega), if_neg (by omega)]) dX6_changed_97
  · refine z_iconst hC dX6_changed_9 ?_
    refine z_istore_n (lv' := [(2, .int (iI 0)), (0, .ref h), (1, .int (iI x))]) hC dX6_changed_10 rfl (by decide) rfl ?_
    refine z_lv (lv' := [(2, .int (iI 0)), (0, .ref h), (1, .int (iI x))]) [0, 1, 2] rfl ?_
    refine z_ws (ws' := wM J h a L pl sp nb dn er A K T (mHs H 0) S V P) (by rw [mHs_0]) ?_
    refine z_loop (α := Nat) (fun nn k => k + nn = 1110) (fun nn k => wM J h a L pl sp nb dn er A K T (mHs H k) S V P) (fun nn k => [(2, .int (iI (k : Int))), (0, .ref h), (1, .int (iI x))]) 11 [] (fun nn k ih_4 hP_5 => ?_) (fun k hP_5 => ?_) 1110 0 rfl
    · change Z _ _ _ _ _ _ _ _ _ _ _ _ _ _ _ _ (wM J h a L pl sp nb dn er A K T (mHs H k) S V P) ([(2, .int (iI (k : Int))), (0, .ref h), (1, .int (iI x))]) 11 ([])
      refine z_iload_n hC dX6_changed_11 rfl 0 rfl ?_
      refine z_sipush hC dX6_changed_12 (by decide) ?_
      refine z_icmp_ge_f (tgt := 40) hC dX6_changed_15 (by decide) (by unfold inR; omega) ⟨by decide, by decide⟩ (by omega) ?_
      refine z_aload_n hC dX6_changed_18 rfl 1 rfl ?_
      refine z_getr hC zkX6 iX6_changed_X6 0 rfl 3 (by decide) kX6_changed_2 rfl rfl dX6_changed_19 ?_
      refine z_iload_n hC dX6_changed_22 rfl 0 rfl ?_
      refine z_aload_n hC dX6_changed_23 rfl 1 rfl ?_
      refine z_getr hC zkX6 iX6_changed_X6 0 rfl 3 (by decide) kX6_changed_2 rfl rfl dX6_changed_24 ?_
      refine z_iload_n hC dX6_changed_27 rfl 0 rfl ?_
      refine z_sipush hC dX6_changed_28 (by decide) ?_
      refine z_iadd hC dX6_changed_31 ?_
      refine z_iald hC 4 rfl 0 rfl (k + 222) (by omega) (by omega) (by decide) dX6_changed_32 ?_
      refine z_iast (ws' := wM J h a L pl sp nb dn er A K T (updZ (mHs H k) k ((mHs H k) (k + 222))) S V P) hC 4 rfl 0 rfl k rfl (by omega) (by decide) dX6_changed_33 rfl ?_
      refine z_iinc (lv' := [(2, .int (iI ((k : Int) + 1))), (0, .ref h), (1, .int (iI x))]) hC dX6_changed_34 0 rfl (by decide) rfl ?_
      refine z_goto (tgt := 11) hC dX6_changed_37 (by decide) ?_
      refine z_ws (ws' := wM J h a L pl sp nb dn er A K T (mHs H (k + 1)) S V P) (congrArg (fun z => wM J h a L pl sp nb dn er A K T z S V P) (mHs_s H k)) ?_
      refine z_lv (lv' := _) [0, 1, 2] rfl ?_
      exact ih_4 (k + 1) (by omega)
    · change Z _ _ _ _ _ _ _ _ _ _ _ _ _ _ _ _ (wM J h a L pl sp nb dn er A K T (mHs H k) S V P) ([(2, .int (iI (k : Int))), (0, .ref h), (1, .int (iI x))]) 11 ([])
      have hk3 : k = 1110 := by omega
      subst hk3
      refine z_ws (ws' := wM J h a 6 pl sp nb dn er A K T (mHs H 1110) S V P) (by rw [show L = 6 by omega]) ?_
      refine z_lv0 (lv' := [(2, .int (iI 1110)), (0, .ref h), (1, .int (iI x))]) rfl ?_
      refine z_iload_n hC dX6_changed_11 rfl 0 rfl ?_
      refine z_sipush hC dX6_changed_12 (by decide) ?_
      refine z_icmp_ge_t (tgt := 40) hC dX6_changed_15 (by decide) ⟨by decide, by decide⟩ ⟨by decide, by decide⟩ (by decide) ?_
      refine z_aload_n hC dX6_changed_40 rfl 1 rfl ?_
      refine z_dup hC dX6_changed_41 rfl ?_
      refine z_geti hC zkX6 iX6_changed_X6 0 rfl 4 (by decide) kX6_changed_1 rfl rfl dX6_changed_42 ?_
      refine z_int (y := iI 6) hC (rfl) ?_
      refine z_iconst hC dX6_changed_45 ?_
      refine z_isub hC dX6_changed_46 ?_
      refine z_int (y := iI 5) hC (by decide) ?_
      refine z_puti (ws' := wM J h a 5 pl sp nb dn er A K T (mHs H 1110) S V P) hC zkX6 iX6_changed_X6 0 rfl 4 (by decide) kX6_changed_1 rfl rfl rfl rfl rfl rfl dX6_changed_47 rfl ?_
      refine z_iconst hC dX6_changed_50 ?_
      refine z_istore_n (lv' := [(2, .int (iI 0)), (0, .ref h), (1, .int (iI x))]) hC dX6_changed_51 rfl (by decide) rfl ?_
      refine z_lv (lv' := [(2, .int (iI 0)), (0, .ref h), (1, .int (iI x))]) [0, 1, 2] rfl ?_
      refine z_ws (ws' := wM J h a 5 pl sp nb dn er A K T (mHc (mHs H 1110) K 5 0) S V P) (by rw [mHc_0]) ?_
      refine z_loop (α := Nat) (fun nn k => k + nn = 222) (fun nn k => wM J h a 5 pl sp nb dn er A K T (mHc (mHs H 1110) K 5 k) S V P) (fun nn k => [(2, .int (iI (k : Int))), (0, .ref h), (1, .int (iI x))]) 52 [] (fun nn k ih_6 hP_7 => ?_) (fun k hP_7 => ?_) 222 0 rfl
      · change Z _ _ _ _ _ _ _ _ _ _ _ _ _ _ _ _ (wM J h a 5 pl sp nb dn er A K T (mHc (mHs H 1110) K 5 k) S V P) ([(2, .int (iI (k : Int))), (0, .ref h), (1, .int (iI x))]) 52 ([])
        refine z_iload_n hC dX6_changed_52 rfl 0 rfl ?_
        refine z_sipush hC dX6_changed_53 (by decide) ?_
        refine z_icmp_ge_f (tgt := 86) hC dX6_changed_56 (by decide) (by unfold inR; omega) ⟨by decide, by decide⟩ (by omega) ?_
        refine z_aload_n hC dX6_changed_59 rfl 1 rfl ?_
        refine z_getr hC zkX6 iX6_changed_X6 0 rfl 3 (by decide) kX6_changed_2 rfl rfl dX6_changed_60 ?_
        refine z_sipush hC dX6_changed_63 (by decide) ?_
        refine z_aload_n hC dX6_changed_66 rfl 1 rfl ?_
        refine z_geti hC zkX6 iX6_changed_X6 0 rfl 4 (by decide) kX6_changed_1 rfl rfl dX6_changed_67 ?_
        refine z_int (y := iI 5) hC (rfl) ?_
        refine z_imul hC dX6_changed_70 ?_
        refine z_int (y := iI 1110) hC (by decide) ?_
        refine z_iload_n hC dX6_changed_71 rfl 0 rfl ?_
        refine z_iadd hC dX6_changed_72 ?_
        refine z_aload_n hC dX6_changed_73 rfl 1 rfl ?_
        refine z_getr hC zkX6 iX6_changed_X6 0 rfl 1 (by decide) kX6_changed_3 rfl rfl dX6_changed_74 ?_
        refine z_iload_n hC dX6_changed_77 rfl 0 rfl ?_
        refine z_iald hC 2 rfl 0 rfl k rfl (by omega) (by decide) dX6_changed_78 ?_
        refine z_iast (ws' := wM J h a 5 pl sp nb dn er A K T (updZ (mHc (mHs H 1110) K 5 k) (222 * 5 + k) (K k)) S V P) hC 4 rfl 0 rfl (222 * 5 + k) (by omega) (by omega) (by decide) dX6_changed_79 rfl ?_
        refine z_iinc (lv' := [(2, .int (iI ((k : Int) + 1))), (0, .ref h), (1, .int (iI x))]) hC dX6_changed_80 0 rfl (by decide) rfl ?_
        refine z_goto (tgt := 52) hC dX6_changed_83 (by decide) ?_
        refine z_ws (ws' := wM J h a 5 pl sp nb dn er A K T (mHc (mHs H 1110) K 5 (k + 1)) S V P) (congrArg (fun z => wM J h a 5 pl sp nb dn er A K T z S V P) (mHc_s (mHs H 1110) K 5 k)) ?_
        refine z_lv (lv' := _) [0, 1, 2] rfl ?_
        exact ih_6 (k + 1) (by omega)
      · change Z _ _ _ _ _ _ _ _ _ _ _ _ _ _ _ _ (wM J h a 5 pl sp nb dn er A K T (mHc (mHs H 1110) K 5 k) S V P) ([(2, .int (iI (k : Int))), (0, .ref h), (1, .int (iI x))]) 52 ([])
        have hk3 : k = 222 := by omega
        refine z_iload_n hC dX6_changed_52 rfl 0 rfl ?_
        refine z_sipush hC dX6_changed_53 (by decide) ?_
        refine z_icmp_ge_t (tgt := 86) hC dX6_changed_56 (by decide) (by unfold inR; omega) ⟨by decide, by decide⟩ (by omega) ?_
        refine z_aload_n hC dX6_changed_86 rfl 1 rfl ?_
        refine z_dup hC dX6_changed_87 rfl ?_
        refine z_geti hC zkX6 iX6_changed_X6 0 rfl 4 (by decide) kX6_changed_1 rfl rfl dX6_changed_88 ?_
        refine z_int (y := iI 5) hC (rfl) ?_
        refine z_iconst hC dX6_changed_91 ?_
        refine z_iadd hC dX6_changed_92 ?_
        refine z_int (y := iI 6) hC (by decide) ?_
        refine z_puti (ws' := wM J h a 6 pl sp nb dn er A K T (mHc (mHs H 1110) K 5 k) S V P) hC zkX6 iX6_changed_X6 0 rfl 4 (by decide) kX6_changed_1 rfl rfl rfl rfl rfl rfl dX6_changed_93 rfl ?_
        refine z_iload_n hC dX6_changed_96 rfl 2 rfl ?_
        exact z_iret hC hr rfl () trivial (rfl) (by subst hk3; unfold mChH mChL; rw [if_pos (by omega), if_pos (by omega)]) dX6_changed_97
