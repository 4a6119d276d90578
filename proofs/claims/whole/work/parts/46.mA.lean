abbrev rmX6_in : Room := { frames := 0, cells := 0, slots := 0, locals := 0 }
set_option maxHeartbeats 4000000 in
set_option maxRecDepth 100000 in
theorem t_X6_in (l : Launch) (D : va_G) (J : Nat → ClassId) (v lo hi : Int) (hv : inL v) (hlo : inL lo) (hhi : inL hi) : ZX l yX6_in wsX6_in rmX6_in D J [.long (lI v), .long (lI lo), .long (lI hi)] ([] : va_W) (some (.int (iI (mIn v lo hi)))) ([] : va_W) := by
  unfold inL at hv hlo hhi
  refine z_met (cc := cX6_in) (nL := 6) (ret := (some .boolean)) (own := RX6) (by decide) rfl rfl (Nat.le_of_ble_eq_true rfl) (fun p e s m args below meth c hC hr hin => ?_)
  refine z_lv0 (lv' := [(0, .long (lI v)), (2, .long (lI lo)), (4, .long (lI hi))]) rfl ?_
  refine z_lload_n hC dX6_in_0 rfl 0 rfl ?_
  refine z_lload_n hC dX6_in_1 rfl 1 rfl ?_
  refine z_lcmp (v := sgnZ v lo) hC dX6_in_2 (l_cmp (by unfold inL; omega) (by unfold inL; omega)) ?_
  have hsg_1 := sgnZ_spec v lo
  refine z_if_lt (tgt := 17) hC dX6_in_3 (by decide) (by unfold inR; omega) (fun c_3_2 => ?_) (fun c_3_2 => ?_)
  · refine z_iconst hC dX6_in_17 ?_
    exact z_iret hC hr rfl () trivial (hvi (by unfold mIn; (repeat' split) <;> first | rfl | omega)) (by rfl) dX6_in_18
  · refine z_lload_n hC dX6_in_6 rfl 0 rfl ?_
    refine z_lload hC dX6_in_7 2 rfl ?_
    refine z_lcmp (v := sgnZ v hi) hC dX6_in_9 (l_cmp (by unfold inL; omega) (by unfold inL; omega)) ?_
    have hsg_3 := sgnZ_spec v hi
    refine z_if_gt (tgt := 17) hC dX6_in_10 (by decide) (by unfold inR; omega) (fun c_10_4 => ?_) (fun c_10_4 => ?_)
    · refine z_iconst hC dX6_in_17 ?_
      exact z_iret hC hr rfl () trivial (hvi (by unfold mIn; (repeat' split) <;> first | rfl | omega)) (by rfl) dX6_in_18
    · refine z_iconst hC dX6_in_13 ?_
      refine z_goto (tgt := 18) hC dX6_in_14 (by decide) ?_
      exact z_iret hC hr rfl () trivial (hvi (by unfold mIn; (repeat' split) <;> first | rfl | omega)) (by rfl) dX6_in_18
abbrev rmX6_orderOf : Room := { frames := 0, cells := 0, slots := 0, locals := 0 }
set_option maxHeartbeats 4000000 in
set_option maxRecDepth 100000 in
theorem t_X6_orderOf (l : Launch) (D : va_G) (J : Nat → ClassId) (q : Int) (hq : 0 ≤ q ∧ q ≤ 3) : ZX l yX6_orderOf wsX6_orderOf rmX6_orderOf D J [.int (iI q)] ([] : va_W) (some (.int (iI (mOrd q)))) ([] : va_W) := by
  refine z_met (cc := cX6_orderOf) (nL := 1) (ret := (some .int)) (own := RX6) (by decide) rfl rfl (Nat.le_of_ble_eq_true rfl) (fun p e s m args below meth c hC hr hin => ?_)
  refine z_lv0 (lv' := [(0, .int (iI q))]) rfl ?_
  refine z_iload_n hC dX6_orderOf_0 rfl 0 rfl ?_
  refine z_iconst hC dX6_orderOf_1 ?_
  refine z_icmp_ge (tgt := 9) hC dX6_orderOf_2 (by decide) (by unfold inR; omega) ⟨by decide, by decide⟩ (fun c_2_1 => ?_) (fun c_2_1 => ?_)
  · refine z_iconst hC dX6_orderOf_9 ?_
    refine z_iload_n hC dX6_orderOf_10 rfl 0 rfl ?_
    refine z_isub hC dX6_orderOf_11 ?_
    exact z_iret hC hr rfl () trivial (hvi (by unfold mOrd; (repeat' split) <;> first | rfl | omega)) (by rfl) dX6_orderOf_12
  · refine z_iload_n hC dX6_orderOf_5 rfl 0 rfl ?_
    refine z_goto (tgt := 12) hC dX6_orderOf_6 (by decide) ?_
    exact z_iret hC hr rfl () trivial (hvi (by unfold mOrd; (repeat' split) <;> first | rfl | omega)) (by rfl) dX6_orderOf_12
abbrev rmX6_pairAt : Room := { frames := 0, cells := 0, slots := 0, locals := 0 }
set_option maxHeartbeats 4000000 in
set_option maxRecDepth 100000 in
theorem t_X6_pairAt (l : Launch) (D : va_G) (J : Nat → ClassId) (q : Int) (hq : 0 ≤ q ∧ q ≤ 3) : ZX l yX6_pairAt wsX6_pairAt rmX6_pairAt D J [.int (iI q)] ([] : va_W) (some (.int (iI (mOrd q)))) ([] : va_W) := by
  refine z_met (cc := cX6_pairAt) (nL := 1) (ret := (some .int)) (own := RX6) (by decide) rfl rfl (Nat.le_of_ble_eq_true rfl) (fun p e s m args below meth c hC hr hin => ?_)
  refine z_lv0 (lv' := [(0, .int (iI q))]) rfl ?_
  refine z_iload_n hC dX6_pairAt_0 rfl 0 rfl ?_
  refine z_iconst hC dX6_pairAt_1 ?_
  refine z_icmp_ge (tgt := 9) hC dX6_pairAt_2 (by decide) (by unfold inR; omega) ⟨by decide, by decide⟩ (fun c_2_1 => ?_) (fun c_2_1 => ?_)
  · refine z_iconst hC dX6_pairAt_9 ?_
    refine z_iload_n hC dX6_pairAt_10 rfl 0 rfl ?_
    refine z_isub hC dX6_pairAt_11 ?_
    exact z_iret hC hr rfl () trivial (hvi (by unfold mOrd; (repeat' split) <;> first | rfl | omega)) (by rfl) dX6_pairAt_12
  · refine z_iload_n hC dX6_pairAt_5 rfl 0 rfl ?_
    refine z_goto (tgt := 12) hC dX6_pairAt_6 (by decide) ?_
    exact z_iret hC hr rfl () trivial (hvi (by unfold mOrd; (repeat' split) <;> first | rfl | omega)) (by rfl) dX6_pairAt_12
set_option maxRecDepth 20000 in
theorem iX6_deedOf_X6 : ∀ w ∈ u_ws RX6 TX6 13, w ∈ wsX6_deedOf := zm_places _ [6, 7, 8, 9, 10, 11, 12, 13, 14, 15, 16, 17, 18] (by decide +kernel)
theorem kX6_deedOf_1 : Cond.fieldLink RX6 7 "StepPairsModel" "all" "[I" ∈ wsX6_deedOf := List.mem_of_getElem? (i := 1) rfl
abbrev rmX6_deedOf : Room := { frames := 1, cells := 0, slots := 0, locals := 20 }
set_option maxHeartbeats 4000000 in
set_option maxRecDepth 100000 in
theorem t_X6_deedOf (l : Launch) (D : va_G) (J : Nat → ClassId) (h : Nat) (a : Nat → Nat) (L pl sp nb dn er : Int) (A K T H S V P : Nat → Int) (q : Int) (hq : 0 ≤ q ∧ q ≤ 3) (hI : InvM A) : ZX l yX6_deedOf wsX6_deedOf rmX6_deedOf D J [.ref h, .int (iI q)] (wM J h a L pl sp nb dn er A K T H S V P) (some (.int (iI (mDeed A q)))) (wM J h a L pl sp nb dn er A K T H S V P) := by
  obtain ⟨m0, m1, m2, m3, m4, m5, m6, m7, m8, m9, m10, m13, m14, m15, m16, m17, m18, m19, m20, mg⟩ := id hI
  refine z_met (cc := cX6_deedOf) (nL := 4) (ret := (some .int)) (own := RX6) (by decide) rfl rfl (Nat.le_of_ble_eq_true rfl) (fun p e s m args below meth c hC hr hin => ?_)
  refine z_lv0 (lv' := [(0, .ref h), (1, .int (iI q))]) rfl ?_
  refine z_iload_n hC dX6_deedOf_0 rfl 1 rfl ?_
  refine z_aload_n hC dX6_deedOf_1 rfl 0 rfl ?_
  refine z_getr hC zkX6 iX6_deedOf_X6 0 rfl 0 (by decide) kX6_deedOf_1 rfl rfl dX6_deedOf_2 ?_
  refine z_bipush hC dX6_deedOf_5 (by decide) ?_
  refine z_iald hC 1 rfl 0 rfl 15 rfl (by decide) (by decide) dX6_deedOf_7 ?_
  refine z_icmp_ne (tgt := 32) hC dX6_deedOf_8 (by decide) (by unfold inR; omega) (by unfold inR; omega) (fun c_8_1 => ?_) (fun c_8_1 => ?_)
  · refine z_iconst hC dX6_deedOf_32 ?_
    refine z_istore_n (lv' := [(2, .int (iI 1)), (0, .ref h), (1, .int (iI q))]) hC dX6_deedOf_33 rfl (by decide) rfl ?_
    refine z_iload_n hC dX6_deedOf_34 rfl 2 rfl ?_
    refine z_aload_n hC dX6_deedOf_35 rfl 1 rfl ?_
    refine z_getr hC zkX6 iX6_deedOf_X6 0 rfl 0 (by decide) kX6_deedOf_1 rfl rfl dX6_deedOf_36 ?_
    refine z_bipush hC dX6_deedOf_39 (by decide) ?_
    refine z_iald hC 1 rfl 0 rfl 8 rfl (by decide) (by decide) dX6_deedOf_41 ?_
    refine z_icmp_eq (tgt := 55) hC dX6_deedOf_42 (by decide) (by unfold inR; omega) (by unfold inR; omega) (fun c_42_2 => ?_) (fun c_42_2 => ?_)
    · refine z_iconst hC dX6_deedOf_55 ?_
      exact z_iret hC hr rfl () trivial (hvi (by unfold mDeed mLasts; (repeat' split) <;> first | rfl | omega)) (rfl) dX6_deedOf_56
    · refine z_iload_n hC dX6_deedOf_45 rfl 0 rfl ?_
      refine z_aload_n hC dX6_deedOf_46 rfl 1 rfl ?_
      refine z_getr hC zkX6 iX6_deedOf_X6 0 rfl 0 (by decide) kX6_deedOf_1 rfl rfl dX6_deedOf_47 ?_
      refine z_iconst hC dX6_deedOf_50 ?_
      refine z_iald hC 1 rfl 0 rfl 2 rfl (by decide) (by decide) dX6_deedOf_51 ?_
      refine z_icmp_ge (tgt := 57) hC dX6_deedOf_52 (by decide) ⟨by decide, by decide⟩ (by unfold inR; omega) (fun c_52_3 => ?_) (fun c_52_3 => ?_)
      · refine z_iload_n hC dX6_deedOf_57 rfl 2 rfl ?_
        refine z_callS (wr := wM J h a L pl sp nb dn er A K T H S V P) (av := [.int (iI q)]) (st := []) hC (t_X6_orderOf l D J q hq) gX6_deedOf_X6_orderOf rfl 1 (by decide +kernel) ⟨Nat.le_of_ble_eq_true rfl, Nat.le_of_ble_eq_true rfl⟩ ⟨Nat.le_of_ble_eq_true rfl, Nat.le_of_ble_eq_true rfl⟩ [] [0, 1, 2, 3, 4, 5, 6, 7] rfl rfl rfl (by decide) rfl rfl rfl (Nat.le_of_ble_eq_true rfl) dX6_deedOf_58 (fun _ _ => ?_)
        refine z_ws (ws' := wM J h a L pl sp nb dn er A K T H S V P) rfl ?_
        refine z_st (st' := [.int (iI (mOrd q))]) rfl ?_
        have ho_4 := mOrd_in (q := q) hq
        refine z_iconst hC dX6_deedOf_61 ?_
        refine z_iadd hC dX6_deedOf_62 ?_
        refine z_aload_n hC dX6_deedOf_63 rfl 1 rfl ?_
        refine z_getr hC zkX6 iX6_deedOf_X6 0 rfl 0 (by decide) kX6_deedOf_1 rfl rfl dX6_deedOf_64 ?_
        refine z_bipush hC dX6_deedOf_67 (by decide) ?_
        refine z_iald hC 1 rfl 0 rfl 8 rfl (by decide) (by decide) dX6_deedOf_69 ?_
        refine z_callS (wr := wM J h a L pl sp nb dn er A K T H S V P) (av := [.int (iI (A 8))]) (st := [.int (iI ((mOrd q) + 4))]) hC (t_X6_orderOf l D J (A 8) m8) gX6_deedOf_X6_orderOf rfl 1 (by decide +kernel) ⟨Nat.le_of_ble_eq_true rfl, Nat.le_of_ble_eq_true rfl⟩ ⟨Nat.le_of_ble_eq_true rfl, Nat.le_of_ble_eq_true rfl⟩ [] [0, 1, 2, 3, 4, 5, 6, 7] rfl rfl rfl (by decide) rfl rfl rfl (Nat.le_of_ble_eq_true rfl) dX6_deedOf_70 (fun _ _ => ?_)
        refine z_ws (ws' := wM J h a L pl sp nb dn er A K T H S V P) rfl ?_
        refine z_st (st' := [.int (iI (mOrd (A 8))), .int (iI ((mOrd q) + 4))]) rfl ?_
        have ho_5 := mOrd_in (q := A 8) m8
        refine z_isub hC dX6_deedOf_73 ?_
        refine z_iconst hC dX6_deedOf_74 ?_
        refine z_irem hC dX6_deedOf_75 (by omega) (by omega) (by omega) (by omega) ?_
        refine z_istore_n (lv' := [(3, .int (iI ((((mOrd q) + 4) - (mOrd (A 8))) % 4))), (2, .int (iI 1)), (0, .ref h), (1, .int (iI q))]) hC dX6_deedOf_76 rfl (by decide) rfl ?_
        refine z_iload_n hC dX6_deedOf_77 rfl 0 rfl ?_
        refine z_iconst hC dX6_deedOf_78 ?_
        refine z_icmp_ne (tgt := 86) hC dX6_deedOf_79 (by decide) (by unfold inR; omega) ⟨by decide, by decide⟩ (fun c_79_6 => ?_) (fun c_79_6 => ?_)
        · refine z_iload_n hC dX6_deedOf_86 rfl 0 rfl ?_
          refine z_iconst hC dX6_deedOf_87 ?_
          refine z_icmp_ne (tgt := 95) hC dX6_deedOf_88 (by decide) (by unfold inR; omega) ⟨by decide, by decide⟩ (fun c_88_7 => ?_) (fun c_88_7 => ?_)
          · refine z_iconst hC dX6_deedOf_95 ?_
            exact z_iret hC hr rfl () trivial (hvi (by unfold mDeed mLasts; (repeat' split) <;> first | rfl | omega)) (rfl) dX6_deedOf_96
          · refine z_iconst hC dX6_deedOf_91 ?_
            refine z_goto (tgt := 96) hC dX6_deedOf_92 (by decide) ?_
            exact z_iret hC hr rfl () trivial (hvi (by unfold mDeed mLasts; (repeat' split) <;> first | rfl | omega)) (rfl) dX6_deedOf_96
        · refine z_iconst hC dX6_deedOf_82 ?_
          refine z_goto (tgt := 96) hC dX6_deedOf_83 (by decide) ?_
          exact z_iret hC hr rfl () trivial (hvi (by unfold mDeed mLasts; (repeat' split) <;> first | rfl | omega)) (rfl) dX6_deedOf_96
      · refine z_iconst hC dX6_deedOf_55 ?_
        exact z_iret hC hr rfl () trivial (hvi (by unfold mDeed mLasts; (repeat' split) <;> first | rfl | omega)) (rfl) dX6_deedOf_56
  · refine z_aload_n hC dX6_deedOf_11 rfl 0 rfl ?_
    refine z_getr hC zkX6 iX6_deedOf_X6 0 rfl 0 (by decide) kX6_deedOf_1 rfl rfl dX6_deedOf_12 ?_
    refine z_iconst hC dX6_deedOf_15 ?_
    refine z_iald hC 1 rfl 0 rfl 5 rfl (by decide) (by decide) dX6_deedOf_16 ?_
    refine z_if_le (tgt := 32) hC dX6_deedOf_17 (by decide) (by unfold inR; omega) (fun c_17_8 => ?_) (fun c_17_8 => ?_)
    · refine z_iconst hC dX6_deedOf_32 ?_
      refine z_istore_n (lv' := [(2, .int (iI 1)), (0, .ref h), (1, .int (iI q))]) hC dX6_deedOf_33 rfl (by decide) rfl ?_
      refine z_iload_n hC dX6_deedOf_34 rfl 2 rfl ?_
      refine z_aload_n hC dX6_deedOf_35 rfl 1 rfl ?_
      refine z_getr hC zkX6 iX6_deedOf_X6 0 rfl 0 (by decide) kX6_deedOf_1 rfl rfl dX6_deedOf_36 ?_
      refine z_bipush hC dX6_deedOf_39 (by decide) ?_
      refine z_iald hC 1 rfl 0 rfl 8 rfl (by decide) (by decide) dX6_deedOf_41 ?_
      refine z_icmp_eq (tgt := 55) hC dX6_deedOf_42 (by decide) (by unfold inR; omega) (by unfold inR; omega) (fun c_42_9 => ?_) (fun c_42_9 => ?_)
      · refine z_iconst hC dX6_deedOf_55 ?_
        exact z_iret hC hr rfl () trivial (hvi (by unfold mDeed mLasts; (repeat' split) <;> first | rfl | omega)) (rfl) dX6_deedOf_56
      · refine z_iload_n hC dX6_deedOf_45 rfl 0 rfl ?_
        refine z_aload_n hC dX6_deedOf_46 rfl 1 rfl ?_
        refine z_getr hC zkX6 iX6_deedOf_X6 0 rfl 0 (by decide) kX6_deedOf_1 rfl rfl dX6_deedOf_47 ?_
        refine z_iconst hC dX6_deedOf_50 ?_
        refine z_iald hC 1 rfl 0 rfl 2 rfl (by decide) (by decide) dX6_deedOf_51 ?_
        refine z_icmp_ge (tgt := 57) hC dX6_deedOf_52 (by decide) ⟨by decide, by decide⟩ (by unfold inR; omega) (fun c_52_10 => ?_) (fun c_52_10 => ?_)
        · refine z_iload_n hC dX6_deedOf_57 rfl 2 rfl ?_
          refine z_callS (wr := wM J h a L pl sp nb dn er A K T H S V P) (av := [.int (iI q)]) (st := []) hC (t_X6_orderOf l D J q hq) gX6_deedOf_X6_orderOf rfl 1 (by decide +kernel) ⟨Nat.le_of_ble_eq_true rfl, Nat.le_of_ble_eq_true rfl⟩ ⟨Nat.le_of_ble_eq_true rfl, Nat.le_of_ble_eq_true rfl⟩ [] [0, 1, 2, 3, 4, 5, 6, 7] rfl rfl rfl (by decide) rfl rfl rfl (Nat.le_of_ble_eq_true rfl) dX6_deedOf_58 (fun _ _ => ?_)
          refine z_ws (ws' := wM J h a L pl sp nb dn er A K T H S V P) rfl ?_
          refine z_st (st' := [.int (iI (mOrd q))]) rfl ?_
          have ho_11 := mOrd_in (q := q) hq
          refine z_iconst hC dX6_deedOf_61 ?_
          refine z_iadd hC dX6_deedOf_62 ?_
          refine z_aload_n hC dX6_deedOf_63 rfl 1 rfl ?_
          refine z_getr hC zkX6 iX6_deedOf_X6 0 rfl 0 (by decide) kX6_deedOf_1 rfl rfl dX6_deedOf_64 ?_
          refine z_bipush hC dX6_deedOf_67 (by decide) ?_
          refine z_iald hC 1 rfl 0 rfl 8 rfl (by decide) (by decide) dX6_deedOf_69 ?_
          refine z_callS (wr := wM J h a L pl sp nb dn er A K T H S V P) (av := [.int (iI (A 8))]) (st := [.int (iI ((mOrd q) + 4))]) hC (t_X6_orderOf l D J (A 8) m8) gX6_deedOf_X6_orderOf rfl 1 (by decide +kernel) ⟨Nat.le_of_ble_eq_true rfl, Nat.le_of_ble_eq_true rfl⟩ ⟨Nat.le_of_ble_eq_true rfl, Nat.le_of_ble_eq_true rfl⟩ [] [0, 1, 2, 3, 4, 5, 6, 7] rfl rfl rfl (by decide) rfl rfl rfl (Nat.le_of_ble_eq_true rfl) dX6_deedOf_70 (fun _ _ => ?_)
          refine z_ws (ws' := wM J h a L pl sp nb dn er A K T H S V P) rfl ?_
          refine z_st (st' := [.int (iI (mOrd (A 8))), .int (iI ((mOrd q) + 4))]) rfl ?_
          have ho_12 := mOrd_in (q := A 8) m8
          refine z_isub hC dX6_deedOf_73 ?_
          refine z_iconst hC dX6_deedOf_74 ?_
          refine z_irem hC dX6_deedOf_75 (by omega) (by omega) (by omega) (by omega) ?_
          refine z_istore_n (lv' := [(3, .int (iI ((((mOrd q) + 4) - (mOrd (A 8))) % 4))), (2, .int (iI 1)), (0, .ref h), (1, .int (iI q))]) hC dX6_deedOf_76 rfl (by decide) rfl ?_
          refine z_iload_n hC dX6_deedOf_77 rfl 0 rfl ?_
          refine z_iconst hC dX6_deedOf_78 ?_
          refine z_icmp_ne (tgt := 86) hC dX6_deedOf_79 (by decide) (by unfold inR; omega) ⟨by decide, by decide⟩ (fun c_79_13 => ?_) (fun c_79_13 => ?_)
          · refine z_iload_n hC dX6_deedOf_86 rfl 0 rfl ?_
            refine z_iconst hC dX6_deedOf_87 ?_
            refine z_icmp_ne (tgt := 95) hC dX6_deedOf_88 (by decide) (by unfold inR; omega) ⟨by decide, by decide⟩ (fun c_88_14 => ?_) (fun c_88_14 => ?_)
            · refine z_iconst hC dX6_deedOf_95 ?_
              exact z_iret hC hr rfl () trivial (hvi (by unfold mDeed mLasts; (repeat' split) <;> first | rfl | omega)) (rfl) dX6_deedOf_96
            · refine z_iconst hC dX6_deedOf_91 ?_
              refine z_goto (tgt := 96) hC dX6_deedOf_92 (by decide) ?_
              exact z_iret hC hr rfl () trivial (hvi (by unfold mDeed mLasts; (repeat' split) <;> first | rfl | omega)) (rfl) dX6_deedOf_96
          · refine z_iconst hC dX6_deedOf_82 ?_
            refine z_goto (tgt := 96) hC dX6_deedOf_83 (by decide) ?_
            exact z_iret hC hr rfl () trivial (hvi (by unfold mDeed mLasts; (repeat' split) <;> first | rfl | omega)) (rfl) dX6_deedOf_96
        · refine z_iconst hC dX6_deedOf_55 ?_
          exact z_iret hC hr rfl () trivial (hvi (by unfold mDeed mLasts; (repeat' split) <;> first | rfl | omega)) (rfl) dX6_deedOf_56
    · refine z_aload_n hC dX6_deedOf_20 rfl 0 rfl ?_
      refine z_getr hC zkX6 iX6_deedOf_X6 0 rfl 0 (by decide) kX6_deedOf_1 rfl rfl dX6_deedOf_21 ?_
      refine z_bipush hC dX6_deedOf_24 (by decide) ?_
      refine z_iald hC 1 rfl 0 rfl 16 rfl (by decide) (by decide) dX6_deedOf_26 ?_
      refine z_iconst hC dX6_deedOf_27 ?_
      refine z_iadd hC dX6_deedOf_28 ?_
      refine z_goto (tgt := 33) hC dX6_deedOf_29 (by decide) ?_
      refine z_istore_n (lv' := [(2, .int (iI ((A 16) + 1))), (0, .ref h), (1, .int (iI q))]) hC dX6_deedOf_33 rfl (by decide) rfl ?_
      refine z_iload_n hC dX6_deedOf_34 rfl 2 rfl ?_
      refine z_aload_n hC dX6_deedOf_35 rfl 1 rfl ?_
      refine z_getr hC zkX6 iX6_deedOf_X6 0 rfl 0 (by decide) kX6_deedOf_1 rfl rfl dX6_deedOf_36 ?_
      refine z_bipush hC dX6_deedOf_39 (by decide) ?_
      refine z_iald hC 1 rfl 0 rfl 8 rfl (by decide) (by decide) dX6_deedOf_41 ?_
      refine z_icmp_eq (tgt := 55) hC dX6_deedOf_42 (by decide) (by unfold inR; omega) (by unfold inR; omega) (fun c_42_15 => ?_) (fun c_42_15 => ?_)
      · refine z_iconst hC dX6_deedOf_55 ?_
        exact z_iret hC hr rfl () trivial (hvi (by unfold mDeed mLasts; (repeat' split) <;> first | rfl | omega)) (rfl) dX6_deedOf_56
      · refine z_iload_n hC dX6_deedOf_45 rfl 0 rfl ?_
        refine z_aload_n hC dX6_deedOf_46 rfl 1 rfl ?_
        refine z_getr hC zkX6 iX6_deedOf_X6 0 rfl 0 (by decide) kX6_deedOf_1 rfl rfl dX6_deedOf_47 ?_
        refine z_iconst hC dX6_deedOf_50 ?_
        refine z_iald hC 1 rfl 0 rfl 2 rfl (by decide) (by decide) dX6_deedOf_51 ?_
        refine z_icmp_ge (tgt := 57) hC dX6_deedOf_52 (by decide) (by unfold inR; omega) (by unfold inR; omega) (fun c_52_16 => ?_) (fun c_52_16 => ?_)
        · refine z_iload_n hC dX6_deedOf_57 rfl 2 rfl ?_
          refine z_callS (wr := wM J h a L pl sp nb dn er A K T H S V P) (av := [.int (iI q)]) (st := []) hC (t_X6_orderOf l D J q hq) gX6_deedOf_X6_orderOf rfl 1 (by decide +kernel) ⟨Nat.le_of_ble_eq_true rfl, Nat.le_of_ble_eq_true rfl⟩ ⟨Nat.le_of_ble_eq_true rfl, Nat.le_of_ble_eq_true rfl⟩ [] [0, 1, 2, 3, 4, 5, 6, 7] rfl rfl rfl (by decide) rfl rfl rfl (Nat.le_of_ble_eq_true rfl) dX6_deedOf_58 (fun _ _ => ?_)
          refine z_ws (ws' := wM J h a L pl sp nb dn er A K T H S V P) rfl ?_
          refine z_st (st' := [.int (iI (mOrd q))]) rfl ?_
          have ho_17 := mOrd_in (q := q) hq
          refine z_iconst hC dX6_deedOf_61 ?_
          refine z_iadd hC dX6_deedOf_62 ?_
          refine z_aload_n hC dX6_deedOf_63 rfl 1 rfl ?_
          refine z_getr hC zkX6 iX6_deedOf_X6 0 rfl 0 (by decide) kX6_deedOf_1 rfl rfl dX6_deedOf_64 ?_
          refine z_bipush hC dX6_deedOf_67 (by decide) ?_
          refine z_iald hC 1 rfl 0 rfl 8 rfl (by decide) (by decide) dX6_deedOf_69 ?_
          refine z_callS (wr := wM J h a L pl sp nb dn er A K T H S V P) (av := [.int (iI (A 8))]) (st := [.int (iI ((mOrd q) + 4))]) hC (t_X6_orderOf l D J (A 8) m8) gX6_deedOf_X6_orderOf rfl 1 (by decide +kernel) ⟨Nat.le_of_ble_eq_true rfl, Nat.le_of_ble_eq_true rfl⟩ ⟨Nat.le_of_ble_eq_true rfl, Nat.le_of_ble_eq_true rfl⟩ [] [0, 1, 2, 3, 4, 5, 6, 7] rfl rfl rfl (by decide) rfl rfl rfl (Nat.le_of_ble_eq_true rfl) dX6_deedOf_70 (fun _ _ => ?_)
          refine z_ws (ws' := wM J h a L pl sp nb dn er A K T H S V P) rfl ?_
          refine z_st (st' := [.int (iI (mOrd (A 8))), .int (iI ((mOrd q) + 4))]) rfl ?_
          have ho_18 := mOrd_in (q := A 8) m8
          refine z_isub hC dX6_deedOf_73 ?_
          refine z_iconst hC dX6_deedOf_74 ?_
          refine z_irem hC dX6_deedOf_75 (by omega) (by omega) (by omega) (by omega) ?_
          refine z_istore_n (lv' := [(3, .int (iI ((((mOrd q) + 4) - (mOrd (A 8))) % 4))), (2, .int (iI ((A 16) + 1))), (0, .ref h), (1, .int (iI q))]) hC dX6_deedOf_76 rfl (by decide) rfl ?_
          refine z_iload_n hC dX6_deedOf_77 rfl 0 rfl ?_
          refine z_iconst hC dX6_deedOf_78 ?_
          refine z_icmp_ne (tgt := 86) hC dX6_deedOf_79 (by decide) (by unfold inR; omega) ⟨by decide, by decide⟩ (fun c_79_19 => ?_) (fun c_79_19 => ?_)
          · refine z_iload_n hC dX6_deedOf_86 rfl 0 rfl ?_
            refine z_iconst hC dX6_deedOf_87 ?_
            refine z_icmp_ne (tgt := 95) hC dX6_deedOf_88 (by decide) (by unfold inR; omega) ⟨by decide, by decide⟩ (fun c_88_20 => ?_) (fun c_88_20 => ?_)
            · refine z_iconst hC dX6_deedOf_95 ?_
              exact z_iret hC hr rfl () trivial (hvi (by unfold mDeed mLasts; (repeat' split) <;> first | rfl | omega)) (rfl) dX6_deedOf_96
            · refine z_iconst hC dX6_deedOf_91 ?_
              refine z_goto (tgt := 96) hC dX6_deedOf_92 (by decide) ?_
              exact z_iret hC hr rfl () trivial (hvi (by unfold mDeed mLasts; (repeat' split) <;> first | rfl | omega)) (rfl) dX6_deedOf_96
          · refine z_iconst hC dX6_deedOf_82 ?_
            refine z_goto (tgt := 96) hC dX6_deedOf_83 (by decide) ?_
            exact z_iret hC hr rfl () trivial (hvi (by unfold mDeed mLasts; (repeat' split) <;> first | rfl | omega)) (rfl) dX6_deedOf_96
        · refine z_iconst hC dX6_deedOf_55 ?_
          exact z_iret hC hr rfl () trivial (hvi (by unfold mDeed mLasts; (repeat' split) <;> first | rfl | omega)) (rfl) dX6_deedOf_56
set_option maxRecDepth 20000 in
theorem iX6_doZero_X6 : ∀ w ∈ u_ws RX6 TX6 13, w ∈ wsX6_doZero := zm_places _ [2, 3, 4, 5, 6, 7, 8, 9, 10, 11, 12, 13, 14] (by decide +kernel)
theorem kX6_doZero_1 : Cond.fieldLink RX6 7 "StepPairsModel" "all" "[I" ∈ wsX6_doZero := List.mem_of_getElem? (i := 1) rfl
abbrev rmX6_doZero : Room := { frames := 0, cells := 0, slots := 0, locals := 0 }
set_option maxHeartbeats 4000000 in
set_option maxRecDepth 100000 in
theorem t_X6_doZero (l : Launch) (D : va_G) (J : Nat → ClassId) (h : Nat) (a : Nat → Nat) (L pl sp nb dn er : Int) (A K T H S V P : Nat → Int)  : ZX l yX6_doZero wsX6_doZero rmX6_doZero D J [.ref h] (wM J h a L pl sp nb dn er A K T H S V P) (some (.int (iI (A 6)))) (wM J h a L pl sp nb dn er (updZ (updZ A 6 0) 7 0) K T H S V P) := by
  refine z_met (cc := cX6_doZero) (nL := 2) (ret := (some .int)) (own := RX6) (by decide) rfl rfl (Nat.le_of_ble_eq_true rfl) (fun p e s m args below meth c hC hr hin => ?_)
  refine z_lv0 (lv' := [(0, .ref h)]) rfl ?_
  refine z_aload_n hC dX6_doZero_0 rfl 0 rfl ?_
  refine z_getr hC zkX6 iX6_doZero_X6 0 rfl 0 (by decide) kX6_doZero_1 rfl rfl dX6_doZero_1 ?_
  refine z_bipush hC dX6_doZero_4 (by decide) ?_
  refine z_iald hC 1 rfl 0 rfl 6 rfl (by decide) (by decide) dX6_doZero_6 ?_
  refine z_istore_n (lv' := [(1, .int (iI (A 6))), (0, .ref h)]) hC dX6_doZero_7 rfl (by decide) rfl ?_
  refine z_aload_n hC dX6_doZero_8 rfl 1 rfl ?_
  refine z_getr hC zkX6 iX6_doZero_X6 0 rfl 0 (by decide) kX6_doZero_1 rfl rfl dX6_doZero_9 ?_
  refine z_bipush hC dX6_doZero_12 (by decide) ?_
  refine z_iconst hC dX6_doZero_14 ?_
  refine z_iast (ws' := wM J h a L pl sp nb dn er (updZ A 6 0) K T H S V P) hC 1 rfl 0 rfl 6 rfl (by decide) (by decide) dX6_doZero_15 rfl ?_
  refine z_aload_n hC dX6_doZero_16 rfl 1 rfl ?_
  refine z_getr hC zkX6 iX6_doZero_X6 0 rfl 0 (by decide) kX6_doZero_1 rfl rfl dX6_doZero_17 ?_
  refine z_bipush hC dX6_doZero_20 (by decide) ?_
  refine z_iconst hC dX6_doZero_22 ?_
  refine z_iast (ws' := wM J h a L pl sp nb dn er (updZ (updZ A 6 0) 7 0) K T H S V P) hC 1 rfl 0 rfl 7 rfl (by decide) (by decide) dX6_doZero_23 rfl ?_
  refine z_iload_n hC dX6_doZero_24 rfl 0 rfl ?_
  exact z_iret hC hr rfl () trivial (rfl) (rfl) dX6_doZero_25
set_option maxRecDepth 20000 in
theorem iX6_does_X6 : ∀ w ∈ u_ws RX6 TX6 13, w ∈ wsX6_does := zm_places _ [2, 3, 4, 5, 6, 7, 8, 9, 10, 11, 12, 13, 14] (by decide +kernel)
theorem kX6_does_1 : Cond.fieldLink RX6 150 "StepPairsModel" "error" "I" ∈ wsX6_does := List.mem_of_getElem? (i := 1) rfl
abbrev rmX6_does : Room := { frames := 0, cells := 0, slots := 0, locals := 0 }
set_option maxHeartbeats 4000000 in
set_option maxRecDepth 100000 in
theorem t_X6_does (l : Launch) (D : va_G) (J : Nat → ClassId) (h : Nat) (a : Nat → Nat) (L pl sp nb dn er : Int) (A K T H S V P : Nat → Int) (x : Int) (hx : inR x) : ZX l yX6_does wsX6_does rmX6_does D J [.ref h, .int (iI x)] (wM J h a L pl sp nb dn er A K T H S V P) none (wM J h a L pl sp nb dn (if x < 0 then x else 0) A K T H S V P) := by
  unfold inR at hx
  refine z_met (cc := cX6_does) (nL := 2) (ret := none) (own := RX6) (by decide) rfl rfl (Nat.le_of_ble_eq_true rfl) (fun p e s m args below meth c hC hr hin => ?_)
  refine z_lv0 (lv' := [(0, .ref h), (1, .int (iI x))]) rfl ?_
  refine z_aload_n hC dX6_does_0 rfl 0 rfl ?_
  refine z_iload_n hC dX6_does_1 rfl 1 rfl ?_
  refine z_if_ge (tgt := 9) hC dX6_does_2 (by decide) (by unfold inR; omega) (fun c_2_1 => ?_) (fun c_2_1 => ?_)
  · refine z_iconst hC dX6_does_9 ?_
    refine z_puti (ws' := wM J h a L pl sp nb dn 0 A K T H S V P) hC zkX6 iX6_does_X6 0 rfl 12 (by decide) kX6_does_1 rfl rfl rfl rfl rfl rfl dX6_does_10 rfl ?_
    exact z_vret hC hr () trivial rfl (by first | rw [if_pos (by assumption)] | rw [if_neg (by omega)]) dX6_does_13
  · refine z_iload_n hC dX6_does_5 rfl 1 rfl ?_
    refine z_goto (tgt := 10) hC dX6_does_6 (by decide) ?_
    refine z_puti (ws' := wM J h a L pl sp nb dn x A K T H S V P) hC zkX6 iX6_does_X6 0 rfl 12 (by decide) kX6_does_1 rfl rfl rfl rfl rfl rfl dX6_does_10 rfl ?_
    exact z_vret hC hr () trivial rfl (by first | rw [if_pos (by assumption)] | rw [if_neg (by omega)]) dX6_does_13
set_option maxRecDepth 20000 in
theorem iX6_wipe_X6 : ∀ w ∈ u_ws RX6 TX6 13, w ∈ wsX6_wipe := zm_places _ [2, 3, 4, 5, 6, 7, 8, 9, 10, 11, 12, 13, 14] (by decide +kernel)
theorem kX6_wipe_1 : Cond.fieldLink RX6 109 "StepPairsModel" "padLong" "I" ∈ wsX6_wipe := List.mem_of_getElem? (i := 1) rfl
abbrev rmX6_wipe : Room := { frames := 0, cells := 0, slots := 0, locals := 0 }
set_option maxHeartbeats 4000000 in
set_option maxRecDepth 100000 in
theorem t_X6_wipe (l : Launch) (D : va_G) (J : Nat → ClassId) (h : Nat) (a : Nat → Nat) (L pl sp nb dn er : Int) (A K T H S V P : Nat → Int)  : ZX l yX6_wipe wsX6_wipe rmX6_wipe D J [.ref h] (wM J h a L pl sp nb dn er A K T H S V P) (some (.int (iI (pl)))) (wM J h a L 0 sp nb dn er A K T H S V P) := by
  refine z_met (cc := cX6_wipe) (nL := 2) (ret := (some .int)) (own := RX6) (by decide) rfl rfl (Nat.le_of_ble_eq_true rfl) (fun p e s m args below meth c hC hr hin => ?_)
  refine z_lv0 (lv' := [(0, .ref h)]) rfl ?_
  refine z_aload_n hC dX6_wipe_0 rfl 0 rfl ?_
  refine z_geti hC zkX6 iX6_wipe_X6 0 rfl 8 (by decide) kX6_wipe_1 rfl rfl dX6_wipe_1 ?_
  refine z_int (y := iI pl) hC (rfl) ?_
  refine z_istore_n (lv' := [(1, .int (iI pl)), (0, .ref h)]) hC dX6_wipe_4 rfl (by decide) rfl ?_
  refine z_aload_n hC dX6_wipe_5 rfl 1 rfl ?_
  refine z_iconst hC dX6_wipe_6 ?_
  refine z_puti (ws' := wM J h a L 0 sp nb dn er A K T H S V P) hC zkX6 iX6_wipe_X6 0 rfl 8 (by decide) kX6_wipe_1 rfl rfl rfl rfl rfl rfl dX6_wipe_7 rfl ?_
  refine z_iload_n hC dX6_wipe_10 rfl 0 rfl ?_
  exact z_iret hC hr rfl () trivial (rfl) (rfl) dX6_wipe_11
