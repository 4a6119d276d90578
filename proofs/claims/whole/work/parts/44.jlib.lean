abbrev rmJxe99ae_isNaN_b9ae7 : Room := { frames := 0, cells := 0, slots := 0, locals := 0 }
set_option maxHeartbeats 4000000 in
set_option maxRecDepth 100000 in
theorem t_Jxe99ae_isNaN_b9ae7 (l : Launch) (D : va_G) (J : Nat → ClassId) (x : UInt64) (hx : Jvm.FP.Core.val64 x ≠ .nan) : ZX l yJxe99ae_isNaN_b9ae7 wsJxe99ae_isNaN_b9ae7 rmJxe99ae_isNaN_b9ae7 D J [.double x] ([] : va_W) (some (.int (iI 0))) ([] : va_W) := by
  refine z_met (cc := cJxe99ae_isNaN_b9ae7) (nL := 2) (ret := (some .boolean)) (own := RJxe99ae) (by decide +kernel) rfl rfl (Nat.le_of_ble_eq_true rfl) (fun p e s m args below meth c hC hr hin => ?_)
  refine z_lv0 (lv' := [(0, .double x)]) rfl ?_
  refine z_dload_n hC dJxe99ae_isNaN_b9ae7_0 rfl 0 rfl ?_
  refine z_dload_n hC dJxe99ae_isNaN_b9ae7_1 rfl 0 rfl ?_
  refine z_dcmp hC 0 dJxe99ae_isNaN_b9ae7_2 (by rw [show Jvm.FP.dcmp x x = some .eq from Jvm.FP.Core.dcmp_self hx]; rfl) ?_
  refine z_if_eq_t (tgt := 10) hC dJxe99ae_isNaN_b9ae7_3 (by decide) ⟨by decide, by decide⟩ (by decide) ?_
  refine z_iconst hC dJxe99ae_isNaN_b9ae7_10 ?_
  exact z_iret hC hr rfl () trivial (by rfl) (by rfl) dJxe99ae_isNaN_b9ae7_11
theorem kJxe99ae_doubleToLongBits_ccdee_1 : Cond.methodLink RJxe99ae 134 ⟨"java/lang/Double", "doubleToRawLongBits", "(D)J"⟩ ∈ wsJxe99ae_doubleToLongBits_ccdee := List.mem_of_getElem? (i := 1) rfl
theorem kJxe99ae_doubleToLongBits_ccdee_2 : Cond.native ⟨"java/lang/Double", "doubleToRawLongBits", "(D)J"⟩ ∈ wsJxe99ae_doubleToLongBits_ccdee := List.mem_of_getElem? (i := 2) rfl
theorem kJxe99ae_doubleToLongBits_ccdee_3 : Cond.static ⟨"java/lang/Double", "doubleToRawLongBits", "(D)J"⟩ ∈ wsJxe99ae_doubleToLongBits_ccdee := List.mem_of_getElem? (i := 3) rfl
theorem kJxe99ae_doubleToLongBits_ccdee_4 : Cond.initialized "java/lang/Double" ∈ wsJxe99ae_doubleToLongBits_ccdee := List.mem_of_getElem? (i := 4) rfl
abbrev rmJxe99ae_doubleToLongBits_ccdee : Room := { frames := 1, cells := 0, slots := 0, locals := 21 }
set_option maxHeartbeats 4000000 in
set_option maxRecDepth 100000 in
theorem t_Jxe99ae_doubleToLongBits_ccdee (l : Launch) (D : va_G) (J : Nat → ClassId) (x : UInt64) (hx : Jvm.FP.Core.val64 x ≠ .nan) : ZX l yJxe99ae_doubleToLongBits_ccdee wsJxe99ae_doubleToLongBits_ccdee rmJxe99ae_doubleToLongBits_ccdee D J [.double x] ([] : va_W) (some (.long x.toInt64)) ([] : va_W) := by
  refine z_met (cc := cJxe99ae_doubleToLongBits_ccdee) (nL := 2) (ret := (some .long)) (own := RJxe99ae) (by decide +kernel) rfl rfl (Nat.le_of_ble_eq_true rfl) (fun p e s m args below meth c hC hr hin => ?_)
  refine z_lv0 (lv' := [(0, .double x)]) rfl ?_
  refine z_dload_n hC dJxe99ae_doubleToLongBits_ccdee_0 rfl 0 rfl ?_
  refine z_callS (wr := ([] : va_W)) (av := [.double x]) (st := []) hC (t_Jxe99ae_isNaN_b9ae7 l D J x hx) gJxe99ae_doubleToLongBits_ccdee_Jxe99ae_isNaN_b9ae7 rfl 1 (by decide +kernel) ⟨Nat.le_of_ble_eq_true rfl, Nat.le_of_ble_eq_true rfl⟩ ⟨Nat.le_of_ble_eq_true rfl, Nat.le_of_ble_eq_true rfl⟩ [] [] rfl rfl rfl (by decide) rfl rfl rfl (Nat.le_of_ble_eq_true rfl) dJxe99ae_doubleToLongBits_ccdee_1 (fun _ _ => ?_)
  refine z_ws (ws' := ([] : va_W)) rfl ?_
  refine z_st (st' := [.int (iI 0)]) rfl ?_
  refine z_if_ne_f (tgt := 12) hC dJxe99ae_doubleToLongBits_ccdee_4 (by decide) ⟨by decide, by decide⟩ (by decide) ?_
  refine z_dload_n hC dJxe99ae_doubleToLongBits_ccdee_7 rfl 0 rfl ?_
  refine z_doubleToRawLongBits hC kJxe99ae_doubleToLongBits_ccdee_1 kJxe99ae_doubleToLongBits_ccdee_2 kJxe99ae_doubleToLongBits_ccdee_3 kJxe99ae_doubleToLongBits_ccdee_4 (Nat.le_of_ble_eq_true rfl) (Nat.le_of_ble_eq_true rfl) dJxe99ae_doubleToLongBits_ccdee_8 ?_
  exact z_lret hC hr () trivial (by rfl) (by rfl) dJxe99ae_doubleToLongBits_ccdee_11
abbrev rmJxf58ca_isNaN_12338 : Room := { frames := 0, cells := 0, slots := 0, locals := 0 }
set_option maxHeartbeats 4000000 in
set_option maxRecDepth 100000 in
theorem t_Jxf58ca_isNaN_12338 (l : Launch) (D : va_G) (J : Nat → ClassId) (x : UInt32) (hx : Jvm.FP.Core.val32 x ≠ .nan) : ZX l yJxf58ca_isNaN_12338 wsJxf58ca_isNaN_12338 rmJxf58ca_isNaN_12338 D J [.float x] ([] : va_W) (some (.int (iI 0))) ([] : va_W) := by
  refine z_metF (cc := cJxf58ca_isNaN_12338) (nL := 1) (ret := (some .boolean)) (own := RJxf58ca) (by decide +kernel) rfl rfl (Nat.le_of_ble_eq_true rfl) (fun p e s m args below meth c hC hr hin => ?_)
  refine z_lv0 (lv' := [(0, .float x)]) rfl ?_
  refine z_fload_n hC dJxf58ca_isNaN_12338_0 rfl 0 rfl ?_
  refine z_fload_n hC dJxf58ca_isNaN_12338_1 rfl 0 rfl ?_
  refine z_fcmp hC 0 dJxf58ca_isNaN_12338_2 (by rw [show Jvm.FP.fcmp x x = some .eq from Jvm.FP.Core.fcmp_self hx]; rfl) ?_
  refine z_if_eq_t (tgt := 10) hC dJxf58ca_isNaN_12338_3 (by decide) ⟨by decide, by decide⟩ (by decide) ?_
  refine z_iconst hC dJxf58ca_isNaN_12338_10 ?_
  exact z_iret hC hr rfl () trivial (by rfl) (by rfl) dJxf58ca_isNaN_12338_11
theorem kJxf58ca_floatToIntBits_5c35a_1 : Cond.methodLink RJxf58ca 74 ⟨"java/lang/Float", "floatToRawIntBits", "(F)I"⟩ ∈ wsJxf58ca_floatToIntBits_5c35a := List.mem_of_getElem? (i := 1) rfl
theorem kJxf58ca_floatToIntBits_5c35a_2 : Cond.native ⟨"java/lang/Float", "floatToRawIntBits", "(F)I"⟩ ∈ wsJxf58ca_floatToIntBits_5c35a := List.mem_of_getElem? (i := 2) rfl
theorem kJxf58ca_floatToIntBits_5c35a_3 : Cond.static ⟨"java/lang/Float", "floatToRawIntBits", "(F)I"⟩ ∈ wsJxf58ca_floatToIntBits_5c35a := List.mem_of_getElem? (i := 3) rfl
theorem kJxf58ca_floatToIntBits_5c35a_4 : Cond.initialized "java/lang/Float" ∈ wsJxf58ca_floatToIntBits_5c35a := List.mem_of_getElem? (i := 4) rfl
abbrev rmJxf58ca_floatToIntBits_5c35a : Room := { frames := 1, cells := 0, slots := 0, locals := 20 }
set_option maxHeartbeats 4000000 in
set_option maxRecDepth 100000 in
theorem t_Jxf58ca_floatToIntBits_5c35a (l : Launch) (D : va_G) (J : Nat → ClassId) (x : UInt32) (hx : Jvm.FP.Core.val32 x ≠ .nan) : ZX l yJxf58ca_floatToIntBits_5c35a wsJxf58ca_floatToIntBits_5c35a rmJxf58ca_floatToIntBits_5c35a D J [.float x] ([] : va_W) (some (.int (iI ((x.toNat : Nat) : Int)))) ([] : va_W) := by
  refine z_metF (cc := cJxf58ca_floatToIntBits_5c35a) (nL := 1) (ret := (some .int)) (own := RJxf58ca) (by decide +kernel) rfl rfl (Nat.le_of_ble_eq_true rfl) (fun p e s m args below meth c hC hr hin => ?_)
  refine z_lv0 (lv' := [(0, .float x)]) rfl ?_
  refine z_fload_n hC dJxf58ca_floatToIntBits_5c35a_0 rfl 0 rfl ?_
  refine z_callS (wr := ([] : va_W)) (av := [.float x]) (st := []) hC (t_Jxf58ca_isNaN_12338 l D J x hx) gJxf58ca_floatToIntBits_5c35a_Jxf58ca_isNaN_12338 rfl 1 (by decide +kernel) ⟨Nat.le_of_ble_eq_true rfl, Nat.le_of_ble_eq_true rfl⟩ ⟨Nat.le_of_ble_eq_true rfl, Nat.le_of_ble_eq_true rfl⟩ [] [] rfl rfl rfl (by decide) rfl rfl rfl (Nat.le_of_ble_eq_true rfl) dJxf58ca_floatToIntBits_5c35a_1 (fun _ _ => ?_)
  refine z_ws (ws' := ([] : va_W)) rfl ?_
  refine z_st (st' := [.int (iI 0)]) rfl ?_
  refine z_if_ne_f (tgt := 12) hC dJxf58ca_floatToIntBits_5c35a_4 (by decide) ⟨by decide, by decide⟩ (by decide) ?_
  refine z_fload_n hC dJxf58ca_floatToIntBits_5c35a_7 rfl 0 rfl ?_
  refine z_floatToRawIntBits hC kJxf58ca_floatToIntBits_5c35a_1 kJxf58ca_floatToIntBits_5c35a_2 kJxf58ca_floatToIntBits_5c35a_3 kJxf58ca_floatToIntBits_5c35a_4 (Nat.le_of_ble_eq_true rfl) (Nat.le_of_ble_eq_true rfl) dJxf58ca_floatToIntBits_5c35a_8 ?_
  exact z_iret hC hr rfl () trivial (by rfl) (by rfl) dJxf58ca_floatToIntBits_5c35a_11
