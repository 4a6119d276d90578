theorem kX3_init_1 : Cond.methodLink RX3 3 objectInit ∈ wsX3_init := List.mem_of_getElem? (i := 1) rfl
theorem kX3_init_2 : Cond.instanceMethod objectInit ∈ wsX3_init := List.mem_of_getElem? (i := 2) rfl
theorem kX3_init_3 : Cond.code objectInit ⟨#[0xb1]⟩ 1 none ∈ wsX3_init := List.mem_of_getElem? (i := 3) rfl
theorem kX3_init_4 : Cond.arrayClass .char ∈ wsX3_init := List.mem_of_getElem? (i := 4) rfl
set_option maxRecDepth 20000 in
theorem iX3_init_X3 : ∀ w ∈ u_ws RX3 TX3 6, w ∈ wsX3_init := zm_places _ [6, 7, 8, 9, 10, 11] (by decide +kernel)
theorem kX3_init_5 : Cond.fieldLink RX3 9 "StepPairs$Pad" "characters" "[C" ∈ wsX3_init := List.mem_of_getElem? (i := 5) rfl
abbrev rmX3_init : Room := { frames := 1, cells := 1, slots := 80, locals := 12 }
set_option maxHeartbeats 4000000 in
set_option maxRecDepth 100000 in
theorem t_X3_init (l : Launch) (D : va_G) (J : Nat → ClassId) (h : Nat) : ZM (S := Nat) l yX3_init wsX3_init rmX3_init D J [.ref h] ([(h, .inr (2, [.null, .int (iI 0), .int (iI 0), .int (iI 0), .int (iI 0), .int (iI 0)]))]) (fun _ => True) (fun _ => none) (fun u => wPad J h u 0 0 0 0 0 (fun _ => 0)) := by
  refine z_met (cc := cX3_init) (nL := 1) (ret := none) (own := RX3) (by decide) rfl rfl (Nat.le_of_ble_eq_true rfl) (fun p e s m args below meth c hC hr hin => ?_)
  refine z_lv0 (lv' := [(0, .ref h)]) rfl ?_
  refine z_aload_n hC dX3_init_0 rfl 0 rfl ?_
  refine z_objInit hC kX3_init_1 kX3_init_2 kX3_init_3 (Nat.le_of_ble_eq_true rfl) (Nat.le_of_ble_eq_true rfl) dX3_init_1 ?_
  refine z_aload_n hC dX3_init_4 rfl 0 rfl ?_
  refine z_bipush hC dX3_init_5 (by decide) ?_
  refine z_newarr (atype := .char) (ty := .char) (N' := 80) (t0 := 1) (cA0 := J 1) hC kX3_init_4 rfl rfl rfl (fun _ h => h) rfl (by decide) (Nat.le_of_ble_eq_true rfl) (Nat.le_of_ble_eq_true rfl) (Nat.le_of_ble_eq_true rfl) dX3_init_7 (fun q_1 => ?_)
  refine z_ws (ws' := [(h, .inr (2, [.null, .int (iI 0), .int (iI 0), .int (iI 0), .int (iI 0), .int (iI 0)])), cI (J 1) q_1 80 (fun _ => 0)]) rfl ?_
  refine z_putF (ws' := [cO 2 h [some q_1, none, none, none, none, none] (fun _ => 0), cI (J 1) q_1 80 (fun _ => 0)]) hC zkX3 iX3_init_X3 0 rfl 0 (by decide) kX3_init_5 rfl rfl rfl hin rfl rfl rfl (Nat.le_of_ble_eq_true rfl) dX3_init_9 rfl ?_
  exact z_vret hC hr q_1 trivial rfl rfl dX3_init_12
