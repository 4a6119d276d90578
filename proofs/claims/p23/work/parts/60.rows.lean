/-! ===== p23: rows for the law's own methods: any world beside a call, any int shifted, the script ===== -/
theorem rng_map {α : Type} (ws : List α) : (List.range ws.length).map (fun i => ws[i]?) = ws.map some := by
  apply List.ext_getElem?
  intro i
  rw [List.getElem?_map, List.getElem?_map]
  by_cases h : i < ws.length
  · rw [List.getElem?_range h]
    show some (ws[i]?) = Option.map some (ws[i]?)
    rw [List.getElem?_eq_getElem h]
    rfl
  · have h1 : (List.range ws.length)[i]? = none := List.getElem?_eq_none (by rw [List.length_range]; omega)
    have h2 : ws[i]? = none := List.getElem?_eq_none (by omega)
    rw [h1, h2]
    rfl
theorem nd_of : ∀ l : List Nat, l.Nodup → va_nd l = true
  | [], _ => rfl
  | a :: l, h => by
    rw [List.nodup_cons] at h
    show (decide (a ∉ l) && va_nd l) = true
    rw [nd_of l h.2, decide_eq_true h.1]
    rfl
section ZR5
variable {p : Program} {l : Launch} {e : Env} {R : Room} {s : State} {m : MethodId} {args : Array Value} {below : List Frame} {meth : Method} {c : Code} {cells slots : Nat} {Q : State → Prop} {A : Nat → Prop} {nL : Nat} {D : va_G} {J : Nat → ClassId} {cc : ByteArray} {own : String} {Ts : List Cond} {ws ws' : va_W} {lv lv' : List (Nat × Value)} {pc : Nat} {st : List Value}
theorem z_callS0 {S : Type} {y : MethodName} {wsY ws0 : List Cond} {rm : Room} {bytes : ByteArray} {maxL index : Nat} {ret : Option FieldType} {av : List Value} {P : S → Prop} {v : S → Option Value} {st0 : List Value} (hC : zC p s m args meth c A nL D J cc own Ts)
    (hM : ZM l y wsY rm D J av [] P v (fun _ => [])) (hT : GoodIn Ts (va_wsS own index y wsY)) (hw : wsY = .code y bytes maxL ret :: ws0) (n : Nat)
    (hd : y.cls ≠ "java/lang/invoke/MethodHandle" ∧ y.cls ≠ "java/lang/invoke/VarHandle" ∧ (parseMethodDescriptor y.desc).map (fun d => d.parameters.length) = some n)
    (hR : rm.frames + 1 ≤ R.frames ∧ 8 + (maxL + 11) + rm.locals ≤ R.locals) (hcap : cells + rm.cells ≤ R.cells ∧ slots + rm.slots ≤ R.slots)
    (hlen : av.length = n) (hst : st0 = av.reverse ++ st) (hcat : (st.map fun v => v.category).sum ≤ 8) (hdg : decode cc pc = .ok (.invokestatic index, 3))
    (kk : ∀ u : S, P u → Z p l e R s m args below meth c A nL D (cells + rm.cells) (slots + rm.slots) Q ws lv (pc + 3) ((v u).toList ++ st)) : Z p l e R s m args below meth c A nL D cells slots Q ws lv pc st0 :=
  z_callS (wr := ws) (w1 := fun _ => []) hC hM hT hw n hd hR hcap [] (List.range ws.length) rfl (rng_map ws) (nd_of _ List.nodup_range) (fun _ _ h => absurd h List.not_mem_nil) rfl hlen hst hcat hdg (fun u hu => by
    rw [List.append_nil]
    exact kk u hu)
theorem z_ishrA (hC : zC p s m args meth c A nL D J cc own Ts) {x y : Int32} (hdg : decode cc pc = .ok (.ishr, 1)) (kk : ∀ z : Int, Z p l e R s m args below meth c A nL D cells slots Q ws lv (pc + 1) (.int (iI z) :: st)) : Z p l e R s m args below meth c A nL D cells slots Q ws lv pc (.int y :: .int x :: st) :=
  z_ishrR hC hdg (iI_of _) (kk _)
theorem iI_and31b (a : Int) : iI a &&& iI 2147483647 = iI (a % 2147483648) := by
  have h : (iI 2147483647).toBitVec.toNat = 2 ^ 31 - 1 := by decide
  rw [pk_and (iI a) 31 h]
  have e : (iI a).toBitVec = BitVec.ofInt 32 a := rfl
  rw [e, BitVec.toNat_ofInt]
  show Int32.ofNat _ = Int32.ofInt _
  rw [← Int32.ofInt_eq_ofNat]
  congr 1
  omega
theorem z_lxor (hC : zC p s m args meth c A nL D J cc own Ts) {x y v : Int64} (hdg : decode cc pc = .ok (.lxor, 1)) (hv : x ^^^ y = v) (kk : Z p l e R s m args below meth c A nL D cells slots Q ws lv (pc + 1) (.long v :: st)) : Z p l e R s m args below meth c A nL D cells slots Q ws lv pc (.long y :: .long x :: st) := fun H locs ls hP hD hS hl => lv_lxor hC.1.1 hC.1.2.1 hdg (hv ▸ kk H locs ls hP hD hS hl)
theorem z_icmp_ne_same (hC : zC p s m args meth c A nL D J cc own Ts) {x : Int32} {off : Int} {tgt : Nat} (hdg : decode cc pc = .ok (.if_icmp .ne off, 3)) (ht : (pc : Int) + off = (tgt : Int)) (kf : Z p l e R s m args below meth c A nL D cells slots Q ws lv (pc + 3) st) : Z p l e R s m args below meth c A nL D cells slots Q ws lv pc (.int x :: .int x :: st) :=
  fun H locs ls hP hD hS hl => lv_icmp_ne hC.1.1 hC.1.2.1 hdg ht (fun h => absurd rfl h) (fun _ => kf H locs ls hP hD hS hl)
theorem l_cmp_same (x : Int64) : lg_cmp x x = iI 0 := by
  unfold lg_cmp
  rw [if_neg (show ¬ x > x from fun h => by rw [gt_iff_lt, Int64.lt_iff_toInt_lt] at h; omega)]
  first | rfl | (rw [if_pos rfl]; rfl)
theorem z_sld {b N : Nat} {xs : Nat → Int32} (hC : zC p s m args meth c A nL D J cc own Ts) (hX : va_X b N xs s s.heap) (hbl : b < s.heap.size) (hbA : ¬ A b) {z : Int} (k : Nat) (hz : z = (k : Int)) (hk : k < N) (hN : N < 2147483648) (hdg : decode cc pc = .ok (.iaload, 1))
    (kk : Z p l e R s m args below meth c A nL D cells slots Q ws lv (pc + 1) (.int (iI (xs k).toInt) :: st)) : Z p l e R s m args below meth c A nL D cells slots Q ws lv pc (.int (iI z) :: .ref b :: st) := by
  intro H locs ls hP hD hS hl
  refine va_sld hC.1.1 hC.1.2.1 hX hbl hbA hS (iI_in hz hk hN).1 hdg ?_
  rw [(iI_in hz hk hN).2, iI_of (xs k)]
  exact kk H locs ls hP hD hS hl
theorem z_slen {b N : Nat} {xs : Nat → Int32} (hC : zC p s m args meth c A nL D J cc own Ts) (hX : va_X b N xs s s.heap) (hbl : b < s.heap.size) (hbA : ¬ A b) (hdg : decode cc pc = .ok (.arraylength, 1))
    (kk : Z p l e R s m args below meth c A nL D cells slots Q ws lv (pc + 1) (.int (iI (N : Int)) :: st)) : Z p l e R s m args below meth c A nL D cells slots Q ws lv pc (.ref b :: st) := by
  intro H locs ls hP hD hS hl
  refine va_slen hC.1.1 hC.1.2.1 hX hbl hbA hS hdg ?_
  rw [show Int32.ofNat N = iI (N : Int) from iI_nat N]
  exact kk H locs ls hP hD hS hl
end ZR5
/-! the law's small methods -/
theorem kL_up_1 : Cond.constant RL 8 (2147483647) ∈ wsL_up := List.mem_of_getElem? (i := 1) rfl
abbrev rmL_up : Room := { frames := 0, cells := 0, slots := 0, locals := 0 }
set_option maxHeartbeats 4000000 in
set_option maxRecDepth 100000 in
theorem t_L_up (l : Launch) (D : va_G) (J : Nat → ClassId) (v n : Int) (hn : 0 < n ∧ n ≤ 100) : ZM (S := Int) l yL_up wsL_up rmL_up D J [.int (iI v), .int (iI n)] [] (fun u => 0 ≤ u ∧ u < n) (fun u => some (.int (iI u))) (fun _ => []) := by
  refine z_met (cc := cL_up) (nL := 2) (ret := (some .int)) (own := RL) (by decide) rfl rfl (Nat.le_of_ble_eq_true rfl) (fun p e s m args below meth c hC hr hin => ?_)
  refine z_lv0 (lv' := [(0, .int (iI v)), (1, .int (iI n))]) rfl ?_
  refine z_iload_n hC dL_up_0 rfl 0 rfl ?_
  refine z_ldc hC 2147483647 kL_up_1 dL_up_1 (by decide) ?_
  refine z_iandR hC dL_up_3 (iI_and31b v) ?_
  refine z_iload_n hC dL_up_4 rfl 1 rfl ?_
  refine z_irem hC dL_up_5 (by omega) (by omega) (by omega) (by omega) ?_
  exact z_iret hC hr rfl (v % 2147483648 % n) ⟨Int.emod_nonneg _ (by omega), Int.emod_lt_of_pos _ hn.1⟩ rfl rfl dL_up_6
abbrev rmL_there : Room := { frames := 0, cells := 0, slots := 0, locals := 0 }
set_option maxHeartbeats 4000000 in
set_option maxRecDepth 100000 in
theorem t_L_there (l : Launch) (D : va_G) (J : Nat → ClassId) (v : Int) (hv : inR v) : ZX l yL_there wsL_there rmL_there D J [.int (iI v)] [] (some (.int (iI (swZ v)))) [] := by
  refine z_met (cc := cL_there) (nL := 1) (ret := (some .int)) (own := RL) (by decide) rfl rfl (Nat.le_of_ble_eq_true rfl) (fun p e s m args below meth c hC hr hin => ?_)
  refine z_lv0 (lv' := [(0, .int (iI v))]) rfl ?_
  refine z_iload_n hC dL_there_0 rfl 0 rfl ?_
  refine z_iconst hC dL_there_1 ?_
  refine z_icmp_ne (tgt := 9) hC dL_there_2 (by decide) hv ⟨by decide, by decide⟩ (fun c1 => ?_) (fun c1 => ?_)
  · refine z_iload_n hC dL_there_9 rfl 0 rfl ?_
    refine z_iconst hC dL_there_10 ?_
    refine z_icmp_ne (tgt := 18) hC dL_there_11 (by decide) hv ⟨by decide, by decide⟩ (fun c2 => ?_) (fun c2 => ?_)
    · refine z_iload_n hC dL_there_18 rfl 0 rfl ?_
      exact z_iret hC hr rfl () trivial (hvi (by unfold swZ; rw [if_neg c1, if_neg c2])) rfl dL_there_19
    · refine z_iconst hC dL_there_14 ?_
      refine z_goto (tgt := 19) hC dL_there_15 (by decide) ?_
      exact z_iret hC hr rfl () trivial (hvi (by unfold swZ; rw [if_neg c1, if_pos c2])) rfl dL_there_19
  · refine z_iconst hC dL_there_5 ?_
    refine z_goto (tgt := 19) hC dL_there_6 (by decide) ?_
    exact z_iret hC hr rfl () trivial (hvi (by unfold swZ; rw [if_pos c1])) rfl dL_there_19
abbrev rmL_way : Room := { frames := 0, cells := 0, slots := 0, locals := 0 }
set_option maxHeartbeats 4000000 in
set_option maxRecDepth 100000 in
theorem t_L_way (l : Launch) (D : va_G) (J : Nat → ClassId) (v : Int) (hv : inR v) : ZX l yL_way wsL_way rmL_way D J [.int (iI v)] [] (some (.int (iI (swZ v)))) [] := by
  refine z_met (cc := cL_way) (nL := 1) (ret := (some .int)) (own := RL) (by decide) rfl rfl (Nat.le_of_ble_eq_true rfl) (fun p e s m args below meth c hC hr hin => ?_)
  refine z_lv0 (lv' := [(0, .int (iI v))]) rfl ?_
  refine z_iload_n hC dL_way_0 rfl 0 rfl ?_
  refine z_iconst hC dL_way_1 ?_
  refine z_icmp_ne (tgt := 9) hC dL_way_2 (by decide) hv ⟨by decide, by decide⟩ (fun c1 => ?_) (fun c1 => ?_)
  · refine z_iload_n hC dL_way_9 rfl 0 rfl ?_
    refine z_iconst hC dL_way_10 ?_
    refine z_icmp_ne (tgt := 18) hC dL_way_11 (by decide) hv ⟨by decide, by decide⟩ (fun c2 => ?_) (fun c2 => ?_)
    · refine z_iload_n hC dL_way_18 rfl 0 rfl ?_
      exact z_iret hC hr rfl () trivial (hvi (by unfold swZ; rw [if_neg c1, if_neg c2])) rfl dL_way_19
    · refine z_iconst hC dL_way_14 ?_
      refine z_goto (tgt := 19) hC dL_way_15 (by decide) ?_
      exact z_iret hC hr rfl () trivial (hvi (by unfold swZ; rw [if_neg c1, if_pos c2])) rfl dL_way_19
  · refine z_iconst hC dL_way_5 ?_
    refine z_goto (tgt := 19) hC dL_way_6 (by decide) ?_
    exact z_iret hC hr rfl () trivial (hvi (by unfold swZ; rw [if_pos c1])) rfl dL_way_19
abbrev rmL_against : Room := { frames := 0, cells := 0, slots := 0, locals := 0 }
set_option maxHeartbeats 4000000 in
set_option maxRecDepth 100000 in
theorem t_L_against (l : Launch) (D : va_G) (J : Nat → ClassId) (v n : Int) (hv : inR v) : ZX l yL_against wsL_against rmL_against D J [.int (iI v), .int (iI n)] [] (some (.int (iI (agZ v n)))) [] := by
  refine z_met (cc := cL_against) (nL := 2) (ret := (some .int)) (own := RL) (by decide) rfl rfl (Nat.le_of_ble_eq_true rfl) (fun p e s m args below meth c hC hr hin => ?_)
  refine z_lv0 (lv' := [(0, .int (iI v)), (1, .int (iI n))]) rfl ?_
  refine z_iload_n hC dL_against_0 rfl 0 rfl ?_
  refine z_if_ne (tgt := 8) hC dL_against_1 (by decide) hv (fun c1 => ?_) (fun c1 => ?_)
  · refine z_iload_n hC dL_against_8 rfl 1 rfl ?_
    refine z_iload_n hC dL_against_9 rfl 0 rfl ?_
    refine z_isub hC dL_against_10 ?_
    exact z_iret hC hr rfl () trivial (hvi (by unfold agZ; rw [if_neg c1])) rfl dL_against_11
  · refine z_iconst hC dL_against_4 ?_
    refine z_goto (tgt := 11) hC dL_against_5 (by decide) ?_
    exact z_iret hC hr rfl () trivial (hvi (by unfold agZ; rw [if_pos c1])) rfl dL_against_11
/-! a contract that reads the script -/
def zPX (D : va_G) (J : Nat → ClassId) (sz b N : Nat) (xs : Nat → Int32) : State → Prop := fun U => zP D J [] sz U ∧ b < sz ∧ va_X b N xs U U.heap
theorem zPX_blind {D : va_G} {J : Nat → ClassId} {sz b N : Nat} {xs : Nat → Int32} {av : List Value} : FrameBlind (va_Pc av (zPX D J sz b N xs)) := by
  intro a U g mk q
  obtain ⟨q0, ⟨q1, q2, q3, q4, q5⟩, q6, q7⟩ := q
  exact ⟨q0, ⟨q1, q2, va_K.moved (u := U) (U := U.calling g mk a) (Vm.Alike.refl U.vm) q3, q4, zS.moved (u := U) (U := U.calling g mk a) q5 rfl⟩, q6, va_X.moved (u := U) (U := U.calling g mk a) (Vm.Alike.refl U.vm) q7⟩
theorem kL_cell_1 : Cond.constant RL 7 (2042946225) ∈ wsL_cell := List.mem_of_getElem? (i := 1) rfl
abbrev rmL_cell : Room := { frames := 0, cells := 0, slots := 0, locals := 0 }
set_option maxHeartbeats 4000000 in
set_option maxRecDepth 100000 in
theorem t_L_cell (l : Launch) (D : va_G) (J : Nat → ClassId) (b N : Nat) (xs : Nat → Int32) (hN : N ≤ 260) (k : Nat) (hk : k ≤ 48) : ∀ sz : Nat, Met l yL_cell wsL_cell rmL_cell (va_Pc [.ref b, .int (iI (k : Int))] (zPX D J sz b N xs)) (zQ (S := Int) D J sz [] (fun _ => True) (fun u => some (.int (iI u))) (fun _ => [])) rmL_cell.cells rmL_cell.slots (va_A [] sz) := by
  intro sz
  refine Met.ofW (cc := cL_cell) (maxL := 2) (ret := (some .int)) (by decide) rfl ?_
  intro p e s m args below meth c s₁ B hml hv
  obtain ⟨rfl, ⟨hsz, hP, hK, hD0, hS0⟩, hbl, hX⟩ := hv
  subst hsz
  have hl := lv_entry [Value.ref b, .int (iI (k : Int))] (n := 2) (Nat.le_of_ble_eq_true rfl)
  have hC : zC p s m ([Value.ref b, .int (iI (k : Int))] : List Value).toArray meth c (va_A [] s.heap.size) 2 D J cL_cell RL wsL_cell := ⟨⟨B.exec, B.bytes, hml, findClass_of_methodNamed B.named, atoms_spec (ws := wsL_cell) B.pre⟩, hK, fun q h => Or.inr h, hS0, B.notSynchronized⟩
  have hr := B.returns
  have hbA : ¬ va_A [] s.heap.size b := fun h => by
    rcases h with ⟨k, e, h⟩ | h
    · simp at h
    · omega
  have body : Z p l e (headSpec wsL_cell rmL_cell).room s m ([Value.ref b, .int (iI (k : Int))] : List Value).toArray below meth c (va_A [] s.heap.size) 2 D 0 0 (zE below ([Value.ref b, .int (iI (k : Int))] : List Value).toArray s D J [] (fun _ : Int => True) (fun u : Int => some (.int (iI u))) (fun _ : Int => []) rmL_cell.cells rmL_cell.slots) [] (lv_args 0 [Value.ref b, .int (iI (k : Int))]) 0 [] := by
    refine z_lv0 (lv' := [(0, .ref b), (1, .int (iI (k : Int)))]) rfl ?_
    refine z_iload_n hC dL_cell_0 rfl 1 rfl ?_
    refine z_aload_n hC dL_cell_1 rfl 0 rfl ?_
    refine z_slen hC hX hbl hbA dL_cell_2 ?_
    refine z_icmp_ge (tgt := 12) hC dL_cell_3 (by decide) ⟨by omega, by omega⟩ ⟨by omega, by omega⟩ (fun c1 => ?_) (fun c1 => ?_)
    · refine z_ldc hC 2042946225 kL_cell_1 dL_cell_12 (by decide) ?_
      refine z_iload_n hC dL_cell_14 rfl 1 rfl ?_
      refine z_sipush hC dL_cell_15 (by decide) ?_
      refine z_iadd hC dL_cell_18 ?_
      refine z_imul hC dL_cell_19 ?_
      exact z_iret hC hr rfl (2042946225 * ((k : Int) + 1031)) trivial rfl rfl dL_cell_20
    · refine z_aload_n hC dL_cell_6 rfl 0 rfl ?_
      refine z_iload_n hC dL_cell_7 rfl 1 rfl ?_
      refine z_sld hC hX hbl hbA k rfl (by omega) (by omega) dL_cell_8 ?_
      refine z_goto (tgt := 20) hC dL_cell_9 (by decide) ?_
      exact z_iret hC hr rfl ((xs k).toInt) trivial rfl rfl dL_cell_20
  have kx := body s.heap [] _ hP hD0.self va_S.rf hl
  rw [lg_entry_eq]
  exact kx
