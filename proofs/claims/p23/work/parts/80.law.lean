/-! ===== the law: its start, its loop, its end ===== -/
theorem rel_T {k : Nat} {a b : SPS} {T : Enc} (h : Rel k a b) (hT : ∀ j, 0 ≤ T.2.2 j ∧ T.2.2 j ≤ 31) : Rel k (a.1, T, a.2.2) b := ⟨⟨h.1.1, hT, h.1.2.2⟩, h.2.1, h.2.2.1, h.2.2.2.1, h.2.2.2.2⟩
theorem law_zT {args : Array Value} {s : State} {nm : String} {f : Nat → Int} {A : Nat → Prop} {v0 v1 v2 v3 v4 : Int32} (hlay : (Cond.laysStatic "StepPairs" nm "[I").before args s = true) (hini : (Cond.initialized "StepPairs").before args s = true) (harr : (Cond.arrayOf (.static "StepPairs" nm "[I") .int).before args s = true) (hlen : (Cond.eq (.length (.static "StepPairs" nm "[I")) (.int 5)).before args s = true)
    (h0 : (Cond.eq (.elem (.static "StepPairs" nm "[I") (.int 0)) (.int v0)).before args s = true) (h1 : (Cond.eq (.elem (.static "StepPairs" nm "[I") (.int 1)) (.int v1)).before args s = true) (h2 : (Cond.eq (.elem (.static "StepPairs" nm "[I") (.int 2)) (.int v2)).before args s = true) (h3 : (Cond.eq (.elem (.static "StepPairs" nm "[I") (.int 3)) (.int v3)).before args s = true) (h4 : (Cond.eq (.elem (.static "StepPairs" nm "[I") (.int 4)) (.int v4)).before args s = true)
    (e0 : v0 = iI (f 0)) (e1 : v1 = iI (f 1)) (e2 : v2 = iI (f 2)) (e3 : v3 = iI (f 3)) (e4 : v4 = iI (f 4)) (hA : ∀ a : Nat, a < s.heap.size → ¬ A a) : zT nm f A s s.heap := by
  subst e0 e1 e2 e3 e4
  have hel : ∀ j : Nat, j < 5 → (Term.elem (.static "StepPairs" nm "[I") (.int (Int32.ofNat j))).eval args s none [] s = some (.int (iI (f j))) := by
    intro j hj
    obtain rfl | rfl | rfl | rfl | rfl : j = 0 ∨ j = 1 ∨ j = 2 ∨ j = 3 ∨ j = 4 := by omega
    · exact va_eqt h0
    · exact va_eqt h1
    · exact va_eqt h2
    · exact va_eqt h3
    · exact va_eqt h4
  obtain ⟨t, ht, hT⟩ := va_Tof (tm := .static "StepPairs" nm "[I") (ty := .int) (N := 5) (f := fun j => .int (iI (f j))) (A := A) (by decide) harr (va_eqt hlen) hel hA
  exact ⟨t, va_Zof hlay hini ht hA, hT⟩
theorem law_arr {args : Array Value} {s : State} {ty : FieldType} (h : (Cond.arrayClass ty).before args s = true) : ∃ cA : ClassId, s.vm.findClass ("[" ++ ty.toString) = some cA ∧ ArrOfT s cA ty := by
  obtain ⟨c, k, comp, h1, h2, h3⟩ := Cond.arrayClass_spec h
  exact ⟨c, h1, fun n z => ⟨fun k h => (by cases h), k, h2, comp, h3⟩⟩
theorem law_K {args : Array Value} {s : State} (hts : ∀ w ∈ lw_tbl, w.before args s = true) : ∃ (D : va_G) (J : Nat → ClassId), va_K D vwCl (zJ J) s := by
  have hl : ∀ w ∈ wsL_law, w.before args s = true := fun w h => hts w (wsL_law_in w h)
  obtain ⟨c0, i0, k0⟩ := u_known (C := RX1) (T := TX1) (N := 16) (n := 16) hts inX1 (hl _ (List.mem_of_getElem? (i := 10) rfl))
  obtain ⟨c1, i1, k1⟩ := u_known (C := RX2) (T := TX2) (N := 3) (n := 3) hts inX2 (hl _ (List.mem_of_getElem? (i := 15) rfl))
  obtain ⟨c2, i2, k2⟩ := u_known (C := RX3) (T := TX3) (N := 6) (n := 6) hts inX3 (hl _ (List.mem_of_getElem? (i := 23) rfl))
  obtain ⟨c3, i3, k3⟩ := u_known (C := RX4) (T := TX4) (N := 2) (n := 2) hts inX4 (hl _ (List.mem_of_getElem? (i := 19) rfl))
  obtain ⟨c4, i4, k4⟩ := u_known (C := RX5) (T := TX5) (N := 5) (n := 5) hts inX5 (hl _ (List.mem_of_getElem? (i := 1) rfl))
  obtain ⟨j0, a0, b0⟩ := law_arr (ty := .int) (hl _ (List.mem_of_getElem? (i := 30) rfl))
  obtain ⟨j1, a1, b1⟩ := law_arr (ty := .char) (hl _ (List.mem_of_getElem? (i := 57) rfl))
  obtain ⟨j2, a2, b2⟩ := law_arr (ty := .boolean) (hl _ (List.mem_of_getElem? (i := 50) rfl))
  obtain ⟨comp, j3, kA, g1, g2, g3, g4, g5⟩ := Cond.arrayOver_spec (hts (Cond.arrayOver (.object "StepPairs$Encoder")) (List.mem_of_getElem? (i := 102) (by decide +kernel)))
  refine ⟨(fun k => if k = 0 then c0 else if k = 1 then c1 else if k = 2 then c2 else if k = 3 then c3 else c4, fun k => if k = 0 then i0 else if k = 1 then i1 else if k = 2 then i2 else if k = 3 then i3 else i4), fun k => if k = 0 then j0 else if k = 1 then j1 else if k = 2 then j2 else j3, ?_, ?_⟩
  · intro k q hq
    match k, hq with
    | 0, hq => cases hq; exact k0
    | 1, hq => cases hq; exact k1
    | 2, hq => cases hq; exact k2
    | 3, hq => cases hq; exact k3
    | 4, hq => cases hq; exact k4
    | k + 5, hq => simp [vwCl] at hq
  · intro k q hq
    match k, hq with
    | 0, hq => cases hq; exact ⟨b0, a0⟩
    | 1, hq => cases hq; exact ⟨b1, a1⟩
    | 2, hq => cases hq; exact ⟨b2, a2⟩
    | 3, hq => cases hq; exact ⟨fun n z => ⟨fun k h => (by cases h), kA, g3, comp, g4⟩, kA, comp, g3, g4, g1, g5⟩
    | k + 4, hq => simp [zJ] at hq
theorem law_zS {b : Nat} {s : State} (hts : ∀ w ∈ lw_tbl, w.before #[Value.ref b] s = true) (hgv : (Jvm.Cond.and given_1 narrow_1).before #[Value.ref b] s = true) : zS (fun q : Nat => s.heap.size ≤ q) s s.heap := by
  have hs := flat_of_before _ hgv
  have hA : ∀ a : Nat, a < s.heap.size → ¬ (fun q : Nat => s.heap.size ≤ q) a := fun a h => Nat.not_le.mpr h
  have hini : (Cond.initialized "StepPairs").before #[Value.ref b] s = true := hts _ (wsL_law_in _ (List.mem_of_getElem? (i := 2) rfl))
  refine ⟨?_, ?_, ?_, ?_, ?_, ?_, ?_⟩
  · exact law_zT (nm := "LEAST_SETTING") (v0 := 4) (v1 := 10) (v2 := 1) (v3 := 1) (v4 := 0) (hts _ (List.mem_of_getElem? (i := 315) (by decide +kernel))) hini (hs _ (by decide +kernel)) (hs _ (by decide +kernel)) (hs _ (by decide +kernel)) (hs _ (by decide +kernel)) (hs _ (by decide +kernel)) (hs _ (by decide +kernel)) (hs _ (by decide +kernel)) (by decide +kernel) (by decide +kernel) (by decide +kernel) (by decide +kernel) (by decide +kernel) hA
  · exact law_zT (nm := "MOST_SETTING") (v0 := 400) (v1 := 9999) (v2 := 9) (v3 := 99) (v4 := 2) (hts _ (List.mem_of_getElem? (i := 317) (by decide +kernel))) hini (hs _ (by decide +kernel)) (hs _ (by decide +kernel)) (hs _ (by decide +kernel)) (hs _ (by decide +kernel)) (hs _ (by decide +kernel)) (hs _ (by decide +kernel)) (hs _ (by decide +kernel)) (by decide +kernel) (by decide +kernel) (by decide +kernel) (by decide +kernel) (by decide +kernel) hA
  · exact law_zT (nm := "FIRST_SETTING") (v0 := 40) (v1 := 1000) (v2 := 1) (v3 := 10) (v4 := 1) (hts _ (List.mem_of_getElem? (i := 31) (by decide +kernel))) hini (hs _ (by decide +kernel)) (hs _ (by decide +kernel)) (hs _ (by decide +kernel)) (hs _ (by decide +kernel)) (hs _ (by decide +kernel)) (hs _ (by decide +kernel)) (hs _ (by decide +kernel)) (by decide +kernel) (by decide +kernel) (by decide +kernel) (by decide +kernel) (by decide +kernel) hA
  · exact va_Nw.of rfl (hts (.fieldLinkNest "StepPairs$Encoder" 18 "StepPairs" "FIRST_SETTING" "[I" "StepPairs") (List.mem_of_getElem? (i := 30) (by decide +kernel)))
  · exact va_Nw.of rfl (hts (.fieldLinkNest "StepPairs$Encoder" 88 "StepPairs" "LEAST_SETTING" "[I" "StepPairs") (List.mem_of_getElem? (i := 314) (by decide +kernel)))
  · exact va_Nw.of rfl (hts (.fieldLinkNest "StepPairs$Encoder" 91 "StepPairs" "MOST_SETTING" "[I" "StepPairs") (List.mem_of_getElem? (i := 316) (by decide +kernel)))
  · exact va_AO.of (hts (Cond.arrayOver (.object "StepPairs$Encoder")) (List.mem_of_getElem? (i := 102) (by decide +kernel)))
theorem kL_law_w (k : Nat) (w : Cond) (h : wsL_law[k]? = some w) : w ∈ wsL_law := List.mem_of_getElem? h
theorem iL_law_X5 : ∀ w ∈ u_ws RX5 TX5 5, w ∈ wsL_law := inlX5
set_option maxHeartbeats 4000000 in
set_option maxRecDepth 100000 in
theorem z_cell {p : Program} {l : Launch} {e : Env} {R : Room} {s : State} {m : MethodId} {args : Array Value} {below : List Frame} {meth : Method} {c : Code} {cells slots : Nat} {Q : State → Prop} {A : Nat → Prop} {nL : Nat} {D : va_G} {J : Nat → ClassId} {cc : ByteArray} {own : String} {Ts : List Cond} {ws : va_W} {lv : List (Nat × Value)} {pc : Nat} {st : List Value} {b N : Nat} {xs : Nat → Int32} (hC : zC p s m args meth c A nL D J cc own Ts) (hX : va_X b N xs s s.heap) (hbl : b < s.heap.size) (hbA : ¬ A b) (hN : N ≤ 260) (k : Nat) (hk : k ≤ 48) {index : Nat}
    (hT : GoodIn Ts (va_wsS own index yL_cell wsL_cell)) (hR : 1 ≤ R.frames ∧ 21 ≤ R.locals) (hcap : cells ≤ R.cells ∧ slots ≤ R.slots) (hcat : (st.map fun v => v.category).sum ≤ 8) (hdg : decode cc pc = .ok (.invokestatic index, 3)) (kk : ∀ x : Int, Z p l e R s m args below meth c A nL D cells slots Q ws lv (pc + 3) (.int (iI x) :: st)) : Z p l e R s m args below meth c A nL D cells slots Q ws lv pc (.int (iI (k : Int)) :: .ref b :: st) := by
  refine z_callCore (S := Int) (rm := rmL_cell) (wc := []) (wr := ws) (P := fun _ => True) (v := fun u => some (.int (iI u))) (w1 := fun _ => []) (st := st) (a := ([Value.ref b, .int (iI (k : Int))] : List Value).toArray) hC (fun H locs ls hls hPc hDc hS hF => ?_) [] (List.range ws.length) rfl (rng_map ws) (nd_of _ List.nodup_range) (fun _ _ h => absurd h List.not_mem_nil) rfl (fun u _ => by
    rw [List.append_nil]
    exact kk u)
  refine va_runS (As := [Value.ref b, .int (iI (k : Int))]) (rest := st) hC.1 (t_L_cell l D J b N xs hN k hk H.size) (va_cwS 2 hC.1.2.2.2.2 hT rfl rfl rfl (by decide +kernel) hR) ⟨zPX_blind, fun U hU hW => ⟨rfl, (z_pre (av := []) hC hPc hDc hS hF U hU hW).2, ?_, ?_⟩⟩ rfl rfl hls rfl (lv_room hcat) hdg hcap
  · exact Nat.lt_of_lt_of_le hbl hS.1
  · rw [hU]
    exact va_X.moved hW.alike (va_X.kept hX (hS.2.1 b hbl hbA))
/-- the law's end -/
theorem z_law_end {p : Program} {l : Launch} {e : Env} {s : State} {m : MethodId} {below : List Frame} {meth : Method} {c : Code} {D : va_G} {J : Nat → ClassId} {b : Nat} {ws : va_W} {lv : List (Nat × Value)} (hC : zC p s m #[Value.ref b] meth c (fun q : Nat => s.heap.size ≤ q) 5 D J cL_law RL wsL_law) (hr : meth.sig.returnType = ret) : Z p l e room_1 s m #[Value.ref b] below meth c (fun q : Nat => s.heap.size ≤ q) 5 D 600000 7302249 (lw_Z below #[Value.ref b] s) (ws) (lv) 103 ([.int (iI 1)]) := by
  intro H locs ls hP hD hS hl
  refine va_forget hS.2.2 ?_
  exact lw_ret (d0 := s.drawn) (Drawn.sameBut.refl s.drawn lw_cs) hC.1.1 hC.1.2.1 hr hC.2.2.2.2 dL_law_103
set_option maxHeartbeats 16000000 in
set_option maxRecDepth 100000 in
theorem law_last {p : Program} {l : Launch} {e : Env} {s : State} {m : MethodId} {below : List Frame} {meth : Method} {c : Code} {D : va_G} {J : Nat → ClassId} {b N : Nat} {xs : Nat → Int32} {q1 q2 : Nat} {u1 u2 : Nat → Nat → Nat} (hC : zC p s m #[Value.ref b] meth c (fun q : Nat => s.heap.size ≤ q) 5 D J cL_law RL wsL_law) (hX : va_X b N xs s s.heap) (hbl : b < s.heap.size) (hN : N ≤ 260) (hr : meth.sig.returnType = ret) (a1 b1 : SPS) (hR1 : Rel 48 a1 b1) (k : Nat) (hk : k = 48) : Z p l e room_1 s m #[Value.ref b] below meth c (fun q : Nat => s.heap.size ≤ q) 5 D (1000 + k) (20000 + 4 * k) (lw_Z below #[Value.ref b] s) (wD J q1 u1 q2 u2 a1 b1) ([(4, .int (iI (k : Int))), (3, .int (iI 1)), (2, .ref q2), (1, .ref q1), (0, .ref b)]) 73 ([]) := by
  have hbA : ¬ (fun q : Nat => s.heap.size ≤ q) b := Nat.not_le.mpr hbl
  refine z_iload_n hC dL_law_73 rfl 1 rfl ?_
  refine z_if_eq_f (tgt := 102) hC dL_law_74 (by decide) ⟨by decide, by decide⟩ (by decide) ?_
  refine z_aload_n hC dL_law_77 rfl 3 rfl ?_
  refine z_callS (S := Enc) (wr := wO J q2 u2 b1) (av := [.ref q1]) (st := []) hC (t_L_isWell l D J q1 u1 48 a1 hR1.1 hR1.2.2.1.1) gL_law_L_isWell rfl 1 (by decide +kernel) ⟨Nat.le_of_ble_eq_true rfl, Nat.le_of_ble_eq_true rfl⟩ ⟨by show 1000 + k + 1 ≤ 600000; omega, by show 20000 + 4 * k + 4 ≤ 7302249; omega⟩ [0, 1, 2, 3, 4, 5, 6, 7, 8, 9, 10, 11, 12, 13, 14, 15, 16, 17, 18, 19, 20, 21, 22, 23, 24, 25, 26, 27, 28, 29, 30, 31, 32, 33, 34, 35, 36, 37, 38, 39, 40] [41, 42, 43, 44, 45, 46, 47, 48, 49, 50, 51, 52, 53, 54, 55, 56, 57, 58, 59, 60, 61, 62, 63, 64, 65, 66, 67, 68, 69, 70, 71, 72, 73, 74, 75, 76, 77, 78, 79, 80, 81] rfl rfl rfl (by decide +kernel) rfl rfl rfl (Nat.le_of_ble_eq_true rfl) dL_law_78 (fun T hT => ?_)
  refine z_perm (ws' := wD J q1 u1 q2 u2 (a1.1, T, a1.2.2) b1) [41, 42, 43, 44, 45, 46, 47, 48, 49, 50, 51, 52, 53, 54, 55, 56, 57, 58, 59, 60, 61, 62, 63, 64, 65, 66, 67, 68, 69, 70, 71, 72, 73, 74, 75, 76, 77, 78, 79, 80, 81, 0, 1, 2, 3, 4, 5, 6, 7, 8, 9, 10, 11, 12, 13, 14, 15, 16, 17, 18, 19, 20, 21, 22, 23, 24, 25, 26, 27, 28, 29, 30, 31, 32, 33, 34, 35, 36, 37, 38, 39, 40] rfl rfl ?_
  refine z_st (st' := [.int (iI 1)]) rfl ?_
  refine z_if_eq_f (tgt := 102) hC dL_law_81 (by decide) ⟨by decide, by decide⟩ (by decide) ?_
  refine z_aload_n hC dL_law_84 rfl 3 rfl ?_
  refine z_aload_n hC dL_law_85 rfl 2 rfl ?_
  refine z_aload_n hC dL_law_86 rfl 4 rfl ?_
  refine z_bipush hC dL_law_87 (by decide) ?_
  refine z_cell hC hX hbl hbA hN 48 (by decide) gL_law_L_cell ⟨Nat.le_of_ble_eq_true rfl, Nat.le_of_ble_eq_true rfl⟩ ⟨by show 1000 + k + 1 ≤ 600000; omega, by show 20000 + 4 * k + 4 ≤ 7302249; omega⟩ (Nat.le_of_ble_eq_true rfl) dL_law_89 (fun x => ?_)
  refine z_callS (S := SPS × SPS) (wr := []) (av := [.ref q1, .ref q2, .int (iI x)]) (st := []) hC (t_L_areAlike l D J q1 q2 u1 u2 48 (a1.1, T, a1.2.2) b1 (rel_T hR1 hT) x) gL_law_L_areAlike rfl 3 (by decide +kernel) ⟨Nat.le_of_ble_eq_true rfl, Nat.le_of_ble_eq_true rfl⟩ ⟨by show 1000 + k + 1 + 0 ≤ 600000; omega, by show 20000 + 4 * k + 4 + 0 ≤ 7302249; omega⟩ [0, 1, 2, 3, 4, 5, 6, 7, 8, 9, 10, 11, 12, 13, 14, 15, 16, 17, 18, 19, 20, 21, 22, 23, 24, 25, 26, 27, 28, 29, 30, 31, 32, 33, 34, 35, 36, 37, 38, 39, 40, 41, 42, 43, 44, 45, 46, 47, 48, 49, 50, 51, 52, 53, 54, 55, 56, 57, 58, 59, 60, 61, 62, 63, 64, 65, 66, 67, 68, 69, 70, 71, 72, 73, 74, 75, 76, 77, 78, 79, 80, 81] [] rfl rfl rfl (by decide +kernel) rfl rfl rfl (Nat.le_of_ble_eq_true rfl) dL_law_92 (fun w _ => ?_)
  refine z_st (st' := [.int (iI 1)]) rfl ?_
  refine z_if_eq_f (tgt := 102) hC dL_law_95 (by decide) ⟨by decide, by decide⟩ (by decide) ?_
  refine z_iconst hC dL_law_98 ?_
  refine z_goto (tgt := 103) hC dL_law_99 (by decide) ?_
  refine z_widen (k := 600000) (n := 7302249) (by show 1000 + k + 1 + 0 ≤ 600000; omega) (by show 20000 + 4 * k + 4 + 0 ≤ 7302249; omega) ?_
  exact z_law_end hC hr
set_option maxHeartbeats 16000000 in
set_option maxRecDepth 100000 in
theorem law_loop {p : Program} {l : Launch} {e : Env} {s : State} {m : MethodId} {below : List Frame} {meth : Method} {c : Code} {D : va_G} {J : Nat → ClassId} {b N : Nat} {xs : Nat → Int32} {q1 q2 : Nat} {u1 u2 : Nat → Nat → Nat} (hC : zC p s m #[Value.ref b] meth c (fun q : Nat => s.heap.size ≤ q) 5 D J cL_law RL wsL_law) (hX : va_X b N xs s s.heap) (hbl : b < s.heap.size) (hN : N ≤ 260) (hr : meth.sig.returnType = ret) :
    ∀ (n k : Nat), k + n = 48 → ∀ a0 b0 : SPS, Rel k a0 b0 → Z p l e room_1 s m #[Value.ref b] below meth c (fun q : Nat => s.heap.size ≤ q) 5 D (1000 + k) (20000 + 4 * k) (lw_Z below #[Value.ref b] s) (wD J q1 u1 q2 u2 a0 b0) ([(4, .int (iI (k : Int))), (3, .int (iI 1)), (2, .ref q2), (1, .ref q1), (0, .ref b)]) 21 ([]) := by
  have hbA : ¬ (fun q : Nat => s.heap.size ≤ q) b := Nat.not_le.mpr hbl
  intro n
  induction n with
  | zero =>
    intro k hk a0 b0 hRel
    refine z_iload hC dL_law_21 0 rfl ?_
    refine z_bipush hC dL_law_23 (by decide) ?_
    refine z_icmp_ge_t (tgt := 73) hC dL_law_25 (by decide) ⟨by omega, by omega⟩ ⟨by decide, by decide⟩ (by omega) ?_
    exact law_last hC hX hbl hN hr a0 b0 ((show k = 48 by omega) ▸ hRel) k (by omega)
  | succ n ih =>
    intro k hk a0 b0 hRel
    refine z_iload hC dL_law_21 0 rfl ?_
    refine z_bipush hC dL_law_23 (by decide) ?_
    refine z_icmp_ge_f (tgt := 73) hC dL_law_25 (by decide) ⟨by omega, by omega⟩ ⟨by decide, by decide⟩ (by omega) ?_
    refine z_iload_n hC dL_law_28 rfl 1 rfl ?_
    refine z_if_eq_f (tgt := 73) hC dL_law_29 (by decide) ⟨by decide, by decide⟩ (by decide) ?_
    refine z_aload_n hC dL_law_32 rfl 3 rfl ?_
    refine z_aload_n hC dL_law_33 rfl 2 rfl ?_
    refine z_aload_n hC dL_law_34 rfl 4 rfl ?_
    refine z_iload hC dL_law_35 0 rfl ?_
    refine z_cell hC hX hbl hbA hN k (by omega) gL_law_L_cell ⟨Nat.le_of_ble_eq_true rfl, Nat.le_of_ble_eq_true rfl⟩ ⟨by show 1000 + k ≤ 600000; omega, by show 20000 + 4 * k ≤ 7302249; omega⟩ (Nat.le_of_ble_eq_true rfl) dL_law_37 (fun x => ?_)
    refine z_callS (S := SPS × SPS) (wr := []) (av := [.ref q1, .ref q2, .int (iI x)]) (st := []) hC (t_L_isStep l D J q1 q2 u1 u2 k (by omega) a0 b0 hRel x) gL_law_L_isStep rfl 3 (by decide +kernel) ⟨Nat.le_of_ble_eq_true rfl, Nat.le_of_ble_eq_true rfl⟩ ⟨by show 1000 + k + 0 ≤ 600000; omega, by show 20000 + 4 * k + 0 ≤ 7302249; omega⟩ [0, 1, 2, 3, 4, 5, 6, 7, 8, 9, 10, 11, 12, 13, 14, 15, 16, 17, 18, 19, 20, 21, 22, 23, 24, 25, 26, 27, 28, 29, 30, 31, 32, 33, 34, 35, 36, 37, 38, 39, 40, 41, 42, 43, 44, 45, 46, 47, 48, 49, 50, 51, 52, 53, 54, 55, 56, 57, 58, 59, 60, 61, 62, 63, 64, 65, 66, 67, 68, 69, 70, 71, 72, 73, 74, 75, 76, 77, 78, 79, 80, 81] [] rfl rfl rfl (by decide +kernel) rfl rfl rfl (Nat.le_of_ble_eq_true rfl) dL_law_40 (fun w hw => ?_)
    obtain ⟨a1, b1⟩ := w
    have hR1 : Rel (k + 1) a1 b1 := hw
    refine z_ws (ws' := wD J q1 u1 q2 u2 a1 b1) rfl ?_
    refine z_st (st' := [.int (iI 1)]) rfl ?_
    refine z_if_eq_f (tgt := 65) hC dL_law_43 (by decide) ⟨by decide, by decide⟩ (by decide) ?_
    refine z_iload hC dL_law_46 0 rfl ?_
    refine z_bipush hC dL_law_48 (by decide) ?_
    refine z_irem hC dL_law_50 (by omega) (by omega) (by decide) (by decide) ?_
    have next : ∀ a2 : SPS, Rel (k + 1) a2 b1 → Z p l e room_1 s m #[Value.ref b] below meth c (fun q : Nat => s.heap.size ≤ q) 5 D (1000 + (k + 1)) (20000 + 4 * (k + 1)) (lw_Z below #[Value.ref b] s) (wD J q1 u1 q2 u2 a2 b1) ([(4, .int (iI (k : Int))), (3, .int (iI 1)), (2, .ref q2), (1, .ref q1), (0, .ref b)]) 61 ([]) := by
      intro a2 hR2
      refine z_iconst hC dL_law_61 ?_
      refine z_goto (tgt := 66) hC dL_law_62 (by decide) ?_
      refine z_istore_n (lv' := [(3, .int (iI 1)), (4, .int (iI (k : Int))), (2, .ref q2), (1, .ref q1), (0, .ref b)]) hC dL_law_66 rfl (by decide) rfl ?_
      refine z_iinc (lv' := [(4, .int (iI ((k : Int) + 1))), (3, .int (iI 1)), (2, .ref q2), (1, .ref q1), (0, .ref b)]) hC dL_law_67 1 rfl (by decide) rfl ?_
      refine z_goto (tgt := 21) hC dL_law_70 (by decide) ?_
      refine z_lv0 (lv' := [(4, .int (iI ((k + 1 : Nat) : Int))), (3, .int (iI 1)), (2, .ref q2), (1, .ref q1), (0, .ref b)]) (by rw [show ((k + 1 : Nat) : Int) = (k : Int) + 1 by omega]) ?_
      exact ih (k + 1) (by omega) a2 b1 hR2
    refine z_if_gt (tgt := 61) hC dL_law_51 (by decide) ⟨by omega, by omega⟩ (fun c1 => ?_) (fun c1 => ?_)
    · refine z_widen (k := 1000 + (k + 1)) (n := 20000 + 4 * (k + 1)) (by show 1000 + k + 0 ≤ 1000 + (k + 1); omega) (by show 20000 + 4 * k + 0 ≤ 20000 + 4 * (k + 1); omega) ?_
      exact next a1 hR1
    · refine z_aload_n hC dL_law_54 rfl 3 rfl ?_
      refine z_callS (S := Enc) (wr := wO J q2 u2 b1) (av := [.ref q1]) (st := []) hC (t_L_isWell l D J q1 u1 (k + 1) a1 hR1.1 hR1.2.2.1.1) gL_law_L_isWell rfl 1 (by decide +kernel) ⟨Nat.le_of_ble_eq_true rfl, Nat.le_of_ble_eq_true rfl⟩ ⟨by show 1000 + k + 0 + 1 ≤ 600000; omega, by show 20000 + 4 * k + 0 + 4 ≤ 7302249; omega⟩ [0, 1, 2, 3, 4, 5, 6, 7, 8, 9, 10, 11, 12, 13, 14, 15, 16, 17, 18, 19, 20, 21, 22, 23, 24, 25, 26, 27, 28, 29, 30, 31, 32, 33, 34, 35, 36, 37, 38, 39, 40] [41, 42, 43, 44, 45, 46, 47, 48, 49, 50, 51, 52, 53, 54, 55, 56, 57, 58, 59, 60, 61, 62, 63, 64, 65, 66, 67, 68, 69, 70, 71, 72, 73, 74, 75, 76, 77, 78, 79, 80, 81] rfl rfl rfl (by decide +kernel) rfl rfl rfl (Nat.le_of_ble_eq_true rfl) dL_law_55 (fun T hT => ?_)
      refine z_perm (ws' := wD J q1 u1 q2 u2 (a1.1, T, a1.2.2) b1) [41, 42, 43, 44, 45, 46, 47, 48, 49, 50, 51, 52, 53, 54, 55, 56, 57, 58, 59, 60, 61, 62, 63, 64, 65, 66, 67, 68, 69, 70, 71, 72, 73, 74, 75, 76, 77, 78, 79, 80, 81, 0, 1, 2, 3, 4, 5, 6, 7, 8, 9, 10, 11, 12, 13, 14, 15, 16, 17, 18, 19, 20, 21, 22, 23, 24, 25, 26, 27, 28, 29, 30, 31, 32, 33, 34, 35, 36, 37, 38, 39, 40] rfl rfl ?_
      refine z_st (st' := [.int (iI 1)]) rfl ?_
      refine z_if_eq_f (tgt := 65) hC dL_law_58 (by decide) ⟨by decide, by decide⟩ (by decide) ?_
      refine z_widen (k := 1000 + (k + 1)) (n := 20000 + 4 * (k + 1)) (by show 1000 + k + 0 + 1 ≤ 1000 + (k + 1); omega) (by show 20000 + 4 * k + 0 + 4 ≤ 20000 + 4 * (k + 1); omega) ?_
      exact next (a1.1, T, a1.2.2) (rel_T hR1 hT)
set_option maxHeartbeats 16000000 in
set_option maxRecDepth 100000 in
theorem law_begin {p : Program} {l : Launch} {e : Env} {s : State} {m : MethodId} {below : List Frame} {meth : Method} {c : Code} {D : va_G} {J : Nat → ClassId} {b N : Nat} {xs : Nat → Int32} (hC : zC p s m #[Value.ref b] meth c (fun q : Nat => s.heap.size ≤ q) 5 D J cL_law RL wsL_law) (hX : va_X b N xs s s.heap) (hbl : b < s.heap.size) (hN : N ≤ 260) (hr : meth.sig.returnType = ret) :
    Z p l e room_1 s m #[Value.ref b] below meth c (fun q : Nat => s.heap.size ≤ q) 5 D 0 0 (lw_Z below #[Value.ref b] s) ([]) ([(0, .ref b)]) 0 ([]) := by
  refine z_new (fs := [.null, .null, .null, .null, .null]) hC zkX5 iL_law_X5 (kL_law_w 0 _ rfl) (kL_law_w 1 _ rfl) (kL_law_w 2 _ rfl) (fun j hj => by rcases (show j = 0 ∨ j = 1 ∨ j = 2 ∨ j = 3 ∨ j = 4 by omega) with rfl | rfl | rfl | rfl | rfl <;> rfl) (Nat.le_of_ble_eq_true rfl) (Nat.le_of_ble_eq_true rfl) dL_law_0 (fun q1 => ?_)
  refine z_dup hC dL_law_3 rfl ?_
  refine z_callI (wr := []) (av := []) (st := [.ref q1]) hC (t_X5_init l D J q1) gL_law_X5_init rfl 0 (kL_law_w 2 _ rfl) (kL_law_w 3 _ rfl) (kL_law_w 4 _ rfl) rfl (by decide +kernel) ⟨Nat.le_of_ble_eq_true rfl, Nat.le_of_ble_eq_true rfl⟩ ⟨Nat.le_of_ble_eq_true rfl, Nat.le_of_ble_eq_true rfl⟩ [0] [] rfl rfl rfl (by decide) rfl rfl rfl (Nat.le_of_ble_eq_true rfl) dL_law_4 (fun u1 _ => ?_)
  refine z_ws (ws' := wO J q1 u1 newS) rfl ?_
  refine z_st (st' := [.ref q1]) rfl ?_
  refine z_astore_n (lv' := [(1, .ref q1), (0, .ref b)]) hC dL_law_7 rfl (by decide) rfl ?_
  refine z_new (fs := [.null, .null, .null, .null, .null]) hC zkX5 iL_law_X5 (kL_law_w 0 _ rfl) (kL_law_w 1 _ rfl) (kL_law_w 2 _ rfl) (fun j hj => by rcases (show j = 0 ∨ j = 1 ∨ j = 2 ∨ j = 3 ∨ j = 4 by omega) with rfl | rfl | rfl | rfl | rfl <;> rfl) (Nat.le_of_ble_eq_true rfl) (Nat.le_of_ble_eq_true rfl) dL_law_8 (fun q2 => ?_)
  refine z_dup hC dL_law_11 rfl ?_
  refine z_callI (wr := wO J q1 u1 newS) (av := []) (st := [.ref q2]) hC (t_X5_init l D J q2) gL_law_X5_init rfl 0 (kL_law_w 2 _ rfl) (kL_law_w 3 _ rfl) (kL_law_w 4 _ rfl) rfl (by decide +kernel) ⟨Nat.le_of_ble_eq_true rfl, Nat.le_of_ble_eq_true rfl⟩ ⟨Nat.le_of_ble_eq_true rfl, Nat.le_of_ble_eq_true rfl⟩ [41] [0, 1, 2, 3, 4, 5, 6, 7, 8, 9, 10, 11, 12, 13, 14, 15, 16, 17, 18, 19, 20, 21, 22, 23, 24, 25, 26, 27, 28, 29, 30, 31, 32, 33, 34, 35, 36, 37, 38, 39, 40] rfl rfl rfl (by decide) rfl rfl rfl (Nat.le_of_ble_eq_true rfl) dL_law_12 (fun u2 _ => ?_)
  refine z_ws (ws' := wD J q1 u1 q2 u2 newS newS) rfl ?_
  refine z_st (st' := [.ref q2]) rfl ?_
  refine z_astore_n (lv' := [(2, .ref q2), (1, .ref q1), (0, .ref b)]) hC dL_law_15 rfl (by decide) rfl ?_
  refine z_iconst hC dL_law_16 ?_
  refine z_istore_n (lv' := [(3, .int (iI 1)), (2, .ref q2), (1, .ref q1), (0, .ref b)]) hC dL_law_17 rfl (by decide) rfl ?_
  refine z_iconst hC dL_law_18 ?_
  refine z_istore (lv' := [(4, .int (iI 0)), (3, .int (iI 1)), (2, .ref q2), (1, .ref q1), (0, .ref b)]) hC dL_law_19 (by decide) rfl ?_
  refine z_widen (k := 1000 + 0) (n := 20000 + 4 * 0) (Nat.le_of_ble_eq_true rfl) (Nat.le_of_ble_eq_true rfl) ?_
  exact law_loop hC hX hbl hN hr 48 0 (by decide) newS newS rel_new
