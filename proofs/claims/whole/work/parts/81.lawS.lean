/-! ===== the law's start: the tables, the static rows, the two new objects ===== -/
theorem law_zT {args : Array Value} {s : State} {nm : String} {f : Nat → Int} {A : Nat → Prop} {v0 v1 v2 v3 v4 : Int32} (hlay : (Cond.laysStatic "StepPairs" nm "[I").before args s = true) (hini : (Cond.initialized "StepPairs").before args s = true) (harr : (Cond.arrayOf (.static "StepPairs" nm "[I") .int).before args s = true) (hlen : (Cond.eq (.length (.static "StepPairs" nm "[I")) (.int 5)).before args s = true)
    (h0 : (Cond.eq (.elem (.static "StepPairs" nm "[I") (.int 0)) (.int v0)).before args s = true) (h1 : (Cond.eq (.elem (.static "StepPairs" nm "[I") (.int 1)) (.int v1)).before args s = true) (h2 : (Cond.eq (.elem (.static "StepPairs" nm "[I") (.int 2)) (.int v2)).before args s = true) (h3 : (Cond.eq (.elem (.static "StepPairs" nm "[I") (.int 3)) (.int v3)).before args s = true) (h4 : (Cond.eq (.elem (.static "StepPairs" nm "[I") (.int 4)) (.int v4)).before args s = true)
    (e0 : v0 = iI (f 0)) (e1 : v1 = iI (f 1)) (e2 : v2 = iI (f 2)) (e3 : v3 = iI (f 3)) (e4 : v4 = iI (f 4)) (hA : ∀ a : Nat, a < s.heap.size → ¬ A a) : zT nm f A s s.heap := by
  subst e0 e1 e2 e3 e4
  have hel : ∀ j : Nat, j < 5 → (Term.elem (.static "StepPairs" nm "[I") (.int (Int32.ofNat j))).eval args s none [] s = some (.int (iI (f j))) := by
    intro j hj
    obtain rfl | rfl | rfl | rfl | rfl : j = 0 ∨ j = 1 ∨ j = 2 ∨ j = 3 ∨ j = 4 := by omega
    · exact va_eqt h0
    · exact va_eqt h1
    · exact va_eqt h2
    · exact va_eqt h3
    · exact va_eqt h4
  obtain ⟨t, ht, hT⟩ := va_Tof (tm := .static "StepPairs" nm "[I") (ty := .int) (N := 5) (f := fun j => .int (iI (f j))) (A := A) (by decide) harr (va_eqt hlen) hel hA
  exact ⟨t, va_Zof hlay hini ht hA, hT⟩
theorem law_arr {args : Array Value} {s : State} {ty : FieldType} (h : (Cond.arrayClass ty).before args s = true) : ∃ cA : ClassId, s.vm.findClass ("[" ++ ty.toString) = some cA ∧ ArrOfT s cA ty := by
  obtain ⟨c, k, comp, h1, h2, h3⟩ := Cond.arrayClass_spec h
  exact ⟨c, h1, fun n z => ⟨fun k h => (by cases h), k, h2, comp, h3⟩⟩
theorem law_K {args : Array Value} {s : State} (hts : ∀ w ∈ lw_tbl, w.before args s = true) : ∃ (D : va_G) (J : Nat → ClassId), va_K D vwCl (zJ J) s := by
  have hl : ∀ w ∈ wsL_law, w.before args s = true := fun w h => hts w (wsL_law_in w h)
  obtain ⟨c0, i0, k0⟩ := u_known (C := RX1) (T := TX1) (N := 16) (n := 16) hts inX1 (hl _ (List.mem_of_getElem? (i := 14) rfl))
  obtain ⟨c1, i1, k1⟩ := u_known (C := RX2) (T := TX2) (N := 3) (n := 3) hts inX2 (hl _ (List.mem_of_getElem? (i := 19) rfl))
  obtain ⟨c2, i2, k2⟩ := u_known (C := RX3) (T := TX3) (N := 6) (n := 6) hts inX3 (hl _ (List.mem_of_getElem? (i := 27) rfl))
  obtain ⟨c3, i3, k3⟩ := u_known (C := RX4) (T := TX4) (N := 2) (n := 2) hts inX4 (hl _ (List.mem_of_getElem? (i := 23) rfl))
  obtain ⟨c4, i4, k4⟩ := u_known (C := RX5) (T := TX5) (N := 5) (n := 5) hts inX5 (hl _ (List.mem_of_getElem? (i := 1) rfl))
  obtain ⟨c5, i5, k5⟩ := u_known (C := RX6) (T := TX6) (N := 13) (n := 13) hts inX6 (hl _ (List.mem_of_getElem? (i := 4) rfl))
  obtain ⟨j0, a0, b0⟩ := law_arr (ty := .int) (hl _ (List.mem_of_getElem? (i := 34) rfl))
  obtain ⟨j1, a1, b1⟩ := law_arr (ty := .char) (hl _ (List.mem_of_getElem? (i := 61) rfl))
  obtain ⟨j2, a2, b2⟩ := law_arr (ty := .boolean) (hl _ (List.mem_of_getElem? (i := 54) rfl))
  obtain ⟨comp, j3, kA, g1, g2, g3, g4, g5⟩ := Cond.arrayOver_spec (hts (Cond.arrayOver (.object "StepPairs$Encoder")) (List.mem_of_getElem? (i := 130) (by decide +kernel)))
  refine ⟨(fun k => if k = 0 then c0 else if k = 1 then c1 else if k = 2 then c2 else if k = 3 then c3 else if k = 4 then c4 else c5, fun k => if k = 0 then i0 else if k = 1 then i1 else if k = 2 then i2 else if k = 3 then i3 else if k = 4 then i4 else i5), fun k => if k = 0 then j0 else if k = 1 then j1 else if k = 2 then j2 else j3, ?_, ?_⟩
  · intro k q hq
    match k, hq with
    | 0, hq => cases hq; exact k0
    | 1, hq => cases hq; exact k1
    | 2, hq => cases hq; exact k2
    | 3, hq => cases hq; exact k3
    | 4, hq => cases hq; exact k4
    | 5, hq => cases hq; exact k5
    | k + 6, hq => simp [vwCl] at hq
  · intro k q hq
    match k, hq with
    | 0, hq => cases hq; exact ⟨b0, a0⟩
    | 1, hq => cases hq; exact ⟨b1, a1⟩
    | 2, hq => cases hq; exact ⟨b2, a2⟩
    | 3, hq => cases hq; exact ⟨fun n z => ⟨fun k h => (by cases h), kA, g3, comp, g4⟩, kA, comp, g3, g4, g1, g5⟩
    | k + 4, hq => simp [zJ] at hq
theorem law_zS {b : Nat} {s : State} (hts : ∀ w ∈ lw_tbl, w.before #[Value.ref b] s = true) (hgv : (Jvm.Cond.and given_1 narrow_1).before #[Value.ref b] s = true) : zS (fun q : Nat => s.heap.size ≤ q) s s.heap := by
  have hs := flat_of_before _ hgv
  have hA : ∀ a : Nat, a < s.heap.size → ¬ (fun q : Nat => s.heap.size ≤ q) a := fun a h => Nat.not_le.mpr h
  have hini : (Cond.initialized "StepPairs").before #[Value.ref b] s = true := hts _ (wsL_law_in _ (List.mem_of_getElem? (i := 2) rfl))
  refine ⟨?_, ?_, ?_, ?_, ?_, ?_, ?_⟩
  · exact law_zT (nm := "LEAST_SETTING") (v0 := 4) (v1 := 10) (v2 := 1) (v3 := 1) (v4 := 0) (hts _ (List.mem_of_getElem? (i := 225) (by decide +kernel))) hini (hs _ (by decide +kernel)) (hs _ (by decide +kernel)) (hs _ (by decide +kernel)) (hs _ (by decide +kernel)) (hs _ (by decide +kernel)) (hs _ (by decide +kernel)) (hs _ (by decide +kernel)) (by decide +kernel) (by decide +kernel) (by decide +kernel) (by decide +kernel) (by decide +kernel) hA
  · exact law_zT (nm := "MOST_SETTING") (v0 := 400) (v1 := 9999) (v2 := 9) (v3 := 99) (v4 := 2) (hts _ (List.mem_of_getElem? (i := 227) (by decide +kernel))) hini (hs _ (by decide +kernel)) (hs _ (by decide +kernel)) (hs _ (by decide +kernel)) (hs _ (by decide +kernel)) (hs _ (by decide +kernel)) (hs _ (by decide +kernel)) (hs _ (by decide +kernel)) (by decide +kernel) (by decide +kernel) (by decide +kernel) (by decide +kernel) (by decide +kernel) hA
  · exact law_zT (nm := "FIRST_SETTING") (v0 := 40) (v1 := 1000) (v2 := 1) (v3 := 10) (v4 := 1) (hts _ (List.mem_of_getElem? (i := 58) (by decide +kernel))) hini (hs _ (by decide +kernel)) (hs _ (by decide +kernel)) (hs _ (by decide +kernel)) (hs _ (by decide +kernel)) (hs _ (by decide +kernel)) (hs _ (by decide +kernel)) (hs _ (by decide +kernel)) (by decide +kernel) (by decide +kernel) (by decide +kernel) (by decide +kernel) (by decide +kernel) hA
  · exact va_Nw.of rfl (hts (.fieldLinkNest "StepPairs$Encoder" 18 "StepPairs" "FIRST_SETTING" "[I" "StepPairs") (List.mem_of_getElem? (i := 57) (by decide +kernel)))
  · exact va_Nw.of rfl (hts (.fieldLinkNest "StepPairs$Encoder" 88 "StepPairs" "LEAST_SETTING" "[I" "StepPairs") (List.mem_of_getElem? (i := 224) (by decide +kernel)))
  · exact va_Nw.of rfl (hts (.fieldLinkNest "StepPairs$Encoder" 91 "StepPairs" "MOST_SETTING" "[I" "StepPairs") (List.mem_of_getElem? (i := 226) (by decide +kernel)))
  · exact va_AO.of (hts (Cond.arrayOver (.object "StepPairs$Encoder")) (List.mem_of_getElem? (i := 130) (by decide +kernel)))
/-! a new encoder and the model's new row -/
theorem freshE_inv : InvE freshE := by
  refine ⟨?_, ?_, ?_, ?_, ?_, ?_, ?_, ?_, ?_, ?_, ?_, ?_, ?_, ?_, ?_, ?_, ?_, ?_⟩
  · exact ⟨by decide, by decide⟩
  · exact ⟨by decide, by decide⟩
  · exact ⟨by decide, by decide⟩
  · exact ⟨by decide, by decide⟩
  · exact ⟨by decide, by decide⟩
  · exact ⟨by decide, by decide⟩
  · exact ⟨by decide, by decide⟩
  · exact ⟨by decide, by decide⟩
  · exact ⟨by decide, by decide, by decide, by decide⟩
  · exact ⟨by decide, by decide⟩
  · exact ⟨by decide, by decide, Or.inl rfl⟩
  · exact ⟨by decide, by decide⟩
  · exact ⟨by decide, by decide⟩
  · exact ⟨by decide, by decide⟩
  · exact ⟨by decide, by decide⟩
  · exact ⟨by decide, by decide⟩
  · exact ⟨by decide, by decide⟩
  · exact fun j => ⟨(by show (0 : Int) ≤ 0; omega), (by show (0 : Int) ≤ 31; omega)⟩
theorem mNew_rep : RepE freshE mNew :=
  repE_of ⟨⟨rfl, rfl, rfl, rfl, rfl⟩, ⟨rfl, rfl, rfl, rfl⟩, ⟨rfl, rfl, rfl, rfl⟩, rfl, rfl⟩ rfl rfl rfl rfl rfl (fun j hj => absurd hj (by show ¬ (j : Int) < 0; omega))
theorem mNew_inv : InvM mNew := by
  refine ⟨?_, ?_, ?_, ?_, ?_, ?_, ?_, ?_, ?_, ?_, ?_, ?_, ?_, ?_, ?_, ?_, ?_, ?_, ?_, ?_⟩
  · exact ⟨by decide, by decide⟩
  · exact ⟨by decide, by decide⟩
  · exact ⟨by decide, by decide⟩
  · exact ⟨by decide, by decide⟩
  · exact ⟨by decide, by decide⟩
  · exact ⟨by decide, by decide⟩
  · exact ⟨by decide, by decide⟩
  · exact ⟨by decide, by decide⟩
  · exact ⟨by decide, by decide⟩
  · exact ⟨by decide, by decide⟩
  · exact ⟨by decide, by decide, by decide, by decide⟩
  · exact ⟨by decide, by decide⟩
  · exact ⟨by decide, by decide⟩
  · exact ⟨by decide, by decide⟩
  · exact ⟨by decide, by decide⟩
  · exact ⟨by decide, by decide⟩
  · exact ⟨by decide, by decide⟩
  · exact ⟨by decide, by decide⟩
  · exact ⟨by decide, by decide⟩
  · intro j hj
    unfold mNew mFresh
    rw [updZ_ne _ _ (by omega), updZ_ne _ _ (by omega)]
    unfold mZ
    split
    · omega
    · rw [updZ_ne _ _ (by omega), updZ_ne _ _ (by omega), updZ_ne _ _ (by omega), updZ_ne _ _ (by omega), updZ_ne _ _ (by omega)]
      omega
theorem sim_new : Sim freshE freshE (fun _ => 0) (fun _ => freshE) (fun _ => 0) (fun _ => freshE) 0 (fun _ => 0) 0 0 mNew (fun _ => 0) (fun _ => 0) (fun _ => 0) := by
  have z : ∀ b : Int, 0 ≤ b → (0 : Int) ≤ 0 ∧ (0 : Int) ≤ b := fun b h => ⟨Int.le_refl 0, h⟩
  refine ⟨mNew_rep, freshE_inv, mNew_inv, fun j => z 31 (by omega), ⟨⟨Int.le_refl 0, by decide⟩, z 6 (by omega), rfl, fun b hb => absurd hb (by omega)⟩, ⟨fun j => z 1 (by omega), fun j => freshE_inv, fun j => z 1 (by omega), fun k hk => ⟨rfl, fun h => absurd rfl h⟩⟩, z 80 (by omega), fun j => z 126 (by omega), by omega, by omega⟩
