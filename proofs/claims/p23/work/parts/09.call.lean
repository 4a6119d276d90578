theorem zm_fm {α β : Type} (f : α → Option β) : ∀ (is : List α) (l : List β), is.map f = l.map some → is.filterMap f = l
  | [], [], _ => rfl
  | [], _ :: _, h => by simp at h
  | _ :: _, [], h => by simp at h
  | i :: is, b :: l, h => by
    simp only [List.map_cons, List.cons.injEq] at h
    rw [List.filterMap_cons, h.1, zm_fm f is l h.2]
theorem zT.moved {nm : String} {f : Nat → Int} {A : Nat → Prop} {u U : State} {H : Heap} (h : zT nm f A u H) (hvm : u.vm.Alike U.vm) : zT nm f A U H := by
  obtain ⟨t, h1, h2⟩ := h
  exact ⟨t, va_Z.moved hvm h1, va_T.moved hvm h2⟩
theorem zS.moved {A : Nat → Prop} {u U : State} {H : Heap} (h : zS A u H) (hvm : u.vm = U.vm) : zS A U H :=
  have a : u.vm.Alike U.vm := hvm ▸ Vm.Alike.refl u.vm
  ⟨h.1.moved a, h.2.1.moved a, h.2.2.1.moved a, va_Nw.same rfl hvm h.2.2.2.1, va_Nw.same rfl hvm h.2.2.2.2.1, va_Nw.same rfl hvm h.2.2.2.2.2.1, va_AO.moved a h.2.2.2.2.2.2⟩
theorem zP_blind {D : va_G} {J : Nat → ClassId} {wc : va_W} {sz : Nat} {av : List Value} : FrameBlind (va_Pc av (zP D J wc sz)) := by
  intro a U g mk q
  obtain ⟨q0, q1, q2, q3, q4, q5⟩ := q
  exact ⟨q0, q1, q2, va_K.moved (u := U) (U := U.calling g mk a) (Vm.Alike.refl U.vm) q3, q4, zS.moved (u := U) (U := U.calling g mk a) q5 rfl⟩
section ZR2
variable {p : Program} {l : Launch} {e : Env} {R : Room} {s : State} {m : MethodId} {args : Array Value} {below : List Frame} {meth : Method} {c : Code} {cells slots : Nat} {Q : State → Prop} {A : Nat → Prop} {nL : Nat} {D : va_G} {J : Nat → ClassId} {cc : ByteArray} {own : String} {Ts : List Cond} {ws ws' : va_W} {lv lv' : List (Nat × Value)} {pc : Nat} {st : List Value}
theorem z_widen {k n : Nat} (h1 : cells ≤ k) (h2 : slots ≤ n) (kk : Z p l e R s m args below meth c A nL D k n Q ws lv pc st) : Z p l e R s m args below meth c A nL D cells slots Q ws lv pc st :=
  fun H locs ls hP hD hS hl => W.widen h1 h2 (kk H locs ls hP hD hS hl)
/-- a part of the world, in any order -/
theorem z_perm (is : List Nat) (hn : va_nd is = true) (h : is.map (fun i => ws[i]?) = ws'.map some) (kk : Z p l e R s m args below meth c A nL D cells slots Q ws' lv pc st) : Z p l e R s m args below meth c A nL D cells slots Q ws lv pc st :=
  fun H locs ls hP hD hS hl => kk H locs ls (hP.sub is (zm_fm _ is ws' h)) (hD.sub is hn h) hS hl
theorem z_ws (h : ws = ws') (kk : Z p l e R s m args below meth c A nL D cells slots Q ws' lv pc st) : Z p l e R s m args below meth c A nL D cells slots Q ws lv pc st := h ▸ kk
theorem z_lv (ks : List Nat) (h : lv_pick lv ks = lv') (kk : Z p l e R s m args below meth c A nL D cells slots Q ws lv' pc st) : Z p l e R s m args below meth c A nL D cells slots Q ws lv pc st :=
  fun H locs ls hP hD hS hl => kk H locs ls hP hD hS (lv_sub hl ks h)
theorem z_st {st' : List Value} (h : st = st') (kk : Z p l e R s m args below meth c A nL D cells slots Q ws lv pc st') : Z p l e R s m args below meth c A nL D cells slots Q ws lv pc st := h ▸ kk
theorem z_lv0 (h : lv = lv') (kk : Z p l e R s m args below meth c A nL D cells slots Q ws lv' pc st) : Z p l e R s m args below meth c A nL D cells slots Q ws lv pc st := h ▸ kk
theorem z_to {st' : List Value} (hw : ws = ws') (ks : List Nat) (h : lv_pick lv ks = lv') (hs : st = st') (kk : Z p l e R s m args below meth c A nL D cells slots Q ws' lv' pc st') : Z p l e R s m args below meth c A nL D cells slots Q ws lv pc st := by
  subst hw hs
  exact z_lv ks h kk
/-- a place where walks meet -/
theorem z_join {α : Type} (P : α → Prop) (ws1 : α → va_W) (lv1 : α → List (Nat × Value)) (pc1 : Nat) (st1 : α → List Value) (k : ∀ a, P a → Z p l e R s m args below meth c A nL D cells slots Q (ws1 a) (lv1 a) pc1 (st1 a))
    (kk : (∀ a, P a → Z p l e R s m args below meth c A nL D cells slots Q (ws1 a) (lv1 a) pc1 (st1 a)) → Z p l e R s m args below meth c A nL D cells slots Q ws lv pc st) : Z p l e R s m args below meth c A nL D cells slots Q ws lv pc st := kk k
/-- a loop: its head at pc, a measure that says how many turns are left -/
theorem z_loop {α : Type} (P : Nat → α → Prop) (ws1 : Nat → α → va_W) (lv1 : Nat → α → List (Nat × Value)) (pc1 : Nat) (st1 : List Value)
    (k : ∀ n a, (∀ b, P n b → Z p l e R s m args below meth c A nL D cells slots Q (ws1 n b) (lv1 n b) pc1 st1) → P (n + 1) a → Z p l e R s m args below meth c A nL D cells slots Q (ws1 (n + 1) a) (lv1 (n + 1) a) pc1 st1)
    (k0 : ∀ a, P 0 a → Z p l e R s m args below meth c A nL D cells slots Q (ws1 0 a) (lv1 0 a) pc1 st1) : ∀ n a, P n a → Z p l e R s m args below meth c A nL D cells slots Q (ws1 n a) (lv1 n a) pc1 st1
  | 0, a, h => k0 a h
  | n + 1, a, h => k n a (fun b hb => z_loop P ws1 lv1 pc1 st1 k k0 n b hb) h
/-! ends -/
theorem z_iret {S : Type} {wc : va_W} {P : S → Prop} {v : S → Option Value} {w1 : S → va_W} {ty : FieldType} {x : Int32} (hC : zC p s m args meth c (va_A wc s.heap.size) nL D J cc own Ts) (hr : meth.sig.returnType = some ty) (hn : narrow ty (.int x) = .int x) (u : S) (hp : P u) (hv : v u = some (.int x)) (hw : ws = w1 u) (hdg : decode cc pc = .ok (.ireturn, 1)) :
    Z p l e R s m args below meth c (va_A wc s.heap.size) nL D cells slots (zE below args s D J wc P v w1 cells slots) ws lv pc [.int x] :=
  fun H locs ls hP hD hS hl => W.zret hC.1.1 hC.1.2.1 hr hn (fun t ht hW => ⟨⟨u, hp, by rw [hv], by rw [ht, ← hw]; exact hP, va_K.moved hW.alike hC.2.1, hw ▸ hD⟩, hS.F ht⟩) hS.2.2 hdg hC.2.2.2.2
theorem z_vret {S : Type} {wc : va_W} {P : S → Prop} {v : S → Option Value} {w1 : S → va_W} (hC : zC p s m args meth c (va_A wc s.heap.size) nL D J cc own Ts) (hr : meth.sig.returnType = none) (u : S) (hp : P u) (hv : v u = none) (hw : ws = w1 u) (hdg : decode cc pc = .ok (.return_, 1)) :
    Z p l e R s m args below meth c (va_A wc s.heap.size) nL D cells slots (zE below args s D J wc P v w1 cells slots) ws lv pc [] :=
  fun H locs ls hP hD hS hl => W.vret hC.1.1 hC.1.2.1 hr (fun t ht hW => ⟨⟨u, hp, by rw [hv], by rw [ht, ← hw]; exact hP, va_K.moved hW.alike hC.2.1, hw ▸ hD⟩, hS.F ht⟩) hS.2.2 hdg hC.2.2.2.2
theorem z_aret {S : Type} {wc : va_W} {P : S → Prop} {v : S → Option Value} {w1 : S → va_W} {ty : FieldType} {x : Nat} (hC : zC p s m args meth c (va_A wc s.heap.size) nL D J cc own Ts) (hr : meth.sig.returnType = some ty) (hrt : (∃ n, ty = .object n) ∨ ∃ t, ty = .array t) (u : S) (hp : P u) (hv : v u = some (.ref x)) (hw : ws = w1 u) (hdg : decode cc pc = .ok (.areturn, 1)) :
    Z p l e R s m args below meth c (va_A wc s.heap.size) nL D cells slots (zE below args s D J wc P v w1 cells slots) ws lv pc [.ref x] :=
  fun H locs ls hP hD hS hl => W.aret hC.1.1 hC.1.2.1 hr hrt (Or.inr ⟨x, rfl⟩) (fun t ht hW => ⟨⟨u, hp, by rw [hv], by rw [ht, ← hw]; exact hP, va_K.moved hW.alike hC.2.1, hw ▸ hD⟩, hS.F ht⟩) hS.2.2 hdg hC.2.2.2.2
theorem z_lret {S : Type} {wc : va_W} {P : S → Prop} {v : S → Option Value} {w1 : S → va_W} {x : Int64} (hC : zC p s m args meth c (va_A wc s.heap.size) nL D J cc own Ts) (hr : meth.sig.returnType = some .long) (u : S) (hp : P u) (hv : v u = some (.long x)) (hw : ws = w1 u) (hdg : decode cc pc = .ok (.lreturn, 1)) :
    Z p l e R s m args below meth c (va_A wc s.heap.size) nL D cells slots (zE below args s D J wc P v w1 cells slots) ws lv pc [.long x] :=
  fun H locs ls hP hD hS hl => W.lret hC.1.1 hC.1.2.1 hr (fun t ht hW => ⟨⟨u, hp, by rw [hv], by rw [ht, ← hw]; exact hP, va_K.moved hW.alike hC.2.1, hw ▸ hD⟩, hS.F ht⟩) hS.2.2 hdg hC.2.2.2.2
/-! calls -/
theorem z_callCore {S : Type} {rm : Room} {wc wr : va_W} {P : S → Prop} {v : S → Option Value} {w1 : S → va_W} {st0 : List Value} {a : Array Value} (hC : zC p s m args meth c A nL D J cc own Ts)
    (hrun : ∀ (H : Heap) (locs : List Loc) (ls : Array Slot), ls.size = nL → va_P D vwCl wc H → va_D A wc → va_S A s.heap H locs → (∀ q, va_A wc H.size q → A q) →
      va_Run p l e R s m args below meth c H locs cells slots rm.cells rm.slots (F0 m pc ls st0) st (zQ D J H.size wc P v w1 a) (va_A wc H.size))
    (isC isR : List Nat) (h1 : isC.map (fun i => ws[i]?) = wc.map some) (h2 : isR.map (fun i => ws[i]?) = wr.map some) (h3 : va_nd isR = true) (h4 : ∀ i ∈ isR, i ∉ isC) (h5 : va_nd isC = true)
    (kk : ∀ u : S, P u → Z p l e R s m args below meth c A nL D (cells + rm.cells) (slots + rm.slots) Q (wr ++ w1 u) lv (pc + 3) ((v u).toList ++ st)) : Z p l e R s m args below meth c A nL D cells slots Q ws lv pc st0 := by
  intro H locs ls hP hD hS hl
  have hF := va_free hD hS hC.2.2.1 isC h1
  have hrun := hrun H locs ls hl.1 (hP.sub isC (zm_fm _ isC wc h1)) (hD.sub isC h5 h1) hS hF
  intro T hT X
  obtain ⟨v', st₀, t, T', L, h0, X', hL, e1, e2, ⟨⟨u, hp, hv, hP1, hK1, hD1⟩, hz, hk⟩, stp⟩ := hrun T hT X
  have hv' : v' = v u := by injection hv
  subst hv'
  rw [h0] at hz hk
  obtain ⟨hPj, hDj⟩ := va_join (H1 := T'.heap) hP hD isC isR h1 h2 h3 h4 (fun q z1 z2 => by rw [e1]; exact hk q z1 z2) hF (by rw [e1]; exact hP1) hD1
  obtain ⟨t2, a1, b1⟩ := kk u hp T'.heap (locs ++ L) ls hPj hDj ⟨Nat.le_trans hS.1 (by rw [e1]; exact hz), fun q z1 z2 => by rw [e1, hk q (Nat.lt_of_lt_of_le z1 hS.1) (fun z => z2 (hF q z))]; exact hS.2.1 q z1 z2, fun q hq => by
      rcases List.mem_append.mp hq with z | z
      · exact hS.2.2 q z
      · exact hF _ (hL q z)⟩ hl T' rfl X'
  exact ⟨t2, stp t2 a1, b1⟩
theorem z_pre {D : va_G} {J : Nat → ClassId} {wc : va_W} {av : List Value} {H : Heap} {locs : List Loc} (hC : zC p s m args meth c A nL D J cc own Ts) (hPc : va_P D vwCl wc H) (hDc : va_D A wc) (hS : va_S A s.heap H locs) (hF : ∀ q, va_A wc H.size q → A q) :
    ∀ U : State, U.heap = H → s.WarmedH U.vm → va_Pc av (zP D J wc H.size) av.toArray U :=
  fun U hU hW => ⟨rfl, by rw [hU], by rw [hU]; exact hPc, va_K.moved hW.alike hC.2.1, hDc.weaken (fun _ _ _ _ => trivial), by rw [hU]; exact hC.2.2.2.1.call hW hS hF⟩
theorem z_callV {S : Type} {y : MethodName} {wsY ws0 : List Cond} {rm : Room} {bytes : ByteArray} {maxL index : Nat} {ret : Option FieldType} {C : String} {av : List Value} {b ci : Nat} {r : vw_C} {fs : List Value} {wc wr : va_W} {P : S → Prop} {v : S → Option Value} {w1 : S → va_W} {st0 : List Value} (hC : zC p s m args meth c A nL D J cc own Ts)
    (hM : ZM l y wsY rm D J (.ref b :: av) wc P v w1) (hT : GoodIn Ts (wsV own index C y wsY)) (hw : wsY = .code y bytes maxL ret :: ws0) (n : Nat)
    (hd : y.cls = C ∧ y.cls ≠ "java/lang/invoke/MethodHandle" ∧ y.cls ≠ "java/lang/invoke/VarHandle" ∧ (parseMethodDescriptor y.desc).map (fun d => d.parameters.length) = some n)
    (hR : rm.frames + 1 ≤ R.frames ∧ 8 + (maxL + 11) + rm.locals ≤ R.locals) (hcap : cells + rm.cells ≤ R.cells ∧ slots + rm.slots ≤ R.slots)
    (isC isR : List Nat) (h1 : isC.map (fun i => ws[i]?) = wc.map some) (h2 : isR.map (fun i => ws[i]?) = wr.map some) (h3 : va_nd isR = true) (h4 : ∀ i ∈ isR, i ∉ isC) (h5 : va_nd isC = true)
    (q0 : Nat) (hq : wc[q0]? = some (b, .inr (ci, fs))) (hci : vwCl[ci]? = some r) (hrC : r.1 = C) (hlen : av.length = n) (hst : st0 = av.reverse ++ .ref b :: st) (hcat : (st.map fun v => v.category).sum ≤ 8) (hdg : decode cc pc = .ok (.invokevirtual index, 3))
    (kk : ∀ u : S, P u → Z p l e R s m args below meth c A nL D (cells + rm.cells) (slots + rm.slots) Q (wr ++ w1 u) lv (pc + 3) ((v u).toList ++ st)) : Z p l e R s m args below meth c A nL D cells slots Q ws lv pc st0 := by
  refine z_callCore (wc := wc) (P := P) (v := v) (w1 := w1) (a := (Value.ref b :: av).toArray) hC (fun H locs ls hls hPc hDc hS hF => ?_) isC isR h1 h2 h3 h4 h5 kk
  subst hrC
  exact va_runV (As := av) (rest := st) hC.1 (hM H.size) (cwV n hC.1.2.2.2.2 hT hw rfl rfl hd hR) ⟨zP_blind, va_recv hC.2.1 hPc hci hq, z_pre hC hPc hDc hS hF⟩ rfl hlen hls hst (lv_room hcat) hdg hcap
theorem z_callS {S : Type} {y : MethodName} {wsY ws0 : List Cond} {rm : Room} {bytes : ByteArray} {maxL index : Nat} {ret : Option FieldType} {av : List Value} {wc wr : va_W} {P : S → Prop} {v : S → Option Value} {w1 : S → va_W} {st0 : List Value} (hC : zC p s m args meth c A nL D J cc own Ts)
    (hM : ZM l y wsY rm D J av wc P v w1) (hT : GoodIn Ts (va_wsS own index y wsY)) (hw : wsY = .code y bytes maxL ret :: ws0) (n : Nat)
    (hd : y.cls ≠ "java/lang/invoke/MethodHandle" ∧ y.cls ≠ "java/lang/invoke/VarHandle" ∧ (parseMethodDescriptor y.desc).map (fun d => d.parameters.length) = some n)
    (hR : rm.frames + 1 ≤ R.frames ∧ 8 + (maxL + 11) + rm.locals ≤ R.locals) (hcap : cells + rm.cells ≤ R.cells ∧ slots + rm.slots ≤ R.slots)
    (isC isR : List Nat) (h1 : isC.map (fun i => ws[i]?) = wc.map some) (h2 : isR.map (fun i => ws[i]?) = wr.map some) (h3 : va_nd isR = true) (h4 : ∀ i ∈ isR, i ∉ isC) (h5 : va_nd isC = true)
    (hlen : av.length = n) (hst : st0 = av.reverse ++ st) (hcat : (st.map fun v => v.category).sum ≤ 8) (hdg : decode cc pc = .ok (.invokestatic index, 3))
    (kk : ∀ u : S, P u → Z p l e R s m args below meth c A nL D (cells + rm.cells) (slots + rm.slots) Q (wr ++ w1 u) lv (pc + 3) ((v u).toList ++ st)) : Z p l e R s m args below meth c A nL D cells slots Q ws lv pc st0 := by
  refine z_callCore (wc := wc) (P := P) (v := v) (w1 := w1) (a := av.toArray) hC (fun H locs ls hls hPc hDc hS hF => ?_) isC isR h1 h2 h3 h4 h5 kk
  exact va_runS (As := av) (rest := st) hC.1 (hM H.size) (va_cwS n hC.1.2.2.2.2 hT hw rfl rfl hd hR) ⟨zP_blind, z_pre hC hPc hDc hS hF⟩ rfl hlen hls hst (lv_room hcat) hdg hcap
theorem z_callI {S : Type} {y : MethodName} {wsY ws0 : List Cond} {rm : Room} {bytes : ByteArray} {maxL index : Nat} {av : List Value} {b : Nat} {wc wr : va_W} {P : S → Prop} {v : S → Option Value} {w1 : S → va_W} {st0 : List Value} (hC : zC p s m args meth c A nL D J cc own Ts)
    (hM : ZM l y wsY rm D J (.ref b :: av) wc P v w1) (hT : GoodIn Ts wsY) (hw : wsY = .code y bytes maxL none :: ws0) (n : Nat) (hini : Cond.initialized y.cls ∈ Ts) (hlk : Cond.methodLink own index y ∈ Ts) (hins : Cond.instanceMethod y ∈ Ts) (hy1 : y.name = "<init>")
    (hd : y.cls ≠ "java/lang/invoke/MethodHandle" ∧ y.cls ≠ "java/lang/invoke/VarHandle" ∧ (parseMethodDescriptor y.desc).map (fun d => d.parameters.length) = some n)
    (hR : rm.frames + 1 ≤ R.frames ∧ 8 + (maxL + 11) + rm.locals ≤ R.locals) (hcap : cells + rm.cells ≤ R.cells ∧ slots + rm.slots ≤ R.slots)
    (isC isR : List Nat) (h1 : isC.map (fun i => ws[i]?) = wc.map some) (h2 : isR.map (fun i => ws[i]?) = wr.map some) (h3 : va_nd isR = true) (h4 : ∀ i ∈ isR, i ∉ isC) (h5 : va_nd isC = true)
    (hlen : av.length = n) (hst : st0 = av.reverse ++ .ref b :: st) (hcat : (st.map fun v => v.category).sum ≤ 8) (hdg : decode cc pc = .ok (.invokespecial index, 3))
    (kk : ∀ u : S, P u → Z p l e R s m args below meth c A nL D (cells + rm.cells) (slots + rm.slots) Q (wr ++ w1 u) lv (pc + 3) ((v u).toList ++ st)) : Z p l e R s m args below meth c A nL D cells slots Q ws lv pc st0 := by
  refine z_callCore (wc := wc) (P := P) (v := v) (w1 := w1) (a := (Value.ref b :: av).toArray) hC (fun H locs ls hls hPc hDc hS hF => ?_) isC isR h1 h2 h3 h4 h5 kk
  exact va_runI (As := av) (rest := st) hC.1 (hM H.size) (cwI n hC.1.2.2.2.2 hT hw rfl rfl (hC.1.2.2.2.2 _ hini) (hC.1.2.2.2.2 _ hlk) (hC.1.2.2.2.2 _ hins) hy1 hd hR) ⟨zP_blind, z_pre hC hPc hDc hS hF⟩ rfl hlen hls hst (lv_room hcat) hdg hcap
/-! the JDK's own -/
theorem z_min {index : Nat} {a b : Int} (hC : zC p s m args meth c A nL D J cc own Ts) (hlk : Cond.methodLink own index Lib.Math.min.name ∈ Ts) (hst : Cond.static Lib.Math.min.name ∈ Ts) (hini : Cond.initialized "java/lang/Math" ∈ Ts) (hcd : Cond.code Lib.Math.min.name Lib.Math.min.code 2 (some .int) ∈ Ts)
    (hR : 1 ≤ R.frames) (hlo : (st.map fun v => v.category).sum + 13 ≤ R.locals) (hcap : cells ≤ R.cells ∧ slots ≤ R.slots) (ha : inR a) (hb : inR b) (hdg : decode cc pc = .ok (.invokestatic index, 3))
    (kk : Z p l e R s m args below meth c A nL D cells slots Q ws lv (pc + 3) (.int (iI (min a b)) :: st)) : Z p l e R s m args below meth c A nL D cells slots Q ws lv pc (.int (iI b) :: .int (iI a) :: st) := by
  intro H locs ls hP hD hS hl
  refine va_mmin hC.1.1 hC.1.2.1 (hC.1.2.2.1.trans hl.1.symm) hC.1.2.2.2.1 (hC.1.2.2.2.2 _ hlk) (hC.1.2.2.2.2 _ hst) (hC.1.2.2.2.2 _ hini) (hC.1.2.2.2.2 _ hcd) hR hlo hcap.1 hcap.2 hdg ?_
  have q : (if iI b < iI a then iI b else iI a) = iI (min a b) := by
    by_cases h : b < a
    · rw [if_pos ((iI_lt hb ha).mpr h), Int.min_eq_right (by omega)]
    · rw [if_neg (fun z => h ((iI_lt hb ha).mp z)), Int.min_eq_left (by omega)]
  rw [q]
  exact kk H locs ls hP hD hS hl
theorem z_abs {index : Nat} {a : Int} (hC : zC p s m args meth c A nL D J cc own Ts) (hlk : Cond.methodLink own index Lib.Math.abs.name ∈ Ts) (hst : Cond.static Lib.Math.abs.name ∈ Ts) (hini : Cond.initialized "java/lang/Math" ∈ Ts) (hcd : Cond.code Lib.Math.abs.name Lib.Math.abs.code 1 (some .int) ∈ Ts)
    (hR : 1 ≤ R.frames) (hlo : (st.map fun v => v.category).sum + 13 ≤ R.locals) (hcap : cells ≤ R.cells ∧ slots ≤ R.slots) (ha : inR a) (hdg : decode cc pc = .ok (.invokestatic index, 3))
    (kk : Z p l e R s m args below meth c A nL D cells slots Q ws lv (pc + 3) (.int (iI (if 0 ≤ a then a else -a)) :: st)) : Z p l e R s m args below meth c A nL D cells slots Q ws lv pc (.int (iI a) :: st) := by
  intro H locs ls hP hD hS hl
  refine va_mabs hC.1.1 hC.1.2.1 (hC.1.2.2.1.trans hl.1.symm) hC.1.2.2.2.1 (hC.1.2.2.2.2 _ hlk) (hC.1.2.2.2.2 _ hst) (hC.1.2.2.2.2 _ hini) (hC.1.2.2.2.2 _ hcd) hR hlo hcap.1 hcap.2 hdg ?_
  have q : (if 0 ≤ iI a then iI a else 0 - iI a) = iI (if 0 ≤ a then a else -a) := by
    by_cases h : 0 ≤ a
    · rw [if_pos h, if_pos (show (0 : Int32) ≤ iI a from (iI_le inR_0 ha).mpr h)]
    · rw [if_neg h, if_neg (show ¬ (0 : Int32) ≤ iI a from fun z => h ((iI_le inR_0 ha).mp z)), iI_negZ]
  rw [q]
  exact kk H locs ls hP hD hS hl
def cpyZ (f g : Nat → Int) (sp dp n : Nat) : Nat → Int := fun k => if dp ≤ k ∧ k < dp + n then f (sp + (k - dp)) else g k
theorem cpyZ_iI (f g : Nat → Int) (sp dp n : Nat) : va_cpy (fun j => iI (f j)) (fun j => iI (g j)) sp dp n = fun j => iI (cpyZ f g sp dp n j) := by
  funext j
  unfold va_cpy cpyZ
  by_cases h : dp ≤ j ∧ j < dp + n
  · rw [if_pos h, if_pos h]
  · rw [if_neg h, if_neg h]
theorem z_copy {index : Nat} {a0 a n0 n1 : Nat} {c0 c1 : ClassId} {f g : Nat → Int} {sp dp n : Int} (hC : zC p s m args meth c A nL D J cc own Ts) (hlk : Cond.methodLink own index arraycopyName ∈ Ts) (hnat : Cond.native arraycopyName ∈ Ts) (hst : Cond.static arraycopyName ∈ Ts) (hini : Cond.initialized "java/lang/System" ∈ Ts)
    (q0 q1 : Nat) (hq0 : ws[q0]? = some (cI c0 a0 n0 f)) (hq1 : ws[q1]? = some (cI c1 a n1 g)) (ht0 : (zJ J)[0]? = some (c0, .int)) (ht1 : (zJ J)[0]? = some (c1, .int)) (sn dn nn : Nat) (h1 : sp = (sn : Int)) (h2 : dp = (dn : Int)) (h3 : n = (nn : Int)) (h4 : sn + nn ≤ n0) (h5 : dn + nn ≤ n1) (h6 : n0 < 2147483648) (h7 : n1 < 2147483648)
    (hR : 1 ≤ R.frames) (hlo : (st.map fun v => v.category).sum + (nativeFrameWords "java/lang/System" "arraycopy" 5 + 11) ≤ R.locals) (hdg : decode cc pc = .ok (.invokestatic index, 3)) (hws : ws.set q1 (cI c1 a n1 (cpyZ f g sn dn nn)) = ws')
    (kk : Z p l e R s m args below meth c A nL D cells slots Q ws' lv (pc + 3) st) : Z p l e R s m args below meth c A nL D cells slots Q ws lv pc (.int (iI n) :: .int (iI dp) :: .ref a :: .int (iI sp) :: .ref a0 :: st) := by
  intro H locs ls hP hD hS hl
  have r1 : inR sp := ⟨by omega, by omega⟩
  have r2 : inR dp := ⟨by omega, by omega⟩
  have r3 : inR n := ⟨by omega, by omega⟩
  have e1 : (iI sp).toNatClampNeg = sn := by rw [iI_cl r1]; omega
  have e2 : (iI dp).toNatClampNeg = dn := by rw [iI_cl r2]; omega
  have e3 : (iI n).toNatClampNeg = nn := by rw [iI_cl r3]; omega
  refine va_copyi (D := D) hC.1.1 hC.1.2.1 (hC.1.2.2.1.trans hl.1.symm) hC.1.2.2.2.1 (hC.1.2.2.2.2 _ hlk) (hC.1.2.2.2.2 _ hnat) (hC.1.2.2.2.2 _ hst) (hC.1.2.2.2.2 _ hini) hC.2.1 hP hD hS q0 q1 0 0 hq0 hq1 ht0 ht1 rfl
    (fun h => by have := (iI_lt r1 inR_0).mp h; omega) (fun h => by have := (iI_lt r2 inR_0).mp h; omega) (fun h => by have := (iI_lt r3 inR_0).mp h; omega) (by rw [e1, e3]; exact h4) (by rw [e2, e3]; exact h5) (fun i _ => rfl) hR hlo hdg (fun H1 l1 hP1 hD1 hS1 => ?_)
  rw [e1, e2, e3, cpyZ_iI] at hP1 hD1
  rw [hws] at hP1 hD1
  exact kk H1 l1 ls hP1 hD1 hS1 hl
/-! the three tables -/
theorem z_getT {nm : String} {f : Nat → Int} {index : Nat} (hC : zC p s m args meth c A nL D J cc own Ts) (hT : zT nm f A s s.heap) (hlk : Cond.fieldLink own index "StepPairs" nm "[I" ∈ Ts) (hdg : decode cc pc = .ok (.getstatic index, 3))
    (kk : ∀ t : Nat, va_T .int t 5 (fun j => .int (iI (f j))) A s s.heap → Z p l e R s m args below meth c A nL D cells slots Q ws lv (pc + 3) (.ref t :: st)) : Z p l e R s m args below meth c A nL D cells slots Q ws lv pc st := by
  intro H locs ls hP hD hS hl
  obtain ⟨t, h1, h2⟩ := hT
  exact va_gets hC.1.1 hC.1.2.1 h1 hS hC.1.2.2.2.1 (hC.1.2.2.2.2 _ hlk) (fun _ h => h) hdg (kk t h2 H locs ls hP hD hS hl)
theorem z_getTN {nm : String} {f : Nat → Int} {index : Nat} (hC : zC p s m args meth c A nL D J cc own Ts) (hT : zT nm f A s s.heap) (hlk : va_Nw (.fieldLinkNest own index "StepPairs" nm "[I" "StepPairs") s) (hdg : decode cc pc = .ok (.getstatic index, 3))
    (kk : ∀ t : Nat, va_T .int t 5 (fun j => .int (iI (f j))) A s s.heap → Z p l e R s m args below meth c A nL D cells slots Q ws lv (pc + 3) (.ref t :: st)) : Z p l e R s m args below meth c A nL D cells slots Q ws lv pc st := by
  intro H locs ls hP hD hS hl
  obtain ⟨t, h1, h2⟩ := hT
  exact va_getsN hC.1.1 hC.1.2.1 h1 hS hC.1.2.2.2.1 (va_Nw.use rfl hlk) (fun _ h => h) hdg (kk t h2 H locs ls hP hD hS hl)
theorem z_ldT {f : Nat → Int} {t : Nat} {z : Int} (hC : zC p s m args meth c A nL D J cc own Ts) (hT : va_T .int t 5 (fun j => .int (iI (f j))) A s s.heap) (k : Nat) (hz : z = (k : Int)) (hk : k < 5) (hdg : decode cc pc = .ok (.iaload, 1))
    (kk : Z p l e R s m args below meth c A nL D cells slots Q ws lv (pc + 1) (.int (iI (f k)) :: st)) : Z p l e R s m args below meth c A nL D cells slots Q ws lv pc (.int (iI z) :: .ref t :: st) := by
  intro H locs ls hP hD hS hl
  exact va_ti hC.1.1 hC.1.2.1 hT hS (iI_in hz hk (by decide)).1 (v := .int (iI (f k))) (by rw [(iI_in hz hk (by decide)).2]) hdg (kk H locs ls hP hD hS hl)
/-! what an array holds beyond its length doesn't matter -/
theorem zA_congr {D : va_G} {cA : ClassId} {a n : Nat} {f g : Nat → Int} {H : Heap} (h : ∀ j, j < n → f j = g j) (hp : va_at D vwCl (cI cA a n f) H) : va_at D vwCl (cI cA a n g) H := by
  show H[a]? = some (vp_cell cA (n, .inl (fun j => iI (g j))))
  have e : vp_cell cA (n, .inl (fun j => iI (g j))) = vp_cell cA (n, .inl (fun j => iI (f j))) := by
    show arrV cA n (fun j => .int (iI (g j))) = arrV cA n (fun j => .int (iI (f j)))
    unfold arrV
    congr 2
    funext j
    show Value.int (iI (g j.val)) = Value.int (iI (f j.val))
    rw [h j.val j.isLt]
  rw [e]
  exact hp
theorem zQ_congr {D : va_G} {cA : ClassId} {a n : Nat} {f g : Nat → Option Nat} {H : Heap} (h : ∀ j, j < n → f j = g j) (hp : va_at D vwCl (cQ cA a n f) H) : va_at D vwCl (cQ cA a n g) H := by
  show H[a]? = some (vp_cell cA (n, .inr (.inr (.inr (.inr g)))))
  have e : vp_cell cA (n, .inr (.inr (.inr (.inr g)))) = vp_cell cA (n, .inr (.inr (.inr (.inr f)))) := by
    show arrV cA n (fun j => va_rf (g j)) = arrV cA n (fun j => va_rf (f j))
    unfold arrV
    congr 2
    funext j
    show va_rf (g j.val) = va_rf (f j.val)
    rw [h j.val j.isLt]
  rw [e]
  exact hp
theorem z_arrg {cA : ClassId} {a n : Nat} {f g : Nat → Int} (q0 : Nat) (hq : ws[q0]? = some (cI cA a n f)) (h : ∀ j, j < n → f j = g j) (hws : ws.set q0 (cI cA a n g) = ws') (kk : Z p l e R s m args below meth c A nL D cells slots Q ws' lv pc st) : Z p l e R s m args below meth c A nL D cells slots Q ws lv pc st := by
  intro H locs ls hP hD hS hl
  subst hws
  exact kk H locs ls (hP.set (A := A) hD hq (zA_congr h (hP q0 _ hq)) (fun _ _ => rfl)) (hD.set hq) hS hl
theorem z_arrq {cA : ClassId} {a n : Nat} {f g : Nat → Option Nat} (q0 : Nat) (hq : ws[q0]? = some (cQ cA a n f)) (h : ∀ j, j < n → f j = g j) (hws : ws.set q0 (cQ cA a n g) = ws') (kk : Z p l e R s m args below meth c A nL D cells slots Q ws' lv pc st) : Z p l e R s m args below meth c A nL D cells slots Q ws lv pc st := by
  intro H locs ls hP hD hS hl
  subst hws
  exact kk H locs ls (hP.set (A := A) hD hq (zQ_congr h (hP q0 _ hq)) (fun _ _ => rfl)) (hD.set hq) hS hl
theorem cpyZ_full {f g : Nat → Int} {n : Nat} : ∀ j, j < n → cpyZ f g 0 0 n j = f j := by
  intro j hj
  unfold cpyZ
  rw [if_pos ⟨Nat.zero_le _, by omega⟩]
  congr 1
  omega
/-! making -/
theorem z_new {C : String} {T : u_T} {N ci index : Nat} {ty : Nat → FieldType} {fs : List Value} (hC : zC p s m args meth c A nL D J cc own Ts) (hk0 : zCls ci C T N ty) (hin : ∀ w ∈ u_ws C T N, w ∈ Ts) (hcl : Cond.classLink own index C ∈ Ts) (hins : Cond.instantiable C N ∈ Ts) (hini : Cond.initialized C ∈ Ts)
    (hfs : ∀ j, j < N → defaultValue (ty j) = vp_V fs j) (hcells : cells + 1 ≤ R.cells) (hslots : slots + N ≤ R.slots) (hdg : decode cc pc = .ok (.new index, 3))
    (kk : ∀ q : Nat, Z p l e R s m args below meth c A nL D (cells + 1) (slots + N) Q (ws ++ [(q, .inr (ci, fs))]) lv (pc + 3) (.ref q :: st)) : Z p l e R s m args below meth c A nL D cells slots Q ws lv pc st :=
  fun H locs ls hP hD hS hl => va_new (D := D) hC.1.1 hC.1.2.1 hC.1.2.2.2.2 hin ty hk0.2.1 hC.1.2.2.2.1 (hC.1.2.2.2.2 _ hcl) (hC.1.2.2.2.2 _ hins) (hC.1.2.2.2.2 _ hini) hC.2.1 hP hD hS hC.2.2.1 hk0.1 hfs hcells hslots hdg (fun q H1 hP1 hD1 hS1 => kk q H1 locs ls hP1 hD1 hS1 hl)
theorem z_newarr {atype : ArrayType} {ty : FieldType} {N' t0 : Nat} {cA0 : ClassId} {z : Int} (hC : zC p s m args meth c A nL D J cc own Ts) (harr : Cond.arrayClass (newarray.typeOf atype) ∈ Ts) (hty : newarray.typeOf atype = ty) (hd : defaultValue ty = .int 0) (ht0 : (zJ J)[t0]? = some (cA0, ty)) (hra : ∀ cA : ClassId, va_RA s cA ty → s.vm.findClass ("[" ++ ty.toString) = some cA)
    (hz : z = (N' : Int)) (hN : N' < 65536) (hb : N' * componentBytes ty ≤ 536870912) (hcells : cells + 1 ≤ R.cells) (hslots : slots + N' ≤ R.slots) (hdg : decode cc pc = .ok (.newarray atype, 2))
    (kk : ∀ q : Nat, Z p l e R s m args below meth c A nL D (cells + 1) (slots + N') Q (ws ++ [cI cA0 q N' (fun _ => 0)]) lv (pc + 2) (.ref q :: st)) : Z p l e R s m args below meth c A nL D cells slots Q ws lv pc (.int (iI z) :: st) := by
  intro H locs ls hP hD hS hl
  have r : inR z := ⟨by omega, by omega⟩
  refine va_newa (D := D) (a0 := (N', .inl (fun _ => iI 0))) hC.1.1 hC.1.2.1 (hC.1.2.2.2.2 _ harr) hty hC.2.1 hP hD hS hC.2.2.1 (fun cA => by rw [hd]; rfl) (fun h => by have := (iI_lt r inR_0).mp h; omega) (by rw [iI_cl r]; omega) hb hcells hslots hdg (fun q cA H1 hK1 hP1 hD1 hS1 => ?_)
  have e1 := hra cA (hK1.2 4 (cA, ty) rfl).2
  have e2 := hra cA0 (hC.2.1.2 t0 _ ht0).2
  have e3 : cA = cA0 := Option.some.inj (e1.symm.trans e2)
  subst e3
  exact kk q H1 locs ls hP1 hD1 hS1 hl
theorem z_anew {index N' : Nat} {z : Int} (hC : zC p s m args meth c A nL D J cc own Ts) (hcl : Cond.classLink own index "StepPairs$Encoder" ∈ Ts) (hz : z = (N' : Int)) (hN : N' < 65536) (hcells : cells + 1 ≤ R.cells) (hslots : slots + N' ≤ R.slots) (hdg : decode cc pc = .ok (.anewarray index, 3))
    (kk : ∀ q : Nat, Z p l e R s m args below meth c A nL D (cells + 1) (slots + N') Q (ws ++ [cQ (J 3) q N' (fun _ => none)]) lv (pc + 3) (.ref q :: st)) : Z p l e R s m args below meth c A nL D cells slots Q ws lv pc (.int (iI z) :: st) := by
  intro H locs ls hP hD hS hl
  have r : inR z := ⟨by omega, by omega⟩
  refine va_newq (D := D) hC.1.1 hC.1.2.1 hC.1.2.2.2.1 (hC.1.2.2.2.2 _ hcl) hC.2.2.2.1.2.2.2.2.2.2 hC.2.1 hP hD hS hC.2.2.1 (fun h => by have := (iI_lt r inR_0).mp h; omega) (by rw [iI_cl r]; omega) (by omega) hcells hslots hdg (fun q cA H1 hK1 hP1 hD1 hS1 => ?_)
  obtain ⟨kA, comp, -, -, -, e1⟩ := (hK1.2 4 (cA, .object "StepPairs$Encoder") rfl).2
  obtain ⟨kA', comp', -, -, -, e2⟩ := (hC.2.1.2 3 (J 3, .object "StepPairs$Encoder") rfl).2
  have e3 : cA = J 3 := Option.some.inj (e1.symm.trans e2)
  subst e3
  exact kk q H1 locs ls hP1 hD1 hS1 hl
theorem z_aast {cA : ClassId} {a n v : Nat} {vs : List Value} {f : Nat → Option Nat} {z : Int} (hC : zC p s m args meth c A nL D J cc own Ts) (q0 : Nat) (hq : ws[q0]? = some (cQ cA a n f)) (ht0 : (zJ J)[3]? = some (cA, .object "StepPairs$Encoder")) (qk : Nat) (hv : ws[qk]? = some (v, .inr (0, vs))) (k : Nat) (hz : z = (k : Int)) (hkn : k < n) (hnb : n < 2147483648) (hdg : decode cc pc = .ok (.aastore, 1)) (hws : ws.set q0 (cQ cA a n (va_up f k (some v))) = ws')
    (kk : Z p l e R s m args below meth c A nL D cells slots Q ws' lv (pc + 1) st) : Z p l e R s m args below meth c A nL D cells slots Q ws lv pc (.ref v :: .int (iI z) :: .ref a :: st) := by
  intro H locs ls hP hD hS hl
  refine va_astq (D := D) (r := (RX1, TX1, 16)) hC.1.1 hC.1.2.1 hC.2.1 hP hD hS q0 3 qk 0 hq ht0 hv rfl (iI_in hz hkn hnb).1 hdg (fun H1 l1 hP1 hD1 hS1 => ?_)
  rw [(iI_in hz hkn hnb).2, hws] at hP1 hD1
  exact kk H1 l1 ls hP1 hD1 hS1 hl
theorem z_putF {ci a : Nat} {fs : List Value} {r : Nat} {C : String} {T : u_T} {N index : Nat} {ty : Nat → FieldType} (hC : zC p s m args meth c A nL D J cc own Ts) (hk0 : zCls ci C T N ty) (hin : ∀ w ∈ u_ws C T N, w ∈ Ts) (q0 : Nat) (hq : ws[q0]? = some (a, .inr (ci, fs))) (k : Nat) (hk : k < N) (hlink : Cond.fieldLink own index C (T k).2.1 (T k).2.2.1 ∈ Ts) (hown : (T k).1 = C) (hoC : C = own)
    (hfin : (T k).2.2.2 = true) (hin2 : meth.name = "<init>") {fty : FieldType} (hd : parseFieldDescriptor (T k).2.2.1 = some fty) (hnar : narrow fty (.ref r) = .ref r) (hfit : fits fty (.ref r) = true) (hl0 : k < fs.length) (hdg : decode cc pc = .ok (.putfield index, 3)) (hws : ws.set q0 (a, .inr (ci, fs.set k (.ref r))) = ws')
    (kk : Z p l e R s m args below meth c A nL D cells slots Q ws' lv (pc + 3) st) : Z p l e R s m args below meth c A nL D cells slots Q ws lv pc (.ref r :: .ref a :: st) :=
  fun H locs ls hP hD hS hl => va_putF (D := D) hC.1.1 hC.1.2.1 hC.1.2.2.2.2 hin ty hk0.2.1 hk0.2.2 hC.1.2.2.2.1 hC.2.1 hP hD hS q0 hq hk0.1 k hk (hC.1.2.2.2.2 _ hlink) (fun x hx => hown ▸ hx) hfin hin2 (hown.trans hoC) hd hnar hfit hl0 hdg (fun H1 l1 hP1 hD1 hS1 => kk H1 l1 ls (hws ▸ hP1) (hws ▸ hD1) hS1 hl)
theorem z_objInit {index a : Nat} (hC : zC p s m args meth c A nL D J cc own Ts) (hlk : Cond.methodLink own index objectInit ∈ Ts) (hins : Cond.instanceMethod objectInit ∈ Ts) (hcd : Cond.code objectInit ⟨#[0xb1]⟩ 1 none ∈ Ts) (hR : 1 ≤ R.frames) (hlo : 2 * (F0 m pc #[] (.ref a :: st)).monitorRoom + (st.map fun v => v.category).sum + 12 ≤ R.locals) (hdg : decode cc pc = .ok (.invokespecial index, 3))
    (kk : Z p l e R s m args below meth c A nL D cells slots Q ws lv (pc + 3) st) : Z p l e R s m args below meth c A nL D cells slots Q ws lv pc (.ref a :: st) :=
  fun H locs ls hP hD hS hl => W.objInit hC.1.1 hC.1.2.1 hC.1.2.2.2.1 (hC.1.2.2.2.2 _ hlk) (hC.1.2.2.2.2 _ hins) (hC.1.2.2.2.2 _ hcd) rfl (hl.1.trans hC.1.2.2.1.symm) rfl hdg hR hlo (kk H locs ls hP hD hS hl)
/-- from one of the three tables into an array of the world -/
theorem z_copyT {index a0 a n1 : Nat} {c1 : ClassId} {f g : Nat → Int} {dp n : Int} {sp : Int} (hC : zC p s m args meth c A nL D J cc own Ts) (hlk : Cond.methodLink own index arraycopyName ∈ Ts) (hnat : Cond.native arraycopyName ∈ Ts) (hst : Cond.static arraycopyName ∈ Ts) (hini : Cond.initialized "java/lang/System" ∈ Ts)
    (hT0 : va_T .int a0 5 (fun j => .int (iI (f j))) A s s.heap) (q1 : Nat) (hq1 : ws[q1]? = some (cI c1 a n1 g)) (ht1 : (zJ J)[0]? = some (c1, .int)) (h1 : sp = 0) (h2 : dp = 0) (h3 : n = 5) (h5 : 5 ≤ n1) (h7 : n1 < 2147483648)
    (hR : 1 ≤ R.frames) (hlo : (st.map fun v => v.category).sum + (nativeFrameWords "java/lang/System" "arraycopy" 5 + 11) ≤ R.locals) (hdg : decode cc pc = .ok (.invokestatic index, 3)) (hws : ws.set q1 (cI c1 a n1 (cpyZ f g 0 0 5)) = ws')
    (kk : Z p l e R s m args below meth c A nL D cells slots Q ws' lv (pc + 3) st) : Z p l e R s m args below meth c A nL D cells slots Q ws lv pc (.int (iI n) :: .int (iI dp) :: .ref a :: .int (iI sp) :: .ref a0 :: st) := by
  intro H locs ls hP hD hS hl T hT X
  subst h1 h2 h3
  obtain ⟨scr, t1, ⟨t2, k0, hk0, cm0, hkk0⟩, t3, t4, -, t6, t7⟩ := hT0
  have hc0 : H[a0]? = some scr := by rw [hS.2.1 a0 (Array.getElem?_eq_some_iff.mp t1).1 t7]; exact t1
  have hc1 : H[a]? = some (vp_cell c1 (n1, .inl (fun j => iI (g j)))) := hP q1 _ hq1
  obtain ⟨-, k1, hk1, cm1, hkk1⟩ := (hC.2.1.2 0 _ ht1).1 n1 (fun j => .int (iI (g j)))
  have b0 : (iI 0).toInt = 0 := by decide
  have b5 : (iI 5).toInt = 5 := by decide
  have n0 : (iI 0).toNatClampNeg = 0 := by decide
  have n5 : (iI 5).toNatClampNeg = 5 := by decide
  obtain ⟨vm', X', step⟩ := X.arraycopy hC.1.1 hC.1.2.2.2.1 (hC.1.2.2.2.2 _ hlk) (hC.1.2.2.2.2 _ hnat) (hC.1.2.2.2.2 _ hst) (hC.1.2.2.2.2 _ hini) (src := a0) (dst := a) (cs := scr) (cd := vp_cell c1 (n1, .inl (fun j => iI (g j)))) (srcPos := iI 0) (destPos := iI 0) (n := iI 5) (by rw [hT]; exact hc0) (by rw [hT]; exact hc1)
    t2 (fun _ h => by cases h) t3 (fun h => by cases h) hk0 hk1 hkk0 hkk1 (by simp [refKind]) (by decide) (by decide) (by decide)
    (by rw [b0, b5]; omega)
    (by rw [b0, b5]; show ¬ _ > ((arrV c1 n1 (fun j => .int (iI (g j)))).slots.size : Int); rw [arrV_size]; omega)
    (fun vm₁ _ i hi => by
      rw [n5] at hi
      have q : scr.slots.getD ((iI 0).toNatClampNeg + i) .null = .int (iI (f ((iI 0).toNatClampNeg + i))) := by
        rw [Array.getD_eq_getD_getElem?, t6 _ (by omega)]
        rfl
      refine ⟨?_, ?_⟩
      · rw [q]; rfl
      · rw [q]; exact trivial)
    (g := F0 m pc ls (.int (iI 5) :: .int (iI 0) :: .ref a :: .int (iI 0) :: .ref a0 :: st)) rfl (by rw [hl.1, hC.1.2.2.1]) (rest := st) rfl (by rw [hC.1.2.1]; exact hdg) hR (by show 2 * 0 + _ + _ ≤ _; omega)
  have e1 : copied scr (vp_cell c1 (n1, .inl (fun j => iI (g j)))) (iI 0) (iI 0) (iI 5) = vp_cell c1 (n1, .inl (fun j => iI (cpyZ f g 0 0 5 j))) := by
    rw [← cpyZ_iI]
    have q := va_copiedX (sp := 0) (dp := 0) (n := 5) (n0 := 5) (n1 := n1) (fun z => Value.int z) scr c1 (fun j => iI (f j)) (fun j => iI (g j)) (fun j hj => t6 j hj) (by omega)
    show (arrV c1 n1 (fun j => .int (iI (g j)))).storeRun (iI 0).toNatClampNeg (scr.stretch (iI 0).toNatClampNeg (iI 5).toNatClampNeg) = _
    rw [n0, n5]
    exact q
  rw [e1] at X' step
  have hla : a < H.size := (Array.getElem?_eq_some_iff.mp hc1).1
  have hheap : ((T.setVm vm').setCell a (vp_cell c1 (n1, .inl (fun j => iI (cpyZ f g 0 0 5 j))))).heap = H.setIfInBounds a (vp_cell c1 (n1, .inl (fun j => iI (cpyZ f g 0 0 5 j)))) := by rw [← hT]; rfl
  have oq : ∀ q : Nat, q ≠ a → (H.setIfInBounds a (vp_cell c1 (n1, .inl (fun j => iI (cpyZ f g 0 0 5 j)))))[q]? = H[q]? := fun q hq => by simp [Array.getElem?_setIfInBounds, Ne.symm hq]
  subst hws
  obtain ⟨t, a1, c3⟩ := kk _ _ ls (hP.set (A := A) hD hq1 (show (H.setIfInBounds a _)[a]? = some _ by simp [Array.getElem?_setIfInBounds, hla]) oq) (hD.set hq1) ⟨by simp; exact hS.1, fun q g1 g2 => by
      rw [oq q (fun e => g2 (by rw [e]; exact hD.2 q1 _ hq1))]
      exact hS.2.1 q g1 g2, fun q hq => by
      rcases List.mem_append.mp hq with h | h
      · exact hS.2.2 q h
      · obtain ⟨z, -, hz⟩ := List.mem_map.mp h
        rw [← hz]
        exact hD.2 q1 _ hq1⟩ hl _ hheap X'
  exact ⟨t, step t a1, c3⟩
end ZR2
