/-! ===== the law: its world, what holds of it, its own instructions ===== -/
def Sim (E T : Enc) (F : Nat → Int) (R : Nat → Enc) (U : Nat → Int) (V : Nat → Enc) (len : Int) (C : Nat → Int) (L er : Int) (A H S Vm : Nat → Int) : Prop :=
  RepE E A ∧ InvE E ∧ InvM A ∧ (∀ j, 0 ≤ T.2.2 j ∧ T.2.2 j ≤ 31) ∧ HistR F R L H ∧ SlotR U V S Vm ∧ (0 ≤ len ∧ len ≤ 80) ∧ (∀ j, 0 ≤ C j ∧ C j ≤ 126) ∧ (-5 ≤ er ∧ er ≤ 0)
abbrev lW (J : Nat → ClassId) (hx hm : Nat) (AA : Nat → Nat → Nat) (aa : Nat → Nat) (E T : Enc) (F : Nat → Int) (R : Nat → Enc) (G U : Nat → Int) (V : Nat → Enc) (len pos pr ix nm : Int) (C : Nat → Int) (L sp nb dn er : Int) (A K Tm H S Vm : Nat → Int) : va_W :=
  wSP J hx AA E T F R G U V len pos pr ix nm C ++ wM J hm aa L len sp nb dn er A K Tm H S Vm C
theorem iI_and31 (a : Int) : iI a &&& iI 31 = iI (a % 32) := by
  have h : (iI 31).toBitVec.toNat = 2 ^ 5 - 1 := by decide
  rw [pk_and (iI a) 5 h]
  have e : (iI a).toBitVec = BitVec.ofInt 32 a := rfl
  rw [e, BitVec.toNat_ofInt]
  show Int32.ofNat _ = Int32.ofInt _
  rw [← Int32.ofInt_eq_ofNat]
  congr 1
  omega
theorem long_nat (v : Int64) : ∃ X : Nat, X < 2 ^ 64 ∧ v = lI (X : Int) := by
  refine ⟨v.toBitVec.toNat, v.toBitVec.isLt, ?_⟩
  apply Int64.toBitVec_inj.mp
  show v.toBitVec = BitVec.ofInt 64 (v.toBitVec.toNat : Int)
  rw [BitVec.ofInt_natCast, BitVec.ofNat_toNat, BitVec.setWidth_eq]
section ZR3
variable {p : Program} {l : Launch} {e : Env} {R : Room} {s : State} {m : MethodId} {args : Array Value} {below : List Frame} {meth : Method} {c : Code} {cells slots : Nat} {Q : State → Prop} {A : Nat → Prop} {nL : Nat} {D : va_G} {J : Nat → ClassId} {cc : ByteArray} {own : String} {Ts : List Cond} {ws ws' : va_W} {lv lv' : List (Nat × Value)} {pc : Nat} {st : List Value}
theorem z_cells {k n : Nat} (h1 : cells = k) (h2 : slots = n) (kk : Z p l e R s m args below meth c A nL D k n Q ws lv pc st) : Z p l e R s m args below meth c A nL D cells slots Q ws lv pc st := by
  subst h1 h2
  exact kk
theorem z_icmp_same (hC : zC p s m args meth c A nL D J cc own Ts) {x : Int32} {off : Int} {tgt : Nat} (hdg : decode cc pc = .ok (.if_icmp .eq off, 3)) (ht : (pc : Int) + off = (tgt : Int)) (kt : Z p l e R s m args below meth c A nL D cells slots Q ws lv tgt st) : Z p l e R s m args below meth c A nL D cells slots Q ws lv pc (.int x :: .int x :: st) :=
  fun H locs ls hP hD hS hl => lv_icmp_eq hC.1.1 hC.1.2.1 hdg ht (fun _ => kt H locs ls hP hD hS hl) (fun h => absurd rfl h)
theorem l_cmp_same (x : Int64) : lg_cmp x x = iI 0 := by
  unfold lg_cmp
  rw [if_neg (show ¬ x > x from fun h => by rw [gt_iff_lt, Int64.lt_iff_toInt_lt] at h; omega)]
  first | rfl | (rw [if_pos rfl]; rfl)
theorem z_sld {b N : Nat} {xs : Nat → Int32} (hC : zC p s m args meth c A nL D J cc own Ts) (hX : va_X b N xs s s.heap) (hbl : b < s.heap.size) (hbA : ¬ A b) {z : Int} (k : Nat) (hz : z = (k : Int)) (hk : k < N) (hN : N < 2147483648) (hdg : decode cc pc = .ok (.iaload, 1))
    (kk : Z p l e R s m args below meth c A nL D cells slots Q ws lv (pc + 1) (.int (iI (xs k).toInt) :: st)) : Z p l e R s m args below meth c A nL D cells slots Q ws lv pc (.int (iI z) :: .ref b :: st) := by
  intro H locs ls hP hD hS hl
  refine va_sld hC.1.1 hC.1.2.1 hX hbl hbA hS (iI_in hz hk hN).1 hdg ?_
  rw [(iI_in hz hk hN).2, iI_of (xs k)]
  exact kk H locs ls hP hD hS hl
theorem z_slen {b N : Nat} {xs : Nat → Int32} (hC : zC p s m args meth c A nL D J cc own Ts) (hX : va_X b N xs s s.heap) (hbl : b < s.heap.size) (hbA : ¬ A b) (hdg : decode cc pc = .ok (.arraylength, 1))
    (kk : Z p l e R s m args below meth c A nL D cells slots Q ws lv (pc + 1) (.int (iI (N : Int)) :: st)) : Z p l e R s m args below meth c A nL D cells slots Q ws lv pc (.ref b :: st) := by
  intro H locs ls hP hD hS hl
  refine va_slen hC.1.1 hC.1.2.1 hX hbl hbA hS hdg ?_
  rw [show Int32.ofNat N = iI (N : Int) from iI_nat N]
  exact kk H locs ls hP hD hS hl
/-- the law's end -/
theorem z_law_end {b : Nat} (hC : zC p s m #[Value.ref b] meth c (fun q : Nat => s.heap.size ≤ q) 4 D J cL_law RL wsL_law) (hr : meth.sig.returnType = ret) : Z p l e room_1 s m #[Value.ref b] below meth c (fun q : Nat => s.heap.size ≤ q) 4 D 600000 7302250 (lw_Z below #[Value.ref b] s) ws lv 606 [.int (iI 1)] := by
  intro H locs ls hP hD hS hl
  refine va_forget hS.2.2 ?_
  exact lw_ret (d0 := s.drawn) (Drawn.sameBut.refl s.drawn lw_cs) hC.1.1 hC.1.2.1 hr hC.2.2.2.2 dL_law_606
end ZR3
/-- what is to be shown at a place of the law's loop, whatever the two objects hold -/
def KL (p : Program) (l : Launch) (e : Env) (s : State) (m : MethodId) (below : List Frame) (meth : Method) (c : Code) (D : va_G) (J : Nat → ClassId) (b : Nat) (Q : State → Prop) (hx hm : Nat) (AA : Nat → Nat → Nat) (aa : Nat → Nat) (i pc : Nat) : Prop :=
  ∀ (E T : Enc) (F : Nat → Int) (R : Nat → Enc) (G U : Nat → Int) (V : Nat → Enc) (len pos pr ix nm : Int) (C : Nat → Int) (L sp nb dn er : Int) (A K Tm H S Vm : Nat → Int), Sim E T F R U V len C L er A H S Vm →
    Z p l e room_1 s m #[Value.ref b] below meth c (fun q : Nat => s.heap.size ≤ q) 4 D 600000 7302250 Q (lW J hx hm AA aa E T F R G U V len pos pr ix nm C L sp nb dn er A K Tm H S Vm) [(3, .int (iI (i : Int))), (2, .ref hm), (1, .ref hx), (0, .ref b)] pc []
