/-! ===== MY BASE: whole numbers, worlds, one judgement Z over a world, the locals and the stack ===== -/
def iI (z : Int) : Int32 := Int32.ofInt z
def lI (z : Int) : Int64 := Int64.ofInt z
def inR (z : Int) : Prop := -2147483648 ≤ z ∧ z < 2147483648
def inL (z : Int) : Prop := -9223372036854775808 ≤ z ∧ z < 9223372036854775808
theorem iI_toInt {z : Int} (h : inR z) : (iI z).toInt = z := Int32.toInt_ofInt_of_le (by have := h.1; omega) (by have := h.2; omega)
theorem lI_toInt {z : Int} (h : inL z) : (lI z).toInt = z := Int64.toInt_ofInt_of_le (by have := h.1; omega) (by have := h.2; omega)
theorem iI_add (a b : Int) : iI a + iI b = iI (a + b) := (Int32.ofInt_add a b).symm
theorem iI_sub (a b : Int) : iI a - iI b = iI (a - b) := (Int32.ofInt_sub a b).symm
theorem iI_mul (a b : Int) : iI a * iI b = iI (a * b) := (Int32.ofInt_mul a b).symm
theorem iI_neg (a : Int) : -iI a = iI (-a) := (Int32.ofInt_neg a).symm
theorem iI_lt {a b : Int} (ha : inR a) (hb : inR b) : iI a < iI b ↔ a < b := by rw [Int32.lt_iff_toInt_lt, iI_toInt ha, iI_toInt hb]
theorem iI_le {a b : Int} (ha : inR a) (hb : inR b) : iI a ≤ iI b ↔ a ≤ b := by rw [Int32.le_iff_toInt_le, iI_toInt ha, iI_toInt hb]
theorem iI_eq {a b : Int} (ha : inR a) (hb : inR b) : iI a = iI b ↔ a = b := ⟨fun h => by rw [← iI_toInt ha, ← iI_toInt hb, h], fun h => by rw [h]⟩
theorem iI_0 : (0 : Int32) = iI 0 := rfl
theorem inR_0 : inR 0 := ⟨by decide, by decide⟩
theorem iI_of (x : Int32) : x = iI x.toInt := (Int32.ofInt_toInt x).symm
theorem inR_of (x : Int32) : inR x.toInt := ⟨by have := Int32.le_toInt x; omega, by have := Int32.toInt_lt x; omega⟩
theorem iI_cl {z : Int} (h : inR z) : (iI z).toNatClampNeg = z.toNat := by
  show (iI z).toInt.toNat = _
  rw [iI_toInt h]
theorem iI_in {z : Int} {k n : Nat} (hk : z = (k : Int)) (hn : k < n) (hb : n < 2147483648) : vp_in (iI z) n ∧ (iI z).toNatClampNeg = k := by
  have h : inR z := ⟨by omega, by omega⟩
  refine ⟨vp_in_iff.mpr ?_, ?_⟩
  · rw [iI_toInt h]; omega
  · rw [iI_cl h]; omega
theorem iI_minV : Int32.minValue.toInt = -2147483648 := by decide
theorem iI_maxV : Int32.maxValue.toInt = 2147483647 := by decide
theorem iI_rem {a b : Int} (h0 : 0 ≤ a) (ha : a < 2147483648) (h1 : 0 < b) (hb : b < 2147483648) : iI a - iI a / iI b * iI b = iI (a % b) := by
  have e : iI a / iI b = iI (a.tdiv b) := by
    exact (Int32.ofInt_tdiv (a := a) (b := b) (by rw [iI_minV]; omega) (by rw [iI_maxV]; omega) (by rw [iI_minV]; omega) (by rw [iI_maxV]; omega)).symm
  rw [e, iI_mul, iI_sub, Int.tdiv_eq_ediv_of_nonneg h0]
  congr 1
  have := Int.emod_add_mul_ediv a b
  rw [Int.mul_comm] at this
  omega
theorem iI_div {a b : Int} (h0 : 0 ≤ a) (ha : a < 2147483648) (h1 : 0 < b) (hb : b < 2147483648) : iI a / iI b = iI (a / b) := by
  have e : iI a / iI b = iI (a.tdiv b) := by
    exact (Int32.ofInt_tdiv (a := a) (b := b) (by rw [iI_minV]; omega) (by rw [iI_maxV]; omega) (by rw [iI_minV]; omega) (by rw [iI_maxV]; omega)).symm
  rw [e, Int.tdiv_eq_ediv_of_nonneg h0]
theorem iI_l {z : Int} (h : inR z) : (iI z).toInt64 = lI z := Int32.toInt64_ofInt (by rw [iI_minV]; exact h.1) (by rw [iI_maxV]; have := h.2; omega)
theorem iI_pos0 {b : Int} (h1 : 0 < b) (hb : b < 2147483648) : ¬ iI b = 0 := fun h => by
  have q := (iI_eq (b := 0) ⟨by omega, by omega⟩ inR_0).mp h
  omega
theorem iI_negZ (a : Int) : 0 - iI a = iI (-a) := by
  rw [iI_0, iI_sub, Int.zero_sub]
theorem iI_and3 (a : Int) : iI a &&& iI 3 = iI (a % 4) := by
  have h : (iI 3).toBitVec.toNat = 2 ^ 2 - 1 := by decide
  rw [pk_and (iI a) 2 h]
  have e : (iI a).toBitVec = BitVec.ofInt 32 a := rfl
  rw [e, BitVec.toNat_ofInt]
  show Int32.ofNat _ = Int32.ofInt _
  rw [← Int32.ofInt_eq_ofNat]
  congr 1
  omega
theorem iI_and1 (a : Int) : iI a &&& iI 1 = iI (a % 2) := by
  have h : (iI 1).toBitVec.toNat = 2 ^ 1 - 1 := by decide
  rw [pk_and (iI a) 1 h]
  have e : (iI a).toBitVec = BitVec.ofInt 32 a := rfl
  rw [e, BitVec.toNat_ofInt]
  show Int32.ofNat _ = Int32.ofInt _
  rw [← Int32.ofInt_eq_ofNat]
  congr 1
  omega
theorem iI_nat (n : Nat) : nI n = iI (n : Int) := Int32.ofInt_eq_ofNat.symm
theorem iI_shr {a : Int} (k : Nat) (hk : k < 32) (h0 : 0 ≤ a) (ha : a < 2147483648) : iI a >>> (iI k &&& 31) = iI (a / 2 ^ k) := by
  obtain ⟨n, rfl⟩ := Int.eq_ofNat_of_zero_le h0
  have hs : (((iI k) &&& 31).toBitVec.smod 32).toNat = k := by
    have : ∀ k : Nat, k < 32 → (((iI (k : Int)) &&& 31).toBitVec.smod 32).toNat = k := by decide
    exact this k hk
  rw [← iI_nat, pk_shrN (by omega) _ k hs, iI_nat]
  congr 1
def updZ (f : Nat → Int) (k : Nat) (x : Int) : Nat → Int := fun j => if j = k then x else f j
theorem updZ_eq (f : Nat → Int) (k : Nat) (x : Int) : updZ f k x k = x := if_pos rfl
theorem updZ_ne (f : Nat → Int) {k j : Nat} (x : Int) (h : j ≠ k) : updZ f k x j = f j := if_neg h
theorem updZ_iI (f : Nat → Int) (k : Nat) (x : Int) : upd (fun j => iI (f j)) k (iI x) = fun j => iI (updZ f k x j) := by
  funext j
  unfold upd updZ
  by_cases h : j = k
  · rw [if_pos h, if_pos h]
  · rw [if_neg h, if_neg h]
/-- an object's fields: references at the places that say so, whole numbers else -/
def vFa (e : Nat → Int) : Nat → List (Option Nat) → List Value
  | _, [] => []
  | i, none :: t => .int (iI (e i)) :: vFa e (i + 1) t
  | i, some q :: t => .ref q :: vFa e (i + 1) t
def vF (ks : List (Option Nat)) (e : Nat → Int) : List Value := vFa e 0 ks
theorem vFa_congr {e e' : Nat → Int} : ∀ (ks : List (Option Nat)) (i : Nat), (∀ j, i ≤ j → e j = e' j) → vFa e i ks = vFa e' i ks
  | [], _, _ => rfl
  | none :: t, i, h => by
    show Value.int (iI (e i)) :: vFa e (i + 1) t = Value.int (iI (e' i)) :: vFa e' (i + 1) t
    rw [h i (Nat.le_refl i), vFa_congr t (i + 1) (fun j hj => h j (by omega))]
  | some q :: t, i, h => by
    show Value.ref q :: vFa e (i + 1) t = Value.ref q :: vFa e' (i + 1) t
    rw [vFa_congr t (i + 1) (fun j hj => h j (by omega))]
theorem vFa_set (e : Nat → Int) (v : Int) : ∀ (ks : List (Option Nat)) (i k : Nat), ks[k]? = some none → (vFa e i ks).set k (.int (iI v)) = vFa (updZ e (i + k) v) i ks
  | [], _, _, h => by simp at h
  | none :: t, i, 0, _ => by
    show Value.int (iI v) :: vFa e (i + 1) t = Value.int (iI (updZ e (i + 0) v i)) :: vFa (updZ e (i + 0) v) (i + 1) t
    rw [show updZ e (i + 0) v i = v from if_pos rfl, vFa_congr t (i + 1) (fun j hj => (updZ_ne e (k := i + 0) v (by omega)).symm)]
  | some q :: t, i, 0, h => by simp at h
  | none :: t, i, k + 1, h => by
    show Value.int (iI (e i)) :: (vFa e (i + 1) t).set k (.int (iI v)) = Value.int (iI (updZ e (i + (k + 1)) v i)) :: vFa (updZ e (i + (k + 1)) v) (i + 1) t
    rw [vFa_set e v t (i + 1) k (by simpa using h), updZ_ne e v (by omega : i ≠ i + (k + 1)), show i + 1 + k = i + (k + 1) by omega]
  | some q :: t, i, k + 1, h => by
    show Value.ref q :: (vFa e (i + 1) t).set k (.int (iI v)) = Value.ref q :: vFa (updZ e (i + (k + 1)) v) (i + 1) t
    rw [vFa_set e v t (i + 1) k (by simpa using h), show i + 1 + k = i + (k + 1) by omega]
theorem vFa_get (e : Nat → Int) : ∀ (ks : List (Option Nat)) (i k : Nat), ks[k]? = some none → (vFa e i ks)[k]? = some (.int (iI (e (i + k))))
  | [], _, _, h => by simp at h
  | none :: t, i, 0, _ => rfl
  | some q :: t, i, 0, h => by simp at h
  | none :: t, i, k + 1, h => by
    show (vFa e (i + 1) t)[k]? = _
    rw [vFa_get e t (i + 1) k (by simpa using h), show i + 1 + k = i + (k + 1) by omega]
  | some q :: t, i, k + 1, h => by
    show (vFa e (i + 1) t)[k]? = _
    rw [vFa_get e t (i + 1) k (by simpa using h), show i + 1 + k = i + (k + 1) by omega]
theorem vFa_ref (e : Nat → Int) (q : Nat) : ∀ (ks : List (Option Nat)) (i k : Nat), ks[k]? = some (some q) → (vFa e i ks)[k]? = some (.ref q)
  | [], _, _, h => by simp at h
  | none :: t, i, 0, h => by simp at h
  | some q' :: t, i, 0, h => by
    have : q' = q := by simpa using h
    subst this
    rfl
  | none :: t, i, k + 1, h => by
    show (vFa e (i + 1) t)[k]? = _
    exact vFa_ref e q t (i + 1) k (by simpa using h)
  | some q' :: t, i, k + 1, h => by
    show (vFa e (i + 1) t)[k]? = _
    exact vFa_ref e q t (i + 1) k (by simpa using h)
theorem vFa_len (e : Nat → Int) : ∀ (ks : List (Option Nat)) (i : Nat), (vFa e i ks).length = ks.length
  | [], _ => rfl
  | none :: t, i => by show (vFa e (i + 1) t).length + 1 = _; rw [vFa_len e t (i + 1)]; rfl
  | some q :: t, i => by show (vFa e (i + 1) t).length + 1 = _; rw [vFa_len e t (i + 1)]; rfl
theorem vF_set {e : Nat → Int} {ks : List (Option Nat)} {k : Nat} (v : Int) (h : ks[k]? = some none) : (vF ks e).set k (.int (iI v)) = vF ks (updZ e k v) := by
  have := vFa_set e v ks 0 k h
  rw [Nat.zero_add] at this
  exact this
theorem vF_get {e : Nat → Int} {ks : List (Option Nat)} {k : Nat} (h : ks[k]? = some none) : (vF ks e)[k]? = some (.int (iI (e k))) := by
  have := vFa_get e ks 0 k h
  rw [Nat.zero_add] at this
  exact this
theorem vF_ref {e : Nat → Int} {ks : List (Option Nat)} {k q : Nat} (h : ks[k]? = some (some q)) : (vF ks e)[k]? = some (.ref q) := vFa_ref e q ks 0 k h
theorem vF_lt {e : Nat → Int} {ks : List (Option Nat)} {k : Nat} {x : Option Nat} (h : ks[k]? = some x) : k < (vF ks e).length := by
  rw [vF, vFa_len]
  exact (List.getElem?_eq_some_iff.mp h).1
abbrev cO (ci h : Nat) (ks : List (Option Nat)) (e : Nat → Int) : Nat × va_E := (h, .inr (ci, vF ks e))
abbrev cI (cA : ClassId) (h n : Nat) (f : Nat → Int) : Nat × va_E := (h, .inl (cA, n, .inl (fun j => iI (f j))))
abbrev cQ (cA : ClassId) (h n : Nat) (f : Nat → Option Nat) : Nat × va_E := (h, .inl (cA, n, .inr (.inr (.inr (.inr f)))))
/-- the classes of arrays: int, char, boolean, Encoder -/
def zJ (J : Nat → ClassId) : List (ClassId × FieldType) := [(J 0, .int), (J 1, .char), (J 2, .boolean), (J 3, .object "StepPairs$Encoder")]
/-! the three static tables -/
def leastS : Nat → Int := fun j => if j = 0 then 4 else if j = 1 then 10 else if j = 2 then 1 else if j = 3 then 1 else 0
def mostS : Nat → Int := fun j => if j = 0 then 400 else if j = 1 then 9999 else if j = 2 then 9 else if j = 3 then 99 else 2
def firstS : Nat → Int := fun j => if j = 0 then 40 else if j = 1 then 1000 else if j = 2 then 1 else if j = 3 then 10 else 1
def zT (nm : String) (f : Nat → Int) (A : Nat → Prop) (U : State) (H : Heap) : Prop := ∃ t : Nat, va_Z "StepPairs" nm "[I" (.ref t) A U H ∧ va_T .int t 5 (fun j => .int (iI (f j))) A U H
/-- the tables as a nest mate links them -/
def zN (U : State) : Prop := va_Nw (.fieldLinkNest "StepPairs$Encoder" 18 "StepPairs" "FIRST_SETTING" "[I" "StepPairs") U ∧ va_Nw (.fieldLinkNest "StepPairs$Encoder" 88 "StepPairs" "LEAST_SETTING" "[I" "StepPairs") U ∧ va_Nw (.fieldLinkNest "StepPairs$Encoder" 91 "StepPairs" "MOST_SETTING" "[I" "StepPairs") U ∧ va_AO "StepPairs$Encoder" U
def zS (A : Nat → Prop) (U : State) (H : Heap) : Prop := zT "LEAST_SETTING" leastS A U H ∧ zT "MOST_SETTING" mostS A U H ∧ zT "FIRST_SETTING" firstS A U H ∧ zN U
theorem zT.call {nm : String} {f : Nat → Int} {A B : Nat → Prop} {u U : State} {H0 H : Heap} {locs : List Loc} (h : zT nm f A u H0) (hvm : u.vm.Alike U.vm) (hS : va_S A H0 H locs) (hB : ∀ q, B q → A q) : zT nm f B U H := by
  obtain ⟨t, h1, h2⟩ := h
  exact ⟨t, (((va_Z.moved hvm h1).kept (fun a h3 h4 => hS.2.1 a h3 h4)).narrow hB), (((va_T.moved hvm h2).kept (fun a h3 h4 => hS.2.1 a h3 h4)).narrow hB)⟩
theorem zS.call {A B : Nat → Prop} {u U : State} {H0 H : Heap} {locs : List Loc} (h : zS A u H0) (hW : u.WarmedH U.vm) (hS : va_S A H0 H locs) (hB : ∀ q, B q → A q) : zS B U H :=
  ⟨h.1.call hW.alike hS hB, h.2.1.call hW.alike hS hB, h.2.2.1.call hW.alike hS hB, va_Nw.warmF hW h.2.2.2.1, va_Nw.warmF hW h.2.2.2.2.1, va_Nw.warmF hW h.2.2.2.2.2.1, va_AO.moved hW.alike h.2.2.2.2.2.2⟩
/-! contracts -/
def zP (D : va_G) (J : Nat → ClassId) (wc : va_W) (sz : Nat) : State → Prop := fun U => U.heap.size = sz ∧ va_P D vwCl wc U.heap ∧ va_K D vwCl (zJ J) U ∧ va_D (fun _ => True) wc ∧ zS (va_A wc sz) U U.heap
def zQ {S : Type} (D : va_G) (J : Nat → ClassId) (sz : Nat) (wc : va_W) (P : S → Prop) (v : S → Option Value) (w1 : S → va_W) : Array Value → State → Outcome → State → Prop := fun _ st oc t => (∃ u : S, P u ∧ oc = .returned (v u) ∧ va_P D vwCl (w1 u) t.heap ∧ va_K D vwCl (zJ J) t ∧ va_D (va_A wc sz) (w1 u)) ∧ va_F (va_A wc sz) st t
def ZM {S : Type} (l : Launch) (y : MethodName) (wsY : List Cond) (rm : Room) (D : va_G) (J : Nat → ClassId) (av : List Value) (wc : va_W) (P : S → Prop) (v : S → Option Value) (w1 : S → va_W) : Prop :=
  ∀ sz : Nat, Met l y wsY rm (va_Pc av (zP D J wc sz)) (zQ D J sz wc P v w1) rm.cells rm.slots (va_A wc sz)
abbrev ZX (l : Launch) (y : MethodName) (wsY : List Cond) (rm : Room) (D : va_G) (J : Nat → ClassId) (av : List Value) (wc : va_W) (v : Option Value) (w1 : va_W) : Prop :=
  ZM (S := Unit) l y wsY rm D J av wc (fun _ => True) (fun _ => v) (fun _ => w1)
/-- what stays the same along a method's walk -/
def zC (p : Program) (s : State) (m : MethodId) (args : Array Value) (meth : Method) (c : Code) (A : Nat → Prop) (nL : Nat) (D : va_G) (J : Nat → ClassId) (cc : ByteArray) (own : String) (Ts : List Cond) : Prop :=
  CallFix p m c cc nL s args Ts own ∧ va_K D vwCl (zJ J) s ∧ (∀ q, s.heap.size ≤ q → A q) ∧ zS A s s.heap ∧ meth.locks = false
def Z (p : Program) (l : Launch) (e : Env) (R : Room) (s : State) (m : MethodId) (args : Array Value) (below : List Frame) (meth : Method) (c : Code) (A : Nat → Prop) (nL : Nat) (D : va_G) (cells slots : Nat) (Q : State → Prop) (ws : va_W) (lv : List (Nat × Value)) (pc : Nat) (st : List Value) : Prop :=
  ∀ (H : Heap) (locs : List Loc) (ls : Array Slot), va_P D vwCl ws H → va_D A ws → va_S A s.heap H locs → lv_has ls nL lv → W p l e R s m args below meth c H locs cells slots Q (F0 m pc ls st)
/-- the end of a method -/
def zE {S : Type} (below : List Frame) (args : Array Value) (s : State) (D : va_G) (J : Nat → ClassId) (wc : va_W) (P : S → Prop) (v : S → Option Value) (w1 : S → va_W) (mc ms : Nat) : State → Prop :=
  MQ below (zQ D J s.heap.size wc P v w1) args s mc ms (va_A wc s.heap.size)
theorem z_met {S : Type} {l : Launch} {y : MethodName} {wsY ws' : List Cond} {rm : Room} {D : va_G} {J : Nat → ClassId} {av : List Value} {wc : va_W} {P : S → Prop} {v : S → Option Value} {w1 : S → va_W} {cc : ByteArray} {nL : Nat} {ret : Option FieldType}
    {own : String} (hy : plainName y.cls = true) (hown : y.cls = own) (hw : wsY = Cond.code y cc nL ret :: ws') (hn : (lg_sl av).length ≤ nL)
    (body : ∀ (p : Program) (e : Env) (s : State) (m : MethodId) (args : Array Value) (below : List Frame) (meth : Method) (c : Code), zC p s m args meth c (va_A wc s.heap.size) nL D J cc own wsY → meth.sig.returnType = ret → meth.name = y.name →
      Z p l e (headSpec wsY rm).room s m args below meth c (va_A wc s.heap.size) nL D 0 0 (zE below args s D J wc P v w1 rm.cells rm.slots) wc (lv_args 0 av) 0 []) : ZM l y wsY rm D J av wc P v w1 := by
  subst hown
  intro sz
  refine Met.ofW (cc := cc) (maxL := nL) (ret := ret) hy hw ?_
  intro p e s m args below meth c s₁ B hml hv
  obtain ⟨rfl, hsz, hP, hK, hD0, hS0⟩ := hv
  subst hsz
  have hl := lv_entry av (n := nL) hn
  have hC : zC p s m av.toArray meth c (va_A wc s.heap.size) nL D J cc y.cls wsY := ⟨⟨B.exec, B.bytes, hml, findClass_of_methodNamed B.named, atoms_spec (ws := wsY) B.pre⟩, hK, fun q h => Or.inr h, hS0, B.notSynchronized⟩
  have k := body p e s m av.toArray below meth c hC B.returns (name_of_methodNamed B.named B.method).1 s.heap [] _ hP hD0.self va_S.rf hl
  rw [lg_entry_eq]
  exact k
