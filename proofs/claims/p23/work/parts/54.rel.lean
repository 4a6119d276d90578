/-! ===== p23, pure: what holds of the two objects between the law's steps ===== -/
abbrev SPS : Type := Enc × Enc × (Nat → Int) × (Nat → Enc)
/-- an encoder of the law's, k steps on -/
def OkE (k : Nat) (E : Enc) : Prop := InvE E ∧ E.1 2 ≤ 200 * k ∧ E.2.1 0 = 40 ∧ E.2.1 1 = 1000 ∧ E.2.1 2 ≤ 5
def OkS (k : Nat) (a : SPS) : Prop := OkE k a.1 ∧ (∀ j, 0 ≤ a.2.1.2.2 j ∧ a.2.1.2.2 j ≤ 31) ∧ (0 ≤ a.2.2.1 1 ∧ a.2.2.1 1 < 7) ∧ (0 ≤ a.2.2.1 2 ∧ a.2.2.1 2 ≤ 6) ∧ ∀ j, OkE k (a.2.2.2 j)
/-- the two histories: the kept rows are mirrors -/
def HisM (a b : SPS) : Prop := b.2.2.1 = a.2.2.1 ∧ ∀ j : Int, 1 ≤ j → j ≤ a.2.2.1 2 → MirG (a.2.2.2 (Int.toNat ((a.2.2.1 1 - j) % 7))) (b.2.2.2 (Int.toNat ((a.2.2.1 1 - j) % 7)))
def Rel (k : Nat) (a b : SPS) : Prop := OkS k a ∧ OkS k b ∧ (WellE a.1 ∧ ∀ j, WellE (a.2.2.2 j)) ∧ MirG a.1 b.1 ∧ HisM a b
/-- an object behind a change: its answer, its new encoder -/
def chS (a : SPS) (x : Int) (E : Enc) : SPS := (E, a.2.1, hKeep a.2.2.1 x, upR a.2.2.2 (Int.toNat (a.2.2.1 1)) a.1)
theorem OkE.up {k : Nat} {E : Enc} (h : OkE k E) : OkE (k + 1) E := ⟨h.1, by have := h.2.1; omega, h.2.2⟩
theorem hKeep_ok {F : Nat → Int} {x : Int} (h1 : 0 ≤ F 1 ∧ F 1 < 7) (h2 : 0 ≤ F 2 ∧ F 2 ≤ 6) : (0 ≤ hKeep F x 1 ∧ hKeep F x 1 < 7) ∧ (0 ≤ hKeep F x 2 ∧ hKeep F x 2 ≤ 6) := by
  unfold hKeep
  split
  · refine ⟨?_, ?_⟩
    · show 0 ≤ (F 1 + 1) % 7 ∧ (F 1 + 1) % 7 < 7
      omega
    · show 0 ≤ min (F 2 + 1) 6 ∧ min (F 2 + 1) 6 ≤ 6
      omega
  · exact ⟨h1, h2⟩
theorem upR_all {P : Enc → Prop} {R : Nat → Enc} {k : Nat} {E : Enc} (hR : ∀ j, P (R j)) (hE : P E) : ∀ j, P (upR R k E j) := by
  intro j
  unfold upR
  split
  · exact hE
  · exact hR j
theorem chS_ok {k : Nat} {a : SPS} {x : Int} {E : Enc} (h : OkS k a) (hE : OkE (k + 1) E) : OkS (k + 1) (chS a x E) :=
  ⟨hE, h.2.1, (hKeep_ok h.2.2.1 h.2.2.2.1).1, (hKeep_ok h.2.2.1 h.2.2.2.1).2, upR_all (P := OkE (k + 1)) (fun j => (h.2.2.2.2 j).up) h.1.up⟩
theorem OkS.up {k : Nat} {a : SPS} (h : OkS k a) : OkS (k + 1) a := ⟨h.1.up, h.2.1, h.2.2.1, h.2.2.2.1, fun j => (h.2.2.2.2 j).up⟩
theorem Rel.up {k : Nat} {a b : SPS} (h : Rel k a b) : Rel (k + 1) a b := ⟨h.1.up, h.2.1.up, h.2.2⟩
theorem hKeep_sg {F : Nat → Int} {x y : Int} (hx : 0 ≤ x) (hy : 0 ≤ y) : hKeep F x = hKeep F y := by
  unfold hKeep
  rw [if_pos hx, if_pos hy]
/-- a change that both objects make -/
theorem rel_ch {k : Nat} {a b : SPS} {x y : Int} {E P : Enc} (h : Rel k a b) (hx : 0 ≤ x) (hy : 0 ≤ y) (hE : OkE (k + 1) E) (hP : OkE (k + 1) P) (hW : WellE E) (hM : MirG E P) : Rel (k + 1) (chS a x E) (chS b y P) := by
  obtain ⟨ha, hb, hw, hm, hf, hh⟩ := h
  refine ⟨chS_ok ha hE, chS_ok hb hP, ⟨hW, upR_all (P := WellE) hw.2 hw.1⟩, hM, ?_, ?_⟩
  · show hKeep b.2.2.1 y = hKeep a.2.2.1 x
    rw [hf]
    exact hKeep_sg hy hx
  · have h1 := ha.2.2.1
    have h2 := ha.2.2.2.1
    intro j j1 j2
    show MirG (upR a.2.2.2 (Int.toNat (a.2.2.1 1)) a.1 (Int.toNat ((hKeep a.2.2.1 x 1 - j) % 7))) (upR b.2.2.2 (Int.toNat (b.2.2.1 1)) b.1 (Int.toNat ((hKeep a.2.2.1 x 1 - j) % 7)))
    rw [hf]
    have e1 : hKeep a.2.2.1 x 1 = (a.2.2.1 1 + 1) % 7 := by unfold hKeep; rw [if_pos hx]; rfl
    have e2 : hKeep a.2.2.1 x 2 = min (a.2.2.1 2 + 1) 6 := by unfold hKeep; rw [if_pos hx]; rfl
    have j2' : j ≤ hKeep a.2.2.1 x 2 := j2
    rw [e2] at j2'
    rw [e1]
    unfold upR
    by_cases e : j = 1
    · rw [if_pos (by subst e; omega), if_pos (by subst e; omega)]
      exact hm
    · rw [if_neg (by omega), if_neg (by omega), show ((a.2.2.1 1 + 1) % 7 - j) % 7 = (a.2.2.1 1 - (j - 1)) % 7 by omega]
      exact hh (j - 1) (by omega) (by omega)
/-- a call that returns an error, of the first object alone -/
theorem rel_err {k : Nat} {a b : SPS} {x : Int} (h : Rel k a b) (hx : x < 0) : Rel k (chS a x a.1) b := by
  obtain ⟨ha, hb, hw, hm, hf, hh⟩ := h
  have ek : hKeep a.2.2.1 x = a.2.2.1 := by unfold hKeep; rw [if_neg (by omega)]
  have h1 := ha.2.2.1
  have h2 := ha.2.2.2.1
  refine ⟨⟨ha.1, ha.2.1, ?_, ?_, upR_all (P := OkE k) ha.2.2.2.2 ha.1⟩, hb, ⟨hw.1, upR_all (P := WellE) hw.2 hw.1⟩, hm, ?_, ?_⟩
  · show 0 ≤ hKeep a.2.2.1 x 1 ∧ hKeep a.2.2.1 x 1 < 7
    rw [ek]; exact h1
  · show 0 ≤ hKeep a.2.2.1 x 2 ∧ hKeep a.2.2.1 x 2 ≤ 6
    rw [ek]; exact h2
  · show b.2.2.1 = hKeep a.2.2.1 x
    rw [ek]; exact hf
  · intro j j1 j2
    show MirG (upR a.2.2.2 (Int.toNat (a.2.2.1 1)) a.1 (Int.toNat ((hKeep a.2.2.1 x 1 - j) % 7))) (b.2.2.2 (Int.toNat ((hKeep a.2.2.1 x 1 - j) % 7)))
    have j2' : j ≤ hKeep a.2.2.1 x 2 := j2
    rw [ek] at j2' ⊢
    unfold upR
    rw [if_neg (by omega)]
    exact hh j j1 j2'
/-- both undo -/
def unS (a : SPS) : SPS := (hBackE a.2.2.1 a.2.2.2 a.1, a.2.1, hBackF a.2.2.1, a.2.2.2)
theorem rel_un {k : Nat} {a b : SPS} (h : Rel k a b) (h0 : ¬ a.2.2.1 2 = 0) : Rel k (unS a) (unS b) := by
  obtain ⟨ha, hb, hw, hm, hf, hh⟩ := h
  have h1 := ha.2.2.1
  have h2 := ha.2.2.2.1
  have eF : hBackF a.2.2.1 = updZ (updZ a.2.2.1 1 ((a.2.2.1 1 + 7 - 1) % 7)) 2 (a.2.2.1 2 - 1) := by unfold hBackF hBack; rw [if_neg h0]
  have eE : ∀ (R : Nat → Enc) (E : Enc), hBackE a.2.2.1 R E = R (Int.toNat ((a.2.2.1 1 + 7 - 1) % 7)) := fun R E => by unfold hBackE; rw [if_neg h0]
  have k1 : 0 ≤ (a.2.2.1 1 + 7 - 1) % 7 ∧ (a.2.2.1 1 + 7 - 1) % 7 < 7 := by omega
  have k2 : 0 ≤ a.2.2.1 2 - 1 ∧ a.2.2.1 2 - 1 ≤ 6 := by omega
  have r1 : (unS a).1 = a.2.2.2 (Int.toNat ((a.2.2.1 1 + 7 - 1) % 7)) := eE _ _
  have r2 : (unS b).1 = b.2.2.2 (Int.toNat ((a.2.2.1 1 + 7 - 1) % 7)) := by
    show hBackE b.2.2.1 b.2.2.2 b.1 = _
    rw [hf]; exact eE _ _
  have r3 : (unS a).2.2.1 = updZ (updZ a.2.2.1 1 ((a.2.2.1 1 + 7 - 1) % 7)) 2 (a.2.2.1 2 - 1) := eF
  have r4 : (unS b).2.2.1 = (unS a).2.2.1 := by
    show hBackF b.2.2.1 = hBackF a.2.2.1
    rw [hf]
  refine ⟨⟨?_, ha.2.1, ?_, ?_, ha.2.2.2.2⟩, ⟨?_, hb.2.1, ?_, ?_, hb.2.2.2.2⟩, ⟨?_, hw.2⟩, ?_, r4, ?_⟩
  · rw [r1]; exact ha.2.2.2.2 _
  · rw [r3]; exact k1
  · rw [r3]; exact k2
  · rw [r2]; exact hb.2.2.2.2 _
  · rw [r4, r3]; exact k1
  · rw [r4, r3]; exact k2
  · rw [r1]; exact hw.2 _
  · rw [r1, r2]
    have := hh 1 (by decide) (by omega)
    rw [show (a.2.2.1 1 - 1) % 7 = (a.2.2.1 1 + 7 - 1) % 7 by omega] at this
    exact this
  · rw [r3]
    intro j j1 j2
    show MirG (a.2.2.2 (Int.toNat (((a.2.2.1 1 + 7 - 1) % 7 - j) % 7))) (b.2.2.2 (Int.toNat (((a.2.2.1 1 + 7 - 1) % 7 - j) % 7)))
    have j2' : j ≤ a.2.2.1 2 - 1 := j2
    rw [show ((a.2.2.1 1 + 7 - 1) % 7 - j) % 7 = (a.2.2.1 1 - (j + 1)) % 7 by omega]
    exact hh (j + 1) (by omega) (by omega)
theorem freshE_inv : InvE freshE := by
  refine ⟨?_, ?_, ?_, ?_, ?_, ?_, ?_, ?_, ?_, ?_, ?_, ?_, ?_, ?_, ?_, ?_, ?_, ?_⟩
  · exact ⟨by decide, by decide⟩
  · exact ⟨by decide, by decide⟩
  · exact ⟨by decide, by decide⟩
  · exact ⟨by decide, by decide⟩
  · exact ⟨by decide, by decide⟩
  · exact ⟨by decide, by decide⟩
  · exact ⟨by decide, by decide⟩
  · exact ⟨by decide, by decide⟩
  · exact ⟨by decide, by decide, by decide, by decide⟩
  · exact ⟨by decide, by decide⟩
  · exact ⟨by decide, by decide, Or.inl rfl⟩
  · exact ⟨by decide, by decide⟩
  · exact ⟨by decide, by decide⟩
  · exact ⟨by decide, by decide⟩
  · exact ⟨by decide, by decide⟩
  · exact ⟨by decide, by decide⟩
  · exact ⟨by decide, by decide⟩
  · exact fun j => ⟨(by show (0 : Int) ≤ 0; omega), (by show (0 : Int) ≤ 31; omega)⟩
theorem fresh_ok : OkE 0 freshE := ⟨freshE_inv, by show (0 : Int) ≤ 200 * ((0 : Nat) : Int); omega, rfl, rfl, by decide⟩
abbrev newS : SPS := (freshE, freshE, (fun _ => 0), (fun _ => freshE))
theorem rel_new : Rel 0 newS newS := by
  have z : ∀ b : Int, 0 ≤ b → (0 : Int) ≤ 0 ∧ (0 : Int) ≤ b := fun b h => ⟨Int.le_refl 0, h⟩
  have hok : OkS 0 newS := ⟨fresh_ok, fun j => z 31 (by decide), ⟨Int.le_refl 0, by decide⟩, z 6 (by decide), fun j => fresh_ok⟩
  exact ⟨hok, hok, ⟨fresh_well, fun j => fresh_well⟩, ⟨⟨⟨rfl, rfl, rfl, rfl, rfl, rfl, rfl, rfl, rfl, rfl, rfl, rfl, rfl, rfl⟩, rfl⟩, fun j => rfl⟩, rfl, fun j j1 j2 => absurd j1 (by have : j ≤ 0 := j2; omega)⟩
/-! the steps of the law, on both -/
theorem feed_ok {k : Nat} {E : Enc} {p i n : Int} (hk : k ≤ 48) (h : OkE k E) (hp : 0 ≤ p ∧ p ≤ 3) (hi : 0 ≤ i ∧ i ≤ 1) (hn : 1 ≤ n ∧ n ≤ 12) : cPassOk E p i n = 0 ∧ cPassE E p i n = cTicks E p i n.toNat ∧ cPassR E p i n = cSteps E p i n.toNat ∧ OkE (k + 1) (cTicks E p i n.toNat) ∧ (cTicks E p i n.toNat).1 2 = E.1 2 + n := by
  have ht := h.2.1
  have ok : cPassOk E p i n = 0 := by
    unfold cPassOk
    rw [if_pos (by omega), if_pos (by omega)]
  obtain ⟨a, b, c⟩ := ticks_inv h.1 hp hi n.toNat (by omega)
  refine ⟨ok, by unfold cPassE; rw [if_pos ok], by unfold cPassR; rw [if_pos ok], ⟨a, by rw [b]; omega, by rw [c]; exact h.2.2⟩, by rw [b]; omega⟩
theorem rel_feed {k : Nat} {a b : SPS} {p i n : Int} (hk : k ≤ 48) (h : Rel k a b) (hp : 0 ≤ p ∧ p ≤ 3) (hi : 0 ≤ i ∧ i ≤ 1) (hn : 1 ≤ n ∧ n ≤ 12) :
    cPassR a.1 p i n = cPassR b.1 (swZ p) i n ∧ cPassR a.1 p i n = (cPassE a.1 p i n).1 10 + (cPassE a.1 p i n).1 11 - a.1.1 10 - a.1.1 11 ∧ (0 ≤ cPassR a.1 p i n ∧ cPassR a.1 p i n ≤ 1) ∧ (cPassE a.1 p i n).1 2 = a.1.1 2 + n ∧
    (cEnt (cPassE a.1 p i n).1 (cPassE a.1 p i n).2.2 0 % 4 = p ∧ cEnt (cPassE a.1 p i n).1 (cPassE a.1 p i n).2.2 0 / 2 ^ 2 % 2 = i) ∧
    Rel (k + 1) (chS a (cPassR a.1 p i n) (cPassE a.1 p i n)) (chS b (cPassR b.1 (swZ p) i n) (cPassE b.1 (swZ p) i n)) := by
  have hab := h
  obtain ⟨ha, hb, hw, hm, hf, hh⟩ := h
  obtain ⟨o1, o2, o3, o4, o5⟩ := feed_ok hk ha.1 hp hi hn
  obtain ⟨p1, p2, p3, p4, p5⟩ := feed_ok hk hb.1 (swZ_in hp) hi hn
  have hta := ha.1.2.1
  have htb := hb.1.2.1
  have st := steps_fx (E := a.1) (p := p) (i := i) n.toNat
  have lg := ticks_log0 (E := a.1) hp hi (n := n.toNat) (by omega)
  have sm := steps_mir hm hb.1.1 hp hi n.toNat (by omega)
  have tm := ticks_mir hm hb.1.1 hp hi n.toNat (by omega)
  have tw := ticks_well ha.1.1 hw.1 hp hi n.toNat (by omega)
  rw [o2, o3, p2, p3]
  have s01 : 0 ≤ cSteps a.1 p i n.toNat ∧ cSteps a.1 p i n.toNat ≤ 1 := by
    rcases st.2 with q | q <;> omega
  exact ⟨sm, st.1, s01, o5, lg, rel_ch hab s01.1 (by omega) o4 p4 tw tm⟩
theorem turn_ok {k : Nat} {E : Enc} {x : Int} (hk : k ≤ 48) (h : OkE k E) (hx : 1 ≤ absZ x ∧ absZ x ≤ 40) (hx2 : absZ x = x ∨ absZ x = -x) : cRevOk E x = 0 ∧ cRevE E x = cTurns (Int.toNat (E.2.1 2)) (if 0 < x then 1 else -1) E (absZ x).toNat ∧ cRevR E x = (cRevE E x).1 3 ∧ OkE (k + 1) (cRevE E x) ∧ (cRevE E x).1 2 = E.1 2 + absZ x * E.2.1 2 ∧ E.1 2 + (absZ x).toNat * E.2.1 2 ≤ 99999 ∧ 1 ≤ E.2.1 2 := by
  have ht := h.2.1
  have hs2 := h.1.2.2.2.2.2.2.2.2.2.2.2.2.2.2.1
  have h5 := h.2.2.2.2
  have m1 : absZ x * E.2.1 2 ≤ 200 := by
    have q1 : absZ x * E.2.1 2 ≤ 40 * E.2.1 2 := Int.mul_le_mul_of_nonneg_right hx.2 (by omega)
    omega
  have m0 : 0 ≤ absZ x * E.2.1 2 := Int.mul_nonneg (by omega) (by omega)
  have ok : cRevOk E x = 0 := by
    unfold cRevOk
    rw [if_neg (by omega), if_pos (by omega)]
  have eE : cRevE E x = cTurns (Int.toNat (E.2.1 2)) (if 0 < x then 1 else -1) E (absZ x).toNat := by unfold cRevE; rw [if_pos ok]
  have en : (((absZ x).toNat : Nat) : Int) = absZ x := by omega
  have ef : ((Int.toNat (E.2.1 2) : Nat) : Int) = E.2.1 2 := by omega
  obtain ⟨a, b, c⟩ := turns_inv (w := if 0 < x then 1 else -1) (F := Int.toNat (E.2.1 2)) h.1 (absZ x).toNat (by rw [en, ef]; omega)
  rw [en, ef] at b
  refine ⟨ok, eE, by unfold cRevR; rw [if_pos ok], ?_, by rw [eE]; exact b, by rw [en]; omega, hs2.1⟩
  rw [eE]
  exact ⟨a, by rw [b]; omega, by rw [c]; exact h.2.2⟩
theorem absZ_of {n : Int} (h : 1 ≤ n) : absZ n = n ∧ absZ (-n) = n := by
  unfold absZ
  exact ⟨if_pos (by omega), by rw [if_neg (by omega)]; omega⟩
/-- a turn, x steps of the first object and as many backwards of the second one, n of them in all -/
theorem rel_turn {k : Nat} {a b : SPS} {x n : Int} (hk : k ≤ 48) (h : Rel k a b) (hn : 1 ≤ n ∧ n ≤ 40) (hx : x = n ∨ x = -n) :
    cRevR a.1 x = (a.1.1 3 + x) % 1000 ∧ cRevR b.1 (-x) = (cRevE b.1 (-x)).1 3 ∧ (cRevE a.1 x).1 2 = a.1.1 2 + n * a.1.2.1 2 ∧ (cRevE a.1 x).1 9 = (if 0 < x then 1 else 2) ∧
    Rel (k + 1) (chS a (cRevR a.1 x) (cRevE a.1 x)) (chS b (cRevR b.1 (-x)) (cRevE b.1 (-x))) := by
  have hab := h
  obtain ⟨ha, hb, hw, hm, hf, hh⟩ := h
  have hz := absZ_of hn.1
  have ex : absZ x = n := by rcases hx with rfl | rfl; exact hz.1; exact hz.2
  have ey : absZ (-x) = n := by rcases hx with rfl | rfl; exact hz.2; (rw [Int.neg_neg]; exact hz.1)
  obtain ⟨o1, o2, o3, o4, o5, o6, o7⟩ := turn_ok (x := x) hk ha.1 (by omega) (by omega)
  obtain ⟨p1, p2, p3, p4, p5, p6, p7⟩ := turn_ok (x := -x) hk hb.1 (by omega) (by omega)
  have hw1 : (if 0 < x then (1 : Int) else -1) = 1 ∨ (if 0 < x then (1 : Int) else -1) = -1 := by split <;> omega
  have hwn : (if 0 < -x then (1 : Int) else -1) = -(if 0 < x then (1 : Int) else -1) := by (repeat' split) <;> omega
  have es : a.1.2.1 = b.1.2.1 := hm.1.2
  rw [ex] at o2 o5 o6
  rw [ey, hwn] at p2
  rw [ey] at p6
  have ef : ((Int.toNat (b.1.2.1 2) : Nat) : Int) = b.1.2.1 2 := by omega
  have fx := turns_fx ha.1.1 ha.1.2.2.2.1 hw1 n.toNat o6
  have ef2 : ((Int.toNat (a.1.2.1 2) : Nat) : Int) = a.1.2.1 2 := by omega
  have tw := turns_well (w := if 0 < x then 1 else -1) (F := Int.toNat (a.1.2.1 2)) ha.1.1 hw.1 n.toNat (by rw [ef2]; exact o6)
  have tm := turns_mir (w := if 0 < x then 1 else -1) (F := Int.toNat (b.1.2.1 2)) hm hb.1.1 hw1 n.toNat (by rw [ef]; exact p6)
  rw [← p2, ← es, ← o2] at tm
  rw [← o2] at tw fx
  have c3 := o4.1.2.1
  have d3 := p4.1.2.1
  refine ⟨?_, p3, o5, ?_, rel_ch hab (by rw [o3]; exact c3.1) (by rw [p3]; exact d3.1) o4 p4 tw tm⟩
  · rw [o3, fx.1]
    congr 1
    have e : ((n.toNat : Nat) : Int) = n := by omega
    rw [e]
    rcases hx with rfl | rfl
    · rw [if_pos (by omega)]; omega
    · rw [if_neg (by omega)]; omega
  · rw [fx.2 (by omega)]
    by_cases h0 : 0 < x
    · rw [if_pos h0, if_pos rfl, if_pos h0]
    · rw [if_neg h0, if_neg (by decide), if_neg h0]
theorem rel_turn2 {k : Nat} {a b : SPS} {x y n : Int} (hk : k ≤ 48) (h : Rel k a b) (hn : 1 ≤ n ∧ n ≤ 40) (hx : x = n ∨ x = -n) (hy : y = -x) :
    cRevR a.1 x = (a.1.1 3 + x) % 1000 ∧ cRevR b.1 y = (cRevE b.1 y).1 3 ∧ (cRevE a.1 x).1 2 = a.1.1 2 + n * a.1.2.1 2 ∧ (cRevE a.1 x).1 9 = (if 0 < x then 1 else 2) ∧
    Rel (k + 1) (chS a (cRevR a.1 x) (cRevE a.1 x)) (chS b (cRevR b.1 y) (cRevE b.1 y)) := by
  subst hy
  exact rel_turn hk h hn hx
theorem zero_ok {k : Nat} {E : Enc} (h : OkE k E) : OkE (k + 1) (cClear E) := ⟨clear_inv h.1, by have := h.2.1; show E.1 2 ≤ 200 * ((k + 1 : Nat) : Int); omega, h.2.2⟩
theorem rel_zero {k : Nat} {a b : SPS} (h : Rel k a b) : Rel (k + 1) (chS a (a.1.1 3) (cClear a.1)) (chS b (b.1.1 3) (cClear b.1)) := by
  have hab := h
  obtain ⟨ha, hb, hw, hm, hf, hh⟩ := h
  obtain ⟨⟨⟨m2, m3, m4, m5, m6, m7, m8, m9, m10, m11, m12, m13, m14, m15⟩, ms⟩, mg⟩ := hm
  have a3 := ha.1.1.2.1
  have b3 := hb.1.1.2.1
  exact rel_ch hab a3.1 b3.1 (zero_ok ha.1) (zero_ok hb.1) (well_same hw.1 rfl rfl rfl rfl rfl rfl rfl rfl) ⟨⟨⟨m2, rfl, rfl, m5, m6, m7, m8, m9, m10, m11, m12, m13, m14, m15⟩, ms⟩, mg⟩
theorem adj_ok {E : Enc} {x y : Int} (h : (x = 2 ∧ 1 ≤ y ∧ y ≤ 5) ∨ (x = 3 ∧ 1 ≤ y ∧ y ≤ 99) ∨ (x = 4 ∧ 0 ≤ y ∧ y ≤ 2)) : cAdjOk x y = 0 ∧ cAdjE E x y = (E.1, updZ E.2.1 x.toNat y, E.2.2) ∧ cAdjR E x y = E.2.1 x.toNat := by
  have ok : cAdjOk x y = 0 := by
    unfold cAdjOk
    rcases h with ⟨rfl, h⟩ | ⟨rfl, h⟩ | ⟨rfl, h⟩
    · rw [if_pos (by decide), if_pos (show leastS (Int.toNat 2) ≤ y ∧ y ≤ mostS (Int.toNat 2) from ⟨by show (1 : Int) ≤ y; omega, by show y ≤ 9; omega⟩), if_neg (by decide)]
    · rw [if_pos (by decide), if_pos (show leastS (Int.toNat 3) ≤ y ∧ y ≤ mostS (Int.toNat 3) from ⟨by show (1 : Int) ≤ y; omega, by show y ≤ 99; omega⟩), if_neg (by decide)]
    · rw [if_pos (by decide), if_pos (show leastS (Int.toNat 4) ≤ y ∧ y ≤ mostS (Int.toNat 4) from ⟨by show (0 : Int) ≤ y; omega, by show y ≤ 2; omega⟩), if_neg (by decide)]
  refine ⟨ok, ?_, by unfold cAdjR; rw [if_pos ok]⟩
  unfold cAdjE
  rw [if_pos ok, if_neg (by omega), if_neg (by omega)]
theorem rel_set {k : Nat} {a b : SPS} {x y : Int} (h : Rel k a b) (hx : (x = 2 ∧ 1 ≤ y ∧ y ≤ 5) ∨ (x = 3 ∧ 1 ≤ y ∧ y ≤ 99) ∨ (x = 4 ∧ 0 ≤ y ∧ y ≤ 2)) :
    cAdjR a.1 x y = cAdjR b.1 x y ∧ (-5 ≤ cAdjR a.1 x y ∧ cAdjR a.1 x y ≤ 9999) ∧ (cAdjE a.1 x y).2.1 x.toNat = y ∧ Rel (k + 1) (chS a (cAdjR a.1 x y) (cAdjE a.1 x y)) (chS b (cAdjR b.1 x y) (cAdjE b.1 x y)) := by
  have hab := h
  obtain ⟨ha, hb, hw, hm, hf, hh⟩ := h
  obtain ⟨o1, o2, o3⟩ := adj_ok (E := a.1) hx
  obtain ⟨p1, p2, p3⟩ := adj_ok (E := b.1) hx
  obtain ⟨⟨⟨m2, m3, m4, m5, m6, m7, m8, m9, m10, m11, m12, m13, m14, m15⟩, ms⟩, mg⟩ := hm
  have ia := adj_inv (x := x) (y := y) ha.1.1
  have ib := adj_inv (x := x) (y := y) hb.1.1
  have ra := adjR_in (x := x) (y := y) ha.1.1
  have ta := ha.1.2.1
  have tb := hb.1.2.1
  have key : ∀ E : Enc, OkE k E → InvE (cAdjE E x y) → cAdjE E x y = (E.1, updZ E.2.1 x.toNat y, E.2.2) → OkE (k + 1) (cAdjE E x y) ∧ 0 ≤ E.2.1 x.toNat := by
    intro E hE hI hq
    have t := hE.2.1
    have hs2 := hE.1.2.2.2.2.2.2.2.2.2.2.2.2.2.2.1
    have hs3 := hE.1.2.2.2.2.2.2.2.2.2.2.2.2.2.2.2.1
    have hs4 := hE.1.2.2.2.2.2.2.2.2.2.2.2.2.2.2.2.2.1
    refine ⟨⟨hI, ?_, ?_⟩, ?_⟩
    · rw [hq]; show E.1 2 ≤ 200 * ((k + 1 : Nat) : Int); omega
    · rw [hq]
      rcases hx with ⟨rfl, hy⟩ | ⟨rfl, hy⟩ | ⟨rfl, hy⟩
      · exact ⟨hE.2.2.1, hE.2.2.2.1, hy.2⟩
      · exact ⟨hE.2.2.1, hE.2.2.2.1, hE.2.2.2.2⟩
      · exact ⟨hE.2.2.1, hE.2.2.2.1, hE.2.2.2.2⟩
    · rcases hx with ⟨rfl, hy⟩ | ⟨rfl, hy⟩ | ⟨rfl, hy⟩
      · show 0 ≤ E.2.1 2; omega
      · show 0 ≤ E.2.1 3; omega
      · show 0 ≤ E.2.1 4; omega
  have ka := key a.1 ha.1 ia o2
  have kb := key b.1 hb.1 ib p2
  have hx7 : x.toNat ≠ 0 ∧ x.toNat ≠ 1 := by omega
  have f0 : updZ b.1.2.1 x.toNat y 0 = b.1.2.1 0 := updZ_ne _ _ (fun z => hx7.1 z.symm)
  have f1 : updZ b.1.2.1 x.toNat y 1 = b.1.2.1 1 := updZ_ne _ _ (fun z => hx7.2 z.symm)
  refine ⟨by rw [o3, p3, ms], ra, by rw [o2]; exact updZ_eq _ _ _, ?_⟩
  refine rel_ch hab (by rw [o3]; exact ka.2) (by rw [p3]; exact kb.2) ka.1 kb.1 ?_ ?_
  · rw [o2]
    exact well_same hw.1 rfl rfl rfl rfl rfl rfl rfl rfl
  · rw [o2, p2]
    refine ⟨⟨⟨m2, ?_, ?_, m5, m6, m7, m8, m9, m10, m11, m12, m13, m14, m15⟩, by show updZ a.1.2.1 _ _ = updZ b.1.2.1 _ _; rw [ms]⟩, mg⟩
    · show a.1.1 3 = agZ (b.1.1 3) (updZ b.1.2.1 x.toNat y 1)
      rw [f1]; exact m3
    · show a.1.1 4 = agZ (b.1.1 4) (updZ b.1.2.1 x.toNat y 0)
      rw [f0]; exact m4
