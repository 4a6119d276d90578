/-! ===== p23, pure: the log agrees with what is counted ===== -/
def isSt (E : Enc) (a : Int) : Prop := cDat E.1 E.2.2 a = 1 ∨ cDat E.1 E.2.2 a = 2
/-- how many there are of a deed in the log: no more than counted; all, while the log has all ticks -/
def WellC (E : Enc) : Prop := ∀ (d : Int) (c : Nat), (d = 1 ∧ c = 10) ∨ (d = 2 ∧ c = 11) ∨ (d = 3 ∧ c = 12) → cDs E d (Int.toNat (min (E.1 2) 200)) ≤ E.1 c ∧ (E.1 2 ≤ 200 → cDs E d (Int.toNat (min (E.1 2) 200)) = E.1 c)
def Well1 (E : Enc) : Prop := ∀ a : Int, 0 ≤ a → a < min (E.1 2) 200 → isSt E a → (∀ b : Int, 0 ≤ b → b < a → ¬ isSt E b) → cDat E.1 E.2.2 a = E.1 9 ∧ a = E.1 2 - 1 - E.1 14
def Well2 (E : Enc) : Prop := ∀ a c : Int, 0 ≤ a → a < c → c < min (E.1 2) 200 → isSt E a → isSt E c → (∀ b : Int, 0 ≤ b → b < c → b ≠ a → ¬ isSt E b) → (cDat E.1 E.2.2 c = cDat E.1 E.2.2 a → E.1 15 = c - a) ∧ (cDat E.1 E.2.2 c ≠ cDat E.1 E.2.2 a → E.1 15 = 0)
def WellE (E : Enc) : Prop := WellC E ∧ Well1 E ∧ Well2 E ∧ (E.1 9 = 0 → E.1 15 = 0)
theorem cDs_s (E : Enc) (w : Int) (n : Nat) : cDs E w (n + 1) = if cEnt E.1 E.2.2 n / 2 ^ 3 = w then cDs E w n + 1 else cDs E w n := rfl
theorem cDs_ge (E : Enc) (w : Int) : ∀ n : Nat, 0 ≤ cDs E w n ∧ cDs E w n ≤ n
  | 0 => ⟨Int.le_refl 0, Int.le_refl 0⟩
  | n + 1 => by
    have := cDs_ge E w n
    rw [cDs_s]
    split <;> omega
theorem tick_dat0 {E : Enc} {p i : Int} (hp : 0 ≤ p ∧ p ≤ 3) (hi : 0 ≤ i ∧ i ≤ 1) : cDat (cTick E p i).1 (cTick E p i).2.2 0 = cDeed E.1 E.2.1 p := by
  have hd := cDeed_in E.1 E.2.1 p
  unfold cDat
  rw [tick_ent0]
  omega
theorem tick_datS {E : Enc} {p i a : Int} (h0 : 0 ≤ a) (h1 : a + 1 < 200) : cDat (cTick E p i).1 (cTick E p i).2.2 (a + 1) = cDat E.1 E.2.2 a := by
  unfold cDat
  rw [tick_entS h0 h1]
theorem cDs_0 (E : Enc) (w : Int) : cDs E w 0 = 0 := rfl
theorem tick_ent0n {E : Enc} {p i : Int} {a : Int} (h : a = 0) : cEnt (cTick E p i).1 (cTick E p i).2.2 a = p + 4 * i + 8 * cDeed E.1 E.2.1 p := by
  subst h
  exact tick_ent0
theorem cDs_tick {E : Enc} {p i : Int} (w : Int) (hp : 0 ≤ p ∧ p ≤ 3) (hi : 0 ≤ i ∧ i ≤ 1) (k : Nat) : (k : Int) + 1 ≤ 200 → cDs (cTick E p i) w (k + 1) = cDs E w k + (if cDeed E.1 E.2.1 p = w then 1 else 0) := by
  have hd := cDeed_in E.1 E.2.1 p
  induction k with
  | zero =>
    intro _
    have e := tick_ent0n (E := E) (p := p) (i := i) (a := ((0 : Nat) : Int)) rfl
    rw [cDs_s, e, cDs_0, cDs_0]
    generalize cDeed E.1 E.2.1 p = d at hd ⊢
    by_cases h : d = w
    · rw [if_pos h, if_pos (by omega)]
    · rw [if_neg h, if_neg (by omega)]
      rfl
  | succ k ih =>
    intro h
    have ih := ih (by omega)
    have e : cEnt (cTick E p i).1 (cTick E p i).2.2 ((k + 1 : Nat) : Int) = cEnt E.1 E.2.2 (k : Int) := by
      rw [show ((k + 1 : Nat) : Int) = (k : Int) + 1 by omega]
      exact tick_entS (by omega) (by omega)
    rw [cDs_s, e, ih, cDs_s]
    split <;> omega
theorem tick_st {E : Enc} {p i : Int} (hp : 0 ≤ p ∧ p ≤ 3) (hi : 0 ≤ i ∧ i ≤ 1) : isSt (cTick E p i) 0 ↔ cDeed E.1 E.2.1 p = 1 ∨ cDeed E.1 E.2.1 p = 2 := by
  unfold isSt
  rw [tick_dat0 hp hi]
theorem tick_stS {E : Enc} {p i a : Int} (h0 : 0 ≤ a) (h1 : a + 1 < 200) : isSt (cTick E p i) (a + 1) ↔ isSt E a := by
  unfold isSt
  rw [tick_datS h0 h1]
theorem tick_well {E : Enc} {p i : Int} (hI : InvE E) (hW : WellE E) (hp : 0 ≤ p ∧ p ≤ 3) (hi : 0 ≤ i ∧ i ≤ 1) : WellE (cTick E p i) := by
  obtain ⟨hC, h1, h2, hz⟩ := hW
  have ht := hI.1
  have hd3 := cDeed_in E.1 E.2.1 p
  obtain ⟨b2, b3, b4, b5, b6, b7, b8, b9, b10, b11, b12, b13, b14, b15⟩ := tick_fs (E := E) (p := p) (i := i) rfl hd3
  have hst := tick_st (E := E) hp hi
  have hd0 := tick_dat0 (E := E) hp hi
  refine ⟨?_, ?_, ?_, ?_⟩
  · intro d c hdc
    have hc := hC d c hdc
    have ht' := fun k h => cDs_tick (E := E) (p := p) (i := i) d hp hi k h
    have hnew : (cTick E p i).1 c = E.1 c + (if cDeed E.1 E.2.1 p = d then 1 else 0) := by
      rcases hdc with ⟨rfl, rfl⟩ | ⟨rfl, rfl⟩ | ⟨rfl, rfl⟩
      · rw [b10]; split <;> omega
      · rw [b11]; split <;> omega
      · rw [b12]; split <;> omega
    rw [b2, hnew]
    by_cases hlt : E.1 2 < 200
    · have e1 : Int.toNat (min (E.1 2 + 1) 200) = Int.toNat (min (E.1 2) 200) + 1 := by omega
      rw [e1, ht' _ (by omega)]
      have := hc.2 (by omega)
      exact ⟨by omega, fun _ => by omega⟩
    · have e1 : Int.toNat (min (E.1 2 + 1) 200) = 199 + 1 := by omega
      have e2 : Int.toNat (min (E.1 2) 200) = 199 + 1 := by omega
      rw [e1, ht' 199 (by decide)]
      rw [e2, cDs_s] at hc
      refine ⟨?_, fun h => absurd h (by omega)⟩
      have := hc.1
      split at this <;> omega
  · intro a ha1 ha2 hs hn
    rw [b2] at ha2 ⊢
    rw [b9, b14]
    by_cases h0 : a = 0
    · subst h0
      rw [hd0]
      rcases hst.mp hs with h | h
      · rw [h]; exact ⟨rfl, by show (0 : Int) = E.1 2 + 1 - 1 - E.1 2; omega⟩
      · rw [h]; exact ⟨rfl, by show (0 : Int) = E.1 2 + 1 - 1 - E.1 2; omega⟩
    · obtain ⟨a', rfl⟩ : ∃ a', a = a' + 1 := ⟨a - 1, by omega⟩
      have hn0 := fun z => hn 0 (by omega) (by omega) (hst.mpr z)
      rw [if_neg (fun z => hn0 (Or.inl z)), if_neg (fun z => hn0 (Or.inr z)), if_neg (fun z => hn0 (Or.inl z)), if_neg (fun z => hn0 (Or.inr z)), tick_datS (by omega) (by omega)]
      have q := h1 a' (by omega) (by omega) ((tick_stS (by omega) (by omega)).mp hs) (fun b hb1 hb2 hb3 => hn (b + 1) (by omega) (by omega) ((tick_stS (by omega) (by omega)).mpr hb3))
      exact ⟨q.1, by omega⟩
  · intro a c ha1 hac hc hsa hsc hn
    rw [b2] at hc
    rw [b15]
    obtain ⟨c', rfl⟩ : ∃ c', c = c' + 1 := ⟨c - 1, by omega⟩
    rw [tick_datS (by omega) (by omega)]
    by_cases h0 : a = 0
    · subst h0
      have q := h1 c' (by omega) (by omega) ((tick_stS (by omega) (by omega)).mp hsc) (fun b hb1 hb2 hb3 => hn (b + 1) (by omega) (by omega) (by omega) ((tick_stS (by omega) (by omega)).mpr hb3))
      rw [hd0, q.1]
      rcases hst.mp hsa with h | h
      · rw [h, if_pos rfl]
        refine ⟨fun z => ?_, fun z => ?_⟩
        · rw [if_pos z.symm]; omega
        · rw [if_neg (fun y => z y.symm)]
      · rw [h, if_neg (by decide), if_pos rfl]
        refine ⟨fun z => ?_, fun z => ?_⟩
        · rw [if_pos z.symm]; omega
        · rw [if_neg (fun y => z y.symm)]
    · obtain ⟨a', rfl⟩ : ∃ a', a = a' + 1 := ⟨a - 1, by omega⟩
      have hn0 := fun z => hn 0 (by omega) (by omega) (by omega) (hst.mpr z)
      rw [if_neg (fun z => hn0 (Or.inl z)), if_neg (fun z => hn0 (Or.inr z)), tick_datS (by omega) (by omega)]
      have q := h2 a' c' (by omega) (by omega) (by omega) ((tick_stS (by omega) (by omega)).mp hsa) ((tick_stS (by omega) (by omega)).mp hsc) (fun b hb1 hb2 hb4 hb3 => hn (b + 1) (by omega) (by omega) (by omega) ((tick_stS (by omega) (by omega)).mpr hb3))
      rw [show c' + 1 - (a' + 1) = c' - a' by omega]
      exact q
  · intro h
    rw [b9] at h
    rw [b15]
    by_cases e1 : cDeed E.1 E.2.1 p = 1
    · rw [if_pos e1] at h
      exact absurd h (by decide)
    · rw [if_neg e1] at h ⊢
      by_cases e2 : cDeed E.1 E.2.1 p = 2
      · rw [if_pos e2] at h
        exact absurd h (by decide)
      · rw [if_neg e2] at h ⊢
        exact hz h
theorem ticks_well {E : Enc} {p i : Int} (hI : InvE E) (hW : WellE E) (hp : 0 ≤ p ∧ p ≤ 3) (hi : 0 ≤ i ∧ i ≤ 1) : ∀ n : Nat, E.1 2 + n ≤ 99999 → WellE (cTicks E p i n)
  | 0, _ => hW
  | n + 1, h => tick_well (ticks_inv hI hp hi n (by omega)).1 (ticks_well hI hW hp hi n (by omega)) hp hi
theorem turns_well {E : Enc} {w : Int} {F : Nat} (hI : InvE E) (hW : WellE E) : ∀ n : Nat, E.1 2 + n * F ≤ 99999 → WellE (cTurns F w E n)
  | 0, _ => hW
  | n + 1, h => by
    have e : ((n + 1 : Nat) : Int) * (F : Int) = n * F + F := by
      rw [Int.natCast_add, Int.add_mul]
      omega
    rw [e] at h
    obtain ⟨a, b, -⟩ := turns_inv (w := w) (F := F) hI n (by omega)
    exact ticks_well a (turns_well (w := w) (F := F) hI hW n (by omega)) (pair_in w) ⟨by omega, by omega⟩ F (by omega)
theorem well_same {E G : Enc} (hW : WellE E) (h2 : G.1 2 = E.1 2) (h9 : G.1 9 = E.1 9) (h10 : G.1 10 = E.1 10) (h11 : G.1 11 = E.1 11) (h12 : G.1 12 = E.1 12) (h14 : G.1 14 = E.1 14) (h15 : G.1 15 = E.1 15) (hg : G.2.2 = E.2.2) : WellE G := by
  have he : ∀ a, cEnt G.1 G.2.2 a = cEnt E.1 E.2.2 a := fun a => by unfold cEnt; rw [h2, hg]
  have hd : ∀ a, cDat G.1 G.2.2 a = cDat E.1 E.2.2 a := fun a => by unfold cDat; rw [he]
  have hs : ∀ a, isSt G a ↔ isSt E a := fun a => by unfold isSt; rw [hd]
  have hc : ∀ (d : Int) (n : Nat), cDs G d n = cDs E d n := fun d n => by
    induction n with
    | zero => rfl
    | succ n ih => rw [cDs_s, cDs_s, he, ih]
  obtain ⟨hC, w1, w2, w3⟩ := hW
  refine ⟨?_, ?_, ?_, fun h => by rw [h15]; exact w3 (by rw [← h9]; exact h)⟩
  · intro d c hdc
    have e : G.1 c = E.1 c := by
      rcases hdc with ⟨-, rfl⟩ | ⟨-, rfl⟩ | ⟨-, rfl⟩
      · exact h10
      · exact h11
      · exact h12
    rw [h2, hc, e]
    exact hC d c hdc
  · intro a k1 k2 k3 k4
    rw [h2] at k2 ⊢
    rw [hd, h9, h14]
    exact w1 a k1 k2 ((hs a).mp k3) (fun b j1 j2 j3 => k4 b j1 j2 ((hs b).mpr j3))
  · intro a c k1 k2 k3 k4 k5 k6
    rw [h2] at k3
    rw [hd, hd, h15]
    exact w2 a c k1 k2 k3 ((hs a).mp k4) ((hs c).mp k5) (fun b j1 j2 j4 j3 => k6 b j1 j2 j4 ((hs b).mpr j3))
theorem fresh_well : WellE freshE := by
  refine ⟨?_, ?_, ?_, fun _ => rfl⟩
  · intro d c hdc
    rcases hdc with ⟨rfl, rfl⟩ | ⟨rfl, rfl⟩ | ⟨rfl, rfl⟩ <;> exact ⟨Int.le_refl 0, fun _ => rfl⟩
  · intro a h1 h2
    have : min (freshE.1 2) 200 = 0 := rfl
    omega
  · intro a c h1 h2 h3
    have : min (freshE.1 2) 200 = 0 := rfl
    omega
