/-! ===== p23, pure: what the two objects tell of themselves ===== -/
theorem ent_mir {E P : Enc} (hM : MirG E P) (a : Int) : cEnt E.1 E.2.2 a = swE (cEnt P.1 P.2.2 a) := by
  unfold cEnt
  rw [hM.2, hM.1.1.1]
theorem swE_parts {x : Int} (h : 0 ≤ x ∧ x ≤ 31) : swE x % 4 = swZ (x % 4) ∧ swE x / 2 ^ 2 % 2 = x / 2 ^ 2 % 2 ∧ swE x / 2 ^ 3 = swZ (x / 2 ^ 3) := by
  have h1 := swZ_in (x := x % 4) (by omega)
  have h2 := swZ_in (x := x / 8) (by omega)
  unfold swE
  have e : x / 2 ^ 3 = x / 8 := rfl
  have e2 : x / 2 ^ 2 = x / 4 := rfl
  rw [e, e2]
  generalize swZ (x % 4) = u at h1 ⊢
  generalize swZ (x / 8) = v at h2 ⊢
  refine ⟨by omega, by omega, by omega⟩
theorem log_mir {E P : Enc} (hM : MirG E P) (hP : InvE P) (a : Int) : cEnt E.1 E.2.2 a % 4 = swZ (cEnt P.1 P.2.2 a % 4) ∧ cEnt E.1 E.2.2 a / 2 ^ 2 % 2 = cEnt P.1 P.2.2 a / 2 ^ 2 % 2 ∧ cEnt E.1 E.2.2 a / 2 ^ 3 = swZ (cEnt P.1 P.2.2 a / 2 ^ 3) := by
  rw [ent_mir hM]
  exact swE_parts (invE_g hP _)
theorem dat_mir {E P : Enc} (hM : MirG E P) (hP : InvE P) (a : Int) : cDat E.1 E.2.2 a = swZ (cDat P.1 P.2.2 a) := (log_mir hM hP a).2.2
theorem gate_mir {E P : Enc} (hM : MirG E P) (hP : InvE P) : ∀ n : Nat, cGate E n = -cGate P n
  | 0 => rfl
  | n + 1 => by
    have ih := gate_mir hM hP n
    have hd := cDat_in (invE_g hP) (f := P.1) (n : Int)
    rw [cGate_s, cGate_s, dat_mir hM hP, ih]
    generalize cDat P.1 P.2.2 (n : Int) = d at hd ⊢
    obtain rfl | rfl | rfl | rfl : d = 0 ∨ d = 1 ∨ d = 2 ∨ d = 3 := by omega
    · rfl
    · show -cGate P n + -1 = -(cGate P n + 1); omega
    · show -cGate P n + 1 = -(cGate P n + -1); omega
    · rfl
theorem gate_in (E : Enc) : ∀ n : Nat, -(n : Int) ≤ cGate E n ∧ cGate E n ≤ n
  | 0 => ⟨by show -((0 : Nat) : Int) ≤ 0; omega, by show (0 : Int) ≤ ((0 : Nat) : Int); omega⟩
  | n + 1 => by
    have ih := gate_in E n
    rw [cGate_s]
    (repeat' split) <;> omega
theorem speed_mir {E P : Enc} (hM : MirG E P) (hP : InvE P) : cSpeedR E 0 - 1000 = 1000 - cSpeedR P 0 ∧ cSpeedR E 1 = cSpeedR P 1 := by
  have e2 := hM.1.1.1
  have e15 := hM.1.1.2.2.2.2.2.2.2.2.2.2.2.2.2
  have es := hM.1.2
  refine ⟨?_, ?_⟩
  · show 1000 + cGate E (Int.toNat (min (E.2.1 3) (min (E.1 2) 200))) - 1000 = 1000 - (1000 + cGate P (Int.toNat (min (P.2.1 3) (min (P.1 2) 200))))
    rw [gate_mir hM hP, es, e2]
    omega
  · show (if E.1 15 ≤ 0 then (-6 : Int) else E.1 15) = (if P.1 15 ≤ 0 then (-6 : Int) else P.1 15)
    rw [e15]
theorem speed_in {E : Enc} (hI : InvE E) : (900 ≤ cSpeedR E 0 ∧ cSpeedR E 0 ≤ 1100) ∧ (-6 ≤ cSpeedR E 1 ∧ cSpeedR E 1 ≤ 99999) := by
  have h2 := hI.1
  have hs3 := hI.2.2.2.2.2.2.2.2.2.2.2.2.2.2.2.1
  have h15 := hI.2.2.2.2.2.2.2.2.2.2.2.1
  have q := gate_in E (Int.toNat (min (E.2.1 3) (min (E.1 2) 200)))
  refine ⟨?_, ?_⟩
  · show 900 ≤ 1000 + cGate E _ ∧ 1000 + cGate E _ ≤ 1100
    omega
  · show -6 ≤ (if E.1 15 ≤ 0 then (-6 : Int) else E.1 15) ∧ (if E.1 15 ≤ 0 then (-6 : Int) else E.1 15) ≤ 99999
    split <;> omega
theorem noise_mir {E P : Enc} (hM : MirG E P) : cNoiseR E = cNoiseR P := by
  obtain ⟨⟨⟨m2, m3, m4, m5, m6, m7, m8, m9, m10, m11, m12, -⟩, ms⟩, mg⟩ := hM
  unfold cNoiseR cNoiseX
  rw [m10, m11, m12, show P.1 11 + P.1 10 + P.1 12 = P.1 10 + P.1 11 + P.1 12 by omega]
theorem ds_mir {E P : Enc} (hM : MirG E P) (hP : InvE P) (w : Int) : ∀ n : Nat, cDs E w n = cDs P (swZ w) n
  | 0 => rfl
  | n + 1 => by
    have ih := ds_mir hM hP w n
    rw [cDs_s, cDs_s, (log_mir hM hP n).2.2, ih]
    by_cases h : cEnt P.1 P.2.2 n / 2 ^ 3 = swZ w
    · rw [if_pos h, if_pos (swZ_iff.mpr h)]
    · rw [if_neg h, if_neg (fun z => h (swZ_iff.mp z))]
theorem deeds_mir {E P : Enc} (hM : MirG E P) (hP : InvE P) {w : Int} (hw : 0 ≤ w ∧ w ≤ 3) : cDeedsR E w = cDeedsR P (swZ w) := by
  have hw' := swZ_in hw
  unfold cDeedsR
  rw [if_neg (by omega), if_neg (by omega), if_neg (by omega), if_neg (by omega), hM.1.1.1]
  exact ds_mir hM hP w _
theorem deeds_in (E : Enc) (w : Int) : -2 ≤ cDeedsR E w ∧ cDeedsR E w ≤ 200 := by
  unfold cDeedsR
  have q := cDs_ge E w (Int.toNat (min (E.1 2) 200))
  (repeat' split) <;> omega
theorem would_mir {E P : Enc} (hM : MirG E P) (hP : InvE P) {w : Int} (hw : 0 ≤ w ∧ w ≤ 3) : cWouldR E w = swZ (cWouldR P (swZ w)) := by
  have hw' := swZ_in hw
  unfold cWouldR
  rw [if_neg (by omega), if_neg (by omega), if_neg (by omega), if_neg (by omega)]
  exact deed_mir hM.1 hP hw
theorem would_in {E : Enc} {w : Int} (hw : 0 ≤ w ∧ w ≤ 3) : 0 ≤ cWouldR E w ∧ cWouldR E w ≤ 3 := by
  unfold cWouldR
  rw [if_neg (by omega), if_neg (by omega)]
  exact cDeed_in _ _ _
theorem logR_of {E : Enc} {a w : Int} (ha : 0 ≤ a ∧ a < min (E.1 2) 200) : cLogR E a 0 = cEnt E.1 E.2.2 a % 4 ∧ cLogR E a 1 = cEnt E.1 E.2.2 a / 2 ^ 2 % 2 ∧ cLogR E a 2 = cDat E.1 E.2.2 a := by
  have h : ¬ cHas E.1 a = 0 := by rw [cHas_1 ha]; decide
  unfold cLogR
  rw [if_neg h, if_neg h, if_neg h]
  exact ⟨rfl, rfl, rfl⟩
theorem logR_no {E : Enc} {a w : Int} (ha : ¬ a < min (E.1 2) 200) : cLogR E a w = -1 := by
  unfold cLogR cHas
  by_cases h : 0 ≤ a
  · rw [if_pos h, if_neg ha, if_pos rfl]
  · rw [if_neg h, if_pos rfl]
/-! replays -/
theorem rep_mir {E P T S : Enc} {F : Int} (hM : MirG E P) (hP : InvE P) (hF : 1 ≤ F ∧ F ≤ 9) (hS : ∀ j, 0 ≤ S.2.2 j ∧ S.2.2 j ≤ 31) : ∀ n : Nat, n ≤ 200 → MirE (cRep E ((fun _ => 0), updZ E.2.1 2 F, T.2.2) n) (cRep P ((fun _ => 0), updZ P.2.1 2 F, S.2.2) n)
  | 0, _ => ⟨⟨rfl, rfl, rfl, rfl, rfl, rfl, rfl, rfl, rfl, rfl, rfl, rfl, rfl, rfl⟩, by show updZ E.2.1 2 F = updZ P.2.1 2 F; rw [hM.1.2]⟩
  | n + 1, h => by
    have ih := rep_mir (T := T) hM hP hF hS n (by omega)
    obtain ⟨a, b, c⟩ := rep_inv hP (fresh_inv hP hF hS) rfl n (by omega)
    have l := log_mir hM hP (min (P.1 2) 200 - 1 - n)
    have hq := cEnt P.1 P.2.2 (min (P.1 2) 200 - 1 - n) % 4
    have q := tick_mir (p := cEnt E.1 E.2.2 (min (P.1 2) 200 - 1 - n) % 4) (i := cEnt P.1 P.2.2 (min (P.1 2) 200 - 1 - n) / 2 ^ 2 % 2) ih a (by omega)
    show MirE (cTick (cRep E _ n) (cEnt E.1 E.2.2 (min (E.1 2) 200 - 1 - n) % 4) (cEnt E.1 E.2.2 (min (E.1 2) 200 - 1 - n) / 2 ^ 2 % 2)) (cTick (cRep P _ n) (cEnt P.1 P.2.2 (min (P.1 2) 200 - 1 - n) % 4) (cEnt P.1 P.2.2 (min (P.1 2) 200 - 1 - n) / 2 ^ 2 % 2))
    rw [hM.1.1.1, l.2.1]
    rw [l.1] at q ⊢
    rw [swZ_sw] at q
    exact q
theorem fol_mir {E P : Enc} (T S : Enc) {F : Int} (hM : MirG E P) (hP : InvE P) (hF : 1 ≤ F ∧ F ≤ 9) (hS : ∀ j, 0 ≤ S.2.2 j ∧ S.2.2 j ≤ 31) : MirE (cFollow E T F) (cFollow P S F) ∧ (cFollow P S F).2.1 1 = P.2.1 1 := by
  refine ⟨?_, ?_⟩
  · unfold cFollow
    rw [hM.1.1.1]
    exact rep_mir hM hP hF hS _ (by omega)
  · have q := (rep_inv hP (fresh_inv hP hF hS) rfl (min (P.1 2) 200).toNat (by omega)).2.2
    show (cRep P _ _).2.1 1 = _
    rw [q]
    rfl
theorem replay_mir {E P T S T' S' : Enc} {F : Int} (hM : MirG E P) (hP : InvE P) (hF : 1 ≤ F ∧ F ≤ 9) (hS : ∀ j, 0 ≤ S.2.2 j ∧ S.2.2 j ≤ 31) :
    cReplayR E T F 0 = cReplayR P S F 1 ∧ cReplayR E T F 1 = cReplayR P S F 0 ∧ cReplayR E T F 2 = cReplayR P S F 2 ∧ cReplayR E T F 3 = agZ (cReplayR P S F 3) (P.2.1 1) := by
  have ok : ∀ w : Int, 0 ≤ w ∧ w ≤ 3 → cReplayOk F w = 0 := fun w hw => by
    unfold cReplayOk
    rw [if_neg (by omega), if_neg (by omega), if_neg (by omega), if_neg (by omega)]
  obtain ⟨⟨⟨m2, m3, m4, m5, m6, m7, m8, m9, m10, m11, m12, -⟩, ms⟩, e1⟩ := fol_mir T S hM hP hF hS
  unfold cReplayR
  rw [ok 0 (by decide), ok 1 (by decide), ok 2 (by decide), ok 3 (by decide)]
  refine ⟨m10, m11, m12, ?_⟩
  rw [e1] at m3
  exact m3
theorem replay_in {E T : Enc} {F w : Int} (hI : InvE E) (hF : 1 ≤ F ∧ F ≤ 9) (hw : 0 ≤ w ∧ w ≤ 3) (hT : ∀ j, 0 ≤ T.2.2 j ∧ T.2.2 j ≤ 31) : 0 ≤ cReplayR E T F w ∧ cReplayR E T F w ≤ 99999 := by
  have hf := follow_inv hI hF hT
  have h2 := hf.1
  have h3 := hf.2.1
  have h10 := hf.2.2.2.2.2.2.2.2.1
  have hs1 := hf.2.2.2.2.2.2.2.2.2.2.2.2.2.1
  have ok : cReplayOk F w = 0 := by
    unfold cReplayOk
    rw [if_neg (by omega), if_neg (by omega), if_neg (by omega), if_neg (by omega)]
  unfold cReplayR
  rw [if_pos ok]
  (repeat' split) <;> omega
theorem replay_T {E T : Enc} {F w : Int} (hI : InvE E) (hF : 1 ≤ F ∧ F ≤ 9) (hw : 0 ≤ w ∧ w ≤ 3) (hT : ∀ j, 0 ≤ T.2.2 j ∧ T.2.2 j ≤ 31) : ∀ j, 0 ≤ (cReplayT E T F w).2.2 j ∧ (cReplayT E T F w).2.2 j ≤ 31 := by
  unfold cReplayT
  split
  · exact invE_g (follow_inv hI hF hT)
  · exact hT
theorem replay_n {E T : Enc} {F : Int} (hI : InvE E) (hF : 1 ≤ F ∧ F ≤ 9) (hT : ∀ j, 0 ≤ T.2.2 j ∧ T.2.2 j ≤ 31) : cReplayR E T F 2 ≤ min (E.1 2) 200 := by
  have ok : cReplayOk F 2 = 0 := by
    unfold cReplayOk
    rw [if_neg (by omega), if_neg (by omega), if_neg (by omega), if_neg (by omega)]
  have h2 := hI.1
  obtain ⟨a, b, -⟩ := rep_inv hI (fresh_inv hI hF hT) rfl (min (E.1 2) 200).toNat (by omega)
  have h10 := a.2.2.2.2.2.2.2.2.1
  unfold cReplayR
  rw [if_pos ok, if_neg (by decide), if_neg (by decide), if_pos rfl]
  show (cRep E _ _).1 12 ≤ _
  omega
theorem best_mir {E P T S : Enc} (hM : MirG E P) (hE : InvE E) (hP : InvE P) (hT : ∀ j, 0 ≤ T.2.2 j ∧ T.2.2 j ≤ 31) (hS : ∀ j, 0 ≤ S.2.2 j ∧ S.2.2 j ≤ 31) : ∀ n : Nat, n ≤ 9 → (cBest E T n).2 = (cBest P S n).2
  | 0, _ => rfl
  | n + 1, h => by
    have ih := best_mir hM hE hP hT hS n (by omega)
    have hb := best_in hP hS n (by omega)
    have m := (fol_mir (cBest E T n).1 (cBest P S n).1 (F := (n : Int) + 1) hM hP ⟨by omega, by omega⟩ hb.1).1.1.2.2.2.2.2.2.2.2.2.2.1
    rw [cBest_s, cBest_s, m, ih]
    (repeat' split) <;> rfl
theorem bestR_mir {E P T S : Enc} (hM : MirG E P) (hE : InvE E) (hP : InvE P) (hT : ∀ j, 0 ≤ T.2.2 j ∧ T.2.2 j ≤ 31) (hS : ∀ j, 0 ≤ S.2.2 j ∧ S.2.2 j ≤ 31) (w : Int) : cBestR E T w = cBestR P S w := by
  unfold cBestR
  rw [best_mir hM hE hP hT hS 9 (by decide)]
theorem best_T {E T : Enc} (hE : InvE E) (hT : ∀ j, 0 ≤ T.2.2 j ∧ T.2.2 j ≤ 31) (w : Int) : ∀ j, 0 ≤ (cBestT E T w).2.2 j ∧ (cBestT E T w).2.2 j ≤ 31 := by
  have hb := (best_in hE hT 9 (by decide)).1
  unfold cBestT
  split
  · exact hb
  · split
    · exact hb
    · exact hT
theorem bestR_in {E T : Enc} {w : Int} (hE : InvE E) (hT : ∀ j, 0 ≤ T.2.2 j ∧ T.2.2 j ≤ 31) : inR (cBestR E T w) := by
  have hb := (best_in hE hT 9 (by decide)).2
  unfold cBestR inR
  (repeat' split) <;> omega
