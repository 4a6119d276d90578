/-! ===== the history and the slots ===== -/
/-- an encoder that is kept, and the row of the model that keeps it -/
def RowRep (E : Enc) (f : Nat → Int) : Prop := InvE E ∧ ∃ A : Nat → Int, InvM A ∧ RepE E A ∧ ∀ j : Nat, j < 222 → f j = A j
def HistR (F : Nat → Int) (R : Nat → Enc) (L : Int) (H : Nat → Int) : Prop :=
  (0 ≤ F 1 ∧ F 1 < 7) ∧ (0 ≤ L ∧ L ≤ 6) ∧ F 2 = L ∧ ∀ b : Nat, (b : Int) < L → RowRep (R (Int.toNat ((F 1 - L + b) % 7))) (fun j => H (222 * b + j))
def SlotR (U : Nat → Int) (V : Nat → Enc) (S Vm : Nat → Int) : Prop :=
  (∀ j, 0 ≤ U j ∧ U j ≤ 1) ∧ (∀ j, InvE (V j)) ∧ (∀ j, 0 ≤ Vm j ∧ Vm j ≤ 1) ∧ ∀ k : Nat, k < 2 → Vm k = U k ∧ (¬ U k = 0 → RowRep (V k) (fun j => S (222 * k + j)))
theorem row_congr {E : Enc} {f g : Nat → Int} (h : RowRep E f) (e : ∀ j : Nat, j < 222 → g j = f j) : RowRep E g := by
  obtain ⟨a, A, b, c, d⟩ := h
  exact ⟨a, A, b, c, fun j hj => (e j hj).trans (d j hj)⟩
theorem row_of {E : Enc} {A : Nat → Int} (hR : RepE E A) (hI : InvE E) (hM : InvM A) : RowRep E A := ⟨hI, A, hM, hR, fun _ _ => rfl⟩
theorem upR_eq (R : Nat → Enc) (k : Nat) (E : Enc) : upR R k E k = E := if_pos rfl
theorem upR_ne (R : Nat → Enc) {k j : Nat} (E : Enc) (h : j ≠ k) : upR R k E j = R j := if_neg h
theorem mHc_in (H K : Nat → Int) (b : Nat) {j : Nat} (h : j < 222) : mHc H K b 222 (222 * b + j) = K j := by
  unfold mHc
  rw [if_pos (by omega), show 222 * b + j - 222 * b = j by omega]
theorem mHc_out (H K : Nat → Int) {b c : Nat} {j : Nat} (h : j < 222) (hc : c ≠ b) : mHc H K b 222 (222 * c + j) = H (222 * c + j) := by
  unfold mHc
  rw [if_neg (by omega)]
theorem mHs_in (H : Nat → Int) {c : Nat} {j : Nat} (h : j < 222) (hc : c < 5) : mHs H 1110 (222 * c + j) = H (222 * (c + 1) + j) := by
  unfold mHs
  rw [if_pos (by omega)]
  congr 1
  omega
theorem hist_keep {F : Nat → Int} {R : Nat → Enc} {L : Int} {H : Nat → Int} {E : Enc} {A : Nat → Int} {r : Int} (hH : HistR F R L H) (hA : RowRep E A) (hr : 0 ≤ r) : HistR (hKeep F r) (upR R (Int.toNat (F 1)) E) (mChL L) (mChH H A L) := by
  obtain ⟨h1, hL, h2, hb⟩ := hH
  unfold hKeep
  rw [if_pos hr]
  have hL' : 0 ≤ mChL L ∧ mChL L ≤ 6 ∧ mChL L = min (L + 1) 6 := by
    unfold mChL
    split <;> omega
  refine ⟨?_, ⟨hL'.1, hL'.2.1⟩, ?_, fun b hbl => ?_⟩
  · show 0 ≤ (F 1 + 1) % 7 ∧ (F 1 + 1) % 7 < 7
    omega
  · show min (F 2 + 1) 6 = mChL L
    omega
  · show RowRep (upR R (Int.toNat (F 1)) E (Int.toNat (((F 1 + 1) % 7 - mChL L + b) % 7))) (fun j => mChH H A L (222 * b + j))
    unfold mChH
    by_cases c : L = 6
    · rw [if_pos c]
      by_cases d : b = 5
      · rw [show Int.toNat (((F 1 + 1) % 7 - mChL L + b) % 7) = Int.toNat (F 1) by omega, upR_eq]
        subst d
        exact row_congr hA fun j hj => mHc_in _ _ _ hj
      · rw [upR_ne _ _ (show Int.toNat (((F 1 + 1) % 7 - mChL L + b) % 7) ≠ Int.toNat (F 1) by omega)]
        have q := hb (b + 1) (by omega)
        rw [show Int.toNat ((F 1 - L + ((b + 1 : Nat) : Int)) % 7) = Int.toNat (((F 1 + 1) % 7 - mChL L + b) % 7) by omega] at q
        exact row_congr q fun j hj => (mHc_out _ _ hj d).trans (mHs_in H hj (by omega))
    · rw [if_neg c]
      by_cases d : (b : Int) = L
      · rw [show Int.toNat (((F 1 + 1) % 7 - mChL L + b) % 7) = Int.toNat (F 1) by omega, upR_eq, show L.toNat = b by omega]
        exact row_congr hA fun j hj => mHc_in _ _ _ hj
      · rw [upR_ne _ _ (show Int.toNat (((F 1 + 1) % 7 - mChL L + b) % 7) ≠ Int.toNat (F 1) by omega)]
        have q := hb b (by omega)
        rw [show Int.toNat ((F 1 - L + (b : Int)) % 7) = Int.toNat (((F 1 + 1) % 7 - mChL L + b) % 7) by omega] at q
        exact row_congr q fun j hj => mHc_out _ _ hj (by omega)
theorem hist_not {F : Nat → Int} {R : Nat → Enc} {L : Int} {H : Nat → Int} {E : Enc} {r : Int} (hH : HistR F R L H) (hr : r < 0) : HistR (hKeep F r) (upR R (Int.toNat (F 1)) E) L H := by
  obtain ⟨h1, hL, h2, hb⟩ := hH
  unfold hKeep
  rw [if_neg (by omega)]
  refine ⟨h1, hL, h2, fun b hbl => ?_⟩
  rw [upR_ne _ _ (show Int.toNat ((F 1 - L + b) % 7) ≠ Int.toNat (F 1) by omega)]
  exact hb b hbl
theorem hist_chg {F : Nat → Int} {R : Nat → Enc} {L : Int} {H : Nat → Int} {E : Enc} {A : Nat → Int} {r : Int} (hH : HistR F R L H) (hA : RowRep E A) : HistR (hKeep F r) (upR R (Int.toNat (F 1)) E) (mChgL r L) (mChgH r H A L) := by
  unfold mChgL mChgH
  by_cases hr : r < 0
  · rw [if_pos hr, if_pos hr]; exact hist_not hH hr
  · rw [if_neg hr, if_neg hr]; exact hist_keep hH hA (by omega)
theorem undo_rep {F : Nat → Int} {R : Nat → Enc} {L : Int} {H : Nat → Int} {E : Enc} {A : Nat → Int} (hH : HistR F R L H) (hA : RowRep E A) : mUndoR L = hBackR F ∧ HistR (hBackF F) R (mUndoL L) H ∧ RowRep (hBackE F R E) (mUndoA A H L) := by
  obtain ⟨h1, hL, h2, hb⟩ := id hH
  unfold mUndoR hBackR hBackF mUndoL hBackE mUndoA
  rw [h2]
  by_cases c : L = 0
  · repeat rw [if_pos c]
    exact ⟨rfl, hH, hA⟩
  · repeat rw [if_neg c]
    refine ⟨rfl, ⟨?_, ⟨by omega, by omega⟩, ?_, fun b hbl => ?_⟩, ?_⟩
    · show 0 ≤ (F 1 + 7 - 1) % 7 ∧ (F 1 + 7 - 1) % 7 < 7
      omega
    · show F 2 - 1 = L - 1
      omega
    · show RowRep (R (Int.toNat (((F 1 + 7 - 1) % 7 - (L - 1) + b) % 7))) _
      have q := hb b (by omega)
      rw [show Int.toNat ((F 1 - L + (b : Int)) % 7) = Int.toNat (((F 1 + 7 - 1) % 7 - (L - 1) + b) % 7) by omega] at q
      exact q
    · have q := hb (L - 1).toNat (by omega)
      rw [show Int.toNat ((F 1 - L + (((L - 1).toNat : Nat) : Int)) % 7) = Int.toNat ((F 1 + 7 - 1) % 7) by omega] at q
      exact row_congr q fun j hj => rfl
theorem row_6 {E : Enc} {f : Nat → Int} (h : RowRep E f) : f 6 = E.1 3 := by
  obtain ⟨a, A, b, c, d⟩ := h
  exact (d 6 (by omega)).trans c.2.1.2.1
theorem save_rep {U : Nat → Int} {V : Nat → Enc} {S Vm : Nat → Int} {E : Enc} {A : Nat → Int} {x : Int} (hS : SlotR U V S Vm) (hR : RepE E A) (hI : InvE E) (hM : InvM A) : mSaveR A x = sR x E ∧ SlotR (sU U x) (sV V x E) (mSaveS A S x) (mSaveV Vm x) := by
  obtain ⟨h1, h2, h3, h4⟩ := id hS
  have h := mIn_spec x 0 1
  unfold mSaveR sR sU sV mSaveS mSaveV
  by_cases c : 0 ≤ x ∧ x < 2
  · rw [if_neg (by omega), if_pos c, if_pos c, if_pos c, if_neg (by omega), if_neg (by omega)]
    refine ⟨hR.2.1.2.1, fun j => ?_, fun j => ?_, fun j => ?_, fun k hk => ?_⟩
    · unfold updZ
      split
      · omega
      · exact h1 j
    · unfold upR
      split
      · exact hI
      · exact h2 j
    · unfold updZ
      split
      · omega
      · exact h3 j
    · by_cases d : k = x.toNat
      · subst d
        rw [updZ_eq, updZ_eq, upR_eq]
        exact ⟨rfl, fun _ => row_congr (row_of hR hI hM) fun j hj => mHc_in _ _ _ hj⟩
      · rw [updZ_ne _ _ d, updZ_ne _ _ d, upR_ne _ _ d]
        exact ⟨(h4 k hk).1, fun z => row_congr ((h4 k hk).2 z) fun j hj => mHc_out _ _ hj d⟩
  · rw [if_pos (by omega), if_neg c, if_neg c, if_neg c, if_pos (by omega), if_pos (by omega)]
    exact ⟨rfl, hS⟩
theorem rest_rep {F : Nat → Int} {R : Nat → Enc} {L : Int} {H : Nat → Int} {U : Nat → Int} {V : Nat → Enc} {S Vm : Nat → Int} {E : Enc} {A : Nat → Int} {x : Int} (hH : HistR F R L H) (hS : SlotR U V S Vm) (hA : RowRep E A) :
    mRestR S Vm x = fR U V x ∧ HistR (hKeep F (fR U V x)) (upR R (Int.toNat (F 1)) E) (mRestL Vm L x) (mRestH H A Vm L x) ∧ RowRep (fE U V x E) (mRestA A S Vm x) := by
  obtain ⟨h1, h2, h3, h4⟩ := id hS
  have h := mIn_spec x 0 1
  by_cases c : 0 ≤ x ∧ x < 2
  · obtain ⟨e, f⟩ := h4 x.toNat (by omega)
    by_cases d : U x.toNat = 0
    · have k : mRestOk Vm x = -5 := by
        unfold mRestOk
        rw [if_neg (by omega), if_pos (by omega)]
      have k2 : fR U V x = -5 := by
        unfold fR
        rw [if_pos c, if_pos d]
      have k3 : fE U V x E = E := by
        unfold fE
        rw [if_pos c, if_pos d]
      unfold mRestR mRestL mRestH mRestA
      rw [k, k2, k3, if_neg (by omega), if_neg (by omega), if_neg (by omega), if_neg (by omega)]
      exact ⟨rfl, hist_not hH (by omega), hA⟩
    · have k : mRestOk Vm x = 0 := by
        unfold mRestOk
        rw [if_neg (by omega), if_neg (by omega)]
      have k2 : fR U V x = (V x.toNat).1 3 := by
        unfold fR
        rw [if_pos c, if_neg d]
      have k3 : fE U V x E = V x.toNat := by
        unfold fE
        rw [if_pos c, if_neg d]
      have g : RowRep (V x.toNat) (mRow S x.toNat) := f d
      unfold mRestR mRestL mRestH mRestA
      rw [k, k2, k3, if_pos rfl, if_pos rfl, if_pos rfl, if_pos rfl]
      exact ⟨row_6 g, hist_keep hH hA (h2 x.toNat).2.1.1, g⟩
  · have k : mRestOk Vm x = -2 := by
      unfold mRestOk
      rw [if_pos (by omega)]
    have k2 : fR U V x = -2 := by
      unfold fR
      rw [if_neg c]
    have k3 : fE U V x E = E := by
      unfold fE
      rw [if_neg c]
    unfold mRestR mRestL mRestH mRestA
    rw [k, k2, k3, if_neg (by omega), if_neg (by omega), if_neg (by omega), if_neg (by omega)]
    exact ⟨rfl, hist_not hH (by omega), hA⟩
