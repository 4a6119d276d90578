/-! ===== a text is carried out alike ===== -/
theorem runs_stuck {C : Nat → Int} {len dn : Int} {e : Int} (he : ¬ e = 0) : ∀ (m : Nat) (B : Nat → Int) (p b : Int), (mRuns C len dn m (B, e, p, b)).1.1 = B ∧ (mRuns C len dn m (B, e, p, b)).1.2.1 = e
  | 0, _, _, _ => ⟨rfl, rfl⟩
  | m + 1, B, p, b => by
    have hx : ∀ q i n, mRunX dn B e q i n = (B, e) := by
      intro q i n
      unfold mRunX
      split
      · rfl
      · first | rfl | rw [if_neg he]
    by_cases c : pRunR C len p = 0
    · rw [mRuns_no c rfl rfl]
      exact ⟨rfl, rfl⟩
    · by_cases d : pAt C len (mRunP C len p) = 44
      · rw [mRuns_on c rfl rfl rfl rfl (hx _ _ _) d]
        exact runs_stuck he m _ _ _
      · rw [mRuns_end c rfl rfl rfl rfl (hx _ _ _) d]
        exact ⟨rfl, rfl⟩
theorem exec_runs {C : Nat → Int} {len : Int} : ∀ (n m : Nat) (s : PS) (E : Enc) (A : Nat → Int) (nb : Int), RepE E A → InvE E → InvM A → 0 ≤ s.1 → s.1 ≤ 80 → 81 - s.1 ≤ 2 * (n : Int) → 81 - s.1 ≤ 2 * (m : Int) → ¬ (pRuns C len n s).2 = 0 →
    RepE (cCR C len n E s).1 (mRuns C len 1 m (A, 0, s.1, nb)).1.1 ∧ (((cCR C len n E s).2.2 < 0 ∧ (mRuns C len 1 m (A, 0, s.1, nb)).1.2.1 = (cCR C len n E s).2.2) ∨ (0 ≤ (cCR C len n E s).2.2 ∧ (mRuns C len 1 m (A, 0, s.1, nb)).1.2.1 = 0 ∧ (cCR C len n E s).2.1.1 = (mRuns C len 1 m (A, 0, s.1, nb)).1.2.2.1))
  | 0, _, s, _, _, _, _, _, _, _, h1, h2, _, _ => by
    have : 81 - s.1 ≤ 2 * ((0 : Nat) : Int) := h2
    omega
  | n + 1, 0, s, _, _, _, _, _, _, _, h1, _, h3, _ => by
    have : 81 - s.1 ≤ 2 * ((0 : Nat) : Int) := h3
    omega
  | n + 1, m + 1, s, E, A, nb, hR, hI, hM, h0, h1, h2, h3, hv => by
    have hp := run_pos C len s
    rw [pRuns_s] at hv
    by_cases c : pRunR C len s.1 = 0
    · rw [if_pos c] at hv
      exact absurd rfl hv
    · rw [if_neg c, hp] at hv
      obtain ⟨q1, q2, q3⟩ := run_num (nb := nb) c
      have ha := run_adv c
      have h4 := pAt_spec C len (mRunP C len s.1)
      rw [cCR_s, if_neg c, q1, q2, q3, hp]
      obtain ⟨pr, pe⟩ := pass_rep (q := pAt C len s.1 - 48) (i := pIxV C len s.1) (n := mRunN C len s.1 nb) hR hI hM
      have hx : mRunX 1 A 0 (pAt C len s.1 - 48) (pIxV C len s.1) (mRunN C len s.1 nb) = (mFeedA A (pAt C len s.1 - 48) (pIxV C len s.1) (mRunN C len s.1 nb), if mFeedR A (pAt C len s.1 - 48) (pIxV C len s.1) (mRunN C len s.1 nb) < 0 then mFeedR A (pAt C len s.1 - 48) (pIxV C len s.1) (mRunN C len s.1 nb) else 0) := by
        unfold mRunX
        rw [if_neg (by omega), if_pos rfl]
      rw [pe] at hx
      by_cases r : cPassR E (pAt C len s.1 - 48) (pIxV C len s.1) (mRunN C len s.1 nb) < 0
      · rw [if_pos r] at hx
        rw [if_pos r]
        by_cases d : pAt C len (mRunP C len s.1) = 44
        · rw [mRuns_on c rfl rfl rfl rfl hx d]
          obtain ⟨s1, s2⟩ := runs_stuck (C := C) (len := len) (dn := 1) (show ¬ cPassR E (pAt C len s.1 - 48) (pIxV C len s.1) (mRunN C len s.1 nb) = 0 by omega) m (mFeedA A (pAt C len s.1 - 48) (pIxV C len s.1) (mRunN C len s.1 nb)) (mRunP C len s.1 + 1) (mRunN C len s.1 nb)
          rw [s1, s2]
          exact ⟨pr, Or.inl ⟨r, rfl⟩⟩
        · rw [mRuns_end c rfl rfl rfl rfl hx d]
          exact ⟨pr, Or.inl ⟨r, rfl⟩⟩
      · rw [if_neg r] at hx
        rw [if_neg r]
        by_cases d : pAt C len (mRunP C len s.1) = 44
        · rw [mRuns_on c rfl rfl rfl rfl hx d, if_pos d]
          rw [if_pos d] at hv
          exact exec_runs n m (mRunP C len s.1 + 1, (pRun C len s).2) _ _ _ pr (pass_inv hI) (mFeed_inv hM) (by show 0 ≤ mRunP C len s.1 + 1; omega) (by show mRunP C len s.1 + 1 ≤ 80; omega) (by show 81 - (mRunP C len s.1 + 1) ≤ _; omega) (by show 81 - (mRunP C len s.1 + 1) ≤ _; omega) hv
        · rw [mRuns_end c rfl rfl rfl rfl hx d, if_neg d]
          exact ⟨pr, Or.inr ⟨by show 0 ≤ cPassR E (pAt C len s.1 - 48) (pIxV C len s.1) (mRunN C len s.1 nb); omega, rfl, hp⟩⟩
theorem exec_ord {C : Nat → Int} {len : Int} {E : Enc} {A : Nat → Int} {nb : Int} {s : PS} (hR : RepE E A) (hI : InvE E) (hM : InvM A) (h0 : 0 ≤ s.1) (h1 : s.1 ≤ 80) (hv : ¬ (pOrd C len s).2 = 0) :
    RepE (cCO C len E s).1 (mOrdr C len 1 A 0 s.1 nb).1.1 ∧ (((cCO C len E s).2.2 < 0 ∧ (mOrdr C len 1 A 0 s.1 nb).1.2.1 = (cCO C len E s).2.2) ∨ (0 ≤ (cCO C len E s).2.2 ∧ (mOrdr C len 1 A 0 s.1 nb).1.2.1 = 0 ∧ (cCO C len E s).2.1.1 = (mOrdr C len 1 A 0 s.1 nb).1.2.2.1)) := by
  have h10 : ¬ (1 : Int) = 0 := by omega
  have ht : ∀ w v : Int, w * pNumV C len (s.1 + 1) = v → ¬ pNumR C len (s.1 + 1) = 0 → RepE (cRevE E v) (mOrdT C len 1 A 0 s.1 nb w).1.1 ∧ ((cRevR E v < 0 ∧ (mOrdT C len 1 A 0 s.1 nb w).1.2.1 = cRevR E v) ∨ (0 ≤ cRevR E v ∧ (mOrdT C len 1 A 0 s.1 nb w).1.2.1 = 0 ∧ pNumP C len (s.1 + 1) = (mOrdT C len 1 A 0 s.1 nb w).1.2.2.1)) := by
    intro w v e hn
    obtain ⟨pr, pe⟩ := rev_rep (x := v) hR hI hM
    unfold mOrdT mNumN
    rw [if_neg hn, if_neg h10, if_neg hn, e, pe]
    by_cases r : cRevR E v < 0
    · rw [if_pos r]
      exact ⟨pr, Or.inl ⟨r, rfl⟩⟩
    · rw [if_neg r]
      exact ⟨pr, Or.inr ⟨by omega, rfl, rfl⟩⟩
  unfold pOrd at hv
  unfold cCO mOrdr
  by_cases c1 : pAt C len s.1 = 122
  · rw [if_pos c1, if_pos c1]
    have h3 : 0 ≤ E.1 3 := hI.2.1.1
    have r6 : A 6 = E.1 3 := hR.2.1.2.1
    unfold mOrdZ
    rw [if_neg h10, if_neg (show ¬ A 6 < 0 by omega)]
    exact ⟨zero_rep hR, Or.inr ⟨h3, rfl, rfl⟩⟩
  · rw [if_neg c1] at hv ⊢
    rw [if_neg c1]
    by_cases c2 : pAt C len s.1 = 110
    · rw [if_pos c2] at hv ⊢
      rw [if_pos c2]
      rcases dig_eq C len (s.1 + 1) with ⟨d1, d2⟩ | ⟨d1, d2, d3⟩
      · exact absurd d2 hv
      · have d4 : ¬ pDigR C len (s.1 + 1) = 0 := hv
        have e1 : pDig C len (s.1 + 1, s.2) = (s.1 + 1 + 1, s.2.1, s.2.2.1, pAt C len (s.1 + 1) - 48) := by
          unfold pDig
          rw [if_neg d4]
        obtain ⟨pr, pe⟩ := adj_rep (x := 2) (y := pAt C len (s.1 + 1) - 48) hR hI
        unfold mOrdN
        rw [if_neg d4, if_neg d1, if_neg h10, e1, pe]
        by_cases r : cAdjR E 2 (pAt C len (s.1 + 1) - 48) < 0
        · rw [if_pos r]
          exact ⟨pr, Or.inl ⟨r, rfl⟩⟩
        · rw [if_neg r]
          exact ⟨pr, Or.inr ⟨by show 0 ≤ cAdjR E 2 (pAt C len (s.1 + 1) - 48); omega, rfl, rfl⟩⟩
    · rw [if_neg c2] at hv ⊢
      rw [if_neg c2]
      by_cases c3 : pAt C len s.1 = 102
      · rw [if_pos c3] at hv ⊢
        rw [if_pos c3]
        have hn : ¬ pNumR C len (s.1 + 1) = 0 := hv
        rw [if_neg hn]
        exact ht 1 (pNumV C len (s.1 + 1)) (Int.one_mul _) hn
      · rw [if_neg c3] at hv ⊢
        rw [if_neg c3]
        by_cases c4 : pAt C len s.1 = 98
        · rw [if_pos c4] at hv ⊢
          rw [if_pos c4]
          have hn : ¬ pNumR C len (s.1 + 1) = 0 := hv
          rw [if_neg hn]
          exact ht (-1) (-pNumV C len (s.1 + 1)) (by omega) hn
        · rw [if_neg c4] at hv ⊢
          rw [if_neg c4]
          exact exec_runs 80 81 s E A nb hR hI hM h0 h1 (by omega) (by omega) hv
theorem exec_all {C : Nat → Int} {len : Int} (hl : len ≤ 80) : ∀ (n m f : Nat) (s : PS) (E : Enc) (A : Nat → Int) (nb k : Int) (B : Nat → Int) (e b : Int), RepE E A → InvE E → InvM A → 0 ≤ s.1 → s.1 ≤ len → 81 - s.1 ≤ 2 * (n : Int) → 81 - s.1 ≤ 2 * (m : Int) → 81 - s.1 ≤ 2 * (f : Int) → (mFlt C len f (B, e, s.1, b)).2 = -6 →
    RepE (cCL C len n E s k).1 (mOut C len m (A, s.1, nb, k)).1.1 ∧ InvE (cCL C len n E s k).1 ∧ (mOut C len m (A, s.1, nb, k)).2 = (cCL C len n E s k).2.2
  | 0, _, _, s, _, _, _, _, _, _, _, _, _, _, _, h1, h2, _, _, _ => by
    have : 81 - s.1 ≤ 2 * ((0 : Nat) : Int) := h2
    omega
  | n + 1, 0, _, s, _, _, _, _, _, _, _, _, _, _, _, h1, _, h3, _, _ => by
    have : 81 - s.1 ≤ 2 * ((0 : Nat) : Int) := h3
    omega
  | n + 1, m + 1, 0, s, _, _, _, _, _, _, _, _, _, _, _, h1, _, _, h4, _ => by
    have : 81 - s.1 ≤ 2 * ((0 : Nat) : Int) := h4
    omega
  | n + 1, m + 1, f + 1, s, E, A, nb, k, B, e, b, hR, hI, hM, h0, h1, h2, h3, h4, hv => by
    obtain ⟨o1, o2⟩ := ord_pos (C := C) (len := len) (dn := 0) (A := B) (er := e) (nb := b) (s := s) h0 (by omega)
    obtain ⟨o3, o4⟩ := ord_pos (C := C) (len := len) (dn := 1) (A := A) (er := 0) (nb := nb) (s := s) h0 (by omega)
    obtain ⟨⟨a1, a2⟩, a3⟩ := ord_adv (C := C) (s := s) h0 h1 (by omega)
    have ci := (cCO_in (C := C) (len := len) hI (s := s) ⟨h0, by omega⟩).1
    have mi := (mOrdr_in (P := C) (pl := len) (dn := 1) (A := A) (er := 0) (sp := s.1) (nb := nb) hM (by omega) ⟨h0, by omega⟩).1
    rw [mFlt_s, o1, o2] at hv
    by_cases c : (pOrd C len s).2 = 0
    · rw [if_pos c] at hv
      have hv' : (pOrd C len s).1.1 = -6 := hv
      omega
    · have a4 := a3 c
      have h5 := pAt_spec C len (pOrd C len s).1.1
      rw [if_neg c] at hv
      obtain ⟨x1, x2⟩ := exec_ord (nb := nb) hR hI hM h0 (by omega) c
      rw [cCL_s, mOut_s]
      rcases x2 with ⟨x3, x4⟩ | ⟨x3, x4, x5⟩
      · rw [if_pos x3, if_neg (by omega)]
        exact ⟨x1, ci, Int.add_zero k⟩
      · rw [o3] at x5
        rw [if_neg (show ¬ (cCO C len E s).2.2 < 0 by omega), if_pos x4, o3, x5]
        by_cases d : pAt C len (pOrd C len s).1.1 = 59
        · rw [if_pos d] at hv
          rw [if_pos d, if_pos d]
          exact exec_all hl n m f ((pOrd C len s).1.1 + 1, (cCO C len E s).2.1.2) _ _ _ _ _ _ _ x1 ci mi (by show 0 ≤ (pOrd C len s).1.1 + 1; omega) (by show (pOrd C len s).1.1 + 1 ≤ len; omega) (by show 81 - ((pOrd C len s).1.1 + 1) ≤ _; omega) (by show 81 - ((pOrd C len s).1.1 + 1) ≤ _; omega) (by show 81 - ((pOrd C len s).1.1 + 1) ≤ _; omega) hv
        · rw [if_neg d, if_neg d]
          exact ⟨x1, ci, rfl⟩
theorem mOut_in {C : Nat → Int} {len : Int} : ∀ (m : Nat) (B : Nat → Int) (p b k : Int), InvM B → 0 ≤ p → p ≤ 80 → 0 ≤ k → InvM (mOut C len m (B, p, b, k)).1.1 ∧ (-5 ≤ (mOut C len m (B, p, b, k)).1.2.1 ∧ (mOut C len m (B, p, b, k)).1.2.1 ≤ 0) ∧ 0 ≤ (mOut C len m (B, p, b, k)).2
  | 0, B, p, b, k, hI, _, _, hk => ⟨hI, by show -5 ≤ (0 : Int) ∧ (0 : Int) ≤ 0; omega, hk⟩
  | m + 1, B, p, b, k, hI, h0, h1, hk => by
    obtain ⟨a1, a2, a3, a4⟩ := mOrdr_in (P := C) (pl := len) (dn := 1) (A := B) (er := 0) (sp := p) (nb := b) hI (by omega) ⟨h0, h1⟩
    have h5 := pAt_spec C len (mOrdr C len 1 B 0 p b).1.2.2.1
    rw [mOut_s]
    split
    · split
      · exact mOut_in m _ _ _ _ a1 (by omega) (by omega) (by omega)
      · exact ⟨a1, a2, by show 0 ≤ k + 1; omega⟩
    · exact ⟨a1, a2, by show 0 ≤ k + 0; omega⟩
theorem out_rep {C : Nat → Int} {len : Int} {E : Enc} {A : Nat → Int} {s : PS} {er nb : Int} {F : Nat → Int} {R : Nat → Enc} {L : Int} {H : Nat → Int} (hl : 0 ≤ len ∧ len ≤ 80) (hR : RepE E A) (hI : InvE E) (hM : InvM A) (he : -5 ≤ er ∧ er ≤ 0) (hH : HistR F R L H) :
    (if (mCoF C len A er nb).2 = -6 then (mCoO C len A er nb).2 else -3) = cOutR C len E s ∧
    (RepE (cOutE C len E s) (if (mCoF C len A er nb).2 = -6 then (mCoO C len A er nb).1.1 else A) ∧ InvE (cOutE C len E s) ∧ InvM (if (mCoF C len A er nb).2 = -6 then (mCoO C len A er nb).1.1 else A)) ∧
    (-5 ≤ (if (mCoF C len A er nb).2 = -6 then (mCoO C len A er nb).1.2.1 else er) ∧ (if (mCoF C len A er nb).2 = -6 then (mCoO C len A er nb).1.2.1 else er) ≤ 0) ∧
    (if (mCoF C len A er nb).2 = -6 then 0 else len) = cOutL C len s ∧
    HistR (cOutF C len E s F) (cOutH C len E s F R) (if (mCoF C len A er nb).2 = -6 then mChL L else L) (if (mCoF C len A er nb).2 = -6 then mChH H A L else H) := by
  have hf : (mCoF C len A er nb).2 = (pFault C len 81 (0, s.2.1, s.2.2.1, s.2.2.2)).2 := fault_eq hl.2 81 81 (0, s.2.1, s.2.2.1, s.2.2.2) A er nb (by show (0 : Int) ≤ 0; omega) hl.1 (by show 81 - (0 : Int) ≤ _; omega) (by show 81 - (0 : Int) ≤ _; omega)
  by_cases c : (mCoF C len A er nb).2 = -6
  · have c2 : cOutOk C len s = true := by
      unfold cOutOk
      rw [← hf]
      exact decide_eq_true c
    obtain ⟨x1, x2, x3⟩ := exec_all (C := C) hl.2 80 81 81 (0, (pFault C len 81 (0, s.2.1, s.2.2.1, s.2.2.2)).1.2) E A (mCoF C len A er nb).1.2.2.2 0 A er nb hR hI hM (by show (0 : Int) ≤ 0; omega) hl.1 (by show 81 - (0 : Int) ≤ _; omega) (by show 81 - (0 : Int) ≤ _; omega) (by show 81 - (0 : Int) ≤ _; omega) c
    obtain ⟨y1, y2, y3⟩ := mOut_in (C := C) (len := len) 81 A 0 (mCoF C len A er nb).1.2.2.2 0 hM (by omega) (by omega) (by omega)
    unfold cOutR cOutE cOutL cOutF cOutH
    rw [if_pos c, if_pos c, if_pos c, if_pos c, if_pos c, if_pos c, if_pos c2, if_pos c2, if_pos c2, if_pos c2, if_pos c2]
    have x3' : (mCoO C len A er nb).2 = (cOut C len E s).2.2 := x3
    have y3' : 0 ≤ (mCoO C len A er nb).2 := y3
    exact ⟨x3, ⟨x1, x2, y1⟩, y2, rfl, hist_keep hH (row_of hR hI hM) (by omega)⟩
  · have c2 : ¬ cOutOk C len s = true := by
      unfold cOutOk
      rw [← hf]
      intro z
      exact c (of_decide_eq_true z)
    unfold cOutR cOutE cOutL cOutF cOutH
    rw [if_neg c, if_neg c, if_neg c, if_neg c, if_neg c, if_neg c, if_neg c2, if_neg c2, if_neg c2, if_neg c2, if_neg c2]
    exact ⟨rfl, ⟨hR, hI, hM⟩, he, rfl, hH⟩
theorem flt_rep {C : Nat → Int} {len : Int} {A : Nat → Int} {er nb pr ix nm : Int} (hl : 0 ≤ len ∧ len ≤ 80) : (mFlt C len 81 (A, er, 0, nb)).2 = (pFault C len 81 (0, pr, ix, nm)).2 ∧ (mFlt C len 81 (A, er, 0, nb)).1.1 = A ∧ (mFlt C len 81 (A, er, 0, nb)).1.2.1 = er :=
  ⟨fault_eq hl.2 81 81 (0, pr, ix, nm) A er nb (by show (0 : Int) ≤ 0; omega) hl.1 (by show 81 - (0 : Int) ≤ _; omega) (by show 81 - (0 : Int) ≤ _; omega), mFlt_0 81 (A, er, 0, nb)⟩
