/-! ===== the law, from its entry ===== -/
theorem kL_law_w (k : Nat) (w : Cond) (h : wsL_law[k]? = some w) : w ∈ wsL_law := List.mem_of_getElem? h
set_option maxRecDepth 20000 in
theorem iL_law_X5 : ∀ w ∈ u_ws RX5 TX5 5, w ∈ wsL_law := inlX5
theorem iL_law_X6 : ∀ w ∈ u_ws RX6 TX6 13, w ∈ wsL_law := inlX6
set_option maxHeartbeats 4000000 in
set_option maxRecDepth 100000 in
theorem law_begin {p : Program} {l : Launch} {e : Env} {s : State} {m : MethodId} {below : List Frame} {meth : Method} {c : Code} {D : va_G} {J : Nat → ClassId} {b N : Nat} {xs : Nat → Int32} (hC : zC p s m #[Value.ref b] meth c (fun q : Nat => s.heap.size ≤ q) 4 D J cL_law RL wsL_law) (hX : va_X b N xs s s.heap) (hbl : b < s.heap.size) (hN : N ≤ 2048) (hr : meth.sig.returnType = ret) :
    Z p l e room_1 s m #[Value.ref b] below meth c (fun q : Nat => s.heap.size ≤ q) 4 D 0 0 (lw_Z below #[Value.ref b] s) [] [(0, .ref b)] 0 [] := by
  refine z_new (fs := [.null, .null, .null, .null, .null]) hC zkX5 iL_law_X5 (kL_law_w 0 _ rfl) (kL_law_w 1 _ rfl) (kL_law_w 2 _ rfl) (fun j hj => by rcases (show j = 0 ∨ j = 1 ∨ j = 2 ∨ j = 3 ∨ j = 4 by omega) with rfl | rfl | rfl | rfl | rfl <;> rfl) (Nat.le_of_ble_eq_true rfl) (Nat.le_of_ble_eq_true rfl) dL_law_0 (fun q1 => ?_)
  refine z_dup hC dL_law_3 rfl ?_
  refine z_callI (wr := []) (av := []) (st := [.ref q1]) hC (t_X5_init l D J q1) gL_law_X5_init rfl 0 (kL_law_w 2 _ rfl) (kL_law_w 7 _ rfl) (kL_law_w 8 _ rfl) rfl (by decide +kernel) ⟨Nat.le_of_ble_eq_true rfl, Nat.le_of_ble_eq_true rfl⟩ ⟨Nat.le_of_ble_eq_true rfl, Nat.le_of_ble_eq_true rfl⟩ [0] [] rfl rfl rfl (by decide) rfl rfl rfl (Nat.le_of_ble_eq_true rfl) dL_law_4 (fun u1 _ => ?_)
  refine z_ws (ws' := wSP J q1 u1 freshE freshE (fun _ => 0) (fun _ => freshE) (fun _ => 0) (fun _ => 0) (fun _ => freshE) 0 0 0 0 0 (fun _ => 0)) rfl ?_
  refine z_st (st' := [.ref q1]) rfl ?_
  refine z_astore_n (lv' := [(1, .ref q1), (0, .ref b)]) hC dL_law_7 rfl (by decide) rfl ?_
  refine z_new (fs := [.null, .null, .null, .null, .int (iI 0), .null, .null, .null, .int (iI 0), .int (iI 0), .int (iI 0), .int (iI 0), .int (iI 0)]) hC zkX6 iL_law_X6 (kL_law_w 3 _ rfl) (kL_law_w 4 _ rfl) (kL_law_w 5 _ rfl) (fun j hj => by rcases (show j = 0 ∨ j = 1 ∨ j = 2 ∨ j = 3 ∨ j = 4 ∨ j = 5 ∨ j = 6 ∨ j = 7 ∨ j = 8 ∨ j = 9 ∨ j = 10 ∨ j = 11 ∨ j = 12 by omega) with rfl | rfl | rfl | rfl | rfl | rfl | rfl | rfl | rfl | rfl | rfl | rfl | rfl <;> rfl) (Nat.le_of_ble_eq_true rfl) (Nat.le_of_ble_eq_true rfl) dL_law_8 (fun q2 => ?_)
  refine z_dup hC dL_law_11 rfl ?_
  refine z_callI (wr := wSP J q1 u1 freshE freshE (fun _ => 0) (fun _ => freshE) (fun _ => 0) (fun _ => 0) (fun _ => freshE) 0 0 0 0 0 (fun _ => 0)) (av := []) (st := [.ref q2]) hC (t_X6_init l D J q2) gL_law_X6_init rfl 0 (kL_law_w 5 _ rfl) (kL_law_w 63 _ rfl) (kL_law_w 64 _ rfl) rfl (by decide +kernel) ⟨Nat.le_of_ble_eq_true rfl, Nat.le_of_ble_eq_true rfl⟩ ⟨Nat.le_of_ble_eq_true rfl, Nat.le_of_ble_eq_true rfl⟩ [41] [0, 1, 2, 3, 4, 5, 6, 7, 8, 9, 10, 11, 12, 13, 14, 15, 16, 17, 18, 19, 20, 21, 22, 23, 24, 25, 26, 27, 28, 29, 30, 31, 32, 33, 34, 35, 36, 37, 38, 39, 40] rfl rfl rfl (by decide) rfl rfl rfl (Nat.le_of_ble_eq_true rfl) dL_law_12 (fun u2 _ => ?_)
  refine z_ws (ws' := wSP J q1 u1 freshE freshE (fun _ => 0) (fun _ => freshE) (fun _ => 0) (fun _ => 0) (fun _ => freshE) 0 0 0 0 0 (fun _ => 0) ++ wM J q2 u2 0 0 0 0 0 0 mNew (fun _ => 0) (fun _ => 0) (fun _ => 0) (fun _ => 0) (fun _ => 0) (fun _ => 0)) rfl ?_
  refine z_st (st' := [.ref q2]) rfl ?_
  refine z_astore_n (lv' := [(2, .ref q2), (1, .ref q1), (0, .ref b)]) hC dL_law_15 rfl (by decide) rfl ?_
  refine z_iconst hC dL_law_16 ?_
  refine z_istore_n (lv' := [(3, .int (iI 0)), (2, .ref q2), (1, .ref q1), (0, .ref b)]) hC dL_law_17 rfl (by decide) rfl ?_
  refine z_widen (k := 600000) (n := 7302250) (Nat.le_of_ble_eq_true rfl) (Nat.le_of_ble_eq_true rfl) ?_
  exact law_loop hC hX hbl hN hr N 0 (by omega) (by omega) freshE freshE (fun _ => 0) (fun _ => freshE) (fun _ => 0) (fun _ => 0) (fun _ => freshE) 0 0 0 0 0 (fun _ => 0) 0 0 0 0 0 mNew (fun _ => 0) (fun _ => 0) (fun _ => 0) (fun _ => 0) (fun _ => 0) sim_new
