section
-- ===== PART A: goes FIRST, ahead of the names: the tables' words, and 'selects' of the private methods out of them =====
/-- a private method of a class that the tables say can be made, by its rows of tables_1 -/
def lw_okq (q : MethodName × Nat) : Prop := (q.1.cls ≠ "java/lang/invoke/MethodHandle" ∧ q.1.cls ≠ "java/lang/invoke/VarHandle") ∧ Cond.instantiable q.1.cls q.2 ∈ tables_1 ∧ Cond.privateMethod q.1 ∈ tables_1 ∧ Cond.instanceMethod q.1 ∈ tables_1
theorem lw_p0 : lw_okq (⟨"StepPairs$History", "nextRow", "()LStepPairs$Encoder;"⟩, 3) := ⟨⟨by decide +kernel, by decide +kernel⟩, List.mem_of_getElem? (i := 93) (by decide +kernel), List.mem_of_getElem? (i := 183) (by decide +kernel), List.mem_of_getElem? (i := 184) (by decide +kernel)⟩
theorem lw_p1 : lw_okq (⟨"StepPairs$Encoder", "tick", "(II)I"⟩, 16) := ⟨⟨by decide +kernel, by decide +kernel⟩, List.mem_of_getElem? (i := 21) (by decide +kernel), List.mem_of_getElem? (i := 217) (by decide +kernel), List.mem_of_getElem? (i := 218) (by decide +kernel)⟩
theorem lw_p2 : lw_okq (⟨"StepPairs$Encoder", "runWith", "(I)I"⟩, 16) := ⟨⟨by decide +kernel, by decide +kernel⟩, List.mem_of_getElem? (i := 21) (by decide +kernel), List.mem_of_getElem? (i := 225) (by decide +kernel), List.mem_of_getElem? (i := 226) (by decide +kernel)⟩
theorem lw_p3 : lw_okq (⟨"StepPairs$Encoder", "step", "(I)V"⟩, 16) := ⟨⟨by decide +kernel, by decide +kernel⟩, List.mem_of_getElem? (i := 21) (by decide +kernel), List.mem_of_getElem? (i := 236) (by decide +kernel), List.mem_of_getElem? (i := 237) (by decide +kernel)⟩
theorem lw_p4 : lw_okq (⟨"StepPairs$Encoder", "meetIndex", "()V"⟩, 16) := ⟨⟨by decide +kernel, by decide +kernel⟩, List.mem_of_getElem? (i := 21) (by decide +kernel), List.mem_of_getElem? (i := 240) (by decide +kernel), List.mem_of_getElem? (i := 241) (by decide +kernel)⟩
theorem lw_p5 : lw_okq (⟨"StepPairs$Encoder", "entry", "(I)I"⟩, 16) := ⟨⟨by decide +kernel, by decide +kernel⟩, List.mem_of_getElem? (i := 21) (by decide +kernel), List.mem_of_getElem? (i := 283) (by decide +kernel), List.mem_of_getElem? (i := 284) (by decide +kernel)⟩
theorem lw_p6 : lw_okq (⟨"StepPairs$Encoder", "restart", "()V"⟩, 16) := ⟨⟨by decide +kernel, by decide +kernel⟩, List.mem_of_getElem? (i := 21) (by decide +kernel), List.mem_of_getElem? (i := 340) (by decide +kernel), List.mem_of_getElem? (i := 341) (by decide +kernel)⟩
theorem lw_p7 : lw_okq (⟨"StepPairs$Pad", "readOrder", "()Z"⟩, 6) := ⟨⟨by decide +kernel, by decide +kernel⟩, List.mem_of_getElem? (i := 129) (by decide +kernel), List.mem_of_getElem? (i := 390) (by decide +kernel), List.mem_of_getElem? (i := 391) (by decide +kernel)⟩
theorem lw_p8 : lw_okq (⟨"StepPairs$Pad", "here", "()C"⟩, 6) := ⟨⟨by decide +kernel, by decide +kernel⟩, List.mem_of_getElem? (i := 129) (by decide +kernel), List.mem_of_getElem? (i := 398) (by decide +kernel), List.mem_of_getElem? (i := 399) (by decide +kernel)⟩
theorem lw_p9 : lw_okq (⟨"StepPairs$Pad", "readRuns", "()Z"⟩, 6) := ⟨⟨by decide +kernel, by decide +kernel⟩, List.mem_of_getElem? (i := 129) (by decide +kernel), List.mem_of_getElem? (i := 410) (by decide +kernel), List.mem_of_getElem? (i := 411) (by decide +kernel)⟩
theorem lw_p10 : lw_okq (⟨"StepPairs", "carryOrder", "()I"⟩, 5) := ⟨⟨by decide +kernel, by decide +kernel⟩, List.mem_of_getElem? (i := 13) (by decide +kernel), List.mem_of_getElem? (i := 423) (by decide +kernel), List.mem_of_getElem? (i := 424) (by decide +kernel)⟩
theorem lw_p11 : lw_okq (⟨"StepPairs", "carryRuns", "()I"⟩, 5) := ⟨⟨by decide +kernel, by decide +kernel⟩, List.mem_of_getElem? (i := 13) (by decide +kernel), List.mem_of_getElem? (i := 430) (by decide +kernel), List.mem_of_getElem? (i := 431) (by decide +kernel)⟩
theorem lw_p12 : lw_okq (⟨"StepPairsModel", "beginsAnew", "()V"⟩, 13) := ⟨⟨by decide +kernel, by decide +kernel⟩, List.mem_of_getElem? (i := 460) (by decide +kernel), List.mem_of_getElem? (i := 466) (by decide +kernel), List.mem_of_getElem? (i := 467) (by decide +kernel)⟩
theorem lw_p13 : lw_okq (⟨"StepPairsModel", "doSet", "(II)I"⟩, 13) := ⟨⟨by decide +kernel, by decide +kernel⟩, List.mem_of_getElem? (i := 460) (by decide +kernel), List.mem_of_getElem? (i := 517) (by decide +kernel), List.mem_of_getElem? (i := 518) (by decide +kernel)⟩
theorem lw_p14 : lw_okq (⟨"StepPairsModel", "changed", "(I)I"⟩, 13) := ⟨⟨by decide +kernel, by decide +kernel⟩, List.mem_of_getElem? (i := 460) (by decide +kernel), List.mem_of_getElem? (i := 534) (by decide +kernel), List.mem_of_getElem? (i := 535) (by decide +kernel)⟩
theorem lw_p15 : lw_okq (⟨"StepPairsModel", "doFeed", "(III)I"⟩, 13) := ⟨⟨by decide +kernel, by decide +kernel⟩, List.mem_of_getElem? (i := 460) (by decide +kernel), List.mem_of_getElem? (i := 542) (by decide +kernel), List.mem_of_getElem? (i := 543) (by decide +kernel)⟩
def lw_privs_1 : List (MethodName × Nat) := [(⟨"StepPairs$History", "nextRow", "()LStepPairs$Encoder;"⟩, 3), (⟨"StepPairs$Encoder", "tick", "(II)I"⟩, 16), (⟨"StepPairs$Encoder", "runWith", "(I)I"⟩, 16), (⟨"StepPairs$Encoder", "step", "(I)V"⟩, 16), (⟨"StepPairs$Encoder", "meetIndex", "()V"⟩, 16), (⟨"StepPairs$Encoder", "entry", "(I)I"⟩, 16), (⟨"StepPairs$Encoder", "restart", "()V"⟩, 16), (⟨"StepPairs$Pad", "readOrder", "()Z"⟩, 6), (⟨"StepPairs$Pad", "here", "()C"⟩, 6), (⟨"StepPairs$Pad", "readRuns", "()Z"⟩, 6), (⟨"StepPairs", "carryOrder", "()I"⟩, 5), (⟨"StepPairs", "carryRuns", "()I"⟩, 5), (⟨"StepPairsModel", "beginsAnew", "()V"⟩, 13), (⟨"StepPairsModel", "doSet", "(II)I"⟩, 13), (⟨"StepPairsModel", "changed", "(I)I"⟩, 13), (⟨"StepPairsModel", "doFeed", "(III)I"⟩, 13)]
theorem lw_r1 : ∀ q ∈ lw_privs_1, lw_okq q := List.forall_mem_cons.mpr ⟨lw_p0, List.forall_mem_cons.mpr ⟨lw_p1, List.forall_mem_cons.mpr ⟨lw_p2, List.forall_mem_cons.mpr ⟨lw_p3, List.forall_mem_cons.mpr ⟨lw_p4, List.forall_mem_cons.mpr ⟨lw_p5, List.forall_mem_cons.mpr ⟨lw_p6, List.forall_mem_cons.mpr ⟨lw_p7, List.forall_mem_cons.mpr ⟨lw_p8, List.forall_mem_cons.mpr ⟨lw_p9, List.forall_mem_cons.mpr ⟨lw_p10, List.forall_mem_cons.mpr ⟨lw_p11, List.forall_mem_cons.mpr ⟨lw_p12, List.forall_mem_cons.mpr ⟨lw_p13, List.forall_mem_cons.mpr ⟨lw_p14, List.forall_mem_cons.mpr ⟨lw_p15, fun _ h => absurd h List.not_mem_nil⟩⟩⟩⟩⟩⟩⟩⟩⟩⟩⟩⟩⟩⟩⟩⟩
theorem lw_p16 : lw_okq (⟨"StepPairsModel", "ticks", "(II)Z"⟩, 13) := ⟨⟨by decide +kernel, by decide +kernel⟩, List.mem_of_getElem? (i := 460) (by decide +kernel), List.mem_of_getElem? (i := 548) (by decide +kernel), List.mem_of_getElem? (i := 549) (by decide +kernel)⟩
theorem lw_p17 : lw_okq (⟨"StepPairsModel", "deedOf", "(I)I"⟩, 13) := ⟨⟨by decide +kernel, by decide +kernel⟩, List.mem_of_getElem? (i := 460) (by decide +kernel), List.mem_of_getElem? (i := 552) (by decide +kernel), List.mem_of_getElem? (i := 553) (by decide +kernel)⟩
theorem lw_p18 : lw_okq (⟨"StepPairsModel", "steps", "(I)V"⟩, 13) := ⟨⟨by decide +kernel, by decide +kernel⟩, List.mem_of_getElem? (i := 460) (by decide +kernel), List.mem_of_getElem? (i := 559) (by decide +kernel), List.mem_of_getElem? (i := 560) (by decide +kernel)⟩
theorem lw_p19 : lw_okq (⟨"StepPairsModel", "rises", "()V"⟩, 13) := ⟨⟨by decide +kernel, by decide +kernel⟩, List.mem_of_getElem? (i := 460) (by decide +kernel), List.mem_of_getElem? (i := 563) (by decide +kernel), List.mem_of_getElem? (i := 564) (by decide +kernel)⟩
theorem lw_p20 : lw_okq (⟨"StepPairsModel", "doTurn", "(I)I"⟩, 13) := ⟨⟨by decide +kernel, by decide +kernel⟩, List.mem_of_getElem? (i := 460) (by decide +kernel), List.mem_of_getElem? (i := 571) (by decide +kernel), List.mem_of_getElem? (i := 572) (by decide +kernel)⟩
theorem lw_p21 : lw_okq (⟨"StepPairsModel", "doZero", "()I"⟩, 13) := ⟨⟨by decide +kernel, by decide +kernel⟩, List.mem_of_getElem? (i := 460) (by decide +kernel), List.mem_of_getElem? (i := 583) (by decide +kernel), List.mem_of_getElem? (i := 584) (by decide +kernel)⟩
theorem lw_p22 : lw_okq (⟨"StepPairsModel", "gated", "()I"⟩, 13) := ⟨⟨by decide +kernel, by decide +kernel⟩, List.mem_of_getElem? (i := 460) (by decide +kernel), List.mem_of_getElem? (i := 600) (by decide +kernel), List.mem_of_getElem? (i := 601) (by decide +kernel)⟩
theorem lw_p23 : lw_okq (⟨"StepPairsModel", "period", "()I"⟩, 13) := ⟨⟨by decide +kernel, by decide +kernel⟩, List.mem_of_getElem? (i := 460) (by decide +kernel), List.mem_of_getElem? (i := 604) (by decide +kernel), List.mem_of_getElem? (i := 605) (by decide +kernel)⟩
theorem lw_p24 : lw_okq (⟨"StepPairsModel", "replayed", "(II)I"⟩, 13) := ⟨⟨by decide +kernel, by decide +kernel⟩, List.mem_of_getElem? (i := 460) (by decide +kernel), List.mem_of_getElem? (i := 641) (by decide +kernel), List.mem_of_getElem? (i := 642) (by decide +kernel)⟩
theorem lw_p25 : lw_okq (⟨"StepPairsModel", "readsOrder", "()Z"⟩, 13) := ⟨⟨by decide +kernel, by decide +kernel⟩, List.mem_of_getElem? (i := 460) (by decide +kernel), List.mem_of_getElem? (i := 672) (by decide +kernel), List.mem_of_getElem? (i := 673) (by decide +kernel)⟩
theorem lw_p26 : lw_okq (⟨"StepPairsModel", "takes", "(I)Z"⟩, 13) := ⟨⟨by decide +kernel, by decide +kernel⟩, List.mem_of_getElem? (i := 460) (by decide +kernel), List.mem_of_getElem? (i := 676) (by decide +kernel), List.mem_of_getElem? (i := 677) (by decide +kernel)⟩
theorem lw_p27 : lw_okq (⟨"StepPairsModel", "isHere", "(II)Z"⟩, 13) := ⟨⟨by decide +kernel, by decide +kernel⟩, List.mem_of_getElem? (i := 460) (by decide +kernel), List.mem_of_getElem? (i := 680) (by decide +kernel), List.mem_of_getElem? (i := 681) (by decide +kernel)⟩
theorem lw_p28 : lw_okq (⟨"StepPairsModel", "does", "(I)V"⟩, 13) := ⟨⟨by decide +kernel, by decide +kernel⟩, List.mem_of_getElem? (i := 460) (by decide +kernel), List.mem_of_getElem? (i := 684) (by decide +kernel), List.mem_of_getElem? (i := 685) (by decide +kernel)⟩
theorem lw_p29 : lw_okq (⟨"StepPairsModel", "readsNumber", "()Z"⟩, 13) := ⟨⟨by decide +kernel, by decide +kernel⟩, List.mem_of_getElem? (i := 460) (by decide +kernel), List.mem_of_getElem? (i := 688) (by decide +kernel), List.mem_of_getElem? (i := 689) (by decide +kernel)⟩
theorem lw_p30 : lw_okq (⟨"StepPairsModel", "readsRuns", "()Z"⟩, 13) := ⟨⟨by decide +kernel, by decide +kernel⟩, List.mem_of_getElem? (i := 460) (by decide +kernel), List.mem_of_getElem? (i := 692) (by decide +kernel), List.mem_of_getElem? (i := 693) (by decide +kernel)⟩
def lw_privs_2 : List (MethodName × Nat) := [(⟨"StepPairsModel", "ticks", "(II)Z"⟩, 13), (⟨"StepPairsModel", "deedOf", "(I)I"⟩, 13), (⟨"StepPairsModel", "steps", "(I)V"⟩, 13), (⟨"StepPairsModel", "rises", "()V"⟩, 13), (⟨"StepPairsModel", "doTurn", "(I)I"⟩, 13), (⟨"StepPairsModel", "doZero", "()I"⟩, 13), (⟨"StepPairsModel", "gated", "()I"⟩, 13), (⟨"StepPairsModel", "period", "()I"⟩, 13), (⟨"StepPairsModel", "replayed", "(II)I"⟩, 13), (⟨"StepPairsModel", "readsOrder", "()Z"⟩, 13), (⟨"StepPairsModel", "takes", "(I)Z"⟩, 13), (⟨"StepPairsModel", "isHere", "(II)Z"⟩, 13), (⟨"StepPairsModel", "does", "(I)V"⟩, 13), (⟨"StepPairsModel", "readsNumber", "()Z"⟩, 13), (⟨"StepPairsModel", "readsRuns", "()Z"⟩, 13)]
theorem lw_r2 : ∀ q ∈ lw_privs_2, lw_okq q := List.forall_mem_cons.mpr ⟨lw_p16, List.forall_mem_cons.mpr ⟨lw_p17, List.forall_mem_cons.mpr ⟨lw_p18, List.forall_mem_cons.mpr ⟨lw_p19, List.forall_mem_cons.mpr ⟨lw_p20, List.forall_mem_cons.mpr ⟨lw_p21, List.forall_mem_cons.mpr ⟨lw_p22, List.forall_mem_cons.mpr ⟨lw_p23, List.forall_mem_cons.mpr ⟨lw_p24, List.forall_mem_cons.mpr ⟨lw_p25, List.forall_mem_cons.mpr ⟨lw_p26, List.forall_mem_cons.mpr ⟨lw_p27, List.forall_mem_cons.mpr ⟨lw_p28, List.forall_mem_cons.mpr ⟨lw_p29, List.forall_mem_cons.mpr ⟨lw_p30, fun _ h => absurd h List.not_mem_nil⟩⟩⟩⟩⟩⟩⟩⟩⟩⟩⟩⟩⟩⟩⟩
def lw_privs : List (MethodName × Nat) := lw_privs_1 ++ (lw_privs_2)
def lw_tbl : List Cond := k2_sels lw_privs ++ tables_1
theorem lw_privs_ok : ∀ q ∈ lw_privs, lw_okq q := by
  show ∀ q ∈ lw_privs_1 ++ (lw_privs_2), lw_okq q
  exact List.forall_mem_append.mpr ⟨lw_r1, lw_r2⟩
/-- the streams that the claim lets the run draw from -/
abbrev lw_cs : List Choice := [Jvm.Choice.named "NaN.bits"]
theorem lw_bits : nanBits ∈ lw_cs := by first | decide | exact List.mem_cons_self | simp [lw_cs, nanBits]
end
section
theorem zm_places {big : List Cond} (ws : List Cond) (ps : List Nat) (hp : ws = ps.filterMap (fun i => big[i]?)) : ∀ w ∈ ws, w ∈ big := by
  intro w hw
  rw [hp] at hw
  obtain ⟨i, -, hi⟩ := List.mem_filterMap.mp hw
  exact List.mem_of_getElem? hi
/-! ===== BEGIN words of one list among another's, by their places ===== -/
theorem goodIn_r {big : List Cond} (ws : List Cond) (ps : List Nat) (hp : ws = ps.filterMap (fun i => big[i]?)) (h : ws.all goodWord = true) : GoodIn big ws := by
  intro w hw
  have h1 := List.all_eq_true.mp h w hw
  rw [hp] at hw
  obtain ⟨i, -, hi⟩ := List.mem_filterMap.mp hw
  have hm : w ∈ big := by first | exact List.mem_of_getElem? hi | exact List.getElem?_mem hi
  exact ⟨hm, good_of_word h1⟩
theorem goodIn_app {big a b : List Cond} (ha : GoodIn big a) (hb : GoodIn big b) : GoodIn big (a ++ b) := fun w h => (List.mem_append.mp h).elim (ha w) (hb w)
theorem goodIn_ca {big a b : List Cond} {c : Cond} (ha : GoodIn big (c :: a)) (hb : GoodIn big b) : GoodIn big (c :: (a ++ b)) := fun w h => (List.mem_cons.mp h).elim (fun e => ha w (List.mem_cons.mpr (Or.inl e))) (fun h => (List.mem_append.mp h).elim (fun h => ha w (List.mem_cons.mpr (Or.inr h))) (hb w))
theorem goodIn_sub {big ws : List Cond} (hm : ∀ w ∈ ws, w ∈ big) (h : ws.all goodWord = true) : GoodIn big ws := fun w hw => ⟨hm w hw, good_of_word (List.all_eq_true.mp h w hw)⟩
/-! ===== END ===== -/

/-! ===== BEGIN printed: names, fields, word lists, decode rows ===== -/
def RX0 : String := "StepPairs$Bits"
def TX0 : u_T := fun k => match k with
  | _ => ("", "", "", false)
def tyX0 : Nat → FieldType := fun k => match k with
  | _ => .int
abbrev wsX00 : List Cond := u_ws RX0 TX0 0
theorem nmX0 : ∀ a, a < 0 → ∀ b, b < 0 → a ≠ b → (TX0 a).2.1 ≠ (TX0 b).2.1 := by decide +kernel
theorem tyX0_ok : ∀ k, k < 0 → parseFieldDescriptor (TX0 k).2.2.1 = some (tyX0 k) := by decide +kernel
abbrev cX0_ofDouble : ByteArray := prog_2_method_2_code
def yX0_ofDouble : MethodName := ⟨RX0, "ofDouble", "(D)J"⟩
abbrev cX0_ofFloat : ByteArray := prog_2_method_3_code
def yX0_ofFloat : MethodName := ⟨RX0, "ofFloat", "(F)I"⟩
def RX1 : String := "StepPairs$Encoder"
def TX1 : u_T := fun k => match k with
  | 0 => ("StepPairs$Encoder", "settings", "[I", true)
  | 1 => ("StepPairs$Encoder", "log", "[I", true)
  | 2 => ("StepPairs$Encoder", "ticks", "I", false)
  | 3 => ("StepPairs$Encoder", "count", "I", false)
  | 4 => ("StepPairs$Encoder", "place", "I", false)
  | 5 => ("StepPairs$Encoder", "seen", "I", false)
  | 6 => ("StepPairs$Encoder", "latestPair", "I", false)
  | 7 => ("StepPairs$Encoder", "latestIndex", "I", false)
  | 8 => ("StepPairs$Encoder", "run", "I", false)
  | 9 => ("StepPairs$Encoder", "direction", "I", false)
  | 10 => ("StepPairs$Encoder", "forwards", "I", false)
  | 11 => ("StepPairs$Encoder", "backwards", "I", false)
  | 12 => ("StepPairs$Encoder", "illegal", "I", false)
  | 13 => ("StepPairs$Encoder", "slips", "I", false)
  | 14 => ("StepPairs$Encoder", "tickOfLatestStep", "I", false)
  | _ => ("StepPairs$Encoder", "period", "I", false)
def tyX1 : Nat → FieldType := fun k => match k with
  | 0 => .array .int
  | 1 => .array .int
  | 2 => .int
  | 3 => .int
  | 4 => .int
  | 5 => .int
  | 6 => .int
  | 7 => .int
  | 8 => .int
  | 9 => .int
  | 10 => .int
  | 11 => .int
  | 12 => .int
  | 13 => .int
  | 14 => .int
  | _ => .int
abbrev wsX10 : List Cond := u_ws RX1 TX1 16
theorem nmX1 : ∀ a, a < 16 → ∀ b, b < 16 → a ≠ b → (TX1 a).2.1 ≠ (TX1 b).2.1 := by decide +kernel
theorem tyX1_ok : ∀ k, k < 16 → parseFieldDescriptor (TX1 k).2.2.1 = some (tyX1 k) := by decide +kernel
abbrev cX1_init : ByteArray := prog_3_method_1_code
def yX1_init : MethodName := ⟨RX1, "<init>", "()V"⟩
abbrev cX1_copy : ByteArray := prog_3_method_2_code
def yX1_copy : MethodName := ⟨RX1, "copy", "(LStepPairs$Encoder;LStepPairs$Encoder;)V"⟩
abbrev cX1_restart : ByteArray := prog_3_method_3_code
def yX1_restart : MethodName := ⟨RX1, "restart", "()V"⟩
abbrev cX1_follow : ByteArray := prog_3_method_4_code
def yX1_follow : MethodName := ⟨RX1, "follow", "(LStepPairs$Encoder;I)V"⟩
abbrev cX1_setting : ByteArray := prog_3_method_5_code
def yX1_setting : MethodName := ⟨RX1, "setting", "(I)I"⟩
abbrev cX1_adjust : ByteArray := prog_3_method_6_code
def yX1_adjust : MethodName := ⟨RX1, "adjust", "(II)I"⟩
abbrev cX1_pass : ByteArray := prog_3_method_7_code
def yX1_pass : MethodName := ⟨RX1, "pass", "(III)I"⟩
abbrev cX1_revolve : ByteArray := prog_3_method_8_code
def yX1_revolve : MethodName := ⟨RX1, "revolve", "(I)I"⟩
abbrev cX1_clear : ByteArray := prog_3_method_9_code
def yX1_clear : MethodName := ⟨RX1, "clear", "()I"⟩
abbrev cX1_tick : ByteArray := prog_3_method_10_code
def yX1_tick : MethodName := ⟨RX1, "tick", "(II)I"⟩
abbrev cX1_deedBy : ByteArray := prog_3_method_11_code
def yX1_deedBy : MethodName := ⟨RX1, "deedBy", "(I)I"⟩
abbrev cX1_runWith : ByteArray := prog_3_method_12_code
def yX1_runWith : MethodName := ⟨RX1, "runWith", "(I)I"⟩
abbrev cX1_step : ByteArray := prog_3_method_13_code
def yX1_step : MethodName := ⟨RX1, "step", "(I)V"⟩
abbrev cX1_meetIndex : ByteArray := prog_3_method_14_code
def yX1_meetIndex : MethodName := ⟨RX1, "meetIndex", "()V"⟩
abbrev cX1_stepsOfGate : ByteArray := prog_3_method_15_code
def yX1_stepsOfGate : MethodName := ⟨RX1, "stepsOfGate", "()I"⟩
abbrev cX1_logged : ByteArray := prog_3_method_16_code
def yX1_logged : MethodName := ⟨RX1, "logged", "()I"⟩
abbrev cX1_hasTick : ByteArray := prog_3_method_17_code
def yX1_hasTick : MethodName := ⟨RX1, "hasTick", "(I)Z"⟩
abbrev cX1_entry : ByteArray := prog_3_method_18_code
def yX1_entry : MethodName := ⟨RX1, "entry", "(I)I"⟩
abbrev cX1_pairAt : ByteArray := prog_3_method_19_code
def yX1_pairAt : MethodName := ⟨RX1, "pairAt", "(I)I"⟩
abbrev cX1_indexAt : ByteArray := prog_3_method_20_code
def yX1_indexAt : MethodName := ⟨RX1, "indexAt", "(I)I"⟩
abbrev cX1_deedAt : ByteArray := prog_3_method_21_code
def yX1_deedAt : MethodName := ⟨RX1, "deedAt", "(I)I"⟩
abbrev cX1_orderOf : ByteArray := prog_3_method_22_code
def yX1_orderOf : MethodName := ⟨RX1, "orderOf", "(I)I"⟩
abbrev cX1_pairAlong : ByteArray := prog_3_method_23_code
def yX1_pairAlong : MethodName := ⟨RX1, "pairAlong", "(I)I"⟩
abbrev cX1_leftOver : ByteArray := prog_3_method_24_code
def yX1_leftOver : MethodName := ⟨RX1, "leftOver", "(II)I"⟩
def RX2 : String := "StepPairs$History"
def TX2 : u_T := fun k => match k with
  | 0 => ("StepPairs$History", "rows", "[LStepPairs$Encoder;", true)
  | 1 => ("StepPairs$History", "next", "I", false)
  | _ => ("StepPairs$History", "size", "I", false)
def tyX2 : Nat → FieldType := fun k => match k with
  | 0 => .array (.object "StepPairs$Encoder")
  | 1 => .int
  | _ => .int
abbrev wsX20 : List Cond := u_ws RX2 TX2 3
theorem nmX2 : ∀ a, a < 3 → ∀ b, b < 3 → a ≠ b → (TX2 a).2.1 ≠ (TX2 b).2.1 := by decide +kernel
theorem tyX2_ok : ∀ k, k < 3 → parseFieldDescriptor (TX2 k).2.2.1 = some (tyX2 k) := by decide +kernel
abbrev cX2_init : ByteArray := prog_4_method_1_code
def yX2_init : MethodName := ⟨RX2, "<init>", "()V"⟩
abbrev cX2_nextRow : ByteArray := prog_4_method_2_code
def yX2_nextRow : MethodName := ⟨RX2, "nextRow", "()LStepPairs$Encoder;"⟩
abbrev cX2_prepare : ByteArray := prog_4_method_3_code
def yX2_prepare : MethodName := ⟨RX2, "prepare", "(LStepPairs$Encoder;)V"⟩
abbrev cX2_keepUnlessError : ByteArray := prog_4_method_4_code
def yX2_keepUnlessError : MethodName := ⟨RX2, "keepUnlessError", "(I)I"⟩
abbrev cX2_takeBack : ByteArray := prog_4_method_5_code
def yX2_takeBack : MethodName := ⟨RX2, "takeBack", "(LStepPairs$Encoder;)I"⟩
def RX3 : String := "StepPairs$Pad"
def TX3 : u_T := fun k => match k with
  | 0 => ("StepPairs$Pad", "characters", "[C", true)
  | 1 => ("StepPairs$Pad", "length", "I", false)
  | 2 => ("StepPairs$Pad", "position", "I", false)
  | 3 => ("StepPairs$Pad", "pair", "I", false)
  | 4 => ("StepPairs$Pad", "index", "I", false)
  | _ => ("StepPairs$Pad", "number", "I", false)
def tyX3 : Nat → FieldType := fun k => match k with
  | 0 => .array .char
  | 1 => .int
  | 2 => .int
  | 3 => .int
  | 4 => .int
  | _ => .int
abbrev wsX30 : List Cond := u_ws RX3 TX3 6
theorem nmX3 : ∀ a, a < 6 → ∀ b, b < 6 → a ≠ b → (TX3 a).2.1 ≠ (TX3 b).2.1 := by decide +kernel
theorem tyX3_ok : ∀ k, k < 6 → parseFieldDescriptor (TX3 k).2.2.1 = some (tyX3 k) := by decide +kernel
abbrev cX3_init : ByteArray := prog_5_method_1_code
def yX3_init : MethodName := ⟨RX3, "<init>", "()V"⟩
abbrev cX3_append : ByteArray := prog_5_method_2_code
def yX3_append : MethodName := ⟨RX3, "append", "(J)I"⟩
abbrev cX3_empty : ByteArray := prog_5_method_3_code
def yX3_empty : MethodName := ⟨RX3, "empty", "()I"⟩
abbrev cX3_firstFault : ByteArray := prog_5_method_4_code
def yX3_firstFault : MethodName := ⟨RX3, "firstFault", "()I"⟩
abbrev cX3_begin : ByteArray := prog_5_method_5_code
def yX3_begin : MethodName := ⟨RX3, "begin", "()V"⟩
abbrev cX3_here : ByteArray := prog_5_method_6_code
def yX3_here : MethodName := ⟨RX3, "here", "()C"⟩
abbrev cX3_skip : ByteArray := prog_5_method_7_code
def yX3_skip : MethodName := ⟨RX3, "skip", "(C)Z"⟩
abbrev cX3_readOrder : ByteArray := prog_5_method_8_code
def yX3_readOrder : MethodName := ⟨RX3, "readOrder", "()Z"⟩
abbrev cX3_readRuns : ByteArray := prog_5_method_9_code
def yX3_readRuns : MethodName := ⟨RX3, "readRuns", "()Z"⟩
abbrev cX3_readRun : ByteArray := prog_5_method_10_code
def yX3_readRun : MethodName := ⟨RX3, "readRun", "()Z"⟩
abbrev cX3_readNumber : ByteArray := prog_5_method_11_code
def yX3_readNumber : MethodName := ⟨RX3, "readNumber", "()Z"⟩
abbrev cX3_readDigit : ByteArray := prog_5_method_12_code
def yX3_readDigit : MethodName := ⟨RX3, "readDigit", "()Z"⟩
def RX4 : String := "StepPairs$Slots"
def TX4 : u_T := fun k => match k with
  | 0 => ("StepPairs$Slots", "rows", "[LStepPairs$Encoder;", true)
  | _ => ("StepPairs$Slots", "used", "[Z", true)
def tyX4 : Nat → FieldType := fun k => match k with
  | 0 => .array (.object "StepPairs$Encoder")
  | _ => .array .boolean
abbrev wsX40 : List Cond := u_ws RX4 TX4 2
theorem nmX4 : ∀ a, a < 2 → ∀ b, b < 2 → a ≠ b → (TX4 a).2.1 ≠ (TX4 b).2.1 := by decide +kernel
theorem tyX4_ok : ∀ k, k < 2 → parseFieldDescriptor (TX4 k).2.2.1 = some (tyX4 k) := by decide +kernel
abbrev cX4_init : ByteArray := prog_6_method_1_code
def yX4_init : MethodName := ⟨RX4, "<init>", "()V"⟩
abbrev cX4_store : ByteArray := prog_6_method_2_code
def yX4_store : MethodName := ⟨RX4, "store", "(ILStepPairs$Encoder;)I"⟩
abbrev cX4_fetch : ByteArray := prog_6_method_3_code
def yX4_fetch : MethodName := ⟨RX4, "fetch", "(ILStepPairs$Encoder;)I"⟩
def RX5 : String := "StepPairs"
def TX5 : u_T := fun k => match k with
  | 0 => ("StepPairs", "encoder", "LStepPairs$Encoder;", true)
  | 1 => ("StepPairs", "trial", "LStepPairs$Encoder;", true)
  | 2 => ("StepPairs", "history", "LStepPairs$History;", true)
  | 3 => ("StepPairs", "slots", "LStepPairs$Slots;", true)
  | _ => ("StepPairs", "pad", "LStepPairs$Pad;", true)
def tyX5 : Nat → FieldType := fun k => match k with
  | 0 => .object "StepPairs$Encoder"
  | 1 => .object "StepPairs$Encoder"
  | 2 => .object "StepPairs$History"
  | 3 => .object "StepPairs$Slots"
  | _ => .object "StepPairs$Pad"
abbrev wsX50 : List Cond := u_ws RX5 TX5 5
theorem nmX5 : ∀ a, a < 5 → ∀ b, b < 5 → a ≠ b → (TX5 a).2.1 ≠ (TX5 b).2.1 := by decide +kernel
theorem tyX5_ok : ∀ k, k < 5 → parseFieldDescriptor (TX5 k).2.2.1 = some (tyX5 k) := by decide +kernel
abbrev cX5_init : ByteArray := prog_1_method_1_code
def yX5_init : MethodName := ⟨RX5, "<init>", "()V"⟩
abbrev cX5_set : ByteArray := prog_1_method_2_code
def yX5_set : MethodName := ⟨RX5, "set", "(II)I"⟩
abbrev cX5_feed : ByteArray := prog_1_method_3_code
def yX5_feed : MethodName := ⟨RX5, "feed", "(III)I"⟩
abbrev cX5_turn : ByteArray := prog_1_method_4_code
def yX5_turn : MethodName := ⟨RX5, "turn", "(I)I"⟩
abbrev cX5_zero : ByteArray := prog_1_method_5_code
def yX5_zero : MethodName := ⟨RX5, "zero", "()I"⟩
abbrev cX5_log : ByteArray := prog_1_method_6_code
def yX5_log : MethodName := ⟨RX5, "log", "(II)I"⟩
abbrev cX5_count : ByteArray := prog_1_method_7_code
def yX5_count : MethodName := ⟨RX5, "count", "(I)I"⟩
abbrev cX5_speed : ByteArray := prog_1_method_8_code
def yX5_speed : MethodName := ⟨RX5, "speed", "(I)I"⟩
abbrev cX5_rate : ByteArray := prog_1_method_9_code
def yX5_rate : MethodName := ⟨RX5, "rate", "()J"⟩
abbrev cX5_noise : ByteArray := prog_1_method_10_code
def yX5_noise : MethodName := ⟨RX5, "noise", "()I"⟩
abbrev cX5_replay : ByteArray := prog_1_method_11_code
def yX5_replay : MethodName := ⟨RX5, "replay", "(II)I"⟩
abbrev cX5_bestFilter : ByteArray := prog_1_method_12_code
def yX5_bestFilter : MethodName := ⟨RX5, "bestFilter", "(I)I"⟩
abbrev cX5_would : ByteArray := prog_1_method_13_code
def yX5_would : MethodName := ⟨RX5, "would", "(I)I"⟩
abbrev cX5_deeds : ByteArray := prog_1_method_14_code
def yX5_deeds : MethodName := ⟨RX5, "deeds", "(I)I"⟩
abbrev cX5_put : ByteArray := prog_1_method_15_code
def yX5_put : MethodName := ⟨RX5, "put", "(J)I"⟩
abbrev cX5_wipe : ByteArray := prog_1_method_16_code
def yX5_wipe : MethodName := ⟨RX5, "wipe", "()I"⟩
abbrev cX5_fault : ByteArray := prog_1_method_17_code
def yX5_fault : MethodName := ⟨RX5, "fault", "()I"⟩
abbrev cX5_carryOut : ByteArray := prog_1_method_18_code
def yX5_carryOut : MethodName := ⟨RX5, "carryOut", "()I"⟩
abbrev cX5_carryOrder : ByteArray := prog_1_method_19_code
def yX5_carryOrder : MethodName := ⟨RX5, "carryOrder", "()I"⟩
abbrev cX5_carryRuns : ByteArray := prog_1_method_20_code
def yX5_carryRuns : MethodName := ⟨RX5, "carryRuns", "()I"⟩
abbrev cX5_undo : ByteArray := prog_1_method_21_code
def yX5_undo : MethodName := ⟨RX5, "undo", "()I"⟩
abbrev cX5_save : ByteArray := prog_1_method_22_code
def yX5_save : MethodName := ⟨RX5, "save", "(I)I"⟩
abbrev cX5_restore : ByteArray := prog_1_method_23_code
def yX5_restore : MethodName := ⟨RX5, "restore", "(I)I"⟩
def RX6 : String := "StepPairsModel"
def TX6 : u_T := fun k => match k with
  | 0 => ("StepPairsModel", "all", "[I", true)
  | 1 => ("StepPairsModel", "kept", "[I", true)
  | 2 => ("StepPairsModel", "tried", "[I", true)
  | 3 => ("StepPairsModel", "history", "[I", true)
  | 4 => ("StepPairsModel", "historyLong", "I", false)
  | 5 => ("StepPairsModel", "slots", "[I", true)
  | 6 => ("StepPairsModel", "isSaved", "[I", true)
  | 7 => ("StepPairsModel", "pad", "[I", true)
  | 8 => ("StepPairsModel", "padLong", "I", false)
  | 9 => ("StepPairsModel", "spot", "I", false)
  | 10 => ("StepPairsModel", "number", "I", false)
  | 11 => ("StepPairsModel", "isDone", "Z", false)
  | _ => ("StepPairsModel", "error", "I", false)
def tyX6 : Nat → FieldType := fun k => match k with
  | 0 => .array .int
  | 1 => .array .int
  | 2 => .array .int
  | 3 => .array .int
  | 4 => .int
  | 5 => .array .int
  | 6 => .array .int
  | 7 => .array .int
  | 8 => .int
  | 9 => .int
  | 10 => .int
  | 11 => .boolean
  | _ => .int
abbrev wsX60 : List Cond := u_ws RX6 TX6 13
theorem nmX6 : ∀ a, a < 13 → ∀ b, b < 13 → a ≠ b → (TX6 a).2.1 ≠ (TX6 b).2.1 := by decide +kernel
theorem tyX6_ok : ∀ k, k < 13 → parseFieldDescriptor (TX6 k).2.2.1 = some (tyX6 k) := by decide +kernel
abbrev cX6_init : ByteArray := prog_8_method_1_code
def yX6_init : MethodName := ⟨RX6, "<init>", "()V"⟩
abbrev cX6_in : ByteArray := prog_8_method_3_code
def yX6_in : MethodName := ⟨RX6, "in", "(JJJ)Z"⟩
abbrev cX6_copy : ByteArray := prog_8_method_4_code
def yX6_copy : MethodName := ⟨RX6, "copy", "([I[I)V"⟩
abbrev cX6_changed : ByteArray := prog_8_method_5_code
def yX6_changed : MethodName := ⟨RX6, "changed", "(I)I"⟩
abbrev cX6_beginsAnew : ByteArray := prog_8_method_6_code
def yX6_beginsAnew : MethodName := ⟨RX6, "beginsAnew", "()V"⟩
abbrev cX6_orderOf : ByteArray := prog_8_method_7_code
def yX6_orderOf : MethodName := ⟨RX6, "orderOf", "(I)I"⟩
abbrev cX6_pairAt : ByteArray := prog_8_method_8_code
def yX6_pairAt : MethodName := ⟨RX6, "pairAt", "(I)I"⟩
abbrev cX6_deedOf : ByteArray := prog_8_method_9_code
def yX6_deedOf : MethodName := ⟨RX6, "deedOf", "(I)I"⟩
abbrev cX6_steps : ByteArray := prog_8_method_10_code
def yX6_steps : MethodName := ⟨RX6, "steps", "(I)V"⟩
abbrev cX6_rises : ByteArray := prog_8_method_11_code
def yX6_rises : MethodName := ⟨RX6, "rises", "()V"⟩
abbrev cX6_ticks : ByteArray := prog_8_method_12_code
def yX6_ticks : MethodName := ⟨RX6, "ticks", "(II)Z"⟩
abbrev cX6_isSetting : ByteArray := prog_8_method_13_code
def yX6_isSetting : MethodName := ⟨RX6, "isSetting", "(II)Z"⟩
abbrev cX6_doSet : ByteArray := prog_8_method_14_code
def yX6_doSet : MethodName := ⟨RX6, "doSet", "(II)I"⟩
abbrev cX6_doFeed : ByteArray := prog_8_method_15_code
def yX6_doFeed : MethodName := ⟨RX6, "doFeed", "(III)I"⟩
abbrev cX6_doTurn : ByteArray := prog_8_method_16_code
def yX6_doTurn : MethodName := ⟨RX6, "doTurn", "(I)I"⟩
abbrev cX6_doZero : ByteArray := prog_8_method_17_code
def yX6_doZero : MethodName := ⟨RX6, "doZero", "()I"⟩
abbrev cX6_set : ByteArray := prog_8_method_18_code
def yX6_set : MethodName := ⟨RX6, "set", "(II)I"⟩
abbrev cX6_feed : ByteArray := prog_8_method_19_code
def yX6_feed : MethodName := ⟨RX6, "feed", "(III)I"⟩
abbrev cX6_turn : ByteArray := prog_8_method_20_code
def yX6_turn : MethodName := ⟨RX6, "turn", "(I)I"⟩
abbrev cX6_zero : ByteArray := prog_8_method_21_code
def yX6_zero : MethodName := ⟨RX6, "zero", "()I"⟩
abbrev cX6_log : ByteArray := prog_8_method_22_code
def yX6_log : MethodName := ⟨RX6, "log", "(II)I"⟩
abbrev cX6_count : ByteArray := prog_8_method_23_code
def yX6_count : MethodName := ⟨RX6, "count", "(I)I"⟩
abbrev cX6_gated : ByteArray := prog_8_method_24_code
def yX6_gated : MethodName := ⟨RX6, "gated", "()I"⟩
abbrev cX6_period : ByteArray := prog_8_method_25_code
def yX6_period : MethodName := ⟨RX6, "period", "()I"⟩
abbrev cX6_speed : ByteArray := prog_8_method_26_code
def yX6_speed : MethodName := ⟨RX6, "speed", "(I)I"⟩
abbrev cX6_rate : ByteArray := prog_8_method_27_code
def yX6_rate : MethodName := ⟨RX6, "rate", "()J"⟩
abbrev cX6_noise : ByteArray := prog_8_method_28_code
def yX6_noise : MethodName := ⟨RX6, "noise", "()I"⟩
abbrev cX6_replayed : ByteArray := prog_8_method_29_code
def yX6_replayed : MethodName := ⟨RX6, "replayed", "(II)I"⟩
abbrev cX6_replay : ByteArray := prog_8_method_30_code
def yX6_replay : MethodName := ⟨RX6, "replay", "(II)I"⟩
abbrev cX6_bestFilter : ByteArray := prog_8_method_31_code
def yX6_bestFilter : MethodName := ⟨RX6, "bestFilter", "(I)I"⟩
abbrev cX6_would : ByteArray := prog_8_method_32_code
def yX6_would : MethodName := ⟨RX6, "would", "(I)I"⟩
abbrev cX6_deeds : ByteArray := prog_8_method_33_code
def yX6_deeds : MethodName := ⟨RX6, "deeds", "(I)I"⟩
abbrev cX6_put : ByteArray := prog_8_method_34_code
def yX6_put : MethodName := ⟨RX6, "put", "(J)I"⟩
abbrev cX6_wipe : ByteArray := prog_8_method_35_code
def yX6_wipe : MethodName := ⟨RX6, "wipe", "()I"⟩
abbrev cX6_isHere : ByteArray := prog_8_method_36_code
def yX6_isHere : MethodName := ⟨RX6, "isHere", "(II)Z"⟩
abbrev cX6_takes : ByteArray := prog_8_method_37_code
def yX6_takes : MethodName := ⟨RX6, "takes", "(I)Z"⟩
abbrev cX6_readsNumber : ByteArray := prog_8_method_38_code
def yX6_readsNumber : MethodName := ⟨RX6, "readsNumber", "()Z"⟩
abbrev cX6_does : ByteArray := prog_8_method_39_code
def yX6_does : MethodName := ⟨RX6, "does", "(I)V"⟩
abbrev cX6_readsRuns : ByteArray := prog_8_method_40_code
def yX6_readsRuns : MethodName := ⟨RX6, "readsRuns", "()Z"⟩
abbrev cX6_readsOrder : ByteArray := prog_8_method_41_code
def yX6_readsOrder : MethodName := ⟨RX6, "readsOrder", "()Z"⟩
abbrev cX6_fault : ByteArray := prog_8_method_42_code
def yX6_fault : MethodName := ⟨RX6, "fault", "()I"⟩
abbrev cX6_carryOut : ByteArray := prog_8_method_43_code
def yX6_carryOut : MethodName := ⟨RX6, "carryOut", "()I"⟩
abbrev cX6_undo : ByteArray := prog_8_method_44_code
def yX6_undo : MethodName := ⟨RX6, "undo", "()I"⟩
abbrev cX6_save : ByteArray := prog_8_method_45_code
def yX6_save : MethodName := ⟨RX6, "save", "(I)I"⟩
abbrev cX6_restore : ByteArray := prog_8_method_46_code
def yX6_restore : MethodName := ⟨RX6, "restore", "(I)I"⟩
def RJxe99ae : String := "java/lang/Double"
def TJxe99ae : u_T := fun k => match k with
  | _ => ("", "", "", false)
def tyJxe99ae : Nat → FieldType := fun k => match k with
  | _ => .int
abbrev wsJxe99ae0 : List Cond := u_ws RJxe99ae TJxe99ae 0
theorem nmJxe99ae : ∀ a, a < 0 → ∀ b, b < 0 → a ≠ b → (TJxe99ae a).2.1 ≠ (TJxe99ae b).2.1 := by decide +kernel
theorem tyJxe99ae_ok : ∀ k, k < 0 → parseFieldDescriptor (TJxe99ae k).2.2.1 = some (tyJxe99ae k) := by decide +kernel
abbrev cJxe99ae_isNaN_b9ae7 : ByteArray := prog_9_method_6_code
def yJxe99ae_isNaN_b9ae7 : MethodName := ⟨RJxe99ae, "isNaN", "(D)Z"⟩
abbrev cJxe99ae_doubleToLongBits_ccdee : ByteArray := prog_9_method_23_code
def yJxe99ae_doubleToLongBits_ccdee : MethodName := ⟨RJxe99ae, "doubleToLongBits", "(D)J"⟩
def RJxf58ca : String := "java/lang/Float"
def TJxf58ca : u_T := fun k => match k with
  | _ => ("", "", "", false)
def tyJxf58ca : Nat → FieldType := fun k => match k with
  | _ => .int
abbrev wsJxf58ca0 : List Cond := u_ws RJxf58ca TJxf58ca 0
theorem nmJxf58ca : ∀ a, a < 0 → ∀ b, b < 0 → a ≠ b → (TJxf58ca a).2.1 ≠ (TJxf58ca b).2.1 := by decide +kernel
theorem tyJxf58ca_ok : ∀ k, k < 0 → parseFieldDescriptor (TJxf58ca k).2.2.1 = some (tyJxf58ca k) := by decide +kernel
abbrev cJxf58ca_isNaN_12338 : ByteArray := prog_10_method_6_code
def yJxf58ca_isNaN_12338 : MethodName := ⟨RJxf58ca, "isNaN", "(F)Z"⟩
abbrev cJxf58ca_floatToIntBits_5c35a : ByteArray := prog_10_method_24_code
def yJxf58ca_floatToIntBits_5c35a : MethodName := ⟨RJxf58ca, "floatToIntBits", "(F)I"⟩
def RJ9 : String := "java/lang/Math"
def TJ9 : u_T := fun k => match k with
  | _ => ("", "", "", false)
def tyJ9 : Nat → FieldType := fun k => match k with
  | _ => .int
abbrev wsJ90 : List Cond := u_ws RJ9 TJ9 0
theorem nmJ9 : ∀ a, a < 0 → ∀ b, b < 0 → a ≠ b → (TJ9 a).2.1 ≠ (TJ9 b).2.1 := by decide +kernel
theorem tyJ9_ok : ∀ k, k < 0 → parseFieldDescriptor (TJ9 k).2.2.1 = some (tyJ9 k) := by decide +kernel
abbrev cJ9_abs_0f7a4 : ByteArray := prog_11_method_59_code
def yJ9_abs_0f7a4 : MethodName := ⟨RJ9, "abs", "(I)I"⟩
abbrev cJ9_min_7cf53 : ByteArray := prog_11_method_69_code
def yJ9_min_7cf53 : MethodName := ⟨RJ9, "min", "(II)I"⟩
def RJ10 : String := "java/lang/System"
def TJ10 : u_T := fun k => match k with
  | _ => ("", "", "", false)
def tyJ10 : Nat → FieldType := fun k => match k with
  | _ => .int
abbrev wsJ100 : List Cond := u_ws RJ10 TJ10 0
theorem nmJ10 : ∀ a, a < 0 → ∀ b, b < 0 → a ≠ b → (TJ10 a).2.1 ≠ (TJ10 b).2.1 := by decide +kernel
theorem tyJ10_ok : ∀ k, k < 0 → parseFieldDescriptor (TJ10 k).2.2.1 = some (tyJ10 k) := by decide +kernel
def RL : String := "StepPairsLaw"
abbrev cL_law : ByteArray := code
def yL_law : MethodName := ⟨RL, "law", "([I)Z"⟩
def wsX0_ofDouble : List Cond := .code yX0_ofDouble cX0_ofDouble 10 (some .long) :: ([.constantLong RX0 7 (1023), .constantDouble RX0 11 (4611686018427387904), .constantDouble RX0 13 (4841369599423283200)])
def wsX0_ofFloat : List Cond := .code yX0_ofFloat cX0_ofFloat 4 (some .int) :: ([.constantFloat RX0 15 (1258291200)])
def wsX1_init : List Cond := .code yX1_init cX1_init 1 none :: ([.methodLink RX1 3 objectInit, .instanceMethod objectInit, .code objectInit ⟨#[0xb1]⟩ 1 none, .arrayClass .int, .fieldLink RX1 9 "StepPairs$Encoder" "settings" "[I", .fieldLink RX1 15 "StepPairs$Encoder" "log" "[I", .methodLink RX1 21 arraycopyName, .native arraycopyName, .static arraycopyName, .initialized "java/lang/System"] ++ wsX10)
def wsX1_copy : List Cond := .code yX1_copy cX1_copy 2 none :: ([.fieldLink RX1 9 "StepPairs$Encoder" "settings" "[I", .methodLink RX1 21 arraycopyName, .native arraycopyName, .static arraycopyName, .initialized "java/lang/System", .fieldLink RX1 15 "StepPairs$Encoder" "log" "[I", .fieldLink RX1 27 "StepPairs$Encoder" "ticks" "I", .fieldLink RX1 31 "StepPairs$Encoder" "count" "I", .fieldLink RX1 34 "StepPairs$Encoder" "place" "I", .fieldLink RX1 37 "StepPairs$Encoder" "seen" "I", .fieldLink RX1 40 "StepPairs$Encoder" "latestPair" "I", .fieldLink RX1 43 "StepPairs$Encoder" "latestIndex" "I", .fieldLink RX1 46 "StepPairs$Encoder" "run" "I", .fieldLink RX1 49 "StepPairs$Encoder" "direction" "I", .fieldLink RX1 52 "StepPairs$Encoder" "forwards" "I", .fieldLink RX1 55 "StepPairs$Encoder" "backwards" "I", .fieldLink RX1 58 "StepPairs$Encoder" "illegal" "I", .fieldLink RX1 61 "StepPairs$Encoder" "slips" "I", .fieldLink RX1 64 "StepPairs$Encoder" "tickOfLatestStep" "I", .fieldLink RX1 67 "StepPairs$Encoder" "period" "I"] ++ wsX10)
def wsX1_restart : List Cond := .code yX1_restart cX1_restart 1 none :: ([.fieldLink RX1 27 "StepPairs$Encoder" "ticks" "I", .fieldLink RX1 31 "StepPairs$Encoder" "count" "I", .fieldLink RX1 34 "StepPairs$Encoder" "place" "I", .fieldLink RX1 37 "StepPairs$Encoder" "seen" "I", .fieldLink RX1 40 "StepPairs$Encoder" "latestPair" "I", .fieldLink RX1 43 "StepPairs$Encoder" "latestIndex" "I", .fieldLink RX1 46 "StepPairs$Encoder" "run" "I", .fieldLink RX1 49 "StepPairs$Encoder" "direction" "I", .fieldLink RX1 52 "StepPairs$Encoder" "forwards" "I", .fieldLink RX1 55 "StepPairs$Encoder" "backwards" "I", .fieldLink RX1 58 "StepPairs$Encoder" "illegal" "I", .fieldLink RX1 61 "StepPairs$Encoder" "slips" "I", .fieldLink RX1 64 "StepPairs$Encoder" "tickOfLatestStep" "I", .fieldLink RX1 67 "StepPairs$Encoder" "period" "I"] ++ wsX10)
def wsX1_logged : List Cond := .code yX1_logged cX1_logged 1 (some .int) :: ([.fieldLink RX1 27 "StepPairs$Encoder" "ticks" "I", .methodLink RX1 125 Lib.Math.min.name, .static Lib.Math.min.name, .initialized "java/lang/Math", .code Lib.Math.min.name Lib.Math.min.code 2 (some .int)] ++ wsX10)
def wsX1_hasTick : List Cond := .code yX1_hasTick cX1_hasTick 2 (some .boolean) :: ([.methodLink RX1 73 yX1_logged, .instanceMethod yX1_logged, .selects RX1 yX1_logged yX1_logged, .initialized RX1, .code yX1_logged cX1_logged 1 (some .int), .fieldLink RX1 27 "StepPairs$Encoder" "ticks" "I", .methodLink RX1 125 Lib.Math.min.name, .static Lib.Math.min.name, .initialized "java/lang/Math", .code Lib.Math.min.name Lib.Math.min.code 2 (some .int)] ++ wsX10)
def wsX1_entry : List Cond := .code yX1_entry cX1_entry 3 (some .int) :: ([.fieldLink RX1 27 "StepPairs$Encoder" "ticks" "I", .fieldLink RX1 15 "StepPairs$Encoder" "log" "[I", .methodLink RX1 131 yX1_hasTick, .instanceMethod yX1_hasTick, .selects RX1 yX1_hasTick yX1_hasTick, .initialized RX1, .code yX1_hasTick cX1_hasTick 2 (some .boolean), .methodLink RX1 73 yX1_logged, .instanceMethod yX1_logged, .selects RX1 yX1_logged yX1_logged, .code yX1_logged cX1_logged 1 (some .int), .methodLink RX1 125 Lib.Math.min.name, .static Lib.Math.min.name, .initialized "java/lang/Math", .code Lib.Math.min.name Lib.Math.min.code 2 (some .int)] ++ wsX10)
def wsX1_pairAt : List Cond := .code yX1_pairAt cX1_pairAt 2 (some .int) :: ([.methodLink RX1 135 yX1_entry, .instanceMethod yX1_entry, .selects RX1 yX1_entry yX1_entry, .initialized RX1, .code yX1_entry cX1_entry 3 (some .int), .fieldLink RX1 27 "StepPairs$Encoder" "ticks" "I", .fieldLink RX1 15 "StepPairs$Encoder" "log" "[I", .methodLink RX1 131 yX1_hasTick, .instanceMethod yX1_hasTick, .selects RX1 yX1_hasTick yX1_hasTick, .code yX1_hasTick cX1_hasTick 2 (some .boolean), .methodLink RX1 73 yX1_logged, .instanceMethod yX1_logged, .selects RX1 yX1_logged yX1_logged, .code yX1_logged cX1_logged 1 (some .int), .methodLink RX1 125 Lib.Math.min.name, .static Lib.Math.min.name, .initialized "java/lang/Math", .code Lib.Math.min.name Lib.Math.min.code 2 (some .int)] ++ wsX10)
def wsX1_indexAt : List Cond := .code yX1_indexAt cX1_indexAt 2 (some .int) :: ([.methodLink RX1 135 yX1_entry, .instanceMethod yX1_entry, .selects RX1 yX1_entry yX1_entry, .initialized RX1, .code yX1_entry cX1_entry 3 (some .int), .fieldLink RX1 27 "StepPairs$Encoder" "ticks" "I", .fieldLink RX1 15 "StepPairs$Encoder" "log" "[I", .methodLink RX1 131 yX1_hasTick, .instanceMethod yX1_hasTick, .selects RX1 yX1_hasTick yX1_hasTick, .code yX1_hasTick cX1_hasTick 2 (some .boolean), .methodLink RX1 73 yX1_logged, .instanceMethod yX1_logged, .selects RX1 yX1_logged yX1_logged, .code yX1_logged cX1_logged 1 (some .int), .methodLink RX1 125 Lib.Math.min.name, .static Lib.Math.min.name, .initialized "java/lang/Math", .code Lib.Math.min.name Lib.Math.min.code 2 (some .int)] ++ wsX10)
def wsX1_runWith : List Cond := .code yX1_runWith cX1_runWith 2 (some .int) :: ([.fieldLink RX1 40 "StepPairs$Encoder" "latestPair" "I", .fieldLink RX1 46 "StepPairs$Encoder" "run" "I"] ++ wsX10)
def wsX1_setting : List Cond := .code yX1_setting cX1_setting 2 (some .int) :: ([.fieldLink RX1 9 "StepPairs$Encoder" "settings" "[I"] ++ wsX10)
def wsX1_orderOf : List Cond := .code yX1_orderOf cX1_orderOf 1 (some .int) :: ([])
def wsX1_deedBy : List Cond := .code yX1_deedBy cX1_deedBy 3 (some .int) :: ([.fieldLink RX1 37 "StepPairs$Encoder" "seen" "I", .methodLink RX1 115 yX1_runWith, .instanceMethod yX1_runWith, .selects RX1 yX1_runWith yX1_runWith, .initialized RX1, .code yX1_runWith cX1_runWith 2 (some .int), .fieldLink RX1 40 "StepPairs$Encoder" "latestPair" "I", .fieldLink RX1 46 "StepPairs$Encoder" "run" "I", .methodLink RX1 103 yX1_setting, .instanceMethod yX1_setting, .selects RX1 yX1_setting yX1_setting, .code yX1_setting cX1_setting 2 (some .int), .fieldLink RX1 9 "StepPairs$Encoder" "settings" "[I", .methodLink RX1 106 yX1_orderOf, .static yX1_orderOf, .code yX1_orderOf cX1_orderOf 1 (some .int)] ++ wsX10)
def wsX1_leftOver : List Cond := .code yX1_leftOver cX1_leftOver 2 (some .int) :: ([])
def wsX1_step : List Cond := .code yX1_step cX1_step 3 none :: ([.fieldLink RX1 52 "StepPairs$Encoder" "forwards" "I", .fieldLink RX1 55 "StepPairs$Encoder" "backwards" "I", .fieldLink RX1 31 "StepPairs$Encoder" "count" "I", .fieldLink RX1 34 "StepPairs$Encoder" "place" "I", .fieldLink RX1 49 "StepPairs$Encoder" "direction" "I", .fieldLink RX1 27 "StepPairs$Encoder" "ticks" "I", .fieldLink RX1 64 "StepPairs$Encoder" "tickOfLatestStep" "I", .fieldLink RX1 67 "StepPairs$Encoder" "period" "I", .methodLink RX1 103 yX1_setting, .instanceMethod yX1_setting, .selects RX1 yX1_setting yX1_setting, .initialized RX1, .code yX1_setting cX1_setting 2 (some .int), .fieldLink RX1 9 "StepPairs$Encoder" "settings" "[I", .methodLink RX1 94 yX1_leftOver, .static yX1_leftOver, .code yX1_leftOver cX1_leftOver 2 (some .int)] ++ wsX10)
def wsX1_meetIndex : List Cond := .code yX1_meetIndex cX1_meetIndex 2 none :: ([.fieldLink RX1 34 "StepPairs$Encoder" "place" "I", .fieldLink RX1 61 "StepPairs$Encoder" "slips" "I", .fieldLink RX1 31 "StepPairs$Encoder" "count" "I", .methodLink RX1 103 yX1_setting, .instanceMethod yX1_setting, .selects RX1 yX1_setting yX1_setting, .initialized RX1, .code yX1_setting cX1_setting 2 (some .int), .fieldLink RX1 9 "StepPairs$Encoder" "settings" "[I"] ++ wsX10)
def wsX1_tick_r1 : List Cond := [Cond.fieldLink RX1 43 "StepPairs$Encoder" "latestIndex" "I", Cond.fieldLink RX1 46 "StepPairs$Encoder" "run" "I", Cond.fieldLink RX1 40 "StepPairs$Encoder" "latestPair" "I", Cond.fieldLink RX1 37 "StepPairs$Encoder" "seen" "I", Cond.fieldLink RX1 58 "StepPairs$Encoder" "illegal" "I", Cond.fieldLink RX1 27 "StepPairs$Encoder" "ticks" "I", Cond.fieldLink RX1 15 "StepPairs$Encoder" "log" "[I", Cond.methodLink RX1 112 yX1_deedBy, Cond.instanceMethod yX1_deedBy, Cond.selects RX1 yX1_deedBy yX1_deedBy, Cond.initialized RX1, Cond.code yX1_deedBy cX1_deedBy 3 (some .int), Cond.methodLink RX1 115 yX1_runWith, Cond.instanceMethod yX1_runWith, Cond.selects RX1 yX1_runWith yX1_runWith, Cond.code yX1_runWith cX1_runWith 2 (some .int), Cond.methodLink RX1 103 yX1_setting, Cond.instanceMethod yX1_setting, Cond.selects RX1 yX1_setting yX1_setting, Cond.code yX1_setting cX1_setting 2 (some .int), Cond.fieldLink RX1 9 "StepPairs$Encoder" "settings" "[I", Cond.methodLink RX1 106 yX1_orderOf, Cond.static yX1_orderOf, Cond.code yX1_orderOf cX1_orderOf 1 (some .int)]
def wsX1_tick_r2 : List Cond := [Cond.methodLink RX1 118 yX1_step, Cond.instanceMethod yX1_step, Cond.selects RX1 yX1_step yX1_step, Cond.code yX1_step cX1_step 3 none, Cond.fieldLink RX1 52 "StepPairs$Encoder" "forwards" "I", Cond.fieldLink RX1 55 "StepPairs$Encoder" "backwards" "I", Cond.fieldLink RX1 31 "StepPairs$Encoder" "count" "I", Cond.fieldLink RX1 34 "StepPairs$Encoder" "place" "I", Cond.fieldLink RX1 49 "StepPairs$Encoder" "direction" "I", Cond.fieldLink RX1 64 "StepPairs$Encoder" "tickOfLatestStep" "I", Cond.fieldLink RX1 67 "StepPairs$Encoder" "period" "I", Cond.methodLink RX1 94 yX1_leftOver, Cond.static yX1_leftOver, Cond.code yX1_leftOver cX1_leftOver 2 (some .int), Cond.methodLink RX1 122 yX1_meetIndex, Cond.instanceMethod yX1_meetIndex, Cond.selects RX1 yX1_meetIndex yX1_meetIndex, Cond.code yX1_meetIndex cX1_meetIndex 2 none, Cond.fieldLink RX1 61 "StepPairs$Encoder" "slips" "I"]
def wsX1_tick : List Cond := .code yX1_tick cX1_tick 6 (some .int) :: ((wsX1_tick_r1 ++ wsX1_tick_r2) ++ wsX10)
def wsX1_follow_r1 : List Cond := [Cond.fieldLink RX1 9 "StepPairs$Encoder" "settings" "[I", Cond.methodLink RX1 21 arraycopyName, Cond.native arraycopyName, Cond.static arraycopyName, Cond.initialized "java/lang/System", Cond.methodLink RX1 70 yX1_restart, Cond.instanceMethod yX1_restart, Cond.selects RX1 yX1_restart yX1_restart, Cond.initialized RX1, Cond.code yX1_restart cX1_restart 1 none, Cond.fieldLink RX1 27 "StepPairs$Encoder" "ticks" "I", Cond.fieldLink RX1 31 "StepPairs$Encoder" "count" "I", Cond.fieldLink RX1 34 "StepPairs$Encoder" "place" "I", Cond.fieldLink RX1 37 "StepPairs$Encoder" "seen" "I", Cond.fieldLink RX1 40 "StepPairs$Encoder" "latestPair" "I", Cond.fieldLink RX1 43 "StepPairs$Encoder" "latestIndex" "I", Cond.fieldLink RX1 46 "StepPairs$Encoder" "run" "I", Cond.fieldLink RX1 49 "StepPairs$Encoder" "direction" "I", Cond.fieldLink RX1 52 "StepPairs$Encoder" "forwards" "I", Cond.fieldLink RX1 55 "StepPairs$Encoder" "backwards" "I", Cond.fieldLink RX1 58 "StepPairs$Encoder" "illegal" "I", Cond.fieldLink RX1 61 "StepPairs$Encoder" "slips" "I", Cond.fieldLink RX1 64 "StepPairs$Encoder" "tickOfLatestStep" "I", Cond.fieldLink RX1 67 "StepPairs$Encoder" "period" "I"]
def wsX1_follow_r2 : List Cond := [Cond.methodLink RX1 73 yX1_logged, Cond.instanceMethod yX1_logged, Cond.selects RX1 yX1_logged yX1_logged, Cond.code yX1_logged cX1_logged 1 (some .int), Cond.methodLink RX1 125 Lib.Math.min.name, Cond.static Lib.Math.min.name, Cond.initialized "java/lang/Math", Cond.code Lib.Math.min.name Lib.Math.min.code 2 (some .int), Cond.methodLink RX1 77 yX1_pairAt, Cond.instanceMethod yX1_pairAt, Cond.selects RX1 yX1_pairAt yX1_pairAt, Cond.code yX1_pairAt cX1_pairAt 2 (some .int), Cond.methodLink RX1 135 yX1_entry, Cond.instanceMethod yX1_entry, Cond.selects RX1 yX1_entry yX1_entry, Cond.code yX1_entry cX1_entry 3 (some .int), Cond.fieldLink RX1 15 "StepPairs$Encoder" "log" "[I", Cond.methodLink RX1 131 yX1_hasTick, Cond.instanceMethod yX1_hasTick, Cond.selects RX1 yX1_hasTick yX1_hasTick, Cond.code yX1_hasTick cX1_hasTick 2 (some .boolean), Cond.methodLink RX1 81 yX1_indexAt, Cond.instanceMethod yX1_indexAt, Cond.selects RX1 yX1_indexAt yX1_indexAt]
def wsX1_follow_r3 : List Cond := [Cond.code yX1_indexAt cX1_indexAt 2 (some .int), Cond.methodLink RX1 84 yX1_tick, Cond.instanceMethod yX1_tick, Cond.selects RX1 yX1_tick yX1_tick, Cond.code yX1_tick cX1_tick 6 (some .int), Cond.methodLink RX1 112 yX1_deedBy, Cond.instanceMethod yX1_deedBy, Cond.selects RX1 yX1_deedBy yX1_deedBy, Cond.code yX1_deedBy cX1_deedBy 3 (some .int), Cond.methodLink RX1 115 yX1_runWith, Cond.instanceMethod yX1_runWith, Cond.selects RX1 yX1_runWith yX1_runWith, Cond.code yX1_runWith cX1_runWith 2 (some .int), Cond.methodLink RX1 103 yX1_setting, Cond.instanceMethod yX1_setting, Cond.selects RX1 yX1_setting yX1_setting, Cond.code yX1_setting cX1_setting 2 (some .int), Cond.methodLink RX1 106 yX1_orderOf, Cond.static yX1_orderOf, Cond.code yX1_orderOf cX1_orderOf 1 (some .int), Cond.methodLink RX1 118 yX1_step, Cond.instanceMethod yX1_step, Cond.selects RX1 yX1_step yX1_step, Cond.code yX1_step cX1_step 3 none]
def wsX1_follow_r4 : List Cond := [Cond.methodLink RX1 94 yX1_leftOver, Cond.static yX1_leftOver, Cond.code yX1_leftOver cX1_leftOver 2 (some .int), Cond.methodLink RX1 122 yX1_meetIndex, Cond.instanceMethod yX1_meetIndex, Cond.selects RX1 yX1_meetIndex yX1_meetIndex, Cond.code yX1_meetIndex cX1_meetIndex 2 none]
def wsX1_follow : List Cond := .code yX1_follow cX1_follow 4 none :: ((wsX1_follow_r1 ++ (wsX1_follow_r2 ++ (wsX1_follow_r3 ++ wsX1_follow_r4))) ++ wsX10)
def wsX1_adjust : List Cond := .code yX1_adjust cX1_adjust 4 (some .int) :: ([.fieldLink RX1 9 "StepPairs$Encoder" "settings" "[I", .fieldLink RX1 34 "StepPairs$Encoder" "place" "I", .fieldLink RX1 31 "StepPairs$Encoder" "count" "I", .methodLink RX1 94 yX1_leftOver, .static yX1_leftOver, .initialized RX1, .code yX1_leftOver cX1_leftOver 2 (some .int)] ++ wsX10)
def wsX1_pass_r1 : List Cond := [Cond.constant RX1 97 (99999), Cond.fieldLink RX1 27 "StepPairs$Encoder" "ticks" "I", Cond.methodLink RX1 84 yX1_tick, Cond.instanceMethod yX1_tick, Cond.selects RX1 yX1_tick yX1_tick, Cond.initialized RX1, Cond.code yX1_tick cX1_tick 6 (some .int), Cond.fieldLink RX1 43 "StepPairs$Encoder" "latestIndex" "I", Cond.fieldLink RX1 46 "StepPairs$Encoder" "run" "I", Cond.fieldLink RX1 40 "StepPairs$Encoder" "latestPair" "I", Cond.fieldLink RX1 37 "StepPairs$Encoder" "seen" "I", Cond.fieldLink RX1 58 "StepPairs$Encoder" "illegal" "I", Cond.fieldLink RX1 15 "StepPairs$Encoder" "log" "[I", Cond.methodLink RX1 112 yX1_deedBy, Cond.instanceMethod yX1_deedBy, Cond.selects RX1 yX1_deedBy yX1_deedBy, Cond.code yX1_deedBy cX1_deedBy 3 (some .int), Cond.methodLink RX1 115 yX1_runWith, Cond.instanceMethod yX1_runWith, Cond.selects RX1 yX1_runWith yX1_runWith, Cond.code yX1_runWith cX1_runWith 2 (some .int), Cond.methodLink RX1 103 yX1_setting, Cond.instanceMethod yX1_setting, Cond.selects RX1 yX1_setting yX1_setting]
def wsX1_pass_r2 : List Cond := [Cond.code yX1_setting cX1_setting 2 (some .int), Cond.fieldLink RX1 9 "StepPairs$Encoder" "settings" "[I", Cond.methodLink RX1 106 yX1_orderOf, Cond.static yX1_orderOf, Cond.code yX1_orderOf cX1_orderOf 1 (some .int), Cond.methodLink RX1 118 yX1_step, Cond.instanceMethod yX1_step, Cond.selects RX1 yX1_step yX1_step, Cond.code yX1_step cX1_step 3 none, Cond.fieldLink RX1 52 "StepPairs$Encoder" "forwards" "I", Cond.fieldLink RX1 55 "StepPairs$Encoder" "backwards" "I", Cond.fieldLink RX1 31 "StepPairs$Encoder" "count" "I", Cond.fieldLink RX1 34 "StepPairs$Encoder" "place" "I", Cond.fieldLink RX1 49 "StepPairs$Encoder" "direction" "I", Cond.fieldLink RX1 64 "StepPairs$Encoder" "tickOfLatestStep" "I", Cond.fieldLink RX1 67 "StepPairs$Encoder" "period" "I", Cond.methodLink RX1 94 yX1_leftOver, Cond.static yX1_leftOver, Cond.code yX1_leftOver cX1_leftOver 2 (some .int), Cond.methodLink RX1 122 yX1_meetIndex, Cond.instanceMethod yX1_meetIndex, Cond.selects RX1 yX1_meetIndex yX1_meetIndex, Cond.code yX1_meetIndex cX1_meetIndex 2 none, Cond.fieldLink RX1 61 "StepPairs$Encoder" "slips" "I"]
def wsX1_pass : List Cond := .code yX1_pass cX1_pass 7 (some .int) :: ((wsX1_pass_r1 ++ wsX1_pass_r2) ++ wsX10)
def wsX1_pairAlong : List Cond := .code yX1_pairAlong cX1_pairAlong 2 (some .int) :: ([])
def wsX1_revolve_r1 : List Cond := [Cond.methodLink RX1 98 Lib.Math.abs.name, Cond.static Lib.Math.abs.name, Cond.initialized "java/lang/Math", Cond.code Lib.Math.abs.name Lib.Math.abs.code 1 (some .int), Cond.constant RX1 97 (99999), Cond.fieldLink RX1 27 "StepPairs$Encoder" "ticks" "I", Cond.fieldLink RX1 37 "StepPairs$Encoder" "seen" "I", Cond.fieldLink RX1 31 "StepPairs$Encoder" "count" "I", Cond.methodLink RX1 103 yX1_setting, Cond.instanceMethod yX1_setting, Cond.selects RX1 yX1_setting yX1_setting, Cond.initialized RX1, Cond.code yX1_setting cX1_setting 2 (some .int), Cond.fieldLink RX1 9 "StepPairs$Encoder" "settings" "[I", Cond.methodLink RX1 106 yX1_orderOf, Cond.static yX1_orderOf, Cond.code yX1_orderOf cX1_orderOf 1 (some .int), Cond.methodLink RX1 109 yX1_pairAlong, Cond.static yX1_pairAlong, Cond.code yX1_pairAlong cX1_pairAlong 2 (some .int), Cond.methodLink RX1 84 yX1_tick, Cond.instanceMethod yX1_tick, Cond.selects RX1 yX1_tick yX1_tick, Cond.code yX1_tick cX1_tick 6 (some .int)]
def wsX1_revolve_r2 : List Cond := [Cond.fieldLink RX1 43 "StepPairs$Encoder" "latestIndex" "I", Cond.fieldLink RX1 46 "StepPairs$Encoder" "run" "I", Cond.fieldLink RX1 40 "StepPairs$Encoder" "latestPair" "I", Cond.fieldLink RX1 58 "StepPairs$Encoder" "illegal" "I", Cond.fieldLink RX1 15 "StepPairs$Encoder" "log" "[I", Cond.methodLink RX1 112 yX1_deedBy, Cond.instanceMethod yX1_deedBy, Cond.selects RX1 yX1_deedBy yX1_deedBy, Cond.code yX1_deedBy cX1_deedBy 3 (some .int), Cond.methodLink RX1 115 yX1_runWith, Cond.instanceMethod yX1_runWith, Cond.selects RX1 yX1_runWith yX1_runWith, Cond.code yX1_runWith cX1_runWith 2 (some .int), Cond.methodLink RX1 118 yX1_step, Cond.instanceMethod yX1_step, Cond.selects RX1 yX1_step yX1_step, Cond.code yX1_step cX1_step 3 none, Cond.fieldLink RX1 52 "StepPairs$Encoder" "forwards" "I", Cond.fieldLink RX1 55 "StepPairs$Encoder" "backwards" "I", Cond.fieldLink RX1 34 "StepPairs$Encoder" "place" "I", Cond.fieldLink RX1 49 "StepPairs$Encoder" "direction" "I", Cond.fieldLink RX1 64 "StepPairs$Encoder" "tickOfLatestStep" "I", Cond.fieldLink RX1 67 "StepPairs$Encoder" "period" "I", Cond.methodLink RX1 94 yX1_leftOver]
def wsX1_revolve_r3 : List Cond := [Cond.static yX1_leftOver, Cond.code yX1_leftOver cX1_leftOver 2 (some .int), Cond.methodLink RX1 122 yX1_meetIndex, Cond.instanceMethod yX1_meetIndex, Cond.selects RX1 yX1_meetIndex yX1_meetIndex, Cond.code yX1_meetIndex cX1_meetIndex 2 none, Cond.fieldLink RX1 61 "StepPairs$Encoder" "slips" "I"]
def wsX1_revolve : List Cond := .code yX1_revolve cX1_revolve 8 (some .int) :: ((wsX1_revolve_r1 ++ (wsX1_revolve_r2 ++ wsX1_revolve_r3)) ++ wsX10)
def wsX1_clear : List Cond := .code yX1_clear cX1_clear 2 (some .int) :: ([.fieldLink RX1 31 "StepPairs$Encoder" "count" "I", .fieldLink RX1 34 "StepPairs$Encoder" "place" "I"] ++ wsX10)
def wsX1_deedAt : List Cond := .code yX1_deedAt cX1_deedAt 2 (some .int) :: ([.methodLink RX1 135 yX1_entry, .instanceMethod yX1_entry, .selects RX1 yX1_entry yX1_entry, .initialized RX1, .code yX1_entry cX1_entry 3 (some .int), .fieldLink RX1 27 "StepPairs$Encoder" "ticks" "I", .fieldLink RX1 15 "StepPairs$Encoder" "log" "[I", .methodLink RX1 131 yX1_hasTick, .instanceMethod yX1_hasTick, .selects RX1 yX1_hasTick yX1_hasTick, .code yX1_hasTick cX1_hasTick 2 (some .boolean), .methodLink RX1 73 yX1_logged, .instanceMethod yX1_logged, .selects RX1 yX1_logged yX1_logged, .code yX1_logged cX1_logged 1 (some .int), .methodLink RX1 125 Lib.Math.min.name, .static Lib.Math.min.name, .initialized "java/lang/Math", .code Lib.Math.min.name Lib.Math.min.code 2 (some .int)] ++ wsX10)
def wsX1_stepsOfGate_r1 : List Cond := [Cond.methodLink RX1 125 Lib.Math.min.name, Cond.static Lib.Math.min.name, Cond.initialized "java/lang/Math", Cond.code Lib.Math.min.name Lib.Math.min.code 2 (some .int), Cond.methodLink RX1 103 yX1_setting, Cond.instanceMethod yX1_setting, Cond.selects RX1 yX1_setting yX1_setting, Cond.initialized RX1, Cond.code yX1_setting cX1_setting 2 (some .int), Cond.fieldLink RX1 9 "StepPairs$Encoder" "settings" "[I", Cond.methodLink RX1 73 yX1_logged, Cond.instanceMethod yX1_logged, Cond.selects RX1 yX1_logged yX1_logged, Cond.code yX1_logged cX1_logged 1 (some .int), Cond.fieldLink RX1 27 "StepPairs$Encoder" "ticks" "I", Cond.methodLink RX1 128 yX1_deedAt, Cond.instanceMethod yX1_deedAt, Cond.selects RX1 yX1_deedAt yX1_deedAt, Cond.code yX1_deedAt cX1_deedAt 2 (some .int), Cond.methodLink RX1 135 yX1_entry, Cond.instanceMethod yX1_entry, Cond.selects RX1 yX1_entry yX1_entry, Cond.code yX1_entry cX1_entry 3 (some .int), Cond.fieldLink RX1 15 "StepPairs$Encoder" "log" "[I"]
def wsX1_stepsOfGate_r2 : List Cond := [Cond.methodLink RX1 131 yX1_hasTick, Cond.instanceMethod yX1_hasTick, Cond.selects RX1 yX1_hasTick yX1_hasTick, Cond.code yX1_hasTick cX1_hasTick 2 (some .boolean)]
def wsX1_stepsOfGate : List Cond := .code yX1_stepsOfGate cX1_stepsOfGate 5 (some .int) :: ((wsX1_stepsOfGate_r1 ++ wsX1_stepsOfGate_r2) ++ wsX10)
def wsX2_init : List Cond := .code yX2_init cX2_init 2 none :: ([.methodLink RX2 3 objectInit, .instanceMethod objectInit, .code objectInit ⟨#[0xb1]⟩ 1 none, .classLink RX2 11 RX1, .fieldLink RX2 13 "StepPairs$History" "rows" "[LStepPairs$Encoder;", .instantiable RX1 16, .initialized RX1, .methodLink RX2 17 yX1_init, .instanceMethod yX1_init, .code yX1_init cX1_init 1 none, .methodLink RX1 3 objectInit, .arrayClass .int, .fieldLink RX1 9 "StepPairs$Encoder" "settings" "[I", .fieldLink RX1 15 "StepPairs$Encoder" "log" "[I", .methodLink RX1 21 arraycopyName, .native arraycopyName, .static arraycopyName, .initialized "java/lang/System"] ++ wsX20 ++ wsX10)
def wsX2_nextRow : List Cond := .code yX2_nextRow cX2_nextRow 1 (some (.object "StepPairs$Encoder")) :: ([.fieldLink RX2 18 "StepPairs$History" "next" "I", .fieldLink RX2 13 "StepPairs$History" "rows" "[LStepPairs$Encoder;"] ++ wsX20)
def wsX2_prepare_r1 : List Cond := [Cond.methodLink RX2 22 yX2_nextRow, Cond.instanceMethod yX2_nextRow, Cond.selects RX2 yX2_nextRow yX2_nextRow, Cond.initialized RX2, Cond.code yX2_nextRow cX2_nextRow 1 (some (.object "StepPairs$Encoder")), Cond.fieldLink RX2 18 "StepPairs$History" "next" "I", Cond.fieldLink RX2 13 "StepPairs$History" "rows" "[LStepPairs$Encoder;", Cond.methodLink RX2 26 yX1_copy, Cond.static yX1_copy, Cond.initialized RX1, Cond.code yX1_copy cX1_copy 2 none, Cond.fieldLink RX1 9 "StepPairs$Encoder" "settings" "[I", Cond.methodLink RX1 21 arraycopyName, Cond.native arraycopyName, Cond.static arraycopyName, Cond.initialized "java/lang/System", Cond.fieldLink RX1 15 "StepPairs$Encoder" "log" "[I", Cond.fieldLink RX1 27 "StepPairs$Encoder" "ticks" "I", Cond.fieldLink RX1 31 "StepPairs$Encoder" "count" "I", Cond.fieldLink RX1 34 "StepPairs$Encoder" "place" "I", Cond.fieldLink RX1 37 "StepPairs$Encoder" "seen" "I", Cond.fieldLink RX1 40 "StepPairs$Encoder" "latestPair" "I", Cond.fieldLink RX1 43 "StepPairs$Encoder" "latestIndex" "I", Cond.fieldLink RX1 46 "StepPairs$Encoder" "run" "I"]
def wsX2_prepare_r2 : List Cond := [Cond.fieldLink RX1 49 "StepPairs$Encoder" "direction" "I", Cond.fieldLink RX1 52 "StepPairs$Encoder" "forwards" "I", Cond.fieldLink RX1 55 "StepPairs$Encoder" "backwards" "I", Cond.fieldLink RX1 58 "StepPairs$Encoder" "illegal" "I", Cond.fieldLink RX1 61 "StepPairs$Encoder" "slips" "I", Cond.fieldLink RX1 64 "StepPairs$Encoder" "tickOfLatestStep" "I", Cond.fieldLink RX1 67 "StepPairs$Encoder" "period" "I"]
def wsX2_prepare : List Cond := .code yX2_prepare cX2_prepare 2 none :: ((wsX2_prepare_r1 ++ wsX2_prepare_r2) ++ wsX20 ++ wsX10)
def wsX2_keepUnlessError : List Cond := .code yX2_keepUnlessError cX2_keepUnlessError 2 (some .int) :: ([.fieldLink RX2 18 "StepPairs$History" "next" "I", .fieldLink RX2 30 "StepPairs$History" "size" "I", .methodLink RX2 33 Lib.Math.min.name, .static Lib.Math.min.name, .initialized "java/lang/Math", .code Lib.Math.min.name Lib.Math.min.code 2 (some .int)] ++ wsX20)
def wsX2_takeBack_r1 : List Cond := [Cond.fieldLink RX2 30 "StepPairs$History" "size" "I", Cond.fieldLink RX2 18 "StepPairs$History" "next" "I", Cond.methodLink RX2 22 yX2_nextRow, Cond.instanceMethod yX2_nextRow, Cond.selects RX2 yX2_nextRow yX2_nextRow, Cond.initialized RX2, Cond.code yX2_nextRow cX2_nextRow 1 (some (.object "StepPairs$Encoder")), Cond.fieldLink RX2 13 "StepPairs$History" "rows" "[LStepPairs$Encoder;", Cond.methodLink RX2 26 yX1_copy, Cond.static yX1_copy, Cond.initialized RX1, Cond.code yX1_copy cX1_copy 2 none, Cond.fieldLink RX1 9 "StepPairs$Encoder" "settings" "[I", Cond.methodLink RX1 21 arraycopyName, Cond.native arraycopyName, Cond.static arraycopyName, Cond.initialized "java/lang/System", Cond.fieldLink RX1 15 "StepPairs$Encoder" "log" "[I", Cond.fieldLink RX1 27 "StepPairs$Encoder" "ticks" "I", Cond.fieldLink RX1 31 "StepPairs$Encoder" "count" "I", Cond.fieldLink RX1 34 "StepPairs$Encoder" "place" "I", Cond.fieldLink RX1 37 "StepPairs$Encoder" "seen" "I", Cond.fieldLink RX1 40 "StepPairs$Encoder" "latestPair" "I", Cond.fieldLink RX1 43 "StepPairs$Encoder" "latestIndex" "I"]
def wsX2_takeBack_r2 : List Cond := [Cond.fieldLink RX1 46 "StepPairs$Encoder" "run" "I", Cond.fieldLink RX1 49 "StepPairs$Encoder" "direction" "I", Cond.fieldLink RX1 52 "StepPairs$Encoder" "forwards" "I", Cond.fieldLink RX1 55 "StepPairs$Encoder" "backwards" "I", Cond.fieldLink RX1 58 "StepPairs$Encoder" "illegal" "I", Cond.fieldLink RX1 61 "StepPairs$Encoder" "slips" "I", Cond.fieldLink RX1 64 "StepPairs$Encoder" "tickOfLatestStep" "I", Cond.fieldLink RX1 67 "StepPairs$Encoder" "period" "I"]
def wsX2_takeBack : List Cond := .code yX2_takeBack cX2_takeBack 2 (some .int) :: ((wsX2_takeBack_r1 ++ wsX2_takeBack_r2) ++ wsX20 ++ wsX10)
def wsX3_init : List Cond := .code yX3_init cX3_init 1 none :: ([.methodLink RX3 3 objectInit, .instanceMethod objectInit, .code objectInit ⟨#[0xb1]⟩ 1 none, .arrayClass .char, .fieldLink RX3 9 "StepPairs$Pad" "characters" "[C"] ++ wsX30)
def wsX3_append : List Cond := .code yX3_append cX3_append 8 (some .int) :: ([.constantLong RX3 15 (255), .constantLong RX3 17 (33), .constantLong RX3 19 (126), .fieldLink RX3 21 "StepPairs$Pad" "length" "I", .fieldLink RX3 9 "StepPairs$Pad" "characters" "[C"] ++ wsX30)
def wsX3_empty : List Cond := .code yX3_empty cX3_empty 2 (some .int) :: ([.fieldLink RX3 21 "StepPairs$Pad" "length" "I"] ++ wsX30)
def wsX3_begin : List Cond := .code yX3_begin cX3_begin 1 none :: ([.fieldLink RX3 32 "StepPairs$Pad" "position" "I"] ++ wsX30)
def wsX3_here : List Cond := .code yX3_here cX3_here 1 (some .char) :: ([.fieldLink RX3 32 "StepPairs$Pad" "position" "I", .fieldLink RX3 21 "StepPairs$Pad" "length" "I", .fieldLink RX3 9 "StepPairs$Pad" "characters" "[C"] ++ wsX30)
def wsX3_skip : List Cond := .code yX3_skip cX3_skip 2 (some .boolean) :: ([.fieldLink RX3 32 "StepPairs$Pad" "position" "I", .methodLink RX3 39 yX3_here, .instanceMethod yX3_here, .selects RX3 yX3_here yX3_here, .initialized RX3, .code yX3_here cX3_here 1 (some .char), .fieldLink RX3 21 "StepPairs$Pad" "length" "I", .fieldLink RX3 9 "StepPairs$Pad" "characters" "[C"] ++ wsX30)
def wsX3_readDigit : List Cond := .code yX3_readDigit cX3_readDigit 1 (some .boolean) :: ([.fieldLink RX3 61 "StepPairs$Pad" "number" "I", .fieldLink RX3 32 "StepPairs$Pad" "position" "I", .methodLink RX3 39 yX3_here, .instanceMethod yX3_here, .selects RX3 yX3_here yX3_here, .initialized RX3, .code yX3_here cX3_here 1 (some .char), .fieldLink RX3 21 "StepPairs$Pad" "length" "I", .fieldLink RX3 9 "StepPairs$Pad" "characters" "[C"] ++ wsX30)
def wsX3_readNumber : List Cond := .code yX3_readNumber cX3_readNumber 2 (some .boolean) :: ([.fieldLink RX3 61 "StepPairs$Pad" "number" "I", .fieldLink RX3 32 "StepPairs$Pad" "position" "I", .methodLink RX3 35 yX3_skip, .instanceMethod yX3_skip, .selects RX3 yX3_skip yX3_skip, .initialized RX3, .code yX3_skip cX3_skip 2 (some .boolean), .methodLink RX3 39 yX3_here, .instanceMethod yX3_here, .selects RX3 yX3_here yX3_here, .code yX3_here cX3_here 1 (some .char), .fieldLink RX3 21 "StepPairs$Pad" "length" "I", .fieldLink RX3 9 "StepPairs$Pad" "characters" "[C"] ++ wsX30)
def wsX3_readRun : List Cond := .code yX3_readRun cX3_readRun 1 (some .boolean) :: ([.fieldLink RX3 55 "StepPairs$Pad" "pair" "I", .fieldLink RX3 32 "StepPairs$Pad" "position" "I", .fieldLink RX3 58 "StepPairs$Pad" "index" "I", .fieldLink RX3 61 "StepPairs$Pad" "number" "I", .methodLink RX3 39 yX3_here, .instanceMethod yX3_here, .selects RX3 yX3_here yX3_here, .initialized RX3, .code yX3_here cX3_here 1 (some .char), .fieldLink RX3 21 "StepPairs$Pad" "length" "I", .fieldLink RX3 9 "StepPairs$Pad" "characters" "[C", .methodLink RX3 35 yX3_skip, .instanceMethod yX3_skip, .selects RX3 yX3_skip yX3_skip, .code yX3_skip cX3_skip 2 (some .boolean), .methodLink RX3 46 yX3_readNumber, .instanceMethod yX3_readNumber, .selects RX3 yX3_readNumber yX3_readNumber, .code yX3_readNumber cX3_readNumber 2 (some .boolean)] ++ wsX30)
def wsX3_readRuns : List Cond := .code yX3_readRuns cX3_readRuns 2 (some .boolean) :: ([.methodLink RX3 52 yX3_readRun, .instanceMethod yX3_readRun, .selects RX3 yX3_readRun yX3_readRun, .initialized RX3, .code yX3_readRun cX3_readRun 1 (some .boolean), .fieldLink RX3 55 "StepPairs$Pad" "pair" "I", .fieldLink RX3 32 "StepPairs$Pad" "position" "I", .fieldLink RX3 58 "StepPairs$Pad" "index" "I", .fieldLink RX3 61 "StepPairs$Pad" "number" "I", .methodLink RX3 39 yX3_here, .instanceMethod yX3_here, .selects RX3 yX3_here yX3_here, .code yX3_here cX3_here 1 (some .char), .fieldLink RX3 21 "StepPairs$Pad" "length" "I", .fieldLink RX3 9 "StepPairs$Pad" "characters" "[C", .methodLink RX3 35 yX3_skip, .instanceMethod yX3_skip, .selects RX3 yX3_skip yX3_skip, .code yX3_skip cX3_skip 2 (some .boolean), .methodLink RX3 46 yX3_readNumber, .instanceMethod yX3_readNumber, .selects RX3 yX3_readNumber yX3_readNumber, .code yX3_readNumber cX3_readNumber 2 (some .boolean)] ++ wsX30)
def wsX3_readOrder_r1 : List Cond := [Cond.methodLink RX3 35 yX3_skip, Cond.instanceMethod yX3_skip, Cond.selects RX3 yX3_skip yX3_skip, Cond.initialized RX3, Cond.code yX3_skip cX3_skip 2 (some .boolean), Cond.fieldLink RX3 32 "StepPairs$Pad" "position" "I", Cond.methodLink RX3 39 yX3_here, Cond.instanceMethod yX3_here, Cond.selects RX3 yX3_here yX3_here, Cond.code yX3_here cX3_here 1 (some .char), Cond.fieldLink RX3 21 "StepPairs$Pad" "length" "I", Cond.fieldLink RX3 9 "StepPairs$Pad" "characters" "[C", Cond.methodLink RX3 43 yX3_readDigit, Cond.instanceMethod yX3_readDigit, Cond.selects RX3 yX3_readDigit yX3_readDigit, Cond.code yX3_readDigit cX3_readDigit 1 (some .boolean), Cond.fieldLink RX3 61 "StepPairs$Pad" "number" "I", Cond.methodLink RX3 46 yX3_readNumber, Cond.instanceMethod yX3_readNumber, Cond.selects RX3 yX3_readNumber yX3_readNumber, Cond.code yX3_readNumber cX3_readNumber 2 (some .boolean), Cond.methodLink RX3 49 yX3_readRuns, Cond.instanceMethod yX3_readRuns, Cond.selects RX3 yX3_readRuns yX3_readRuns]
def wsX3_readOrder_r2 : List Cond := [Cond.code yX3_readRuns cX3_readRuns 2 (some .boolean), Cond.methodLink RX3 52 yX3_readRun, Cond.instanceMethod yX3_readRun, Cond.selects RX3 yX3_readRun yX3_readRun, Cond.code yX3_readRun cX3_readRun 1 (some .boolean), Cond.fieldLink RX3 55 "StepPairs$Pad" "pair" "I", Cond.fieldLink RX3 58 "StepPairs$Pad" "index" "I"]
def wsX3_readOrder : List Cond := .code yX3_readOrder cX3_readOrder 1 (some .boolean) :: ((wsX3_readOrder_r1 ++ wsX3_readOrder_r2) ++ wsX30)
def wsX3_firstFault_r1 : List Cond := [Cond.fieldLink RX3 32 "StepPairs$Pad" "position" "I", Cond.fieldLink RX3 21 "StepPairs$Pad" "length" "I", Cond.methodLink RX3 25 yX3_begin, Cond.instanceMethod yX3_begin, Cond.selects RX3 yX3_begin yX3_begin, Cond.initialized RX3, Cond.code yX3_begin cX3_begin 1 none, Cond.methodLink RX3 28 yX3_readOrder, Cond.instanceMethod yX3_readOrder, Cond.selects RX3 yX3_readOrder yX3_readOrder, Cond.code yX3_readOrder cX3_readOrder 1 (some .boolean), Cond.methodLink RX3 35 yX3_skip, Cond.instanceMethod yX3_skip, Cond.selects RX3 yX3_skip yX3_skip, Cond.code yX3_skip cX3_skip 2 (some .boolean), Cond.methodLink RX3 39 yX3_here, Cond.instanceMethod yX3_here, Cond.selects RX3 yX3_here yX3_here, Cond.code yX3_here cX3_here 1 (some .char), Cond.fieldLink RX3 9 "StepPairs$Pad" "characters" "[C", Cond.methodLink RX3 43 yX3_readDigit, Cond.instanceMethod yX3_readDigit, Cond.selects RX3 yX3_readDigit yX3_readDigit, Cond.code yX3_readDigit cX3_readDigit 1 (some .boolean)]
def wsX3_firstFault_r2 : List Cond := [Cond.fieldLink RX3 61 "StepPairs$Pad" "number" "I", Cond.methodLink RX3 46 yX3_readNumber, Cond.instanceMethod yX3_readNumber, Cond.selects RX3 yX3_readNumber yX3_readNumber, Cond.code yX3_readNumber cX3_readNumber 2 (some .boolean), Cond.methodLink RX3 49 yX3_readRuns, Cond.instanceMethod yX3_readRuns, Cond.selects RX3 yX3_readRuns yX3_readRuns, Cond.code yX3_readRuns cX3_readRuns 2 (some .boolean), Cond.methodLink RX3 52 yX3_readRun, Cond.instanceMethod yX3_readRun, Cond.selects RX3 yX3_readRun yX3_readRun, Cond.code yX3_readRun cX3_readRun 1 (some .boolean), Cond.fieldLink RX3 55 "StepPairs$Pad" "pair" "I", Cond.fieldLink RX3 58 "StepPairs$Pad" "index" "I"]
def wsX3_firstFault : List Cond := .code yX3_firstFault cX3_firstFault 2 (some .int) :: ((wsX3_firstFault_r1 ++ wsX3_firstFault_r2) ++ wsX30)
def wsX4_init : List Cond := .code yX4_init cX4_init 2 none :: ([.methodLink RX4 3 objectInit, .instanceMethod objectInit, .code objectInit ⟨#[0xb1]⟩ 1 none, .classLink RX4 9 RX1, .fieldLink RX4 11 "StepPairs$Slots" "rows" "[LStepPairs$Encoder;", .arrayClass .boolean, .fieldLink RX4 17 "StepPairs$Slots" "used" "[Z", .instantiable RX1 16, .initialized RX1, .methodLink RX4 21 yX1_init, .instanceMethod yX1_init, .code yX1_init cX1_init 1 none, .methodLink RX1 3 objectInit, .arrayClass .int, .fieldLink RX1 9 "StepPairs$Encoder" "settings" "[I", .fieldLink RX1 15 "StepPairs$Encoder" "log" "[I", .methodLink RX1 21 arraycopyName, .native arraycopyName, .static arraycopyName, .initialized "java/lang/System"] ++ wsX40 ++ wsX10)
def wsX4_store_r1 : List Cond := [Cond.fieldLink RX4 11 "StepPairs$Slots" "rows" "[LStepPairs$Encoder;", Cond.fieldLink RX4 17 "StepPairs$Slots" "used" "[Z", Cond.fieldLink RX4 26 "StepPairs$Encoder" "count" "I", Cond.methodLink RX4 22 yX1_copy, Cond.static yX1_copy, Cond.initialized RX1, Cond.code yX1_copy cX1_copy 2 none, Cond.fieldLink RX1 9 "StepPairs$Encoder" "settings" "[I", Cond.methodLink RX1 21 arraycopyName, Cond.native arraycopyName, Cond.static arraycopyName, Cond.initialized "java/lang/System", Cond.fieldLink RX1 15 "StepPairs$Encoder" "log" "[I", Cond.fieldLink RX1 27 "StepPairs$Encoder" "ticks" "I", Cond.fieldLink RX1 31 "StepPairs$Encoder" "count" "I", Cond.fieldLink RX1 34 "StepPairs$Encoder" "place" "I", Cond.fieldLink RX1 37 "StepPairs$Encoder" "seen" "I", Cond.fieldLink RX1 40 "StepPairs$Encoder" "latestPair" "I", Cond.fieldLink RX1 43 "StepPairs$Encoder" "latestIndex" "I", Cond.fieldLink RX1 46 "StepPairs$Encoder" "run" "I", Cond.fieldLink RX1 49 "StepPairs$Encoder" "direction" "I", Cond.fieldLink RX1 52 "StepPairs$Encoder" "forwards" "I", Cond.fieldLink RX1 55 "StepPairs$Encoder" "backwards" "I", Cond.fieldLink RX1 58 "StepPairs$Encoder" "illegal" "I"]
def wsX4_store_r2 : List Cond := [Cond.fieldLink RX1 61 "StepPairs$Encoder" "slips" "I", Cond.fieldLink RX1 64 "StepPairs$Encoder" "tickOfLatestStep" "I", Cond.fieldLink RX1 67 "StepPairs$Encoder" "period" "I"]
def wsX4_store : List Cond := .code yX4_store cX4_store 3 (some .int) :: ((wsX4_store_r1 ++ wsX4_store_r2) ++ wsX40 ++ wsX10)
def wsX4_fetch_r1 : List Cond := [Cond.fieldLink RX4 17 "StepPairs$Slots" "used" "[Z", Cond.fieldLink RX4 11 "StepPairs$Slots" "rows" "[LStepPairs$Encoder;", Cond.fieldLink RX4 26 "StepPairs$Encoder" "count" "I", Cond.methodLink RX4 22 yX1_copy, Cond.static yX1_copy, Cond.initialized RX1, Cond.code yX1_copy cX1_copy 2 none, Cond.fieldLink RX1 9 "StepPairs$Encoder" "settings" "[I", Cond.methodLink RX1 21 arraycopyName, Cond.native arraycopyName, Cond.static arraycopyName, Cond.initialized "java/lang/System", Cond.fieldLink RX1 15 "StepPairs$Encoder" "log" "[I", Cond.fieldLink RX1 27 "StepPairs$Encoder" "ticks" "I", Cond.fieldLink RX1 31 "StepPairs$Encoder" "count" "I", Cond.fieldLink RX1 34 "StepPairs$Encoder" "place" "I", Cond.fieldLink RX1 37 "StepPairs$Encoder" "seen" "I", Cond.fieldLink RX1 40 "StepPairs$Encoder" "latestPair" "I", Cond.fieldLink RX1 43 "StepPairs$Encoder" "latestIndex" "I", Cond.fieldLink RX1 46 "StepPairs$Encoder" "run" "I", Cond.fieldLink RX1 49 "StepPairs$Encoder" "direction" "I", Cond.fieldLink RX1 52 "StepPairs$Encoder" "forwards" "I", Cond.fieldLink RX1 55 "StepPairs$Encoder" "backwards" "I", Cond.fieldLink RX1 58 "StepPairs$Encoder" "illegal" "I"]
def wsX4_fetch_r2 : List Cond := [Cond.fieldLink RX1 61 "StepPairs$Encoder" "slips" "I", Cond.fieldLink RX1 64 "StepPairs$Encoder" "tickOfLatestStep" "I", Cond.fieldLink RX1 67 "StepPairs$Encoder" "period" "I"]
def wsX4_fetch : List Cond := .code yX4_fetch cX4_fetch 3 (some .int) :: ((wsX4_fetch_r1 ++ wsX4_fetch_r2) ++ wsX40 ++ wsX10)
def wsX5_init_r1 : List Cond := [Cond.methodLink RX5 1 objectInit, Cond.instanceMethod objectInit, Cond.code objectInit ⟨#[0xb1]⟩ 1 none, Cond.classLink RX5 7 RX1, Cond.instantiable RX1 16, Cond.initialized RX1, Cond.fieldLink RX5 10 "StepPairs" "encoder" "LStepPairs$Encoder;", Cond.fieldLink RX5 16 "StepPairs" "trial" "LStepPairs$Encoder;", Cond.classLink RX5 19 RX2, Cond.instantiable RX2 3, Cond.initialized RX2, Cond.fieldLink RX5 22 "StepPairs" "history" "LStepPairs$History;", Cond.classLink RX5 26 RX4, Cond.instantiable RX4 2, Cond.initialized RX4, Cond.fieldLink RX5 29 "StepPairs" "slots" "LStepPairs$Slots;", Cond.classLink RX5 33 RX3, Cond.instantiable RX3 6, Cond.initialized RX3, Cond.fieldLink RX5 36 "StepPairs" "pad" "LStepPairs$Pad;", Cond.methodLink RX5 9 yX1_init, Cond.instanceMethod yX1_init, Cond.code yX1_init cX1_init 1 none, Cond.methodLink RX1 3 objectInit]
def wsX5_init_r2 : List Cond := [Cond.arrayClass .int, Cond.fieldLink RX1 9 "StepPairs$Encoder" "settings" "[I", Cond.fieldLink RX1 15 "StepPairs$Encoder" "log" "[I", Cond.methodLink RX1 21 arraycopyName, Cond.native arraycopyName, Cond.static arraycopyName, Cond.initialized "java/lang/System", Cond.methodLink RX5 21 yX2_init, Cond.instanceMethod yX2_init, Cond.code yX2_init cX2_init 2 none, Cond.methodLink RX2 3 objectInit, Cond.classLink RX2 11 RX1, Cond.fieldLink RX2 13 "StepPairs$History" "rows" "[LStepPairs$Encoder;", Cond.methodLink RX2 17 yX1_init, Cond.methodLink RX5 28 yX4_init, Cond.instanceMethod yX4_init, Cond.code yX4_init cX4_init 2 none, Cond.methodLink RX4 3 objectInit, Cond.classLink RX4 9 RX1, Cond.fieldLink RX4 11 "StepPairs$Slots" "rows" "[LStepPairs$Encoder;", Cond.arrayClass .boolean, Cond.fieldLink RX4 17 "StepPairs$Slots" "used" "[Z", Cond.methodLink RX4 21 yX1_init, Cond.methodLink RX5 35 yX3_init]
def wsX5_init_r3 : List Cond := [Cond.instanceMethod yX3_init, Cond.code yX3_init cX3_init 1 none, Cond.methodLink RX3 3 objectInit, Cond.arrayClass .char, Cond.fieldLink RX3 9 "StepPairs$Pad" "characters" "[C"]
def wsX5_init : List Cond := .code yX5_init cX5_init 1 none :: ((wsX5_init_r1 ++ (wsX5_init_r2 ++ wsX5_init_r3)) ++ wsX10 ++ wsX50 ++ wsX20 ++ wsX40 ++ wsX30)
def wsX5_set_r1 : List Cond := [Cond.fieldLink RX5 22 "StepPairs" "history" "LStepPairs$History;", Cond.fieldLink RX5 10 "StepPairs" "encoder" "LStepPairs$Encoder;", Cond.methodLink RX5 40 yX2_prepare, Cond.instanceMethod yX2_prepare, Cond.selects RX2 yX2_prepare yX2_prepare, Cond.initialized RX2, Cond.code yX2_prepare cX2_prepare 2 none, Cond.methodLink RX2 22 yX2_nextRow, Cond.instanceMethod yX2_nextRow, Cond.selects RX2 yX2_nextRow yX2_nextRow, Cond.code yX2_nextRow cX2_nextRow 1 (some (.object "StepPairs$Encoder")), Cond.fieldLink RX2 18 "StepPairs$History" "next" "I", Cond.fieldLink RX2 13 "StepPairs$History" "rows" "[LStepPairs$Encoder;", Cond.methodLink RX2 26 yX1_copy, Cond.static yX1_copy, Cond.initialized RX1, Cond.code yX1_copy cX1_copy 2 none, Cond.fieldLink RX1 9 "StepPairs$Encoder" "settings" "[I", Cond.methodLink RX1 21 arraycopyName, Cond.native arraycopyName, Cond.static arraycopyName, Cond.initialized "java/lang/System", Cond.fieldLink RX1 15 "StepPairs$Encoder" "log" "[I", Cond.fieldLink RX1 27 "StepPairs$Encoder" "ticks" "I"]
def wsX5_set_r2 : List Cond := [Cond.fieldLink RX1 31 "StepPairs$Encoder" "count" "I", Cond.fieldLink RX1 34 "StepPairs$Encoder" "place" "I", Cond.fieldLink RX1 37 "StepPairs$Encoder" "seen" "I", Cond.fieldLink RX1 40 "StepPairs$Encoder" "latestPair" "I", Cond.fieldLink RX1 43 "StepPairs$Encoder" "latestIndex" "I", Cond.fieldLink RX1 46 "StepPairs$Encoder" "run" "I", Cond.fieldLink RX1 49 "StepPairs$Encoder" "direction" "I", Cond.fieldLink RX1 52 "StepPairs$Encoder" "forwards" "I", Cond.fieldLink RX1 55 "StepPairs$Encoder" "backwards" "I", Cond.fieldLink RX1 58 "StepPairs$Encoder" "illegal" "I", Cond.fieldLink RX1 61 "StepPairs$Encoder" "slips" "I", Cond.fieldLink RX1 64 "StepPairs$Encoder" "tickOfLatestStep" "I", Cond.fieldLink RX1 67 "StepPairs$Encoder" "period" "I", Cond.methodLink RX5 44 yX1_adjust, Cond.instanceMethod yX1_adjust, Cond.selects RX1 yX1_adjust yX1_adjust, Cond.code yX1_adjust cX1_adjust 4 (some .int), Cond.methodLink RX1 94 yX1_leftOver, Cond.static yX1_leftOver, Cond.code yX1_leftOver cX1_leftOver 2 (some .int), Cond.methodLink RX5 48 yX2_keepUnlessError, Cond.instanceMethod yX2_keepUnlessError, Cond.selects RX2 yX2_keepUnlessError yX2_keepUnlessError, Cond.code yX2_keepUnlessError cX2_keepUnlessError 2 (some .int)]
def wsX5_set_r3 : List Cond := [Cond.fieldLink RX2 30 "StepPairs$History" "size" "I", Cond.methodLink RX2 33 Lib.Math.min.name, Cond.static Lib.Math.min.name, Cond.initialized "java/lang/Math", Cond.code Lib.Math.min.name Lib.Math.min.code 2 (some .int)]
def wsX5_set : List Cond := .code yX5_set cX5_set 3 (some .int) :: ((wsX5_set_r1 ++ (wsX5_set_r2 ++ wsX5_set_r3)) ++ wsX50 ++ wsX20 ++ wsX10)
def wsX5_feed_r1 : List Cond := [Cond.fieldLink RX5 22 "StepPairs" "history" "LStepPairs$History;", Cond.fieldLink RX5 10 "StepPairs" "encoder" "LStepPairs$Encoder;", Cond.methodLink RX5 40 yX2_prepare, Cond.instanceMethod yX2_prepare, Cond.selects RX2 yX2_prepare yX2_prepare, Cond.initialized RX2, Cond.code yX2_prepare cX2_prepare 2 none, Cond.methodLink RX2 22 yX2_nextRow, Cond.instanceMethod yX2_nextRow, Cond.selects RX2 yX2_nextRow yX2_nextRow, Cond.code yX2_nextRow cX2_nextRow 1 (some (.object "StepPairs$Encoder")), Cond.fieldLink RX2 18 "StepPairs$History" "next" "I", Cond.fieldLink RX2 13 "StepPairs$History" "rows" "[LStepPairs$Encoder;", Cond.methodLink RX2 26 yX1_copy, Cond.static yX1_copy, Cond.initialized RX1, Cond.code yX1_copy cX1_copy 2 none, Cond.fieldLink RX1 9 "StepPairs$Encoder" "settings" "[I", Cond.methodLink RX1 21 arraycopyName, Cond.native arraycopyName, Cond.static arraycopyName, Cond.initialized "java/lang/System", Cond.fieldLink RX1 15 "StepPairs$Encoder" "log" "[I", Cond.fieldLink RX1 27 "StepPairs$Encoder" "ticks" "I"]
def wsX5_feed_r2 : List Cond := [Cond.fieldLink RX1 31 "StepPairs$Encoder" "count" "I", Cond.fieldLink RX1 34 "StepPairs$Encoder" "place" "I", Cond.fieldLink RX1 37 "StepPairs$Encoder" "seen" "I", Cond.fieldLink RX1 40 "StepPairs$Encoder" "latestPair" "I", Cond.fieldLink RX1 43 "StepPairs$Encoder" "latestIndex" "I", Cond.fieldLink RX1 46 "StepPairs$Encoder" "run" "I", Cond.fieldLink RX1 49 "StepPairs$Encoder" "direction" "I", Cond.fieldLink RX1 52 "StepPairs$Encoder" "forwards" "I", Cond.fieldLink RX1 55 "StepPairs$Encoder" "backwards" "I", Cond.fieldLink RX1 58 "StepPairs$Encoder" "illegal" "I", Cond.fieldLink RX1 61 "StepPairs$Encoder" "slips" "I", Cond.fieldLink RX1 64 "StepPairs$Encoder" "tickOfLatestStep" "I", Cond.fieldLink RX1 67 "StepPairs$Encoder" "period" "I", Cond.methodLink RX5 52 yX1_pass, Cond.instanceMethod yX1_pass, Cond.selects RX1 yX1_pass yX1_pass, Cond.code yX1_pass cX1_pass 7 (some .int), Cond.constant RX1 97 (99999), Cond.methodLink RX1 84 yX1_tick, Cond.instanceMethod yX1_tick, Cond.selects RX1 yX1_tick yX1_tick, Cond.code yX1_tick cX1_tick 6 (some .int), Cond.methodLink RX1 112 yX1_deedBy, Cond.instanceMethod yX1_deedBy]
def wsX5_feed_r3 : List Cond := [Cond.selects RX1 yX1_deedBy yX1_deedBy, Cond.code yX1_deedBy cX1_deedBy 3 (some .int), Cond.methodLink RX1 115 yX1_runWith, Cond.instanceMethod yX1_runWith, Cond.selects RX1 yX1_runWith yX1_runWith, Cond.code yX1_runWith cX1_runWith 2 (some .int), Cond.methodLink RX1 103 yX1_setting, Cond.instanceMethod yX1_setting, Cond.selects RX1 yX1_setting yX1_setting, Cond.code yX1_setting cX1_setting 2 (some .int), Cond.methodLink RX1 106 yX1_orderOf, Cond.static yX1_orderOf, Cond.code yX1_orderOf cX1_orderOf 1 (some .int), Cond.methodLink RX1 118 yX1_step, Cond.instanceMethod yX1_step, Cond.selects RX1 yX1_step yX1_step, Cond.code yX1_step cX1_step 3 none, Cond.methodLink RX1 94 yX1_leftOver, Cond.static yX1_leftOver, Cond.code yX1_leftOver cX1_leftOver 2 (some .int), Cond.methodLink RX1 122 yX1_meetIndex, Cond.instanceMethod yX1_meetIndex, Cond.selects RX1 yX1_meetIndex yX1_meetIndex, Cond.code yX1_meetIndex cX1_meetIndex 2 none]
def wsX5_feed_r4 : List Cond := [Cond.methodLink RX5 48 yX2_keepUnlessError, Cond.instanceMethod yX2_keepUnlessError, Cond.selects RX2 yX2_keepUnlessError yX2_keepUnlessError, Cond.code yX2_keepUnlessError cX2_keepUnlessError 2 (some .int), Cond.fieldLink RX2 30 "StepPairs$History" "size" "I", Cond.methodLink RX2 33 Lib.Math.min.name, Cond.static Lib.Math.min.name, Cond.initialized "java/lang/Math", Cond.code Lib.Math.min.name Lib.Math.min.code 2 (some .int)]
def wsX5_feed : List Cond := .code yX5_feed cX5_feed 4 (some .int) :: ((wsX5_feed_r1 ++ (wsX5_feed_r2 ++ (wsX5_feed_r3 ++ wsX5_feed_r4))) ++ wsX50 ++ wsX20 ++ wsX10)
def wsX5_turn_r1 : List Cond := [Cond.fieldLink RX5 22 "StepPairs" "history" "LStepPairs$History;", Cond.fieldLink RX5 10 "StepPairs" "encoder" "LStepPairs$Encoder;", Cond.methodLink RX5 40 yX2_prepare, Cond.instanceMethod yX2_prepare, Cond.selects RX2 yX2_prepare yX2_prepare, Cond.initialized RX2, Cond.code yX2_prepare cX2_prepare 2 none, Cond.methodLink RX2 22 yX2_nextRow, Cond.instanceMethod yX2_nextRow, Cond.selects RX2 yX2_nextRow yX2_nextRow, Cond.code yX2_nextRow cX2_nextRow 1 (some (.object "StepPairs$Encoder")), Cond.fieldLink RX2 18 "StepPairs$History" "next" "I", Cond.fieldLink RX2 13 "StepPairs$History" "rows" "[LStepPairs$Encoder;", Cond.methodLink RX2 26 yX1_copy, Cond.static yX1_copy, Cond.initialized RX1, Cond.code yX1_copy cX1_copy 2 none, Cond.fieldLink RX1 9 "StepPairs$Encoder" "settings" "[I", Cond.methodLink RX1 21 arraycopyName, Cond.native arraycopyName, Cond.static arraycopyName, Cond.initialized "java/lang/System", Cond.fieldLink RX1 15 "StepPairs$Encoder" "log" "[I", Cond.fieldLink RX1 27 "StepPairs$Encoder" "ticks" "I"]
def wsX5_turn_r2 : List Cond := [Cond.fieldLink RX1 31 "StepPairs$Encoder" "count" "I", Cond.fieldLink RX1 34 "StepPairs$Encoder" "place" "I", Cond.fieldLink RX1 37 "StepPairs$Encoder" "seen" "I", Cond.fieldLink RX1 40 "StepPairs$Encoder" "latestPair" "I", Cond.fieldLink RX1 43 "StepPairs$Encoder" "latestIndex" "I", Cond.fieldLink RX1 46 "StepPairs$Encoder" "run" "I", Cond.fieldLink RX1 49 "StepPairs$Encoder" "direction" "I", Cond.fieldLink RX1 52 "StepPairs$Encoder" "forwards" "I", Cond.fieldLink RX1 55 "StepPairs$Encoder" "backwards" "I", Cond.fieldLink RX1 58 "StepPairs$Encoder" "illegal" "I", Cond.fieldLink RX1 61 "StepPairs$Encoder" "slips" "I", Cond.fieldLink RX1 64 "StepPairs$Encoder" "tickOfLatestStep" "I", Cond.fieldLink RX1 67 "StepPairs$Encoder" "period" "I", Cond.methodLink RX5 56 yX1_revolve, Cond.instanceMethod yX1_revolve, Cond.selects RX1 yX1_revolve yX1_revolve, Cond.code yX1_revolve cX1_revolve 8 (some .int), Cond.methodLink RX1 98 Lib.Math.abs.name, Cond.static Lib.Math.abs.name, Cond.initialized "java/lang/Math", Cond.code Lib.Math.abs.name Lib.Math.abs.code 1 (some .int), Cond.constant RX1 97 (99999), Cond.methodLink RX1 103 yX1_setting, Cond.instanceMethod yX1_setting]
def wsX5_turn_r3 : List Cond := [Cond.selects RX1 yX1_setting yX1_setting, Cond.code yX1_setting cX1_setting 2 (some .int), Cond.methodLink RX1 106 yX1_orderOf, Cond.static yX1_orderOf, Cond.code yX1_orderOf cX1_orderOf 1 (some .int), Cond.methodLink RX1 109 yX1_pairAlong, Cond.static yX1_pairAlong, Cond.code yX1_pairAlong cX1_pairAlong 2 (some .int), Cond.methodLink RX1 84 yX1_tick, Cond.instanceMethod yX1_tick, Cond.selects RX1 yX1_tick yX1_tick, Cond.code yX1_tick cX1_tick 6 (some .int), Cond.methodLink RX1 112 yX1_deedBy, Cond.instanceMethod yX1_deedBy, Cond.selects RX1 yX1_deedBy yX1_deedBy, Cond.code yX1_deedBy cX1_deedBy 3 (some .int), Cond.methodLink RX1 115 yX1_runWith, Cond.instanceMethod yX1_runWith, Cond.selects RX1 yX1_runWith yX1_runWith, Cond.code yX1_runWith cX1_runWith 2 (some .int), Cond.methodLink RX1 118 yX1_step, Cond.instanceMethod yX1_step, Cond.selects RX1 yX1_step yX1_step, Cond.code yX1_step cX1_step 3 none]
def wsX5_turn_r4 : List Cond := [Cond.methodLink RX1 94 yX1_leftOver, Cond.static yX1_leftOver, Cond.code yX1_leftOver cX1_leftOver 2 (some .int), Cond.methodLink RX1 122 yX1_meetIndex, Cond.instanceMethod yX1_meetIndex, Cond.selects RX1 yX1_meetIndex yX1_meetIndex, Cond.code yX1_meetIndex cX1_meetIndex 2 none, Cond.methodLink RX5 48 yX2_keepUnlessError, Cond.instanceMethod yX2_keepUnlessError, Cond.selects RX2 yX2_keepUnlessError yX2_keepUnlessError, Cond.code yX2_keepUnlessError cX2_keepUnlessError 2 (some .int), Cond.fieldLink RX2 30 "StepPairs$History" "size" "I", Cond.methodLink RX2 33 Lib.Math.min.name, Cond.static Lib.Math.min.name, Cond.code Lib.Math.min.name Lib.Math.min.code 2 (some .int)]
def wsX5_turn : List Cond := .code yX5_turn cX5_turn 2 (some .int) :: ((wsX5_turn_r1 ++ (wsX5_turn_r2 ++ (wsX5_turn_r3 ++ wsX5_turn_r4))) ++ wsX50 ++ wsX20 ++ wsX10)
def wsX5_zero_r1 : List Cond := [Cond.fieldLink RX5 22 "StepPairs" "history" "LStepPairs$History;", Cond.fieldLink RX5 10 "StepPairs" "encoder" "LStepPairs$Encoder;", Cond.methodLink RX5 40 yX2_prepare, Cond.instanceMethod yX2_prepare, Cond.selects RX2 yX2_prepare yX2_prepare, Cond.initialized RX2, Cond.code yX2_prepare cX2_prepare 2 none, Cond.methodLink RX2 22 yX2_nextRow, Cond.instanceMethod yX2_nextRow, Cond.selects RX2 yX2_nextRow yX2_nextRow, Cond.code yX2_nextRow cX2_nextRow 1 (some (.object "StepPairs$Encoder")), Cond.fieldLink RX2 18 "StepPairs$History" "next" "I", Cond.fieldLink RX2 13 "StepPairs$History" "rows" "[LStepPairs$Encoder;", Cond.methodLink RX2 26 yX1_copy, Cond.static yX1_copy, Cond.initialized RX1, Cond.code yX1_copy cX1_copy 2 none, Cond.fieldLink RX1 9 "StepPairs$Encoder" "settings" "[I", Cond.methodLink RX1 21 arraycopyName, Cond.native arraycopyName, Cond.static arraycopyName, Cond.initialized "java/lang/System", Cond.fieldLink RX1 15 "StepPairs$Encoder" "log" "[I", Cond.fieldLink RX1 27 "StepPairs$Encoder" "ticks" "I"]
def wsX5_zero_r2 : List Cond := [Cond.fieldLink RX1 31 "StepPairs$Encoder" "count" "I", Cond.fieldLink RX1 34 "StepPairs$Encoder" "place" "I", Cond.fieldLink RX1 37 "StepPairs$Encoder" "seen" "I", Cond.fieldLink RX1 40 "StepPairs$Encoder" "latestPair" "I", Cond.fieldLink RX1 43 "StepPairs$Encoder" "latestIndex" "I", Cond.fieldLink RX1 46 "StepPairs$Encoder" "run" "I", Cond.fieldLink RX1 49 "StepPairs$Encoder" "direction" "I", Cond.fieldLink RX1 52 "StepPairs$Encoder" "forwards" "I", Cond.fieldLink RX1 55 "StepPairs$Encoder" "backwards" "I", Cond.fieldLink RX1 58 "StepPairs$Encoder" "illegal" "I", Cond.fieldLink RX1 61 "StepPairs$Encoder" "slips" "I", Cond.fieldLink RX1 64 "StepPairs$Encoder" "tickOfLatestStep" "I", Cond.fieldLink RX1 67 "StepPairs$Encoder" "period" "I", Cond.methodLink RX5 59 yX1_clear, Cond.instanceMethod yX1_clear, Cond.selects RX1 yX1_clear yX1_clear, Cond.code yX1_clear cX1_clear 2 (some .int), Cond.methodLink RX5 48 yX2_keepUnlessError, Cond.instanceMethod yX2_keepUnlessError, Cond.selects RX2 yX2_keepUnlessError yX2_keepUnlessError, Cond.code yX2_keepUnlessError cX2_keepUnlessError 2 (some .int), Cond.fieldLink RX2 30 "StepPairs$History" "size" "I", Cond.methodLink RX2 33 Lib.Math.min.name, Cond.static Lib.Math.min.name]
def wsX5_zero_r3 : List Cond := [Cond.initialized "java/lang/Math", Cond.code Lib.Math.min.name Lib.Math.min.code 2 (some .int)]
def wsX5_zero : List Cond := .code yX5_zero cX5_zero 1 (some .int) :: ((wsX5_zero_r1 ++ (wsX5_zero_r2 ++ wsX5_zero_r3)) ++ wsX50 ++ wsX20 ++ wsX10)
def wsX5_log_r1 : List Cond := [Cond.fieldLink RX5 10 "StepPairs" "encoder" "LStepPairs$Encoder;", Cond.methodLink RX5 63 yX1_hasTick, Cond.instanceMethod yX1_hasTick, Cond.selects RX1 yX1_hasTick yX1_hasTick, Cond.initialized RX1, Cond.code yX1_hasTick cX1_hasTick 2 (some .boolean), Cond.methodLink RX1 73 yX1_logged, Cond.instanceMethod yX1_logged, Cond.selects RX1 yX1_logged yX1_logged, Cond.code yX1_logged cX1_logged 1 (some .int), Cond.fieldLink RX1 27 "StepPairs$Encoder" "ticks" "I", Cond.methodLink RX1 125 Lib.Math.min.name, Cond.static Lib.Math.min.name, Cond.initialized "java/lang/Math", Cond.code Lib.Math.min.name Lib.Math.min.code 2 (some .int), Cond.methodLink RX5 67 yX1_pairAt, Cond.instanceMethod yX1_pairAt, Cond.selects RX1 yX1_pairAt yX1_pairAt, Cond.code yX1_pairAt cX1_pairAt 2 (some .int), Cond.methodLink RX1 135 yX1_entry, Cond.instanceMethod yX1_entry, Cond.selects RX1 yX1_entry yX1_entry, Cond.code yX1_entry cX1_entry 3 (some .int), Cond.fieldLink RX1 15 "StepPairs$Encoder" "log" "[I"]
def wsX5_log_r2 : List Cond := [Cond.methodLink RX1 131 yX1_hasTick, Cond.methodLink RX5 70 yX1_indexAt, Cond.instanceMethod yX1_indexAt, Cond.selects RX1 yX1_indexAt yX1_indexAt, Cond.code yX1_indexAt cX1_indexAt 2 (some .int), Cond.methodLink RX5 73 yX1_deedAt, Cond.instanceMethod yX1_deedAt, Cond.selects RX1 yX1_deedAt yX1_deedAt, Cond.code yX1_deedAt cX1_deedAt 2 (some .int)]
def wsX5_log : List Cond := .code yX5_log cX5_log 3 (some .int) :: ((wsX5_log_r1 ++ wsX5_log_r2) ++ wsX50 ++ wsX10)
def wsX5_count_r1 : List Cond := [Cond.fieldLink RX5 10 "StepPairs" "encoder" "LStepPairs$Encoder;", Cond.fieldLink RX5 76 "StepPairs$Encoder" "ticks" "I", Cond.fieldLink RX5 80 "StepPairs$Encoder" "count" "I", Cond.fieldLink RX5 83 "StepPairs$Encoder" "place" "I", Cond.fieldLink RX5 86 "StepPairs$Encoder" "seen" "I", Cond.fieldLink RX5 89 "StepPairs$Encoder" "direction" "I", Cond.fieldLink RX5 92 "StepPairs$Encoder" "forwards" "I", Cond.fieldLink RX5 95 "StepPairs$Encoder" "backwards" "I", Cond.fieldLink RX5 98 "StepPairs$Encoder" "illegal" "I", Cond.fieldLink RX5 101 "StepPairs$Encoder" "slips" "I", Cond.fieldLink RX5 36 "StepPairs" "pad" "LStepPairs$Pad;", Cond.fieldLink RX5 107 "StepPairs$Pad" "length" "I", Cond.fieldLink RX5 22 "StepPairs" "history" "LStepPairs$History;", Cond.fieldLink RX5 110 "StepPairs$History" "size" "I", Cond.methodLink RX5 104 yX1_logged, Cond.instanceMethod yX1_logged, Cond.selects RX1 yX1_logged yX1_logged, Cond.initialized RX1, Cond.code yX1_logged cX1_logged 1 (some .int), Cond.fieldLink RX1 27 "StepPairs$Encoder" "ticks" "I", Cond.methodLink RX1 125 Lib.Math.min.name, Cond.static Lib.Math.min.name, Cond.initialized "java/lang/Math", Cond.code Lib.Math.min.name Lib.Math.min.code 2 (some .int)]
def wsX5_count_r2 : List Cond := [Cond.methodLink RX5 113 yX1_setting, Cond.instanceMethod yX1_setting, Cond.selects RX1 yX1_setting yX1_setting, Cond.code yX1_setting cX1_setting 2 (some .int), Cond.fieldLink RX1 9 "StepPairs$Encoder" "settings" "[I"]
def wsX5_count : List Cond := .code yX5_count cX5_count 2 (some .int) :: ((wsX5_count_r1 ++ wsX5_count_r2) ++ wsX50 ++ wsX10 ++ wsX30 ++ wsX20)
def wsX5_speed_r1 : List Cond := [Cond.fieldLink RX5 10 "StepPairs" "encoder" "LStepPairs$Encoder;", Cond.fieldLink RX5 119 "StepPairs$Encoder" "period" "I", Cond.methodLink RX5 116 yX1_stepsOfGate, Cond.instanceMethod yX1_stepsOfGate, Cond.selects RX1 yX1_stepsOfGate yX1_stepsOfGate, Cond.initialized RX1, Cond.code yX1_stepsOfGate cX1_stepsOfGate 5 (some .int), Cond.methodLink RX1 125 Lib.Math.min.name, Cond.static Lib.Math.min.name, Cond.initialized "java/lang/Math", Cond.code Lib.Math.min.name Lib.Math.min.code 2 (some .int), Cond.methodLink RX1 103 yX1_setting, Cond.instanceMethod yX1_setting, Cond.selects RX1 yX1_setting yX1_setting, Cond.code yX1_setting cX1_setting 2 (some .int), Cond.fieldLink RX1 9 "StepPairs$Encoder" "settings" "[I", Cond.methodLink RX1 73 yX1_logged, Cond.instanceMethod yX1_logged, Cond.selects RX1 yX1_logged yX1_logged, Cond.code yX1_logged cX1_logged 1 (some .int), Cond.fieldLink RX1 27 "StepPairs$Encoder" "ticks" "I", Cond.methodLink RX1 128 yX1_deedAt, Cond.instanceMethod yX1_deedAt, Cond.selects RX1 yX1_deedAt yX1_deedAt]
def wsX5_speed_r2 : List Cond := [Cond.code yX1_deedAt cX1_deedAt 2 (some .int), Cond.methodLink RX1 135 yX1_entry, Cond.instanceMethod yX1_entry, Cond.selects RX1 yX1_entry yX1_entry, Cond.code yX1_entry cX1_entry 3 (some .int), Cond.fieldLink RX1 15 "StepPairs$Encoder" "log" "[I", Cond.methodLink RX1 131 yX1_hasTick, Cond.instanceMethod yX1_hasTick, Cond.selects RX1 yX1_hasTick yX1_hasTick, Cond.code yX1_hasTick cX1_hasTick 2 (some .boolean)]
def wsX5_speed : List Cond := .code yX5_speed cX5_speed 2 (some .int) :: ((wsX5_speed_r1 ++ wsX5_speed_r2) ++ wsX50 ++ wsX10)
def wsX5_rate : List Cond := .code yX5_rate cX5_rate 4 (some .long) :: ([.fieldLink RX5 10 "StepPairs" "encoder" "LStepPairs$Encoder;", .fieldLink RX5 119 "StepPairs$Encoder" "period" "I", .fieldLink RX5 89 "StepPairs$Encoder" "direction" "I", .constantDouble RX5 122 (13830554455654793216), .methodLink RX5 113 yX1_setting, .instanceMethod yX1_setting, .selects RX1 yX1_setting yX1_setting, .initialized RX1, .code yX1_setting cX1_setting 2 (some .int), .fieldLink RX1 9 "StepPairs$Encoder" "settings" "[I", .methodLink RX5 124 yX0_ofDouble, .static yX0_ofDouble, .initialized RX0, .code yX0_ofDouble cX0_ofDouble 10 (some .long), .constantLong RX0 7 (1023), .constantDouble RX0 11 (4611686018427387904), .constantDouble RX0 13 (4841369599423283200)] ++ wsX50 ++ wsX10)
def wsX5_noise : List Cond := .code yX5_noise cX5_noise 2 (some .int) :: ([.fieldLink RX5 10 "StepPairs" "encoder" "LStepPairs$Encoder;", .fieldLink RX5 92 "StepPairs$Encoder" "forwards" "I", .fieldLink RX5 95 "StepPairs$Encoder" "backwards" "I", .fieldLink RX5 98 "StepPairs$Encoder" "illegal" "I", .methodLink RX5 130 yX0_ofFloat, .static yX0_ofFloat, .initialized RX0, .code yX0_ofFloat cX0_ofFloat 4 (some .int), .constantFloat RX0 15 (1258291200)] ++ wsX50 ++ wsX10)
def wsX5_replay_r1 : List Cond := [Cond.fieldLink RX5 134 "StepPairs" "LEAST_SETTING" "[I", Cond.fieldLink RX5 138 "StepPairs" "MOST_SETTING" "[I", Cond.fieldLink RX5 16 "StepPairs" "trial" "LStepPairs$Encoder;", Cond.fieldLink RX5 10 "StepPairs" "encoder" "LStepPairs$Encoder;", Cond.fieldLink RX5 92 "StepPairs$Encoder" "forwards" "I", Cond.fieldLink RX5 95 "StepPairs$Encoder" "backwards" "I", Cond.fieldLink RX5 98 "StepPairs$Encoder" "illegal" "I", Cond.fieldLink RX5 80 "StepPairs$Encoder" "count" "I", Cond.methodLink RX5 141 yX1_follow, Cond.instanceMethod yX1_follow, Cond.selects RX1 yX1_follow yX1_follow, Cond.initialized RX1, Cond.code yX1_follow cX1_follow 4 none, Cond.fieldLink RX1 9 "StepPairs$Encoder" "settings" "[I", Cond.methodLink RX1 21 arraycopyName, Cond.native arraycopyName, Cond.static arraycopyName, Cond.initialized "java/lang/System", Cond.methodLink RX1 70 yX1_restart, Cond.instanceMethod yX1_restart, Cond.selects RX1 yX1_restart yX1_restart, Cond.code yX1_restart cX1_restart 1 none, Cond.fieldLink RX1 27 "StepPairs$Encoder" "ticks" "I", Cond.fieldLink RX1 31 "StepPairs$Encoder" "count" "I"]
def wsX5_replay_r2 : List Cond := [Cond.fieldLink RX1 34 "StepPairs$Encoder" "place" "I", Cond.fieldLink RX1 37 "StepPairs$Encoder" "seen" "I", Cond.fieldLink RX1 40 "StepPairs$Encoder" "latestPair" "I", Cond.fieldLink RX1 43 "StepPairs$Encoder" "latestIndex" "I", Cond.fieldLink RX1 46 "StepPairs$Encoder" "run" "I", Cond.fieldLink RX1 49 "StepPairs$Encoder" "direction" "I", Cond.fieldLink RX1 52 "StepPairs$Encoder" "forwards" "I", Cond.fieldLink RX1 55 "StepPairs$Encoder" "backwards" "I", Cond.fieldLink RX1 58 "StepPairs$Encoder" "illegal" "I", Cond.fieldLink RX1 61 "StepPairs$Encoder" "slips" "I", Cond.fieldLink RX1 64 "StepPairs$Encoder" "tickOfLatestStep" "I", Cond.fieldLink RX1 67 "StepPairs$Encoder" "period" "I", Cond.methodLink RX1 73 yX1_logged, Cond.instanceMethod yX1_logged, Cond.selects RX1 yX1_logged yX1_logged, Cond.code yX1_logged cX1_logged 1 (some .int), Cond.methodLink RX1 125 Lib.Math.min.name, Cond.static Lib.Math.min.name, Cond.initialized "java/lang/Math", Cond.code Lib.Math.min.name Lib.Math.min.code 2 (some .int), Cond.methodLink RX1 77 yX1_pairAt, Cond.instanceMethod yX1_pairAt, Cond.selects RX1 yX1_pairAt yX1_pairAt, Cond.code yX1_pairAt cX1_pairAt 2 (some .int)]
def wsX5_replay_r3 : List Cond := [Cond.methodLink RX1 135 yX1_entry, Cond.instanceMethod yX1_entry, Cond.selects RX1 yX1_entry yX1_entry, Cond.code yX1_entry cX1_entry 3 (some .int), Cond.fieldLink RX1 15 "StepPairs$Encoder" "log" "[I", Cond.methodLink RX1 131 yX1_hasTick, Cond.instanceMethod yX1_hasTick, Cond.selects RX1 yX1_hasTick yX1_hasTick, Cond.code yX1_hasTick cX1_hasTick 2 (some .boolean), Cond.methodLink RX1 81 yX1_indexAt, Cond.instanceMethod yX1_indexAt, Cond.selects RX1 yX1_indexAt yX1_indexAt, Cond.code yX1_indexAt cX1_indexAt 2 (some .int), Cond.methodLink RX1 84 yX1_tick, Cond.instanceMethod yX1_tick, Cond.selects RX1 yX1_tick yX1_tick, Cond.code yX1_tick cX1_tick 6 (some .int), Cond.methodLink RX1 112 yX1_deedBy, Cond.instanceMethod yX1_deedBy, Cond.selects RX1 yX1_deedBy yX1_deedBy, Cond.code yX1_deedBy cX1_deedBy 3 (some .int), Cond.methodLink RX1 115 yX1_runWith, Cond.instanceMethod yX1_runWith, Cond.selects RX1 yX1_runWith yX1_runWith]
def wsX5_replay_r4 : List Cond := [Cond.code yX1_runWith cX1_runWith 2 (some .int), Cond.methodLink RX1 103 yX1_setting, Cond.instanceMethod yX1_setting, Cond.selects RX1 yX1_setting yX1_setting, Cond.code yX1_setting cX1_setting 2 (some .int), Cond.methodLink RX1 106 yX1_orderOf, Cond.static yX1_orderOf, Cond.code yX1_orderOf cX1_orderOf 1 (some .int), Cond.methodLink RX1 118 yX1_step, Cond.instanceMethod yX1_step, Cond.selects RX1 yX1_step yX1_step, Cond.code yX1_step cX1_step 3 none, Cond.methodLink RX1 94 yX1_leftOver, Cond.static yX1_leftOver, Cond.code yX1_leftOver cX1_leftOver 2 (some .int), Cond.methodLink RX1 122 yX1_meetIndex, Cond.instanceMethod yX1_meetIndex, Cond.selects RX1 yX1_meetIndex yX1_meetIndex, Cond.code yX1_meetIndex cX1_meetIndex 2 none]
def wsX5_replay : List Cond := .code yX5_replay cX5_replay 3 (some .int) :: ((wsX5_replay_r1 ++ (wsX5_replay_r2 ++ (wsX5_replay_r3 ++ wsX5_replay_r4))) ++ wsX50 ++ wsX10)
def wsX5_bestFilter_r1 : List Cond := [Cond.fieldLink RX5 134 "StepPairs" "LEAST_SETTING" "[I", Cond.fieldLink RX5 138 "StepPairs" "MOST_SETTING" "[I", Cond.fieldLink RX5 16 "StepPairs" "trial" "LStepPairs$Encoder;", Cond.fieldLink RX5 10 "StepPairs" "encoder" "LStepPairs$Encoder;", Cond.fieldLink RX5 98 "StepPairs$Encoder" "illegal" "I", Cond.methodLink RX5 141 yX1_follow, Cond.instanceMethod yX1_follow, Cond.selects RX1 yX1_follow yX1_follow, Cond.initialized RX1, Cond.code yX1_follow cX1_follow 4 none, Cond.fieldLink RX1 9 "StepPairs$Encoder" "settings" "[I", Cond.methodLink RX1 21 arraycopyName, Cond.native arraycopyName, Cond.static arraycopyName, Cond.initialized "java/lang/System", Cond.methodLink RX1 70 yX1_restart, Cond.instanceMethod yX1_restart, Cond.selects RX1 yX1_restart yX1_restart, Cond.code yX1_restart cX1_restart 1 none, Cond.fieldLink RX1 27 "StepPairs$Encoder" "ticks" "I", Cond.fieldLink RX1 31 "StepPairs$Encoder" "count" "I", Cond.fieldLink RX1 34 "StepPairs$Encoder" "place" "I", Cond.fieldLink RX1 37 "StepPairs$Encoder" "seen" "I", Cond.fieldLink RX1 40 "StepPairs$Encoder" "latestPair" "I"]
def wsX5_bestFilter_r2 : List Cond := [Cond.fieldLink RX1 43 "StepPairs$Encoder" "latestIndex" "I", Cond.fieldLink RX1 46 "StepPairs$Encoder" "run" "I", Cond.fieldLink RX1 49 "StepPairs$Encoder" "direction" "I", Cond.fieldLink RX1 52 "StepPairs$Encoder" "forwards" "I", Cond.fieldLink RX1 55 "StepPairs$Encoder" "backwards" "I", Cond.fieldLink RX1 58 "StepPairs$Encoder" "illegal" "I", Cond.fieldLink RX1 61 "StepPairs$Encoder" "slips" "I", Cond.fieldLink RX1 64 "StepPairs$Encoder" "tickOfLatestStep" "I", Cond.fieldLink RX1 67 "StepPairs$Encoder" "period" "I", Cond.methodLink RX1 73 yX1_logged, Cond.instanceMethod yX1_logged, Cond.selects RX1 yX1_logged yX1_logged, Cond.code yX1_logged cX1_logged 1 (some .int), Cond.methodLink RX1 125 Lib.Math.min.name, Cond.static Lib.Math.min.name, Cond.initialized "java/lang/Math", Cond.code Lib.Math.min.name Lib.Math.min.code 2 (some .int), Cond.methodLink RX1 77 yX1_pairAt, Cond.instanceMethod yX1_pairAt, Cond.selects RX1 yX1_pairAt yX1_pairAt, Cond.code yX1_pairAt cX1_pairAt 2 (some .int), Cond.methodLink RX1 135 yX1_entry, Cond.instanceMethod yX1_entry, Cond.selects RX1 yX1_entry yX1_entry]
def wsX5_bestFilter_r3 : List Cond := [Cond.code yX1_entry cX1_entry 3 (some .int), Cond.fieldLink RX1 15 "StepPairs$Encoder" "log" "[I", Cond.methodLink RX1 131 yX1_hasTick, Cond.instanceMethod yX1_hasTick, Cond.selects RX1 yX1_hasTick yX1_hasTick, Cond.code yX1_hasTick cX1_hasTick 2 (some .boolean), Cond.methodLink RX1 81 yX1_indexAt, Cond.instanceMethod yX1_indexAt, Cond.selects RX1 yX1_indexAt yX1_indexAt, Cond.code yX1_indexAt cX1_indexAt 2 (some .int), Cond.methodLink RX1 84 yX1_tick, Cond.instanceMethod yX1_tick, Cond.selects RX1 yX1_tick yX1_tick, Cond.code yX1_tick cX1_tick 6 (some .int), Cond.methodLink RX1 112 yX1_deedBy, Cond.instanceMethod yX1_deedBy, Cond.selects RX1 yX1_deedBy yX1_deedBy, Cond.code yX1_deedBy cX1_deedBy 3 (some .int), Cond.methodLink RX1 115 yX1_runWith, Cond.instanceMethod yX1_runWith, Cond.selects RX1 yX1_runWith yX1_runWith, Cond.code yX1_runWith cX1_runWith 2 (some .int), Cond.methodLink RX1 103 yX1_setting, Cond.instanceMethod yX1_setting]
def wsX5_bestFilter_r4 : List Cond := [Cond.selects RX1 yX1_setting yX1_setting, Cond.code yX1_setting cX1_setting 2 (some .int), Cond.methodLink RX1 106 yX1_orderOf, Cond.static yX1_orderOf, Cond.code yX1_orderOf cX1_orderOf 1 (some .int), Cond.methodLink RX1 118 yX1_step, Cond.instanceMethod yX1_step, Cond.selects RX1 yX1_step yX1_step, Cond.code yX1_step cX1_step 3 none, Cond.methodLink RX1 94 yX1_leftOver, Cond.static yX1_leftOver, Cond.code yX1_leftOver cX1_leftOver 2 (some .int), Cond.methodLink RX1 122 yX1_meetIndex, Cond.instanceMethod yX1_meetIndex, Cond.selects RX1 yX1_meetIndex yX1_meetIndex, Cond.code yX1_meetIndex cX1_meetIndex 2 none]
def wsX5_bestFilter : List Cond := .code yX5_bestFilter cX5_bestFilter 5 (some .int) :: ((wsX5_bestFilter_r1 ++ (wsX5_bestFilter_r2 ++ (wsX5_bestFilter_r3 ++ wsX5_bestFilter_r4))) ++ wsX50 ++ wsX10)
def wsX5_would : List Cond := .code yX5_would cX5_would 2 (some .int) :: ([.fieldLink RX5 10 "StepPairs" "encoder" "LStepPairs$Encoder;", .methodLink RX5 145 yX1_deedBy, .instanceMethod yX1_deedBy, .selects RX1 yX1_deedBy yX1_deedBy, .initialized RX1, .code yX1_deedBy cX1_deedBy 3 (some .int), .fieldLink RX1 37 "StepPairs$Encoder" "seen" "I", .methodLink RX1 115 yX1_runWith, .instanceMethod yX1_runWith, .selects RX1 yX1_runWith yX1_runWith, .code yX1_runWith cX1_runWith 2 (some .int), .fieldLink RX1 40 "StepPairs$Encoder" "latestPair" "I", .fieldLink RX1 46 "StepPairs$Encoder" "run" "I", .methodLink RX1 103 yX1_setting, .instanceMethod yX1_setting, .selects RX1 yX1_setting yX1_setting, .code yX1_setting cX1_setting 2 (some .int), .fieldLink RX1 9 "StepPairs$Encoder" "settings" "[I", .methodLink RX1 106 yX1_orderOf, .static yX1_orderOf, .code yX1_orderOf cX1_orderOf 1 (some .int)] ++ wsX50 ++ wsX10)
def wsX5_deeds_r1 : List Cond := [Cond.fieldLink RX5 10 "StepPairs" "encoder" "LStepPairs$Encoder;", Cond.methodLink RX5 104 yX1_logged, Cond.instanceMethod yX1_logged, Cond.selects RX1 yX1_logged yX1_logged, Cond.initialized RX1, Cond.code yX1_logged cX1_logged 1 (some .int), Cond.fieldLink RX1 27 "StepPairs$Encoder" "ticks" "I", Cond.methodLink RX1 125 Lib.Math.min.name, Cond.static Lib.Math.min.name, Cond.initialized "java/lang/Math", Cond.code Lib.Math.min.name Lib.Math.min.code 2 (some .int), Cond.methodLink RX5 73 yX1_deedAt, Cond.instanceMethod yX1_deedAt, Cond.selects RX1 yX1_deedAt yX1_deedAt, Cond.code yX1_deedAt cX1_deedAt 2 (some .int), Cond.methodLink RX1 135 yX1_entry, Cond.instanceMethod yX1_entry, Cond.selects RX1 yX1_entry yX1_entry, Cond.code yX1_entry cX1_entry 3 (some .int), Cond.fieldLink RX1 15 "StepPairs$Encoder" "log" "[I", Cond.methodLink RX1 131 yX1_hasTick, Cond.instanceMethod yX1_hasTick, Cond.selects RX1 yX1_hasTick yX1_hasTick, Cond.code yX1_hasTick cX1_hasTick 2 (some .boolean)]
def wsX5_deeds_r2 : List Cond := [Cond.methodLink RX1 73 yX1_logged]
def wsX5_deeds : List Cond := .code yX5_deeds cX5_deeds 4 (some .int) :: ((wsX5_deeds_r1 ++ wsX5_deeds_r2) ++ wsX50 ++ wsX10)
def wsX5_put : List Cond := .code yX5_put cX5_put 3 (some .int) :: ([.fieldLink RX5 36 "StepPairs" "pad" "LStepPairs$Pad;", .methodLink RX5 148 yX3_append, .instanceMethod yX3_append, .selects RX3 yX3_append yX3_append, .initialized RX3, .code yX3_append cX3_append 8 (some .int), .constantLong RX3 15 (255), .constantLong RX3 17 (33), .constantLong RX3 19 (126), .fieldLink RX3 21 "StepPairs$Pad" "length" "I", .fieldLink RX3 9 "StepPairs$Pad" "characters" "[C"] ++ wsX50 ++ wsX30)
def wsX5_wipe : List Cond := .code yX5_wipe cX5_wipe 1 (some .int) :: ([.fieldLink RX5 36 "StepPairs" "pad" "LStepPairs$Pad;", .methodLink RX5 152 yX3_empty, .instanceMethod yX3_empty, .selects RX3 yX3_empty yX3_empty, .initialized RX3, .code yX3_empty cX3_empty 2 (some .int), .fieldLink RX3 21 "StepPairs$Pad" "length" "I"] ++ wsX50 ++ wsX30)
def wsX5_fault_r1 : List Cond := [Cond.fieldLink RX5 36 "StepPairs" "pad" "LStepPairs$Pad;", Cond.methodLink RX5 155 yX3_firstFault, Cond.instanceMethod yX3_firstFault, Cond.selects RX3 yX3_firstFault yX3_firstFault, Cond.initialized RX3, Cond.code yX3_firstFault cX3_firstFault 2 (some .int), Cond.fieldLink RX3 32 "StepPairs$Pad" "position" "I", Cond.fieldLink RX3 21 "StepPairs$Pad" "length" "I", Cond.methodLink RX3 25 yX3_begin, Cond.instanceMethod yX3_begin, Cond.selects RX3 yX3_begin yX3_begin, Cond.code yX3_begin cX3_begin 1 none, Cond.methodLink RX3 28 yX3_readOrder, Cond.instanceMethod yX3_readOrder, Cond.selects RX3 yX3_readOrder yX3_readOrder, Cond.code yX3_readOrder cX3_readOrder 1 (some .boolean), Cond.methodLink RX3 35 yX3_skip, Cond.instanceMethod yX3_skip, Cond.selects RX3 yX3_skip yX3_skip, Cond.code yX3_skip cX3_skip 2 (some .boolean), Cond.methodLink RX3 39 yX3_here, Cond.instanceMethod yX3_here, Cond.selects RX3 yX3_here yX3_here, Cond.code yX3_here cX3_here 1 (some .char)]
def wsX5_fault_r2 : List Cond := [Cond.fieldLink RX3 9 "StepPairs$Pad" "characters" "[C", Cond.methodLink RX3 43 yX3_readDigit, Cond.instanceMethod yX3_readDigit, Cond.selects RX3 yX3_readDigit yX3_readDigit, Cond.code yX3_readDigit cX3_readDigit 1 (some .boolean), Cond.fieldLink RX3 61 "StepPairs$Pad" "number" "I", Cond.methodLink RX3 46 yX3_readNumber, Cond.instanceMethod yX3_readNumber, Cond.selects RX3 yX3_readNumber yX3_readNumber, Cond.code yX3_readNumber cX3_readNumber 2 (some .boolean), Cond.methodLink RX3 49 yX3_readRuns, Cond.instanceMethod yX3_readRuns, Cond.selects RX3 yX3_readRuns yX3_readRuns, Cond.code yX3_readRuns cX3_readRuns 2 (some .boolean), Cond.methodLink RX3 52 yX3_readRun, Cond.instanceMethod yX3_readRun, Cond.selects RX3 yX3_readRun yX3_readRun, Cond.code yX3_readRun cX3_readRun 1 (some .boolean), Cond.fieldLink RX3 55 "StepPairs$Pad" "pair" "I", Cond.fieldLink RX3 58 "StepPairs$Pad" "index" "I"]
def wsX5_fault : List Cond := .code yX5_fault cX5_fault 1 (some .int) :: ((wsX5_fault_r1 ++ wsX5_fault_r2) ++ wsX50 ++ wsX30)
def wsX5_carryRuns_r1 : List Cond := [Cond.fieldLink RX5 36 "StepPairs" "pad" "LStepPairs$Pad;", Cond.fieldLink RX5 10 "StepPairs" "encoder" "LStepPairs$Encoder;", Cond.fieldLink RX5 184 "StepPairs$Pad" "pair" "I", Cond.fieldLink RX5 187 "StepPairs$Pad" "index" "I", Cond.fieldLink RX5 172 "StepPairs$Pad" "number" "I", Cond.methodLink RX5 181 yX3_readRun, Cond.instanceMethod yX3_readRun, Cond.selects RX3 yX3_readRun yX3_readRun, Cond.initialized RX3, Cond.code yX3_readRun cX3_readRun 1 (some .boolean), Cond.fieldLink RX3 55 "StepPairs$Pad" "pair" "I", Cond.fieldLink RX3 32 "StepPairs$Pad" "position" "I", Cond.fieldLink RX3 58 "StepPairs$Pad" "index" "I", Cond.fieldLink RX3 61 "StepPairs$Pad" "number" "I", Cond.methodLink RX3 39 yX3_here, Cond.instanceMethod yX3_here, Cond.selects RX3 yX3_here yX3_here, Cond.code yX3_here cX3_here 1 (some .char), Cond.fieldLink RX3 21 "StepPairs$Pad" "length" "I", Cond.fieldLink RX3 9 "StepPairs$Pad" "characters" "[C", Cond.methodLink RX3 35 yX3_skip, Cond.instanceMethod yX3_skip, Cond.selects RX3 yX3_skip yX3_skip, Cond.code yX3_skip cX3_skip 2 (some .boolean)]
def wsX5_carryRuns_r2 : List Cond := [Cond.methodLink RX3 46 yX3_readNumber, Cond.instanceMethod yX3_readNumber, Cond.selects RX3 yX3_readNumber yX3_readNumber, Cond.code yX3_readNumber cX3_readNumber 2 (some .boolean), Cond.methodLink RX5 52 yX1_pass, Cond.instanceMethod yX1_pass, Cond.selects RX1 yX1_pass yX1_pass, Cond.initialized RX1, Cond.code yX1_pass cX1_pass 7 (some .int), Cond.constant RX1 97 (99999), Cond.fieldLink RX1 27 "StepPairs$Encoder" "ticks" "I", Cond.methodLink RX1 84 yX1_tick, Cond.instanceMethod yX1_tick, Cond.selects RX1 yX1_tick yX1_tick, Cond.code yX1_tick cX1_tick 6 (some .int), Cond.fieldLink RX1 43 "StepPairs$Encoder" "latestIndex" "I", Cond.fieldLink RX1 46 "StepPairs$Encoder" "run" "I", Cond.fieldLink RX1 40 "StepPairs$Encoder" "latestPair" "I", Cond.fieldLink RX1 37 "StepPairs$Encoder" "seen" "I", Cond.fieldLink RX1 58 "StepPairs$Encoder" "illegal" "I", Cond.fieldLink RX1 15 "StepPairs$Encoder" "log" "[I", Cond.methodLink RX1 112 yX1_deedBy, Cond.instanceMethod yX1_deedBy, Cond.selects RX1 yX1_deedBy yX1_deedBy]
def wsX5_carryRuns_r3 : List Cond := [Cond.code yX1_deedBy cX1_deedBy 3 (some .int), Cond.methodLink RX1 115 yX1_runWith, Cond.instanceMethod yX1_runWith, Cond.selects RX1 yX1_runWith yX1_runWith, Cond.code yX1_runWith cX1_runWith 2 (some .int), Cond.methodLink RX1 103 yX1_setting, Cond.instanceMethod yX1_setting, Cond.selects RX1 yX1_setting yX1_setting, Cond.code yX1_setting cX1_setting 2 (some .int), Cond.fieldLink RX1 9 "StepPairs$Encoder" "settings" "[I", Cond.methodLink RX1 106 yX1_orderOf, Cond.static yX1_orderOf, Cond.code yX1_orderOf cX1_orderOf 1 (some .int), Cond.methodLink RX1 118 yX1_step, Cond.instanceMethod yX1_step, Cond.selects RX1 yX1_step yX1_step, Cond.code yX1_step cX1_step 3 none, Cond.fieldLink RX1 52 "StepPairs$Encoder" "forwards" "I", Cond.fieldLink RX1 55 "StepPairs$Encoder" "backwards" "I", Cond.fieldLink RX1 31 "StepPairs$Encoder" "count" "I", Cond.fieldLink RX1 34 "StepPairs$Encoder" "place" "I", Cond.fieldLink RX1 49 "StepPairs$Encoder" "direction" "I", Cond.fieldLink RX1 64 "StepPairs$Encoder" "tickOfLatestStep" "I", Cond.fieldLink RX1 67 "StepPairs$Encoder" "period" "I"]
def wsX5_carryRuns_r4 : List Cond := [Cond.methodLink RX1 94 yX1_leftOver, Cond.static yX1_leftOver, Cond.code yX1_leftOver cX1_leftOver 2 (some .int), Cond.methodLink RX1 122 yX1_meetIndex, Cond.instanceMethod yX1_meetIndex, Cond.selects RX1 yX1_meetIndex yX1_meetIndex, Cond.code yX1_meetIndex cX1_meetIndex 2 none, Cond.fieldLink RX1 61 "StepPairs$Encoder" "slips" "I", Cond.methodLink RX5 164 yX3_skip]
def wsX5_carryRuns : List Cond := .code yX5_carryRuns cX5_carryRuns 3 (some .int) :: ((wsX5_carryRuns_r1 ++ (wsX5_carryRuns_r2 ++ (wsX5_carryRuns_r3 ++ wsX5_carryRuns_r4))) ++ wsX50 ++ wsX30 ++ wsX10)
def wsX5_carryOrder_r1 : List Cond := [Cond.fieldLink RX5 36 "StepPairs" "pad" "LStepPairs$Pad;", Cond.fieldLink RX5 10 "StepPairs" "encoder" "LStepPairs$Encoder;", Cond.fieldLink RX5 172 "StepPairs$Pad" "number" "I", Cond.methodLink RX5 164 yX3_skip, Cond.instanceMethod yX3_skip, Cond.selects RX3 yX3_skip yX3_skip, Cond.initialized RX3, Cond.code yX3_skip cX3_skip 2 (some .boolean), Cond.fieldLink RX3 32 "StepPairs$Pad" "position" "I", Cond.methodLink RX3 39 yX3_here, Cond.instanceMethod yX3_here, Cond.selects RX3 yX3_here yX3_here, Cond.code yX3_here cX3_here 1 (some .char), Cond.fieldLink RX3 21 "StepPairs$Pad" "length" "I", Cond.fieldLink RX3 9 "StepPairs$Pad" "characters" "[C", Cond.methodLink RX5 59 yX1_clear, Cond.instanceMethod yX1_clear, Cond.selects RX1 yX1_clear yX1_clear, Cond.initialized RX1, Cond.code yX1_clear cX1_clear 2 (some .int), Cond.fieldLink RX1 31 "StepPairs$Encoder" "count" "I", Cond.fieldLink RX1 34 "StepPairs$Encoder" "place" "I", Cond.methodLink RX5 168 yX3_readDigit, Cond.instanceMethod yX3_readDigit]
def wsX5_carryOrder_r2 : List Cond := [Cond.selects RX3 yX3_readDigit yX3_readDigit, Cond.code yX3_readDigit cX3_readDigit 1 (some .boolean), Cond.fieldLink RX3 61 "StepPairs$Pad" "number" "I", Cond.methodLink RX5 44 yX1_adjust, Cond.instanceMethod yX1_adjust, Cond.selects RX1 yX1_adjust yX1_adjust, Cond.code yX1_adjust cX1_adjust 4 (some .int), Cond.fieldLink RX1 9 "StepPairs$Encoder" "settings" "[I", Cond.methodLink RX1 94 yX1_leftOver, Cond.static yX1_leftOver, Cond.code yX1_leftOver cX1_leftOver 2 (some .int), Cond.methodLink RX5 175 yX3_readNumber, Cond.instanceMethod yX3_readNumber, Cond.selects RX3 yX3_readNumber yX3_readNumber, Cond.code yX3_readNumber cX3_readNumber 2 (some .boolean), Cond.methodLink RX3 35 yX3_skip, Cond.methodLink RX5 56 yX1_revolve, Cond.instanceMethod yX1_revolve, Cond.selects RX1 yX1_revolve yX1_revolve, Cond.code yX1_revolve cX1_revolve 8 (some .int), Cond.methodLink RX1 98 Lib.Math.abs.name, Cond.static Lib.Math.abs.name, Cond.initialized "java/lang/Math", Cond.code Lib.Math.abs.name Lib.Math.abs.code 1 (some .int)]
def wsX5_carryOrder_r3 : List Cond := [Cond.constant RX1 97 (99999), Cond.fieldLink RX1 27 "StepPairs$Encoder" "ticks" "I", Cond.fieldLink RX1 37 "StepPairs$Encoder" "seen" "I", Cond.methodLink RX1 103 yX1_setting, Cond.instanceMethod yX1_setting, Cond.selects RX1 yX1_setting yX1_setting, Cond.code yX1_setting cX1_setting 2 (some .int), Cond.methodLink RX1 106 yX1_orderOf, Cond.static yX1_orderOf, Cond.code yX1_orderOf cX1_orderOf 1 (some .int), Cond.methodLink RX1 109 yX1_pairAlong, Cond.static yX1_pairAlong, Cond.code yX1_pairAlong cX1_pairAlong 2 (some .int), Cond.methodLink RX1 84 yX1_tick, Cond.instanceMethod yX1_tick, Cond.selects RX1 yX1_tick yX1_tick, Cond.code yX1_tick cX1_tick 6 (some .int), Cond.fieldLink RX1 43 "StepPairs$Encoder" "latestIndex" "I", Cond.fieldLink RX1 46 "StepPairs$Encoder" "run" "I", Cond.fieldLink RX1 40 "StepPairs$Encoder" "latestPair" "I", Cond.fieldLink RX1 58 "StepPairs$Encoder" "illegal" "I", Cond.fieldLink RX1 15 "StepPairs$Encoder" "log" "[I", Cond.methodLink RX1 112 yX1_deedBy, Cond.instanceMethod yX1_deedBy]
def wsX5_carryOrder_r4 : List Cond := [Cond.selects RX1 yX1_deedBy yX1_deedBy, Cond.code yX1_deedBy cX1_deedBy 3 (some .int), Cond.methodLink RX1 115 yX1_runWith, Cond.instanceMethod yX1_runWith, Cond.selects RX1 yX1_runWith yX1_runWith, Cond.code yX1_runWith cX1_runWith 2 (some .int), Cond.methodLink RX1 118 yX1_step, Cond.instanceMethod yX1_step, Cond.selects RX1 yX1_step yX1_step, Cond.code yX1_step cX1_step 3 none, Cond.fieldLink RX1 52 "StepPairs$Encoder" "forwards" "I", Cond.fieldLink RX1 55 "StepPairs$Encoder" "backwards" "I", Cond.fieldLink RX1 49 "StepPairs$Encoder" "direction" "I", Cond.fieldLink RX1 64 "StepPairs$Encoder" "tickOfLatestStep" "I", Cond.fieldLink RX1 67 "StepPairs$Encoder" "period" "I", Cond.methodLink RX1 122 yX1_meetIndex, Cond.instanceMethod yX1_meetIndex, Cond.selects RX1 yX1_meetIndex yX1_meetIndex, Cond.code yX1_meetIndex cX1_meetIndex 2 none, Cond.fieldLink RX1 61 "StepPairs$Encoder" "slips" "I", Cond.methodLink RX5 178 yX5_carryRuns, Cond.instanceMethod yX5_carryRuns, Cond.selects RX5 yX5_carryRuns yX5_carryRuns, Cond.initialized RX5]
def wsX5_carryOrder_r5 : List Cond := [Cond.code yX5_carryRuns cX5_carryRuns 3 (some .int), Cond.fieldLink RX5 184 "StepPairs$Pad" "pair" "I", Cond.fieldLink RX5 187 "StepPairs$Pad" "index" "I", Cond.methodLink RX5 181 yX3_readRun, Cond.instanceMethod yX3_readRun, Cond.selects RX3 yX3_readRun yX3_readRun, Cond.code yX3_readRun cX3_readRun 1 (some .boolean), Cond.fieldLink RX3 55 "StepPairs$Pad" "pair" "I", Cond.fieldLink RX3 58 "StepPairs$Pad" "index" "I", Cond.methodLink RX3 46 yX3_readNumber, Cond.methodLink RX5 52 yX1_pass, Cond.instanceMethod yX1_pass, Cond.selects RX1 yX1_pass yX1_pass, Cond.code yX1_pass cX1_pass 7 (some .int)]
def wsX5_carryOrder : List Cond := .code yX5_carryOrder cX5_carryOrder 1 (some .int) :: ((wsX5_carryOrder_r1 ++ (wsX5_carryOrder_r2 ++ (wsX5_carryOrder_r3 ++ (wsX5_carryOrder_r4 ++ wsX5_carryOrder_r5)))) ++ wsX50 ++ wsX30 ++ wsX10)
def wsX5_carryOut_r1 : List Cond := [Cond.fieldLink RX5 36 "StepPairs" "pad" "LStepPairs$Pad;", Cond.fieldLink RX5 22 "StepPairs" "history" "LStepPairs$History;", Cond.fieldLink RX5 10 "StepPairs" "encoder" "LStepPairs$Encoder;", Cond.methodLink RX5 155 yX3_firstFault, Cond.instanceMethod yX3_firstFault, Cond.selects RX3 yX3_firstFault yX3_firstFault, Cond.initialized RX3, Cond.code yX3_firstFault cX3_firstFault 2 (some .int), Cond.fieldLink RX3 32 "StepPairs$Pad" "position" "I", Cond.fieldLink RX3 21 "StepPairs$Pad" "length" "I", Cond.methodLink RX3 25 yX3_begin, Cond.instanceMethod yX3_begin, Cond.selects RX3 yX3_begin yX3_begin, Cond.code yX3_begin cX3_begin 1 none, Cond.methodLink RX3 28 yX3_readOrder, Cond.instanceMethod yX3_readOrder, Cond.selects RX3 yX3_readOrder yX3_readOrder, Cond.code yX3_readOrder cX3_readOrder 1 (some .boolean), Cond.methodLink RX3 35 yX3_skip, Cond.instanceMethod yX3_skip, Cond.selects RX3 yX3_skip yX3_skip, Cond.code yX3_skip cX3_skip 2 (some .boolean), Cond.methodLink RX3 39 yX3_here, Cond.instanceMethod yX3_here]
def wsX5_carryOut_r2 : List Cond := [Cond.selects RX3 yX3_here yX3_here, Cond.code yX3_here cX3_here 1 (some .char), Cond.fieldLink RX3 9 "StepPairs$Pad" "characters" "[C", Cond.methodLink RX3 43 yX3_readDigit, Cond.instanceMethod yX3_readDigit, Cond.selects RX3 yX3_readDigit yX3_readDigit, Cond.code yX3_readDigit cX3_readDigit 1 (some .boolean), Cond.fieldLink RX3 61 "StepPairs$Pad" "number" "I", Cond.methodLink RX3 46 yX3_readNumber, Cond.instanceMethod yX3_readNumber, Cond.selects RX3 yX3_readNumber yX3_readNumber, Cond.code yX3_readNumber cX3_readNumber 2 (some .boolean), Cond.methodLink RX3 49 yX3_readRuns, Cond.instanceMethod yX3_readRuns, Cond.selects RX3 yX3_readRuns yX3_readRuns, Cond.code yX3_readRuns cX3_readRuns 2 (some .boolean), Cond.methodLink RX3 52 yX3_readRun, Cond.instanceMethod yX3_readRun, Cond.selects RX3 yX3_readRun yX3_readRun, Cond.code yX3_readRun cX3_readRun 1 (some .boolean), Cond.fieldLink RX3 55 "StepPairs$Pad" "pair" "I", Cond.fieldLink RX3 58 "StepPairs$Pad" "index" "I", Cond.methodLink RX5 40 yX2_prepare, Cond.instanceMethod yX2_prepare]
def wsX5_carryOut_r3 : List Cond := [Cond.selects RX2 yX2_prepare yX2_prepare, Cond.initialized RX2, Cond.code yX2_prepare cX2_prepare 2 none, Cond.methodLink RX2 22 yX2_nextRow, Cond.instanceMethod yX2_nextRow, Cond.selects RX2 yX2_nextRow yX2_nextRow, Cond.code yX2_nextRow cX2_nextRow 1 (some (.object "StepPairs$Encoder")), Cond.fieldLink RX2 18 "StepPairs$History" "next" "I", Cond.fieldLink RX2 13 "StepPairs$History" "rows" "[LStepPairs$Encoder;", Cond.methodLink RX2 26 yX1_copy, Cond.static yX1_copy, Cond.initialized RX1, Cond.code yX1_copy cX1_copy 2 none, Cond.fieldLink RX1 9 "StepPairs$Encoder" "settings" "[I", Cond.methodLink RX1 21 arraycopyName, Cond.native arraycopyName, Cond.static arraycopyName, Cond.initialized "java/lang/System", Cond.fieldLink RX1 15 "StepPairs$Encoder" "log" "[I", Cond.fieldLink RX1 27 "StepPairs$Encoder" "ticks" "I", Cond.fieldLink RX1 31 "StepPairs$Encoder" "count" "I", Cond.fieldLink RX1 34 "StepPairs$Encoder" "place" "I", Cond.fieldLink RX1 37 "StepPairs$Encoder" "seen" "I", Cond.fieldLink RX1 40 "StepPairs$Encoder" "latestPair" "I"]
def wsX5_carryOut_r4 : List Cond := [Cond.fieldLink RX1 43 "StepPairs$Encoder" "latestIndex" "I", Cond.fieldLink RX1 46 "StepPairs$Encoder" "run" "I", Cond.fieldLink RX1 49 "StepPairs$Encoder" "direction" "I", Cond.fieldLink RX1 52 "StepPairs$Encoder" "forwards" "I", Cond.fieldLink RX1 55 "StepPairs$Encoder" "backwards" "I", Cond.fieldLink RX1 58 "StepPairs$Encoder" "illegal" "I", Cond.fieldLink RX1 61 "StepPairs$Encoder" "slips" "I", Cond.fieldLink RX1 64 "StepPairs$Encoder" "tickOfLatestStep" "I", Cond.fieldLink RX1 67 "StepPairs$Encoder" "period" "I", Cond.methodLink RX5 158 yX3_begin, Cond.methodLink RX5 161 yX5_carryOrder, Cond.instanceMethod yX5_carryOrder, Cond.selects RX5 yX5_carryOrder yX5_carryOrder, Cond.initialized RX5, Cond.code yX5_carryOrder cX5_carryOrder 1 (some .int), Cond.fieldLink RX5 172 "StepPairs$Pad" "number" "I", Cond.methodLink RX5 164 yX3_skip, Cond.methodLink RX5 59 yX1_clear, Cond.instanceMethod yX1_clear, Cond.selects RX1 yX1_clear yX1_clear, Cond.code yX1_clear cX1_clear 2 (some .int), Cond.methodLink RX5 168 yX3_readDigit, Cond.methodLink RX5 44 yX1_adjust, Cond.instanceMethod yX1_adjust]
def wsX5_carryOut_r5 : List Cond := [Cond.selects RX1 yX1_adjust yX1_adjust, Cond.code yX1_adjust cX1_adjust 4 (some .int), Cond.methodLink RX1 94 yX1_leftOver, Cond.static yX1_leftOver, Cond.code yX1_leftOver cX1_leftOver 2 (some .int), Cond.methodLink RX5 175 yX3_readNumber, Cond.methodLink RX5 56 yX1_revolve, Cond.instanceMethod yX1_revolve, Cond.selects RX1 yX1_revolve yX1_revolve, Cond.code yX1_revolve cX1_revolve 8 (some .int), Cond.methodLink RX1 98 Lib.Math.abs.name, Cond.static Lib.Math.abs.name, Cond.initialized "java/lang/Math", Cond.code Lib.Math.abs.name Lib.Math.abs.code 1 (some .int), Cond.constant RX1 97 (99999), Cond.methodLink RX1 103 yX1_setting, Cond.instanceMethod yX1_setting, Cond.selects RX1 yX1_setting yX1_setting, Cond.code yX1_setting cX1_setting 2 (some .int), Cond.methodLink RX1 106 yX1_orderOf, Cond.static yX1_orderOf, Cond.code yX1_orderOf cX1_orderOf 1 (some .int), Cond.methodLink RX1 109 yX1_pairAlong, Cond.static yX1_pairAlong]
def wsX5_carryOut_r6 : List Cond := [Cond.code yX1_pairAlong cX1_pairAlong 2 (some .int), Cond.methodLink RX1 84 yX1_tick, Cond.instanceMethod yX1_tick, Cond.selects RX1 yX1_tick yX1_tick, Cond.code yX1_tick cX1_tick 6 (some .int), Cond.methodLink RX1 112 yX1_deedBy, Cond.instanceMethod yX1_deedBy, Cond.selects RX1 yX1_deedBy yX1_deedBy, Cond.code yX1_deedBy cX1_deedBy 3 (some .int), Cond.methodLink RX1 115 yX1_runWith, Cond.instanceMethod yX1_runWith, Cond.selects RX1 yX1_runWith yX1_runWith, Cond.code yX1_runWith cX1_runWith 2 (some .int), Cond.methodLink RX1 118 yX1_step, Cond.instanceMethod yX1_step, Cond.selects RX1 yX1_step yX1_step, Cond.code yX1_step cX1_step 3 none, Cond.methodLink RX1 122 yX1_meetIndex, Cond.instanceMethod yX1_meetIndex, Cond.selects RX1 yX1_meetIndex yX1_meetIndex, Cond.code yX1_meetIndex cX1_meetIndex 2 none, Cond.methodLink RX5 178 yX5_carryRuns, Cond.instanceMethod yX5_carryRuns, Cond.selects RX5 yX5_carryRuns yX5_carryRuns]
def wsX5_carryOut_r7 : List Cond := [Cond.code yX5_carryRuns cX5_carryRuns 3 (some .int), Cond.fieldLink RX5 184 "StepPairs$Pad" "pair" "I", Cond.fieldLink RX5 187 "StepPairs$Pad" "index" "I", Cond.methodLink RX5 181 yX3_readRun, Cond.methodLink RX5 52 yX1_pass, Cond.instanceMethod yX1_pass, Cond.selects RX1 yX1_pass yX1_pass, Cond.code yX1_pass cX1_pass 7 (some .int), Cond.methodLink RX5 152 yX3_empty, Cond.instanceMethod yX3_empty, Cond.selects RX3 yX3_empty yX3_empty, Cond.code yX3_empty cX3_empty 2 (some .int), Cond.methodLink RX5 48 yX2_keepUnlessError, Cond.instanceMethod yX2_keepUnlessError, Cond.selects RX2 yX2_keepUnlessError yX2_keepUnlessError, Cond.code yX2_keepUnlessError cX2_keepUnlessError 2 (some .int), Cond.fieldLink RX2 30 "StepPairs$History" "size" "I", Cond.methodLink RX2 33 Lib.Math.min.name, Cond.static Lib.Math.min.name, Cond.code Lib.Math.min.name Lib.Math.min.code 2 (some .int)]
def wsX5_carryOut : List Cond := .code yX5_carryOut cX5_carryOut 2 (some .int) :: ((wsX5_carryOut_r1 ++ (wsX5_carryOut_r2 ++ (wsX5_carryOut_r3 ++ (wsX5_carryOut_r4 ++ (wsX5_carryOut_r5 ++ (wsX5_carryOut_r6 ++ wsX5_carryOut_r7)))))) ++ wsX50 ++ wsX30 ++ wsX20 ++ wsX10)
def wsX5_undo_r1 : List Cond := [Cond.fieldLink RX5 22 "StepPairs" "history" "LStepPairs$History;", Cond.fieldLink RX5 10 "StepPairs" "encoder" "LStepPairs$Encoder;", Cond.methodLink RX5 190 yX2_takeBack, Cond.instanceMethod yX2_takeBack, Cond.selects RX2 yX2_takeBack yX2_takeBack, Cond.initialized RX2, Cond.code yX2_takeBack cX2_takeBack 2 (some .int), Cond.fieldLink RX2 30 "StepPairs$History" "size" "I", Cond.fieldLink RX2 18 "StepPairs$History" "next" "I", Cond.methodLink RX2 22 yX2_nextRow, Cond.instanceMethod yX2_nextRow, Cond.selects RX2 yX2_nextRow yX2_nextRow, Cond.code yX2_nextRow cX2_nextRow 1 (some (.object "StepPairs$Encoder")), Cond.fieldLink RX2 13 "StepPairs$History" "rows" "[LStepPairs$Encoder;", Cond.methodLink RX2 26 yX1_copy, Cond.static yX1_copy, Cond.initialized RX1, Cond.code yX1_copy cX1_copy 2 none, Cond.fieldLink RX1 9 "StepPairs$Encoder" "settings" "[I", Cond.methodLink RX1 21 arraycopyName, Cond.native arraycopyName, Cond.static arraycopyName, Cond.initialized "java/lang/System", Cond.fieldLink RX1 15 "StepPairs$Encoder" "log" "[I"]
def wsX5_undo_r2 : List Cond := [Cond.fieldLink RX1 27 "StepPairs$Encoder" "ticks" "I", Cond.fieldLink RX1 31 "StepPairs$Encoder" "count" "I", Cond.fieldLink RX1 34 "StepPairs$Encoder" "place" "I", Cond.fieldLink RX1 37 "StepPairs$Encoder" "seen" "I", Cond.fieldLink RX1 40 "StepPairs$Encoder" "latestPair" "I", Cond.fieldLink RX1 43 "StepPairs$Encoder" "latestIndex" "I", Cond.fieldLink RX1 46 "StepPairs$Encoder" "run" "I", Cond.fieldLink RX1 49 "StepPairs$Encoder" "direction" "I", Cond.fieldLink RX1 52 "StepPairs$Encoder" "forwards" "I", Cond.fieldLink RX1 55 "StepPairs$Encoder" "backwards" "I", Cond.fieldLink RX1 58 "StepPairs$Encoder" "illegal" "I", Cond.fieldLink RX1 61 "StepPairs$Encoder" "slips" "I", Cond.fieldLink RX1 64 "StepPairs$Encoder" "tickOfLatestStep" "I", Cond.fieldLink RX1 67 "StepPairs$Encoder" "period" "I"]
def wsX5_undo : List Cond := .code yX5_undo cX5_undo 1 (some .int) :: ((wsX5_undo_r1 ++ wsX5_undo_r2) ++ wsX50 ++ wsX20 ++ wsX10)
def wsX5_save_r1 : List Cond := [Cond.fieldLink RX5 29 "StepPairs" "slots" "LStepPairs$Slots;", Cond.fieldLink RX5 10 "StepPairs" "encoder" "LStepPairs$Encoder;", Cond.methodLink RX5 194 yX4_store, Cond.instanceMethod yX4_store, Cond.selects RX4 yX4_store yX4_store, Cond.initialized RX4, Cond.code yX4_store cX4_store 3 (some .int), Cond.fieldLink RX4 11 "StepPairs$Slots" "rows" "[LStepPairs$Encoder;", Cond.fieldLink RX4 17 "StepPairs$Slots" "used" "[Z", Cond.fieldLink RX4 26 "StepPairs$Encoder" "count" "I", Cond.methodLink RX4 22 yX1_copy, Cond.static yX1_copy, Cond.initialized RX1, Cond.code yX1_copy cX1_copy 2 none, Cond.fieldLink RX1 9 "StepPairs$Encoder" "settings" "[I", Cond.methodLink RX1 21 arraycopyName, Cond.native arraycopyName, Cond.static arraycopyName, Cond.initialized "java/lang/System", Cond.fieldLink RX1 15 "StepPairs$Encoder" "log" "[I", Cond.fieldLink RX1 27 "StepPairs$Encoder" "ticks" "I", Cond.fieldLink RX1 31 "StepPairs$Encoder" "count" "I", Cond.fieldLink RX1 34 "StepPairs$Encoder" "place" "I", Cond.fieldLink RX1 37 "StepPairs$Encoder" "seen" "I"]
def wsX5_save_r2 : List Cond := [Cond.fieldLink RX1 40 "StepPairs$Encoder" "latestPair" "I", Cond.fieldLink RX1 43 "StepPairs$Encoder" "latestIndex" "I", Cond.fieldLink RX1 46 "StepPairs$Encoder" "run" "I", Cond.fieldLink RX1 49 "StepPairs$Encoder" "direction" "I", Cond.fieldLink RX1 52 "StepPairs$Encoder" "forwards" "I", Cond.fieldLink RX1 55 "StepPairs$Encoder" "backwards" "I", Cond.fieldLink RX1 58 "StepPairs$Encoder" "illegal" "I", Cond.fieldLink RX1 61 "StepPairs$Encoder" "slips" "I", Cond.fieldLink RX1 64 "StepPairs$Encoder" "tickOfLatestStep" "I", Cond.fieldLink RX1 67 "StepPairs$Encoder" "period" "I"]
def wsX5_save : List Cond := .code yX5_save cX5_save 2 (some .int) :: ((wsX5_save_r1 ++ wsX5_save_r2) ++ wsX50 ++ wsX40 ++ wsX10)
def wsX5_restore_r1 : List Cond := [Cond.fieldLink RX5 22 "StepPairs" "history" "LStepPairs$History;", Cond.fieldLink RX5 10 "StepPairs" "encoder" "LStepPairs$Encoder;", Cond.fieldLink RX5 29 "StepPairs" "slots" "LStepPairs$Slots;", Cond.methodLink RX5 40 yX2_prepare, Cond.instanceMethod yX2_prepare, Cond.selects RX2 yX2_prepare yX2_prepare, Cond.initialized RX2, Cond.code yX2_prepare cX2_prepare 2 none, Cond.methodLink RX2 22 yX2_nextRow, Cond.instanceMethod yX2_nextRow, Cond.selects RX2 yX2_nextRow yX2_nextRow, Cond.code yX2_nextRow cX2_nextRow 1 (some (.object "StepPairs$Encoder")), Cond.fieldLink RX2 18 "StepPairs$History" "next" "I", Cond.fieldLink RX2 13 "StepPairs$History" "rows" "[LStepPairs$Encoder;", Cond.methodLink RX2 26 yX1_copy, Cond.static yX1_copy, Cond.initialized RX1, Cond.code yX1_copy cX1_copy 2 none, Cond.fieldLink RX1 9 "StepPairs$Encoder" "settings" "[I", Cond.methodLink RX1 21 arraycopyName, Cond.native arraycopyName, Cond.static arraycopyName, Cond.initialized "java/lang/System", Cond.fieldLink RX1 15 "StepPairs$Encoder" "log" "[I"]
def wsX5_restore_r2 : List Cond := [Cond.fieldLink RX1 27 "StepPairs$Encoder" "ticks" "I", Cond.fieldLink RX1 31 "StepPairs$Encoder" "count" "I", Cond.fieldLink RX1 34 "StepPairs$Encoder" "place" "I", Cond.fieldLink RX1 37 "StepPairs$Encoder" "seen" "I", Cond.fieldLink RX1 40 "StepPairs$Encoder" "latestPair" "I", Cond.fieldLink RX1 43 "StepPairs$Encoder" "latestIndex" "I", Cond.fieldLink RX1 46 "StepPairs$Encoder" "run" "I", Cond.fieldLink RX1 49 "StepPairs$Encoder" "direction" "I", Cond.fieldLink RX1 52 "StepPairs$Encoder" "forwards" "I", Cond.fieldLink RX1 55 "StepPairs$Encoder" "backwards" "I", Cond.fieldLink RX1 58 "StepPairs$Encoder" "illegal" "I", Cond.fieldLink RX1 61 "StepPairs$Encoder" "slips" "I", Cond.fieldLink RX1 64 "StepPairs$Encoder" "tickOfLatestStep" "I", Cond.fieldLink RX1 67 "StepPairs$Encoder" "period" "I", Cond.methodLink RX5 198 yX4_fetch, Cond.instanceMethod yX4_fetch, Cond.selects RX4 yX4_fetch yX4_fetch, Cond.initialized RX4, Cond.code yX4_fetch cX4_fetch 3 (some .int), Cond.fieldLink RX4 17 "StepPairs$Slots" "used" "[Z", Cond.fieldLink RX4 11 "StepPairs$Slots" "rows" "[LStepPairs$Encoder;", Cond.fieldLink RX4 26 "StepPairs$Encoder" "count" "I", Cond.methodLink RX4 22 yX1_copy, Cond.methodLink RX5 48 yX2_keepUnlessError]
def wsX5_restore_r3 : List Cond := [Cond.instanceMethod yX2_keepUnlessError, Cond.selects RX2 yX2_keepUnlessError yX2_keepUnlessError, Cond.code yX2_keepUnlessError cX2_keepUnlessError 2 (some .int), Cond.fieldLink RX2 30 "StepPairs$History" "size" "I", Cond.methodLink RX2 33 Lib.Math.min.name, Cond.static Lib.Math.min.name, Cond.initialized "java/lang/Math", Cond.code Lib.Math.min.name Lib.Math.min.code 2 (some .int)]
def wsX5_restore : List Cond := .code yX5_restore cX5_restore 2 (some .int) :: ((wsX5_restore_r1 ++ (wsX5_restore_r2 ++ wsX5_restore_r3)) ++ wsX50 ++ wsX20 ++ wsX10 ++ wsX40)
def wsX6_beginsAnew : List Cond := .code yX6_beginsAnew cX6_beginsAnew 2 none :: ([.fieldLink RX6 7 "StepPairsModel" "all" "[I"] ++ wsX60)
def wsX6_init : List Cond := .code yX6_init cX6_init 1 none :: ([.methodLink RX6 1 objectInit, .instanceMethod objectInit, .code objectInit ⟨#[0xb1]⟩ 1 none, .arrayClass .int, .fieldLink RX6 7 "StepPairsModel" "all" "[I", .fieldLink RX6 13 "StepPairsModel" "kept" "[I", .fieldLink RX6 16 "StepPairsModel" "tried" "[I", .fieldLink RX6 19 "StepPairsModel" "history" "[I", .fieldLink RX6 22 "StepPairsModel" "slots" "[I", .fieldLink RX6 25 "StepPairsModel" "isSaved" "[I", .fieldLink RX6 28 "StepPairsModel" "pad" "[I", .methodLink RX6 31 yX6_beginsAnew, .instanceMethod yX6_beginsAnew, .selects RX6 yX6_beginsAnew yX6_beginsAnew, .initialized RX6, .code yX6_beginsAnew cX6_beginsAnew 2 none] ++ wsX60)
def wsX6_in : List Cond := .code yX6_in cX6_in 6 (some .boolean) :: ([])
def wsX6_copy : List Cond := .code yX6_copy cX6_copy 3 none :: ([])
def wsX6_changed : List Cond := .code yX6_changed cX6_changed 3 (some .int) :: ([.fieldLink RX6 34 "StepPairsModel" "historyLong" "I", .fieldLink RX6 19 "StepPairsModel" "history" "[I", .fieldLink RX6 13 "StepPairsModel" "kept" "[I"] ++ wsX60)
def wsX6_orderOf : List Cond := .code yX6_orderOf cX6_orderOf 1 (some .int) :: ([])
def wsX6_pairAt : List Cond := .code yX6_pairAt cX6_pairAt 1 (some .int) :: ([])
def wsX6_deedOf : List Cond := .code yX6_deedOf cX6_deedOf 4 (some .int) :: ([.fieldLink RX6 7 "StepPairsModel" "all" "[I", .methodLink RX6 38 yX6_orderOf, .static yX6_orderOf, .initialized RX6, .code yX6_orderOf cX6_orderOf 1 (some .int)] ++ wsX60)
def wsX6_steps : List Cond := .code yX6_steps cX6_steps 3 none :: ([.fieldLink RX6 7 "StepPairsModel" "all" "[I"] ++ wsX60)
def wsX6_rises : List Cond := .code yX6_rises cX6_rises 1 none :: ([.fieldLink RX6 7 "StepPairsModel" "all" "[I"] ++ wsX60)
def wsX6_ticks : List Cond := .code yX6_ticks cX6_ticks 5 (some .boolean) :: ([.fieldLink RX6 7 "StepPairsModel" "all" "[I", .methodLink RX6 42 yX6_deedOf, .instanceMethod yX6_deedOf, .selects RX6 yX6_deedOf yX6_deedOf, .initialized RX6, .code yX6_deedOf cX6_deedOf 4 (some .int), .methodLink RX6 38 yX6_orderOf, .static yX6_orderOf, .code yX6_orderOf cX6_orderOf 1 (some .int), .methodLink RX6 45 yX6_steps, .instanceMethod yX6_steps, .selects RX6 yX6_steps yX6_steps, .code yX6_steps cX6_steps 3 none, .methodLink RX6 49 yX6_rises, .instanceMethod yX6_rises, .selects RX6 yX6_rises yX6_rises, .code yX6_rises cX6_rises 1 none] ++ wsX60)
def wsX6_isSetting : List Cond := .code yX6_isSetting cX6_isSetting 2 (some .boolean) :: ([.constantLong RX6 52 (4), .constantLong RX6 54 (400), .constantLong RX6 60 (10), .constantLong RX6 62 (9999), .constantLong RX6 64 (9), .constantLong RX6 66 (99), .constantLong RX6 68 (2), .methodLink RX6 56 yX6_in, .static yX6_in, .initialized RX6, .code yX6_in cX6_in 6 (some .boolean)])
def wsX6_doSet : List Cond := .code yX6_doSet cX6_doSet 4 (some .int) :: ([.fieldLink RX6 7 "StepPairsModel" "all" "[I", .methodLink RX6 70 yX6_isSetting, .static yX6_isSetting, .initialized RX6, .code yX6_isSetting cX6_isSetting 2 (some .boolean), .constantLong RX6 52 (4), .constantLong RX6 54 (400), .constantLong RX6 60 (10), .constantLong RX6 62 (9999), .constantLong RX6 64 (9), .constantLong RX6 66 (99), .constantLong RX6 68 (2), .methodLink RX6 56 yX6_in, .static yX6_in, .code yX6_in cX6_in 6 (some .boolean)] ++ wsX60)
def wsX6_doFeed_r1 : List Cond := [Cond.constantLong RX6 74 (3), Cond.constantLong RX6 66 (99), Cond.fieldLink RX6 7 "StepPairsModel" "all" "[I", Cond.constant RX6 76 (99999), Cond.methodLink RX6 56 yX6_in, Cond.static yX6_in, Cond.initialized RX6, Cond.code yX6_in cX6_in 6 (some .boolean), Cond.methodLink RX6 77 yX6_ticks, Cond.instanceMethod yX6_ticks, Cond.selects RX6 yX6_ticks yX6_ticks, Cond.code yX6_ticks cX6_ticks 5 (some .boolean), Cond.methodLink RX6 42 yX6_deedOf, Cond.instanceMethod yX6_deedOf, Cond.selects RX6 yX6_deedOf yX6_deedOf, Cond.code yX6_deedOf cX6_deedOf 4 (some .int), Cond.methodLink RX6 38 yX6_orderOf, Cond.static yX6_orderOf, Cond.code yX6_orderOf cX6_orderOf 1 (some .int), Cond.methodLink RX6 45 yX6_steps, Cond.instanceMethod yX6_steps, Cond.selects RX6 yX6_steps yX6_steps, Cond.code yX6_steps cX6_steps 3 none, Cond.methodLink RX6 49 yX6_rises]
def wsX6_doFeed_r2 : List Cond := [Cond.instanceMethod yX6_rises, Cond.selects RX6 yX6_rises yX6_rises, Cond.code yX6_rises cX6_rises 1 none]
def wsX6_doFeed : List Cond := .code yX6_doFeed cX6_doFeed 6 (some .int) :: ((wsX6_doFeed_r1 ++ wsX6_doFeed_r2) ++ wsX60)
def wsX6_doTurn_r1 : List Cond := [Cond.constantLong RX6 80 (-99), Cond.constantLong RX6 66 (99), Cond.fieldLink RX6 7 "StepPairsModel" "all" "[I", Cond.constant RX6 76 (99999), Cond.methodLink RX6 56 yX6_in, Cond.static yX6_in, Cond.initialized RX6, Cond.code yX6_in cX6_in 6 (some .boolean), Cond.methodLink RX6 38 yX6_orderOf, Cond.static yX6_orderOf, Cond.code yX6_orderOf cX6_orderOf 1 (some .int), Cond.methodLink RX6 82 yX6_pairAt, Cond.static yX6_pairAt, Cond.code yX6_pairAt cX6_pairAt 1 (some .int), Cond.methodLink RX6 77 yX6_ticks, Cond.instanceMethod yX6_ticks, Cond.selects RX6 yX6_ticks yX6_ticks, Cond.code yX6_ticks cX6_ticks 5 (some .boolean), Cond.methodLink RX6 42 yX6_deedOf, Cond.instanceMethod yX6_deedOf, Cond.selects RX6 yX6_deedOf yX6_deedOf, Cond.code yX6_deedOf cX6_deedOf 4 (some .int), Cond.methodLink RX6 45 yX6_steps, Cond.instanceMethod yX6_steps]
def wsX6_doTurn_r2 : List Cond := [Cond.selects RX6 yX6_steps yX6_steps, Cond.code yX6_steps cX6_steps 3 none, Cond.methodLink RX6 49 yX6_rises, Cond.instanceMethod yX6_rises, Cond.selects RX6 yX6_rises yX6_rises, Cond.code yX6_rises cX6_rises 1 none]
def wsX6_doTurn : List Cond := .code yX6_doTurn cX6_doTurn 7 (some .int) :: ((wsX6_doTurn_r1 ++ wsX6_doTurn_r2) ++ wsX60)
def wsX6_doZero : List Cond := .code yX6_doZero cX6_doZero 2 (some .int) :: ([.fieldLink RX6 7 "StepPairsModel" "all" "[I"] ++ wsX60)
def wsX6_set_r1 : List Cond := [Cond.fieldLink RX6 7 "StepPairsModel" "all" "[I", Cond.fieldLink RX6 13 "StepPairsModel" "kept" "[I", Cond.methodLink RX6 85 yX6_copy, Cond.static yX6_copy, Cond.initialized RX6, Cond.code yX6_copy cX6_copy 3 none, Cond.methodLink RX6 89 yX6_doSet, Cond.instanceMethod yX6_doSet, Cond.selects RX6 yX6_doSet yX6_doSet, Cond.code yX6_doSet cX6_doSet 4 (some .int), Cond.methodLink RX6 70 yX6_isSetting, Cond.static yX6_isSetting, Cond.code yX6_isSetting cX6_isSetting 2 (some .boolean), Cond.constantLong RX6 52 (4), Cond.constantLong RX6 54 (400), Cond.constantLong RX6 60 (10), Cond.constantLong RX6 62 (9999), Cond.constantLong RX6 64 (9), Cond.constantLong RX6 66 (99), Cond.constantLong RX6 68 (2), Cond.methodLink RX6 56 yX6_in, Cond.static yX6_in, Cond.code yX6_in cX6_in 6 (some .boolean), Cond.methodLink RX6 93 yX6_changed]
def wsX6_set_r2 : List Cond := [Cond.instanceMethod yX6_changed, Cond.selects RX6 yX6_changed yX6_changed, Cond.code yX6_changed cX6_changed 3 (some .int), Cond.fieldLink RX6 34 "StepPairsModel" "historyLong" "I", Cond.fieldLink RX6 19 "StepPairsModel" "history" "[I"]
def wsX6_set : List Cond := .code yX6_set cX6_set 4 (some .int) :: ((wsX6_set_r1 ++ wsX6_set_r2) ++ wsX60)
def wsX6_feed_r1 : List Cond := [Cond.fieldLink RX6 7 "StepPairsModel" "all" "[I", Cond.fieldLink RX6 13 "StepPairsModel" "kept" "[I", Cond.methodLink RX6 85 yX6_copy, Cond.static yX6_copy, Cond.initialized RX6, Cond.code yX6_copy cX6_copy 3 none, Cond.methodLink RX6 96 yX6_doFeed, Cond.instanceMethod yX6_doFeed, Cond.selects RX6 yX6_doFeed yX6_doFeed, Cond.code yX6_doFeed cX6_doFeed 6 (some .int), Cond.constantLong RX6 74 (3), Cond.constantLong RX6 66 (99), Cond.constant RX6 76 (99999), Cond.methodLink RX6 56 yX6_in, Cond.static yX6_in, Cond.code yX6_in cX6_in 6 (some .boolean), Cond.methodLink RX6 77 yX6_ticks, Cond.instanceMethod yX6_ticks, Cond.selects RX6 yX6_ticks yX6_ticks, Cond.code yX6_ticks cX6_ticks 5 (some .boolean), Cond.methodLink RX6 42 yX6_deedOf, Cond.instanceMethod yX6_deedOf, Cond.selects RX6 yX6_deedOf yX6_deedOf, Cond.code yX6_deedOf cX6_deedOf 4 (some .int)]
def wsX6_feed_r2 : List Cond := [Cond.methodLink RX6 38 yX6_orderOf, Cond.static yX6_orderOf, Cond.code yX6_orderOf cX6_orderOf 1 (some .int), Cond.methodLink RX6 45 yX6_steps, Cond.instanceMethod yX6_steps, Cond.selects RX6 yX6_steps yX6_steps, Cond.code yX6_steps cX6_steps 3 none, Cond.methodLink RX6 49 yX6_rises, Cond.instanceMethod yX6_rises, Cond.selects RX6 yX6_rises yX6_rises, Cond.code yX6_rises cX6_rises 1 none, Cond.methodLink RX6 93 yX6_changed, Cond.instanceMethod yX6_changed, Cond.selects RX6 yX6_changed yX6_changed, Cond.code yX6_changed cX6_changed 3 (some .int), Cond.fieldLink RX6 34 "StepPairsModel" "historyLong" "I", Cond.fieldLink RX6 19 "StepPairsModel" "history" "[I"]
def wsX6_feed : List Cond := .code yX6_feed cX6_feed 5 (some .int) :: ((wsX6_feed_r1 ++ wsX6_feed_r2) ++ wsX60)
def wsX6_turn_r1 : List Cond := [Cond.fieldLink RX6 7 "StepPairsModel" "all" "[I", Cond.fieldLink RX6 13 "StepPairsModel" "kept" "[I", Cond.methodLink RX6 85 yX6_copy, Cond.static yX6_copy, Cond.initialized RX6, Cond.code yX6_copy cX6_copy 3 none, Cond.methodLink RX6 100 yX6_doTurn, Cond.instanceMethod yX6_doTurn, Cond.selects RX6 yX6_doTurn yX6_doTurn, Cond.code yX6_doTurn cX6_doTurn 7 (some .int), Cond.constantLong RX6 80 (-99), Cond.constantLong RX6 66 (99), Cond.constant RX6 76 (99999), Cond.methodLink RX6 56 yX6_in, Cond.static yX6_in, Cond.code yX6_in cX6_in 6 (some .boolean), Cond.methodLink RX6 38 yX6_orderOf, Cond.static yX6_orderOf, Cond.code yX6_orderOf cX6_orderOf 1 (some .int), Cond.methodLink RX6 82 yX6_pairAt, Cond.static yX6_pairAt, Cond.code yX6_pairAt cX6_pairAt 1 (some .int), Cond.methodLink RX6 77 yX6_ticks, Cond.instanceMethod yX6_ticks]
def wsX6_turn_r2 : List Cond := [Cond.selects RX6 yX6_ticks yX6_ticks, Cond.code yX6_ticks cX6_ticks 5 (some .boolean), Cond.methodLink RX6 42 yX6_deedOf, Cond.instanceMethod yX6_deedOf, Cond.selects RX6 yX6_deedOf yX6_deedOf, Cond.code yX6_deedOf cX6_deedOf 4 (some .int), Cond.methodLink RX6 45 yX6_steps, Cond.instanceMethod yX6_steps, Cond.selects RX6 yX6_steps yX6_steps, Cond.code yX6_steps cX6_steps 3 none, Cond.methodLink RX6 49 yX6_rises, Cond.instanceMethod yX6_rises, Cond.selects RX6 yX6_rises yX6_rises, Cond.code yX6_rises cX6_rises 1 none, Cond.methodLink RX6 93 yX6_changed, Cond.instanceMethod yX6_changed, Cond.selects RX6 yX6_changed yX6_changed, Cond.code yX6_changed cX6_changed 3 (some .int), Cond.fieldLink RX6 34 "StepPairsModel" "historyLong" "I", Cond.fieldLink RX6 19 "StepPairsModel" "history" "[I"]
def wsX6_turn : List Cond := .code yX6_turn cX6_turn 3 (some .int) :: ((wsX6_turn_r1 ++ wsX6_turn_r2) ++ wsX60)
def wsX6_zero : List Cond := .code yX6_zero cX6_zero 1 (some .int) :: ([.fieldLink RX6 7 "StepPairsModel" "all" "[I", .fieldLink RX6 13 "StepPairsModel" "kept" "[I", .methodLink RX6 85 yX6_copy, .static yX6_copy, .initialized RX6, .code yX6_copy cX6_copy 3 none, .methodLink RX6 103 yX6_doZero, .instanceMethod yX6_doZero, .selects RX6 yX6_doZero yX6_doZero, .code yX6_doZero cX6_doZero 2 (some .int), .methodLink RX6 93 yX6_changed, .instanceMethod yX6_changed, .selects RX6 yX6_changed yX6_changed, .code yX6_changed cX6_changed 3 (some .int), .fieldLink RX6 34 "StepPairsModel" "historyLong" "I", .fieldLink RX6 19 "StepPairsModel" "history" "[I"] ++ wsX60)
def wsX6_log : List Cond := .code yX6_log cX6_log 4 (some .int) :: ([.fieldLink RX6 7 "StepPairsModel" "all" "[I", .methodLink RX6 56 yX6_in, .static yX6_in, .initialized RX6, .code yX6_in cX6_in 6 (some .boolean)] ++ wsX60)
def wsX6_count : List Cond := .code yX6_count cX6_count 2 (some .int) :: ([.constantLong RX6 64 (9), .fieldLink RX6 7 "StepPairsModel" "all" "[I", .constantLong RX6 60 (10), .constantLong RX6 107 (14), .fieldLink RX6 109 "StepPairsModel" "padLong" "I", .fieldLink RX6 34 "StepPairsModel" "historyLong" "I", .methodLink RX6 56 yX6_in, .static yX6_in, .initialized RX6, .code yX6_in cX6_in 6 (some .boolean)] ++ wsX60)
def wsX6_gated : List Cond := .code yX6_gated cX6_gated 4 (some .int) :: ([.fieldLink RX6 7 "StepPairsModel" "all" "[I"] ++ wsX60)
def wsX6_period : List Cond := .code yX6_period cX6_period 1 (some .int) :: ([.fieldLink RX6 7 "StepPairsModel" "all" "[I"] ++ wsX60)
def wsX6_speed : List Cond := .code yX6_speed cX6_speed 2 (some .int) :: ([.methodLink RX6 112 yX6_gated, .instanceMethod yX6_gated, .selects RX6 yX6_gated yX6_gated, .initialized RX6, .code yX6_gated cX6_gated 4 (some .int), .fieldLink RX6 7 "StepPairsModel" "all" "[I", .methodLink RX6 115 yX6_period, .instanceMethod yX6_period, .selects RX6 yX6_period yX6_period, .code yX6_period cX6_period 1 (some .int)] ++ wsX60)
def wsJxe99ae_isNaN_b9ae7 : List Cond := .code yJxe99ae_isNaN_b9ae7 cJxe99ae_isNaN_b9ae7 2 (some .boolean) :: ([])
def wsJxe99ae_doubleToLongBits_ccdee : List Cond := .code yJxe99ae_doubleToLongBits_ccdee cJxe99ae_doubleToLongBits_ccdee 2 (some .long) :: ([.methodLink RJxe99ae 134 ⟨"java/lang/Double", "doubleToRawLongBits", "(D)J"⟩, .native ⟨"java/lang/Double", "doubleToRawLongBits", "(D)J"⟩, .static ⟨"java/lang/Double", "doubleToRawLongBits", "(D)J"⟩, .initialized "java/lang/Double", .constantLong RJxe99ae 137 (9221120237041090560), .methodLink RJxe99ae 122 yJxe99ae_isNaN_b9ae7, .static yJxe99ae_isNaN_b9ae7, .initialized RJxe99ae, .code yJxe99ae_isNaN_b9ae7 cJxe99ae_isNaN_b9ae7 2 (some .boolean)])
def wsX6_rate : List Cond := .code yX6_rate cX6_rate 3 (some .long) :: ([.fieldLink RX6 7 "StepPairsModel" "all" "[I", .constantDouble RX6 118 (13830554455654793216), .methodLink RX6 115 yX6_period, .instanceMethod yX6_period, .selects RX6 yX6_period yX6_period, .initialized RX6, .code yX6_period cX6_period 1 (some .int), .methodLink RX6 120 yJxe99ae_doubleToLongBits_ccdee, .static yJxe99ae_doubleToLongBits_ccdee, .initialized RJxe99ae, .code yJxe99ae_doubleToLongBits_ccdee cJxe99ae_doubleToLongBits_ccdee 2 (some .long), .methodLink RJxe99ae 134 ⟨"java/lang/Double", "doubleToRawLongBits", "(D)J"⟩, .native ⟨"java/lang/Double", "doubleToRawLongBits", "(D)J"⟩, .static ⟨"java/lang/Double", "doubleToRawLongBits", "(D)J"⟩, .initialized "java/lang/Double", .constantLong RJxe99ae 137 (9221120237041090560), .methodLink RJxe99ae 122 yJxe99ae_isNaN_b9ae7, .static yJxe99ae_isNaN_b9ae7, .code yJxe99ae_isNaN_b9ae7 cJxe99ae_isNaN_b9ae7 2 (some .boolean)] ++ wsX60)
def wsJxf58ca_isNaN_12338 : List Cond := .code yJxf58ca_isNaN_12338 cJxf58ca_isNaN_12338 1 (some .boolean) :: ([])
def wsJxf58ca_floatToIntBits_5c35a : List Cond := .code yJxf58ca_floatToIntBits_5c35a cJxf58ca_floatToIntBits_5c35a 1 (some .int) :: ([.methodLink RJxf58ca 74 ⟨"java/lang/Float", "floatToRawIntBits", "(F)I"⟩, .native ⟨"java/lang/Float", "floatToRawIntBits", "(F)I"⟩, .static ⟨"java/lang/Float", "floatToRawIntBits", "(F)I"⟩, .initialized "java/lang/Float", .constant RJxf58ca 77 (2143289344), .methodLink RJxf58ca 59 yJxf58ca_isNaN_12338, .static yJxf58ca_isNaN_12338, .initialized RJxf58ca, .code yJxf58ca_isNaN_12338 cJxf58ca_isNaN_12338 1 (some .boolean)])
def wsX6_noise : List Cond := .code yX6_noise cX6_noise 2 (some .int) :: ([.fieldLink RX6 7 "StepPairsModel" "all" "[I", .methodLink RX6 126 yJxf58ca_floatToIntBits_5c35a, .static yJxf58ca_floatToIntBits_5c35a, .initialized RJxf58ca, .code yJxf58ca_floatToIntBits_5c35a cJxf58ca_floatToIntBits_5c35a 1 (some .int), .methodLink RJxf58ca 74 ⟨"java/lang/Float", "floatToRawIntBits", "(F)I"⟩, .native ⟨"java/lang/Float", "floatToRawIntBits", "(F)I"⟩, .static ⟨"java/lang/Float", "floatToRawIntBits", "(F)I"⟩, .initialized "java/lang/Float", .constant RJxf58ca 77 (2143289344), .methodLink RJxf58ca 59 yJxf58ca_isNaN_12338, .static yJxf58ca_isNaN_12338, .code yJxf58ca_isNaN_12338 cJxf58ca_isNaN_12338 1 (some .boolean)] ++ wsX60)
def wsX6_replayed_r1 : List Cond := [Cond.fieldLink RX6 7 "StepPairsModel" "all" "[I", Cond.fieldLink RX6 16 "StepPairsModel" "tried" "[I", Cond.methodLink RX6 85 yX6_copy, Cond.static yX6_copy, Cond.initialized RX6, Cond.code yX6_copy cX6_copy 3 none, Cond.methodLink RX6 31 yX6_beginsAnew, Cond.instanceMethod yX6_beginsAnew, Cond.selects RX6 yX6_beginsAnew yX6_beginsAnew, Cond.code yX6_beginsAnew cX6_beginsAnew 2 none, Cond.methodLink RX6 77 yX6_ticks, Cond.instanceMethod yX6_ticks, Cond.selects RX6 yX6_ticks yX6_ticks, Cond.code yX6_ticks cX6_ticks 5 (some .boolean), Cond.methodLink RX6 42 yX6_deedOf, Cond.instanceMethod yX6_deedOf, Cond.selects RX6 yX6_deedOf yX6_deedOf, Cond.code yX6_deedOf cX6_deedOf 4 (some .int), Cond.methodLink RX6 38 yX6_orderOf, Cond.static yX6_orderOf, Cond.code yX6_orderOf cX6_orderOf 1 (some .int), Cond.methodLink RX6 45 yX6_steps, Cond.instanceMethod yX6_steps, Cond.selects RX6 yX6_steps yX6_steps]
def wsX6_replayed_r2 : List Cond := [Cond.code yX6_steps cX6_steps 3 none, Cond.methodLink RX6 49 yX6_rises, Cond.instanceMethod yX6_rises, Cond.selects RX6 yX6_rises yX6_rises, Cond.code yX6_rises cX6_rises 1 none]
def wsX6_replayed : List Cond := .code yX6_replayed cX6_replayed 5 (some .int) :: ((wsX6_replayed_r1 ++ wsX6_replayed_r2) ++ wsX60)
def wsX6_replay_r1 : List Cond := [Cond.constantLong RX6 64 (9), Cond.constantLong RX6 74 (3), Cond.methodLink RX6 56 yX6_in, Cond.static yX6_in, Cond.initialized RX6, Cond.code yX6_in cX6_in 6 (some .boolean), Cond.methodLink RX6 132 yX6_replayed, Cond.instanceMethod yX6_replayed, Cond.selects RX6 yX6_replayed yX6_replayed, Cond.code yX6_replayed cX6_replayed 5 (some .int), Cond.fieldLink RX6 7 "StepPairsModel" "all" "[I", Cond.fieldLink RX6 16 "StepPairsModel" "tried" "[I", Cond.methodLink RX6 85 yX6_copy, Cond.static yX6_copy, Cond.code yX6_copy cX6_copy 3 none, Cond.methodLink RX6 31 yX6_beginsAnew, Cond.instanceMethod yX6_beginsAnew, Cond.selects RX6 yX6_beginsAnew yX6_beginsAnew, Cond.code yX6_beginsAnew cX6_beginsAnew 2 none, Cond.methodLink RX6 77 yX6_ticks, Cond.instanceMethod yX6_ticks, Cond.selects RX6 yX6_ticks yX6_ticks, Cond.code yX6_ticks cX6_ticks 5 (some .boolean), Cond.methodLink RX6 42 yX6_deedOf]
def wsX6_replay_r2 : List Cond := [Cond.instanceMethod yX6_deedOf, Cond.selects RX6 yX6_deedOf yX6_deedOf, Cond.code yX6_deedOf cX6_deedOf 4 (some .int), Cond.methodLink RX6 38 yX6_orderOf, Cond.static yX6_orderOf, Cond.code yX6_orderOf cX6_orderOf 1 (some .int), Cond.methodLink RX6 45 yX6_steps, Cond.instanceMethod yX6_steps, Cond.selects RX6 yX6_steps yX6_steps, Cond.code yX6_steps cX6_steps 3 none, Cond.methodLink RX6 49 yX6_rises, Cond.instanceMethod yX6_rises, Cond.selects RX6 yX6_rises yX6_rises, Cond.code yX6_rises cX6_rises 1 none]
def wsX6_replay : List Cond := .code yX6_replay cX6_replay 3 (some .int) :: ((wsX6_replay_r1 ++ wsX6_replay_r2) ++ wsX60)
def wsX6_bestFilter_r1 : List Cond := [Cond.methodLink RX6 56 yX6_in, Cond.static yX6_in, Cond.initialized RX6, Cond.code yX6_in cX6_in 6 (some .boolean), Cond.methodLink RX6 132 yX6_replayed, Cond.instanceMethod yX6_replayed, Cond.selects RX6 yX6_replayed yX6_replayed, Cond.code yX6_replayed cX6_replayed 5 (some .int), Cond.fieldLink RX6 7 "StepPairsModel" "all" "[I", Cond.fieldLink RX6 16 "StepPairsModel" "tried" "[I", Cond.methodLink RX6 85 yX6_copy, Cond.static yX6_copy, Cond.code yX6_copy cX6_copy 3 none, Cond.methodLink RX6 31 yX6_beginsAnew, Cond.instanceMethod yX6_beginsAnew, Cond.selects RX6 yX6_beginsAnew yX6_beginsAnew, Cond.code yX6_beginsAnew cX6_beginsAnew 2 none, Cond.methodLink RX6 77 yX6_ticks, Cond.instanceMethod yX6_ticks, Cond.selects RX6 yX6_ticks yX6_ticks, Cond.code yX6_ticks cX6_ticks 5 (some .boolean), Cond.methodLink RX6 42 yX6_deedOf, Cond.instanceMethod yX6_deedOf, Cond.selects RX6 yX6_deedOf yX6_deedOf]
def wsX6_bestFilter_r2 : List Cond := [Cond.code yX6_deedOf cX6_deedOf 4 (some .int), Cond.methodLink RX6 38 yX6_orderOf, Cond.static yX6_orderOf, Cond.code yX6_orderOf cX6_orderOf 1 (some .int), Cond.methodLink RX6 45 yX6_steps, Cond.instanceMethod yX6_steps, Cond.selects RX6 yX6_steps yX6_steps, Cond.code yX6_steps cX6_steps 3 none, Cond.methodLink RX6 49 yX6_rises, Cond.instanceMethod yX6_rises, Cond.selects RX6 yX6_rises yX6_rises, Cond.code yX6_rises cX6_rises 1 none]
def wsX6_bestFilter : List Cond := .code yX6_bestFilter cX6_bestFilter 6 (some .int) :: ((wsX6_bestFilter_r1 ++ wsX6_bestFilter_r2) ++ wsX60)
def wsX6_would : List Cond := .code yX6_would cX6_would 2 (some .int) :: ([.constantLong RX6 74 (3), .methodLink RX6 56 yX6_in, .static yX6_in, .initialized RX6, .code yX6_in cX6_in 6 (some .boolean), .methodLink RX6 42 yX6_deedOf, .instanceMethod yX6_deedOf, .selects RX6 yX6_deedOf yX6_deedOf, .code yX6_deedOf cX6_deedOf 4 (some .int), .fieldLink RX6 7 "StepPairsModel" "all" "[I", .methodLink RX6 38 yX6_orderOf, .static yX6_orderOf, .code yX6_orderOf cX6_orderOf 1 (some .int)] ++ wsX60)
def wsX6_deeds : List Cond := .code yX6_deeds cX6_deeds 4 (some .int) :: ([.constantLong RX6 74 (3), .fieldLink RX6 7 "StepPairsModel" "all" "[I", .methodLink RX6 56 yX6_in, .static yX6_in, .initialized RX6, .code yX6_in cX6_in 6 (some .boolean)] ++ wsX60)
def wsX6_put : List Cond := .code yX6_put cX6_put 8 (some .int) :: ([.constantLong RX6 135 (255), .constantLong RX6 137 (33), .constantLong RX6 139 (126), .fieldLink RX6 109 "StepPairsModel" "padLong" "I", .fieldLink RX6 28 "StepPairsModel" "pad" "[I", .methodLink RX6 56 yX6_in, .static yX6_in, .initialized RX6, .code yX6_in cX6_in 6 (some .boolean)] ++ wsX60)
def wsX6_wipe : List Cond := .code yX6_wipe cX6_wipe 2 (some .int) :: ([.fieldLink RX6 109 "StepPairsModel" "padLong" "I"] ++ wsX60)
def wsX6_isHere : List Cond := .code yX6_isHere cX6_isHere 3 (some .boolean) :: ([.fieldLink RX6 141 "StepPairsModel" "spot" "I", .fieldLink RX6 109 "StepPairsModel" "padLong" "I", .fieldLink RX6 28 "StepPairsModel" "pad" "[I", .methodLink RX6 56 yX6_in, .static yX6_in, .initialized RX6, .code yX6_in cX6_in 6 (some .boolean)] ++ wsX60)
def wsX6_takes : List Cond := .code yX6_takes cX6_takes 3 (some .boolean) :: ([.fieldLink RX6 141 "StepPairsModel" "spot" "I", .methodLink RX6 144 yX6_isHere, .instanceMethod yX6_isHere, .selects RX6 yX6_isHere yX6_isHere, .initialized RX6, .code yX6_isHere cX6_isHere 3 (some .boolean), .fieldLink RX6 109 "StepPairsModel" "padLong" "I", .fieldLink RX6 28 "StepPairsModel" "pad" "[I", .methodLink RX6 56 yX6_in, .static yX6_in, .code yX6_in cX6_in 6 (some .boolean)] ++ wsX60)
def wsX6_readsNumber : List Cond := .code yX6_readsNumber cX6_readsNumber 1 (some .boolean) :: ([.fieldLink RX6 28 "StepPairsModel" "pad" "[I", .fieldLink RX6 141 "StepPairsModel" "spot" "I", .fieldLink RX6 147 "StepPairsModel" "number" "I", .methodLink RX6 144 yX6_isHere, .instanceMethod yX6_isHere, .selects RX6 yX6_isHere yX6_isHere, .initialized RX6, .code yX6_isHere cX6_isHere 3 (some .boolean), .fieldLink RX6 109 "StepPairsModel" "padLong" "I", .methodLink RX6 56 yX6_in, .static yX6_in, .code yX6_in cX6_in 6 (some .boolean)] ++ wsX60)
def wsX6_does : List Cond := .code yX6_does cX6_does 2 none :: ([.fieldLink RX6 150 "StepPairsModel" "error" "I"] ++ wsX60)
def wsX6_readsRuns_r1 : List Cond := [Cond.fieldLink RX6 28 "StepPairsModel" "pad" "[I", Cond.fieldLink RX6 141 "StepPairsModel" "spot" "I", Cond.fieldLink RX6 147 "StepPairsModel" "number" "I", Cond.fieldLink RX6 161 "StepPairsModel" "isDone" "Z", Cond.fieldLink RX6 150 "StepPairsModel" "error" "I", Cond.methodLink RX6 144 yX6_isHere, Cond.instanceMethod yX6_isHere, Cond.selects RX6 yX6_isHere yX6_isHere, Cond.initialized RX6, Cond.code yX6_isHere cX6_isHere 3 (some .boolean), Cond.fieldLink RX6 109 "StepPairsModel" "padLong" "I", Cond.methodLink RX6 56 yX6_in, Cond.static yX6_in, Cond.code yX6_in cX6_in 6 (some .boolean), Cond.methodLink RX6 153 yX6_takes, Cond.instanceMethod yX6_takes, Cond.selects RX6 yX6_takes yX6_takes, Cond.code yX6_takes cX6_takes 3 (some .boolean), Cond.methodLink RX6 157 yX6_readsNumber, Cond.instanceMethod yX6_readsNumber, Cond.selects RX6 yX6_readsNumber yX6_readsNumber, Cond.code yX6_readsNumber cX6_readsNumber 1 (some .boolean), Cond.methodLink RX6 96 yX6_doFeed, Cond.instanceMethod yX6_doFeed]
def wsX6_readsRuns_r2 : List Cond := [Cond.selects RX6 yX6_doFeed yX6_doFeed, Cond.code yX6_doFeed cX6_doFeed 6 (some .int), Cond.constantLong RX6 74 (3), Cond.constantLong RX6 66 (99), Cond.fieldLink RX6 7 "StepPairsModel" "all" "[I", Cond.constant RX6 76 (99999), Cond.methodLink RX6 77 yX6_ticks, Cond.instanceMethod yX6_ticks, Cond.selects RX6 yX6_ticks yX6_ticks, Cond.code yX6_ticks cX6_ticks 5 (some .boolean), Cond.methodLink RX6 42 yX6_deedOf, Cond.instanceMethod yX6_deedOf, Cond.selects RX6 yX6_deedOf yX6_deedOf, Cond.code yX6_deedOf cX6_deedOf 4 (some .int), Cond.methodLink RX6 38 yX6_orderOf, Cond.static yX6_orderOf, Cond.code yX6_orderOf cX6_orderOf 1 (some .int), Cond.methodLink RX6 45 yX6_steps, Cond.instanceMethod yX6_steps, Cond.selects RX6 yX6_steps yX6_steps, Cond.code yX6_steps cX6_steps 3 none, Cond.methodLink RX6 49 yX6_rises, Cond.instanceMethod yX6_rises, Cond.selects RX6 yX6_rises yX6_rises]
def wsX6_readsRuns_r3 : List Cond := [Cond.code yX6_rises cX6_rises 1 none, Cond.methodLink RX6 165 yX6_does, Cond.instanceMethod yX6_does, Cond.selects RX6 yX6_does yX6_does, Cond.code yX6_does cX6_does 2 none]
def wsX6_readsRuns : List Cond := .code yX6_readsRuns cX6_readsRuns 4 (some .boolean) :: ((wsX6_readsRuns_r1 ++ (wsX6_readsRuns_r2 ++ wsX6_readsRuns_r3)) ++ wsX60)
def wsX6_readsOrder_r1 : List Cond := [Cond.fieldLink RX6 161 "StepPairsModel" "isDone" "Z", Cond.fieldLink RX6 28 "StepPairsModel" "pad" "[I", Cond.fieldLink RX6 141 "StepPairsModel" "spot" "I", Cond.fieldLink RX6 147 "StepPairsModel" "number" "I", Cond.methodLink RX6 153 yX6_takes, Cond.instanceMethod yX6_takes, Cond.selects RX6 yX6_takes yX6_takes, Cond.initialized RX6, Cond.code yX6_takes cX6_takes 3 (some .boolean), Cond.methodLink RX6 144 yX6_isHere, Cond.instanceMethod yX6_isHere, Cond.selects RX6 yX6_isHere yX6_isHere, Cond.code yX6_isHere cX6_isHere 3 (some .boolean), Cond.fieldLink RX6 109 "StepPairsModel" "padLong" "I", Cond.methodLink RX6 56 yX6_in, Cond.static yX6_in, Cond.code yX6_in cX6_in 6 (some .boolean), Cond.methodLink RX6 103 yX6_doZero, Cond.instanceMethod yX6_doZero, Cond.selects RX6 yX6_doZero yX6_doZero, Cond.code yX6_doZero cX6_doZero 2 (some .int), Cond.fieldLink RX6 7 "StepPairsModel" "all" "[I", Cond.methodLink RX6 165 yX6_does, Cond.instanceMethod yX6_does]
def wsX6_readsOrder_r2 : List Cond := [Cond.selects RX6 yX6_does yX6_does, Cond.code yX6_does cX6_does 2 none, Cond.fieldLink RX6 150 "StepPairsModel" "error" "I", Cond.methodLink RX6 89 yX6_doSet, Cond.instanceMethod yX6_doSet, Cond.selects RX6 yX6_doSet yX6_doSet, Cond.code yX6_doSet cX6_doSet 4 (some .int), Cond.methodLink RX6 70 yX6_isSetting, Cond.static yX6_isSetting, Cond.code yX6_isSetting cX6_isSetting 2 (some .boolean), Cond.constantLong RX6 52 (4), Cond.constantLong RX6 54 (400), Cond.constantLong RX6 60 (10), Cond.constantLong RX6 62 (9999), Cond.constantLong RX6 64 (9), Cond.constantLong RX6 66 (99), Cond.constantLong RX6 68 (2), Cond.methodLink RX6 157 yX6_readsNumber, Cond.instanceMethod yX6_readsNumber, Cond.selects RX6 yX6_readsNumber yX6_readsNumber, Cond.code yX6_readsNumber cX6_readsNumber 1 (some .boolean), Cond.methodLink RX6 100 yX6_doTurn, Cond.instanceMethod yX6_doTurn, Cond.selects RX6 yX6_doTurn yX6_doTurn]
def wsX6_readsOrder_r3 : List Cond := [Cond.code yX6_doTurn cX6_doTurn 7 (some .int), Cond.constantLong RX6 80 (-99), Cond.constant RX6 76 (99999), Cond.methodLink RX6 38 yX6_orderOf, Cond.static yX6_orderOf, Cond.code yX6_orderOf cX6_orderOf 1 (some .int), Cond.methodLink RX6 82 yX6_pairAt, Cond.static yX6_pairAt, Cond.code yX6_pairAt cX6_pairAt 1 (some .int), Cond.methodLink RX6 77 yX6_ticks, Cond.instanceMethod yX6_ticks, Cond.selects RX6 yX6_ticks yX6_ticks, Cond.code yX6_ticks cX6_ticks 5 (some .boolean), Cond.methodLink RX6 42 yX6_deedOf, Cond.instanceMethod yX6_deedOf, Cond.selects RX6 yX6_deedOf yX6_deedOf, Cond.code yX6_deedOf cX6_deedOf 4 (some .int), Cond.methodLink RX6 45 yX6_steps, Cond.instanceMethod yX6_steps, Cond.selects RX6 yX6_steps yX6_steps, Cond.code yX6_steps cX6_steps 3 none, Cond.methodLink RX6 49 yX6_rises, Cond.instanceMethod yX6_rises, Cond.selects RX6 yX6_rises yX6_rises]
def wsX6_readsOrder_r4 : List Cond := [Cond.code yX6_rises cX6_rises 1 none, Cond.methodLink RX6 168 yX6_readsRuns, Cond.instanceMethod yX6_readsRuns, Cond.selects RX6 yX6_readsRuns yX6_readsRuns, Cond.code yX6_readsRuns cX6_readsRuns 4 (some .boolean), Cond.methodLink RX6 96 yX6_doFeed, Cond.instanceMethod yX6_doFeed, Cond.selects RX6 yX6_doFeed yX6_doFeed, Cond.code yX6_doFeed cX6_doFeed 6 (some .int), Cond.constantLong RX6 74 (3)]
def wsX6_readsOrder : List Cond := .code yX6_readsOrder cX6_readsOrder 2 (some .boolean) :: ((wsX6_readsOrder_r1 ++ (wsX6_readsOrder_r2 ++ (wsX6_readsOrder_r3 ++ wsX6_readsOrder_r4))) ++ wsX60)
def wsX6_fault_r1 : List Cond := [Cond.fieldLink RX6 141 "StepPairsModel" "spot" "I", Cond.fieldLink RX6 161 "StepPairsModel" "isDone" "Z", Cond.fieldLink RX6 109 "StepPairsModel" "padLong" "I", Cond.methodLink RX6 171 yX6_readsOrder, Cond.instanceMethod yX6_readsOrder, Cond.selects RX6 yX6_readsOrder yX6_readsOrder, Cond.initialized RX6, Cond.code yX6_readsOrder cX6_readsOrder 2 (some .boolean), Cond.fieldLink RX6 28 "StepPairsModel" "pad" "[I", Cond.fieldLink RX6 147 "StepPairsModel" "number" "I", Cond.methodLink RX6 153 yX6_takes, Cond.instanceMethod yX6_takes, Cond.selects RX6 yX6_takes yX6_takes, Cond.code yX6_takes cX6_takes 3 (some .boolean), Cond.methodLink RX6 144 yX6_isHere, Cond.instanceMethod yX6_isHere, Cond.selects RX6 yX6_isHere yX6_isHere, Cond.code yX6_isHere cX6_isHere 3 (some .boolean), Cond.methodLink RX6 56 yX6_in, Cond.static yX6_in, Cond.code yX6_in cX6_in 6 (some .boolean), Cond.methodLink RX6 103 yX6_doZero, Cond.instanceMethod yX6_doZero, Cond.selects RX6 yX6_doZero yX6_doZero]
def wsX6_fault_r2 : List Cond := [Cond.code yX6_doZero cX6_doZero 2 (some .int), Cond.fieldLink RX6 7 "StepPairsModel" "all" "[I", Cond.methodLink RX6 165 yX6_does, Cond.instanceMethod yX6_does, Cond.selects RX6 yX6_does yX6_does, Cond.code yX6_does cX6_does 2 none, Cond.fieldLink RX6 150 "StepPairsModel" "error" "I", Cond.methodLink RX6 89 yX6_doSet, Cond.instanceMethod yX6_doSet, Cond.selects RX6 yX6_doSet yX6_doSet, Cond.code yX6_doSet cX6_doSet 4 (some .int), Cond.methodLink RX6 70 yX6_isSetting, Cond.static yX6_isSetting, Cond.code yX6_isSetting cX6_isSetting 2 (some .boolean), Cond.constantLong RX6 52 (4), Cond.constantLong RX6 54 (400), Cond.constantLong RX6 60 (10), Cond.constantLong RX6 62 (9999), Cond.constantLong RX6 64 (9), Cond.constantLong RX6 66 (99), Cond.constantLong RX6 68 (2), Cond.methodLink RX6 157 yX6_readsNumber, Cond.instanceMethod yX6_readsNumber, Cond.selects RX6 yX6_readsNumber yX6_readsNumber]
def wsX6_fault_r3 : List Cond := [Cond.code yX6_readsNumber cX6_readsNumber 1 (some .boolean), Cond.methodLink RX6 100 yX6_doTurn, Cond.instanceMethod yX6_doTurn, Cond.selects RX6 yX6_doTurn yX6_doTurn, Cond.code yX6_doTurn cX6_doTurn 7 (some .int), Cond.constantLong RX6 80 (-99), Cond.constant RX6 76 (99999), Cond.methodLink RX6 38 yX6_orderOf, Cond.static yX6_orderOf, Cond.code yX6_orderOf cX6_orderOf 1 (some .int), Cond.methodLink RX6 82 yX6_pairAt, Cond.static yX6_pairAt, Cond.code yX6_pairAt cX6_pairAt 1 (some .int), Cond.methodLink RX6 77 yX6_ticks, Cond.instanceMethod yX6_ticks, Cond.selects RX6 yX6_ticks yX6_ticks, Cond.code yX6_ticks cX6_ticks 5 (some .boolean), Cond.methodLink RX6 42 yX6_deedOf, Cond.instanceMethod yX6_deedOf, Cond.selects RX6 yX6_deedOf yX6_deedOf, Cond.code yX6_deedOf cX6_deedOf 4 (some .int), Cond.methodLink RX6 45 yX6_steps, Cond.instanceMethod yX6_steps, Cond.selects RX6 yX6_steps yX6_steps]
def wsX6_fault_r4 : List Cond := [Cond.code yX6_steps cX6_steps 3 none, Cond.methodLink RX6 49 yX6_rises, Cond.instanceMethod yX6_rises, Cond.selects RX6 yX6_rises yX6_rises, Cond.code yX6_rises cX6_rises 1 none, Cond.methodLink RX6 168 yX6_readsRuns, Cond.instanceMethod yX6_readsRuns, Cond.selects RX6 yX6_readsRuns yX6_readsRuns, Cond.code yX6_readsRuns cX6_readsRuns 4 (some .boolean), Cond.methodLink RX6 96 yX6_doFeed, Cond.instanceMethod yX6_doFeed, Cond.selects RX6 yX6_doFeed yX6_doFeed, Cond.code yX6_doFeed cX6_doFeed 6 (some .int), Cond.constantLong RX6 74 (3)]
def wsX6_fault : List Cond := .code yX6_fault cX6_fault 2 (some .int) :: ((wsX6_fault_r1 ++ (wsX6_fault_r2 ++ (wsX6_fault_r3 ++ wsX6_fault_r4))) ++ wsX60)
def wsX6_carryOut_r1 : List Cond := [Cond.fieldLink RX6 7 "StepPairsModel" "all" "[I", Cond.fieldLink RX6 13 "StepPairsModel" "kept" "[I", Cond.fieldLink RX6 141 "StepPairsModel" "spot" "I", Cond.fieldLink RX6 161 "StepPairsModel" "isDone" "Z", Cond.fieldLink RX6 150 "StepPairsModel" "error" "I", Cond.fieldLink RX6 109 "StepPairsModel" "padLong" "I", Cond.methodLink RX6 174 yX6_fault, Cond.instanceMethod yX6_fault, Cond.selects RX6 yX6_fault yX6_fault, Cond.initialized RX6, Cond.code yX6_fault cX6_fault 2 (some .int), Cond.methodLink RX6 171 yX6_readsOrder, Cond.instanceMethod yX6_readsOrder, Cond.selects RX6 yX6_readsOrder yX6_readsOrder, Cond.code yX6_readsOrder cX6_readsOrder 2 (some .boolean), Cond.fieldLink RX6 28 "StepPairsModel" "pad" "[I", Cond.fieldLink RX6 147 "StepPairsModel" "number" "I", Cond.methodLink RX6 153 yX6_takes, Cond.instanceMethod yX6_takes, Cond.selects RX6 yX6_takes yX6_takes, Cond.code yX6_takes cX6_takes 3 (some .boolean), Cond.methodLink RX6 144 yX6_isHere, Cond.instanceMethod yX6_isHere, Cond.selects RX6 yX6_isHere yX6_isHere]
def wsX6_carryOut_r2 : List Cond := [Cond.code yX6_isHere cX6_isHere 3 (some .boolean), Cond.methodLink RX6 56 yX6_in, Cond.static yX6_in, Cond.code yX6_in cX6_in 6 (some .boolean), Cond.methodLink RX6 103 yX6_doZero, Cond.instanceMethod yX6_doZero, Cond.selects RX6 yX6_doZero yX6_doZero, Cond.code yX6_doZero cX6_doZero 2 (some .int), Cond.methodLink RX6 165 yX6_does, Cond.instanceMethod yX6_does, Cond.selects RX6 yX6_does yX6_does, Cond.code yX6_does cX6_does 2 none, Cond.methodLink RX6 89 yX6_doSet, Cond.instanceMethod yX6_doSet, Cond.selects RX6 yX6_doSet yX6_doSet, Cond.code yX6_doSet cX6_doSet 4 (some .int), Cond.methodLink RX6 70 yX6_isSetting, Cond.static yX6_isSetting, Cond.code yX6_isSetting cX6_isSetting 2 (some .boolean), Cond.constantLong RX6 52 (4), Cond.constantLong RX6 54 (400), Cond.constantLong RX6 60 (10), Cond.constantLong RX6 62 (9999), Cond.constantLong RX6 64 (9)]
def wsX6_carryOut_r3 : List Cond := [Cond.constantLong RX6 66 (99), Cond.constantLong RX6 68 (2), Cond.methodLink RX6 157 yX6_readsNumber, Cond.instanceMethod yX6_readsNumber, Cond.selects RX6 yX6_readsNumber yX6_readsNumber, Cond.code yX6_readsNumber cX6_readsNumber 1 (some .boolean), Cond.methodLink RX6 100 yX6_doTurn, Cond.instanceMethod yX6_doTurn, Cond.selects RX6 yX6_doTurn yX6_doTurn, Cond.code yX6_doTurn cX6_doTurn 7 (some .int), Cond.constantLong RX6 80 (-99), Cond.constant RX6 76 (99999), Cond.methodLink RX6 38 yX6_orderOf, Cond.static yX6_orderOf, Cond.code yX6_orderOf cX6_orderOf 1 (some .int), Cond.methodLink RX6 82 yX6_pairAt, Cond.static yX6_pairAt, Cond.code yX6_pairAt cX6_pairAt 1 (some .int), Cond.methodLink RX6 77 yX6_ticks, Cond.instanceMethod yX6_ticks, Cond.selects RX6 yX6_ticks yX6_ticks, Cond.code yX6_ticks cX6_ticks 5 (some .boolean), Cond.methodLink RX6 42 yX6_deedOf, Cond.instanceMethod yX6_deedOf]
def wsX6_carryOut_r4 : List Cond := [Cond.selects RX6 yX6_deedOf yX6_deedOf, Cond.code yX6_deedOf cX6_deedOf 4 (some .int), Cond.methodLink RX6 45 yX6_steps, Cond.instanceMethod yX6_steps, Cond.selects RX6 yX6_steps yX6_steps, Cond.code yX6_steps cX6_steps 3 none, Cond.methodLink RX6 49 yX6_rises, Cond.instanceMethod yX6_rises, Cond.selects RX6 yX6_rises yX6_rises, Cond.code yX6_rises cX6_rises 1 none, Cond.methodLink RX6 168 yX6_readsRuns, Cond.instanceMethod yX6_readsRuns, Cond.selects RX6 yX6_readsRuns yX6_readsRuns, Cond.code yX6_readsRuns cX6_readsRuns 4 (some .boolean), Cond.methodLink RX6 96 yX6_doFeed, Cond.instanceMethod yX6_doFeed, Cond.selects RX6 yX6_doFeed yX6_doFeed, Cond.code yX6_doFeed cX6_doFeed 6 (some .int), Cond.constantLong RX6 74 (3), Cond.methodLink RX6 85 yX6_copy, Cond.static yX6_copy, Cond.code yX6_copy cX6_copy 3 none, Cond.methodLink RX6 93 yX6_changed, Cond.instanceMethod yX6_changed]
def wsX6_carryOut_r5 : List Cond := [Cond.selects RX6 yX6_changed yX6_changed, Cond.code yX6_changed cX6_changed 3 (some .int), Cond.fieldLink RX6 34 "StepPairsModel" "historyLong" "I", Cond.fieldLink RX6 19 "StepPairsModel" "history" "[I"]
def wsX6_carryOut : List Cond := .code yX6_carryOut cX6_carryOut 4 (some .int) :: ((wsX6_carryOut_r1 ++ (wsX6_carryOut_r2 ++ (wsX6_carryOut_r3 ++ (wsX6_carryOut_r4 ++ wsX6_carryOut_r5)))) ++ wsX60)
def wsX6_undo : List Cond := .code yX6_undo cX6_undo 2 (some .int) :: ([.fieldLink RX6 34 "StepPairsModel" "historyLong" "I", .fieldLink RX6 7 "StepPairsModel" "all" "[I", .fieldLink RX6 19 "StepPairsModel" "history" "[I"] ++ wsX60)
def wsX6_save : List Cond := .code yX6_save cX6_save 3 (some .int) :: ([.fieldLink RX6 22 "StepPairsModel" "slots" "[I", .fieldLink RX6 7 "StepPairsModel" "all" "[I", .fieldLink RX6 25 "StepPairsModel" "isSaved" "[I", .methodLink RX6 56 yX6_in, .static yX6_in, .initialized RX6, .code yX6_in cX6_in 6 (some .boolean)] ++ wsX60)
def wsX6_restore : List Cond := .code yX6_restore cX6_restore 3 (some .int) :: ([.fieldLink RX6 25 "StepPairsModel" "isSaved" "[I", .fieldLink RX6 7 "StepPairsModel" "all" "[I", .fieldLink RX6 13 "StepPairsModel" "kept" "[I", .fieldLink RX6 22 "StepPairsModel" "slots" "[I", .methodLink RX6 56 yX6_in, .static yX6_in, .initialized RX6, .code yX6_in cX6_in 6 (some .boolean), .methodLink RX6 85 yX6_copy, .static yX6_copy, .code yX6_copy cX6_copy 3 none, .methodLink RX6 93 yX6_changed, .instanceMethod yX6_changed, .selects RX6 yX6_changed yX6_changed, .code yX6_changed cX6_changed 3 (some .int), .fieldLink RX6 34 "StepPairsModel" "historyLong" "I", .fieldLink RX6 19 "StepPairsModel" "history" "[I"] ++ wsX60)
def wsJ9_abs_0f7a4 : List Cond := .code yJ9_abs_0f7a4 cJ9_abs_0f7a4 1 (some .int) :: ([])
def wsJ9_min_7cf53 : List Cond := .code yJ9_min_7cf53 cJ9_min_7cf53 2 (some .int) :: ([])
def wsL_law_r1 : List Cond := [Cond.classLink RL 7 RX5, Cond.instantiable RX5 5, Cond.initialized RX5, Cond.classLink RL 10 RX6, Cond.instantiable RX6 13, Cond.initialized RX6, Cond.constantLong RL 70 (4294967295), Cond.methodLink RL 9 yX5_init, Cond.instanceMethod yX5_init, Cond.code yX5_init cX5_init 1 none, Cond.methodLink RX5 1 objectInit, Cond.instanceMethod objectInit, Cond.code objectInit ⟨#[0xb1]⟩ 1 none, Cond.classLink RX5 7 RX1, Cond.instantiable RX1 16, Cond.initialized RX1, Cond.fieldLink RX5 10 "StepPairs" "encoder" "LStepPairs$Encoder;", Cond.fieldLink RX5 16 "StepPairs" "trial" "LStepPairs$Encoder;", Cond.classLink RX5 19 RX2, Cond.instantiable RX2 3, Cond.initialized RX2, Cond.fieldLink RX5 22 "StepPairs" "history" "LStepPairs$History;", Cond.classLink RX5 26 RX4, Cond.instantiable RX4 2]
def wsL_law_r2 : List Cond := [Cond.initialized RX4, Cond.fieldLink RX5 29 "StepPairs" "slots" "LStepPairs$Slots;", Cond.classLink RX5 33 RX3, Cond.instantiable RX3 6, Cond.initialized RX3, Cond.fieldLink RX5 36 "StepPairs" "pad" "LStepPairs$Pad;", Cond.methodLink RX5 9 yX1_init, Cond.instanceMethod yX1_init, Cond.code yX1_init cX1_init 1 none, Cond.methodLink RX1 3 objectInit, Cond.arrayClass .int, Cond.fieldLink RX1 9 "StepPairs$Encoder" "settings" "[I", Cond.fieldLink RX1 15 "StepPairs$Encoder" "log" "[I", Cond.methodLink RX1 21 arraycopyName, Cond.native arraycopyName, Cond.static arraycopyName, Cond.initialized "java/lang/System", Cond.methodLink RX5 21 yX2_init, Cond.instanceMethod yX2_init, Cond.code yX2_init cX2_init 2 none, Cond.methodLink RX2 3 objectInit, Cond.classLink RX2 11 RX1, Cond.fieldLink RX2 13 "StepPairs$History" "rows" "[LStepPairs$Encoder;", Cond.methodLink RX2 17 yX1_init]
def wsL_law_r3 : List Cond := [Cond.methodLink RX5 28 yX4_init, Cond.instanceMethod yX4_init, Cond.code yX4_init cX4_init 2 none, Cond.methodLink RX4 3 objectInit, Cond.classLink RX4 9 RX1, Cond.fieldLink RX4 11 "StepPairs$Slots" "rows" "[LStepPairs$Encoder;", Cond.arrayClass .boolean, Cond.fieldLink RX4 17 "StepPairs$Slots" "used" "[Z", Cond.methodLink RX4 21 yX1_init, Cond.methodLink RX5 35 yX3_init, Cond.instanceMethod yX3_init, Cond.code yX3_init cX3_init 1 none, Cond.methodLink RX3 3 objectInit, Cond.arrayClass .char, Cond.fieldLink RX3 9 "StepPairs$Pad" "characters" "[C", Cond.methodLink RL 12 yX6_init, Cond.instanceMethod yX6_init, Cond.code yX6_init cX6_init 1 none, Cond.methodLink RX6 1 objectInit, Cond.fieldLink RX6 7 "StepPairsModel" "all" "[I", Cond.fieldLink RX6 13 "StepPairsModel" "kept" "[I", Cond.fieldLink RX6 16 "StepPairsModel" "tried" "[I", Cond.fieldLink RX6 19 "StepPairsModel" "history" "[I", Cond.fieldLink RX6 22 "StepPairsModel" "slots" "[I"]
def wsL_law_r4 : List Cond := [Cond.fieldLink RX6 25 "StepPairsModel" "isSaved" "[I", Cond.fieldLink RX6 28 "StepPairsModel" "pad" "[I", Cond.methodLink RX6 31 yX6_beginsAnew, Cond.instanceMethod yX6_beginsAnew, Cond.selects RX6 yX6_beginsAnew yX6_beginsAnew, Cond.code yX6_beginsAnew cX6_beginsAnew 2 none, Cond.methodLink RL 13 yX5_set, Cond.instanceMethod yX5_set, Cond.selects RX5 yX5_set yX5_set, Cond.code yX5_set cX5_set 3 (some .int), Cond.methodLink RX5 40 yX2_prepare, Cond.instanceMethod yX2_prepare, Cond.selects RX2 yX2_prepare yX2_prepare, Cond.code yX2_prepare cX2_prepare 2 none, Cond.methodLink RX2 22 yX2_nextRow, Cond.instanceMethod yX2_nextRow, Cond.selects RX2 yX2_nextRow yX2_nextRow, Cond.code yX2_nextRow cX2_nextRow 1 (some (.object "StepPairs$Encoder")), Cond.fieldLink RX2 18 "StepPairs$History" "next" "I", Cond.methodLink RX2 26 yX1_copy, Cond.static yX1_copy, Cond.code yX1_copy cX1_copy 2 none, Cond.fieldLink RX1 27 "StepPairs$Encoder" "ticks" "I", Cond.fieldLink RX1 31 "StepPairs$Encoder" "count" "I"]
def wsL_law_r5 : List Cond := [Cond.fieldLink RX1 34 "StepPairs$Encoder" "place" "I", Cond.fieldLink RX1 37 "StepPairs$Encoder" "seen" "I", Cond.fieldLink RX1 40 "StepPairs$Encoder" "latestPair" "I", Cond.fieldLink RX1 43 "StepPairs$Encoder" "latestIndex" "I", Cond.fieldLink RX1 46 "StepPairs$Encoder" "run" "I", Cond.fieldLink RX1 49 "StepPairs$Encoder" "direction" "I", Cond.fieldLink RX1 52 "StepPairs$Encoder" "forwards" "I", Cond.fieldLink RX1 55 "StepPairs$Encoder" "backwards" "I", Cond.fieldLink RX1 58 "StepPairs$Encoder" "illegal" "I", Cond.fieldLink RX1 61 "StepPairs$Encoder" "slips" "I", Cond.fieldLink RX1 64 "StepPairs$Encoder" "tickOfLatestStep" "I", Cond.fieldLink RX1 67 "StepPairs$Encoder" "period" "I", Cond.methodLink RX5 44 yX1_adjust, Cond.instanceMethod yX1_adjust, Cond.selects RX1 yX1_adjust yX1_adjust, Cond.code yX1_adjust cX1_adjust 4 (some .int), Cond.methodLink RX1 94 yX1_leftOver, Cond.static yX1_leftOver, Cond.code yX1_leftOver cX1_leftOver 2 (some .int), Cond.methodLink RX5 48 yX2_keepUnlessError, Cond.instanceMethod yX2_keepUnlessError, Cond.selects RX2 yX2_keepUnlessError yX2_keepUnlessError, Cond.code yX2_keepUnlessError cX2_keepUnlessError 2 (some .int), Cond.fieldLink RX2 30 "StepPairs$History" "size" "I"]
def wsL_law_r6 : List Cond := [Cond.methodLink RX2 33 Lib.Math.min.name, Cond.static Lib.Math.min.name, Cond.initialized "java/lang/Math", Cond.code Lib.Math.min.name Lib.Math.min.code 2 (some .int), Cond.methodLink RL 17 yX6_set, Cond.instanceMethod yX6_set, Cond.selects RX6 yX6_set yX6_set, Cond.code yX6_set cX6_set 4 (some .int), Cond.methodLink RX6 85 yX6_copy, Cond.static yX6_copy, Cond.code yX6_copy cX6_copy 3 none, Cond.methodLink RX6 89 yX6_doSet, Cond.instanceMethod yX6_doSet, Cond.selects RX6 yX6_doSet yX6_doSet, Cond.code yX6_doSet cX6_doSet 4 (some .int), Cond.methodLink RX6 70 yX6_isSetting, Cond.static yX6_isSetting, Cond.code yX6_isSetting cX6_isSetting 2 (some .boolean), Cond.constantLong RX6 52 (4), Cond.constantLong RX6 54 (400), Cond.constantLong RX6 60 (10), Cond.constantLong RX6 62 (9999), Cond.constantLong RX6 64 (9), Cond.constantLong RX6 66 (99)]
def wsL_law_r7 : List Cond := [Cond.constantLong RX6 68 (2), Cond.methodLink RX6 56 yX6_in, Cond.static yX6_in, Cond.code yX6_in cX6_in 6 (some .boolean), Cond.methodLink RX6 93 yX6_changed, Cond.instanceMethod yX6_changed, Cond.selects RX6 yX6_changed yX6_changed, Cond.code yX6_changed cX6_changed 3 (some .int), Cond.fieldLink RX6 34 "StepPairsModel" "historyLong" "I", Cond.methodLink RL 18 yX5_feed, Cond.instanceMethod yX5_feed, Cond.selects RX5 yX5_feed yX5_feed, Cond.code yX5_feed cX5_feed 4 (some .int), Cond.methodLink RX5 52 yX1_pass, Cond.instanceMethod yX1_pass, Cond.selects RX1 yX1_pass yX1_pass, Cond.code yX1_pass cX1_pass 7 (some .int), Cond.constant RX1 97 (99999), Cond.methodLink RX1 84 yX1_tick, Cond.instanceMethod yX1_tick, Cond.selects RX1 yX1_tick yX1_tick, Cond.code yX1_tick cX1_tick 6 (some .int), Cond.methodLink RX1 112 yX1_deedBy, Cond.instanceMethod yX1_deedBy]
def wsL_law_r8 : List Cond := [Cond.selects RX1 yX1_deedBy yX1_deedBy, Cond.code yX1_deedBy cX1_deedBy 3 (some .int), Cond.methodLink RX1 115 yX1_runWith, Cond.instanceMethod yX1_runWith, Cond.selects RX1 yX1_runWith yX1_runWith, Cond.code yX1_runWith cX1_runWith 2 (some .int), Cond.methodLink RX1 103 yX1_setting, Cond.instanceMethod yX1_setting, Cond.selects RX1 yX1_setting yX1_setting, Cond.code yX1_setting cX1_setting 2 (some .int), Cond.methodLink RX1 106 yX1_orderOf, Cond.static yX1_orderOf, Cond.code yX1_orderOf cX1_orderOf 1 (some .int), Cond.methodLink RX1 118 yX1_step, Cond.instanceMethod yX1_step, Cond.selects RX1 yX1_step yX1_step, Cond.code yX1_step cX1_step 3 none, Cond.methodLink RX1 122 yX1_meetIndex, Cond.instanceMethod yX1_meetIndex, Cond.selects RX1 yX1_meetIndex yX1_meetIndex, Cond.code yX1_meetIndex cX1_meetIndex 2 none, Cond.methodLink RL 22 yX6_feed, Cond.instanceMethod yX6_feed, Cond.selects RX6 yX6_feed yX6_feed]
def wsL_law_r9 : List Cond := [Cond.code yX6_feed cX6_feed 5 (some .int), Cond.methodLink RX6 96 yX6_doFeed, Cond.instanceMethod yX6_doFeed, Cond.selects RX6 yX6_doFeed yX6_doFeed, Cond.code yX6_doFeed cX6_doFeed 6 (some .int), Cond.constantLong RX6 74 (3), Cond.constant RX6 76 (99999), Cond.methodLink RX6 77 yX6_ticks, Cond.instanceMethod yX6_ticks, Cond.selects RX6 yX6_ticks yX6_ticks, Cond.code yX6_ticks cX6_ticks 5 (some .boolean), Cond.methodLink RX6 42 yX6_deedOf, Cond.instanceMethod yX6_deedOf, Cond.selects RX6 yX6_deedOf yX6_deedOf, Cond.code yX6_deedOf cX6_deedOf 4 (some .int), Cond.methodLink RX6 38 yX6_orderOf, Cond.static yX6_orderOf, Cond.code yX6_orderOf cX6_orderOf 1 (some .int), Cond.methodLink RX6 45 yX6_steps, Cond.instanceMethod yX6_steps, Cond.selects RX6 yX6_steps yX6_steps, Cond.code yX6_steps cX6_steps 3 none, Cond.methodLink RX6 49 yX6_rises, Cond.instanceMethod yX6_rises]
def wsL_law_r10 : List Cond := [Cond.selects RX6 yX6_rises yX6_rises, Cond.code yX6_rises cX6_rises 1 none, Cond.methodLink RL 23 yX5_turn, Cond.instanceMethod yX5_turn, Cond.selects RX5 yX5_turn yX5_turn, Cond.code yX5_turn cX5_turn 2 (some .int), Cond.methodLink RX5 56 yX1_revolve, Cond.instanceMethod yX1_revolve, Cond.selects RX1 yX1_revolve yX1_revolve, Cond.code yX1_revolve cX1_revolve 8 (some .int), Cond.methodLink RX1 98 Lib.Math.abs.name, Cond.static Lib.Math.abs.name, Cond.code Lib.Math.abs.name Lib.Math.abs.code 1 (some .int), Cond.methodLink RX1 109 yX1_pairAlong, Cond.static yX1_pairAlong, Cond.code yX1_pairAlong cX1_pairAlong 2 (some .int), Cond.methodLink RL 27 yX6_turn, Cond.instanceMethod yX6_turn, Cond.selects RX6 yX6_turn yX6_turn, Cond.code yX6_turn cX6_turn 3 (some .int), Cond.methodLink RX6 100 yX6_doTurn, Cond.instanceMethod yX6_doTurn, Cond.selects RX6 yX6_doTurn yX6_doTurn, Cond.code yX6_doTurn cX6_doTurn 7 (some .int)]
def wsL_law_r11 : List Cond := [Cond.constantLong RX6 80 (-99), Cond.methodLink RX6 82 yX6_pairAt, Cond.static yX6_pairAt, Cond.code yX6_pairAt cX6_pairAt 1 (some .int), Cond.methodLink RL 28 yX5_zero, Cond.instanceMethod yX5_zero, Cond.selects RX5 yX5_zero yX5_zero, Cond.code yX5_zero cX5_zero 1 (some .int), Cond.methodLink RX5 59 yX1_clear, Cond.instanceMethod yX1_clear, Cond.selects RX1 yX1_clear yX1_clear, Cond.code yX1_clear cX1_clear 2 (some .int), Cond.methodLink RL 32 yX6_zero, Cond.instanceMethod yX6_zero, Cond.selects RX6 yX6_zero yX6_zero, Cond.code yX6_zero cX6_zero 1 (some .int), Cond.methodLink RX6 103 yX6_doZero, Cond.instanceMethod yX6_doZero, Cond.selects RX6 yX6_doZero yX6_doZero, Cond.code yX6_doZero cX6_doZero 2 (some .int), Cond.methodLink RL 33 yX5_log, Cond.instanceMethod yX5_log, Cond.selects RX5 yX5_log yX5_log, Cond.code yX5_log cX5_log 3 (some .int)]
def wsL_law_r12 : List Cond := [Cond.methodLink RX5 63 yX1_hasTick, Cond.instanceMethod yX1_hasTick, Cond.selects RX1 yX1_hasTick yX1_hasTick, Cond.code yX1_hasTick cX1_hasTick 2 (some .boolean), Cond.methodLink RX1 73 yX1_logged, Cond.instanceMethod yX1_logged, Cond.selects RX1 yX1_logged yX1_logged, Cond.code yX1_logged cX1_logged 1 (some .int), Cond.methodLink RX1 125 Lib.Math.min.name, Cond.methodLink RX5 67 yX1_pairAt, Cond.instanceMethod yX1_pairAt, Cond.selects RX1 yX1_pairAt yX1_pairAt, Cond.code yX1_pairAt cX1_pairAt 2 (some .int), Cond.methodLink RX1 135 yX1_entry, Cond.instanceMethod yX1_entry, Cond.selects RX1 yX1_entry yX1_entry, Cond.code yX1_entry cX1_entry 3 (some .int), Cond.methodLink RX1 131 yX1_hasTick, Cond.methodLink RX5 70 yX1_indexAt, Cond.instanceMethod yX1_indexAt, Cond.selects RX1 yX1_indexAt yX1_indexAt, Cond.code yX1_indexAt cX1_indexAt 2 (some .int), Cond.methodLink RX5 73 yX1_deedAt, Cond.instanceMethod yX1_deedAt]
def wsL_law_r13 : List Cond := [Cond.selects RX1 yX1_deedAt yX1_deedAt, Cond.code yX1_deedAt cX1_deedAt 2 (some .int), Cond.methodLink RL 36 yX6_log, Cond.instanceMethod yX6_log, Cond.selects RX6 yX6_log yX6_log, Cond.code yX6_log cX6_log 4 (some .int), Cond.methodLink RL 37 yX5_count, Cond.instanceMethod yX5_count, Cond.selects RX5 yX5_count yX5_count, Cond.code yX5_count cX5_count 2 (some .int), Cond.fieldLink RX5 76 "StepPairs$Encoder" "ticks" "I", Cond.fieldLink RX5 80 "StepPairs$Encoder" "count" "I", Cond.fieldLink RX5 83 "StepPairs$Encoder" "place" "I", Cond.fieldLink RX5 86 "StepPairs$Encoder" "seen" "I", Cond.fieldLink RX5 89 "StepPairs$Encoder" "direction" "I", Cond.fieldLink RX5 92 "StepPairs$Encoder" "forwards" "I", Cond.fieldLink RX5 95 "StepPairs$Encoder" "backwards" "I", Cond.fieldLink RX5 98 "StepPairs$Encoder" "illegal" "I", Cond.fieldLink RX5 101 "StepPairs$Encoder" "slips" "I", Cond.fieldLink RX5 107 "StepPairs$Pad" "length" "I", Cond.fieldLink RX5 110 "StepPairs$History" "size" "I", Cond.methodLink RX5 104 yX1_logged, Cond.methodLink RX5 113 yX1_setting, Cond.methodLink RL 40 yX6_count]
def wsL_law_r14 : List Cond := [Cond.instanceMethod yX6_count, Cond.selects RX6 yX6_count yX6_count, Cond.code yX6_count cX6_count 2 (some .int), Cond.constantLong RX6 107 (14), Cond.fieldLink RX6 109 "StepPairsModel" "padLong" "I", Cond.methodLink RL 41 yX5_speed, Cond.instanceMethod yX5_speed, Cond.selects RX5 yX5_speed yX5_speed, Cond.code yX5_speed cX5_speed 2 (some .int), Cond.fieldLink RX5 119 "StepPairs$Encoder" "period" "I", Cond.methodLink RX5 116 yX1_stepsOfGate, Cond.instanceMethod yX1_stepsOfGate, Cond.selects RX1 yX1_stepsOfGate yX1_stepsOfGate, Cond.code yX1_stepsOfGate cX1_stepsOfGate 5 (some .int), Cond.methodLink RX1 128 yX1_deedAt, Cond.methodLink RL 44 yX6_speed, Cond.instanceMethod yX6_speed, Cond.selects RX6 yX6_speed yX6_speed, Cond.code yX6_speed cX6_speed 2 (some .int), Cond.methodLink RX6 112 yX6_gated, Cond.instanceMethod yX6_gated, Cond.selects RX6 yX6_gated yX6_gated, Cond.code yX6_gated cX6_gated 4 (some .int), Cond.methodLink RX6 115 yX6_period]
def wsL_law_r15 : List Cond := [Cond.instanceMethod yX6_period, Cond.selects RX6 yX6_period yX6_period, Cond.code yX6_period cX6_period 1 (some .int), Cond.methodLink RL 45 yX5_rate, Cond.instanceMethod yX5_rate, Cond.selects RX5 yX5_rate yX5_rate, Cond.code yX5_rate cX5_rate 4 (some .long), Cond.constantDouble RX5 122 (13830554455654793216), Cond.methodLink RX5 124 yX0_ofDouble, Cond.static yX0_ofDouble, Cond.initialized RX0, Cond.code yX0_ofDouble cX0_ofDouble 10 (some .long), Cond.constantLong RX0 7 (1023), Cond.constantDouble RX0 11 (4611686018427387904), Cond.constantDouble RX0 13 (4841369599423283200), Cond.methodLink RL 49 yX6_rate, Cond.instanceMethod yX6_rate, Cond.selects RX6 yX6_rate yX6_rate, Cond.code yX6_rate cX6_rate 3 (some .long), Cond.constantDouble RX6 118 (13830554455654793216), Cond.methodLink RX6 120 yJxe99ae_doubleToLongBits_ccdee, Cond.static yJxe99ae_doubleToLongBits_ccdee, Cond.initialized RJxe99ae, Cond.code yJxe99ae_doubleToLongBits_ccdee cJxe99ae_doubleToLongBits_ccdee 2 (some .long)]
def wsL_law_r16 : List Cond := [Cond.methodLink RJxe99ae 134 ⟨"java/lang/Double", "doubleToRawLongBits", "(D)J"⟩, Cond.native ⟨"java/lang/Double", "doubleToRawLongBits", "(D)J"⟩, Cond.static ⟨"java/lang/Double", "doubleToRawLongBits", "(D)J"⟩, Cond.initialized "java/lang/Double", Cond.constantLong RJxe99ae 137 (9221120237041090560), Cond.methodLink RJxe99ae 122 yJxe99ae_isNaN_b9ae7, Cond.static yJxe99ae_isNaN_b9ae7, Cond.code yJxe99ae_isNaN_b9ae7 cJxe99ae_isNaN_b9ae7 2 (some .boolean), Cond.methodLink RL 50 yX5_noise, Cond.instanceMethod yX5_noise, Cond.selects RX5 yX5_noise yX5_noise, Cond.code yX5_noise cX5_noise 2 (some .int), Cond.methodLink RX5 130 yX0_ofFloat, Cond.static yX0_ofFloat, Cond.code yX0_ofFloat cX0_ofFloat 4 (some .int), Cond.constantFloat RX0 15 (1258291200), Cond.methodLink RL 53 yX6_noise, Cond.instanceMethod yX6_noise, Cond.selects RX6 yX6_noise yX6_noise, Cond.code yX6_noise cX6_noise 2 (some .int), Cond.methodLink RX6 126 yJxf58ca_floatToIntBits_5c35a, Cond.static yJxf58ca_floatToIntBits_5c35a, Cond.initialized RJxf58ca, Cond.code yJxf58ca_floatToIntBits_5c35a cJxf58ca_floatToIntBits_5c35a 1 (some .int)]
def wsL_law_r17 : List Cond := [Cond.methodLink RJxf58ca 74 ⟨"java/lang/Float", "floatToRawIntBits", "(F)I"⟩, Cond.native ⟨"java/lang/Float", "floatToRawIntBits", "(F)I"⟩, Cond.static ⟨"java/lang/Float", "floatToRawIntBits", "(F)I"⟩, Cond.initialized "java/lang/Float", Cond.constant RJxf58ca 77 (2143289344), Cond.methodLink RJxf58ca 59 yJxf58ca_isNaN_12338, Cond.static yJxf58ca_isNaN_12338, Cond.code yJxf58ca_isNaN_12338 cJxf58ca_isNaN_12338 1 (some .boolean), Cond.methodLink RL 54 yX5_replay, Cond.instanceMethod yX5_replay, Cond.selects RX5 yX5_replay yX5_replay, Cond.code yX5_replay cX5_replay 3 (some .int), Cond.fieldLink RX5 134 "StepPairs" "LEAST_SETTING" "[I", Cond.fieldLink RX5 138 "StepPairs" "MOST_SETTING" "[I", Cond.methodLink RX5 141 yX1_follow, Cond.instanceMethod yX1_follow, Cond.selects RX1 yX1_follow yX1_follow, Cond.code yX1_follow cX1_follow 4 none, Cond.methodLink RX1 70 yX1_restart, Cond.instanceMethod yX1_restart, Cond.selects RX1 yX1_restart yX1_restart, Cond.code yX1_restart cX1_restart 1 none, Cond.methodLink RX1 77 yX1_pairAt, Cond.methodLink RX1 81 yX1_indexAt]
def wsL_law_r18 : List Cond := [Cond.methodLink RL 57 yX6_replay, Cond.instanceMethod yX6_replay, Cond.selects RX6 yX6_replay yX6_replay, Cond.code yX6_replay cX6_replay 3 (some .int), Cond.methodLink RX6 132 yX6_replayed, Cond.instanceMethod yX6_replayed, Cond.selects RX6 yX6_replayed yX6_replayed, Cond.code yX6_replayed cX6_replayed 5 (some .int), Cond.methodLink RL 58 yX5_bestFilter, Cond.instanceMethod yX5_bestFilter, Cond.selects RX5 yX5_bestFilter yX5_bestFilter, Cond.code yX5_bestFilter cX5_bestFilter 5 (some .int), Cond.methodLink RL 61 yX6_bestFilter, Cond.instanceMethod yX6_bestFilter, Cond.selects RX6 yX6_bestFilter yX6_bestFilter, Cond.code yX6_bestFilter cX6_bestFilter 6 (some .int), Cond.methodLink RL 62 yX5_would, Cond.instanceMethod yX5_would, Cond.selects RX5 yX5_would yX5_would, Cond.code yX5_would cX5_would 2 (some .int), Cond.methodLink RX5 145 yX1_deedBy, Cond.methodLink RL 65 yX6_would, Cond.instanceMethod yX6_would, Cond.selects RX6 yX6_would yX6_would]
def wsL_law_r19 : List Cond := [Cond.code yX6_would cX6_would 2 (some .int), Cond.methodLink RL 66 yX5_deeds, Cond.instanceMethod yX5_deeds, Cond.selects RX5 yX5_deeds yX5_deeds, Cond.code yX5_deeds cX5_deeds 4 (some .int), Cond.methodLink RL 69 yX6_deeds, Cond.instanceMethod yX6_deeds, Cond.selects RX6 yX6_deeds yX6_deeds, Cond.code yX6_deeds cX6_deeds 4 (some .int), Cond.methodLink RL 72 yX5_put, Cond.instanceMethod yX5_put, Cond.selects RX5 yX5_put yX5_put, Cond.code yX5_put cX5_put 3 (some .int), Cond.methodLink RX5 148 yX3_append, Cond.instanceMethod yX3_append, Cond.selects RX3 yX3_append yX3_append, Cond.code yX3_append cX3_append 8 (some .int), Cond.constantLong RX3 15 (255), Cond.constantLong RX3 17 (33), Cond.constantLong RX3 19 (126), Cond.fieldLink RX3 21 "StepPairs$Pad" "length" "I", Cond.methodLink RL 76 yX6_put, Cond.instanceMethod yX6_put, Cond.selects RX6 yX6_put yX6_put]
def wsL_law_r20 : List Cond := [Cond.code yX6_put cX6_put 8 (some .int), Cond.constantLong RX6 135 (255), Cond.constantLong RX6 137 (33), Cond.constantLong RX6 139 (126), Cond.methodLink RL 77 yX5_wipe, Cond.instanceMethod yX5_wipe, Cond.selects RX5 yX5_wipe yX5_wipe, Cond.code yX5_wipe cX5_wipe 1 (some .int), Cond.methodLink RX5 152 yX3_empty, Cond.instanceMethod yX3_empty, Cond.selects RX3 yX3_empty yX3_empty, Cond.code yX3_empty cX3_empty 2 (some .int), Cond.methodLink RL 80 yX6_wipe, Cond.instanceMethod yX6_wipe, Cond.selects RX6 yX6_wipe yX6_wipe, Cond.code yX6_wipe cX6_wipe 2 (some .int), Cond.methodLink RL 81 yX5_fault, Cond.instanceMethod yX5_fault, Cond.selects RX5 yX5_fault yX5_fault, Cond.code yX5_fault cX5_fault 1 (some .int), Cond.methodLink RX5 155 yX3_firstFault, Cond.instanceMethod yX3_firstFault, Cond.selects RX3 yX3_firstFault yX3_firstFault, Cond.code yX3_firstFault cX3_firstFault 2 (some .int)]
def wsL_law_r21 : List Cond := [Cond.fieldLink RX3 32 "StepPairs$Pad" "position" "I", Cond.methodLink RX3 25 yX3_begin, Cond.instanceMethod yX3_begin, Cond.selects RX3 yX3_begin yX3_begin, Cond.code yX3_begin cX3_begin 1 none, Cond.methodLink RX3 28 yX3_readOrder, Cond.instanceMethod yX3_readOrder, Cond.selects RX3 yX3_readOrder yX3_readOrder, Cond.code yX3_readOrder cX3_readOrder 1 (some .boolean), Cond.methodLink RX3 35 yX3_skip, Cond.instanceMethod yX3_skip, Cond.selects RX3 yX3_skip yX3_skip, Cond.code yX3_skip cX3_skip 2 (some .boolean), Cond.methodLink RX3 39 yX3_here, Cond.instanceMethod yX3_here, Cond.selects RX3 yX3_here yX3_here, Cond.code yX3_here cX3_here 1 (some .char), Cond.methodLink RX3 43 yX3_readDigit, Cond.instanceMethod yX3_readDigit, Cond.selects RX3 yX3_readDigit yX3_readDigit, Cond.code yX3_readDigit cX3_readDigit 1 (some .boolean), Cond.fieldLink RX3 61 "StepPairs$Pad" "number" "I", Cond.methodLink RX3 46 yX3_readNumber, Cond.instanceMethod yX3_readNumber]
def wsL_law_r22 : List Cond := [Cond.selects RX3 yX3_readNumber yX3_readNumber, Cond.code yX3_readNumber cX3_readNumber 2 (some .boolean), Cond.methodLink RX3 49 yX3_readRuns, Cond.instanceMethod yX3_readRuns, Cond.selects RX3 yX3_readRuns yX3_readRuns, Cond.code yX3_readRuns cX3_readRuns 2 (some .boolean), Cond.methodLink RX3 52 yX3_readRun, Cond.instanceMethod yX3_readRun, Cond.selects RX3 yX3_readRun yX3_readRun, Cond.code yX3_readRun cX3_readRun 1 (some .boolean), Cond.fieldLink RX3 55 "StepPairs$Pad" "pair" "I", Cond.fieldLink RX3 58 "StepPairs$Pad" "index" "I", Cond.methodLink RL 84 yX6_fault, Cond.instanceMethod yX6_fault, Cond.selects RX6 yX6_fault yX6_fault, Cond.code yX6_fault cX6_fault 2 (some .int), Cond.fieldLink RX6 141 "StepPairsModel" "spot" "I", Cond.fieldLink RX6 161 "StepPairsModel" "isDone" "Z", Cond.methodLink RX6 171 yX6_readsOrder, Cond.instanceMethod yX6_readsOrder, Cond.selects RX6 yX6_readsOrder yX6_readsOrder, Cond.code yX6_readsOrder cX6_readsOrder 2 (some .boolean), Cond.fieldLink RX6 147 "StepPairsModel" "number" "I", Cond.methodLink RX6 153 yX6_takes]
def wsL_law_r23 : List Cond := [Cond.instanceMethod yX6_takes, Cond.selects RX6 yX6_takes yX6_takes, Cond.code yX6_takes cX6_takes 3 (some .boolean), Cond.methodLink RX6 144 yX6_isHere, Cond.instanceMethod yX6_isHere, Cond.selects RX6 yX6_isHere yX6_isHere, Cond.code yX6_isHere cX6_isHere 3 (some .boolean), Cond.methodLink RX6 165 yX6_does, Cond.instanceMethod yX6_does, Cond.selects RX6 yX6_does yX6_does, Cond.code yX6_does cX6_does 2 none, Cond.fieldLink RX6 150 "StepPairsModel" "error" "I", Cond.methodLink RX6 157 yX6_readsNumber, Cond.instanceMethod yX6_readsNumber, Cond.selects RX6 yX6_readsNumber yX6_readsNumber, Cond.code yX6_readsNumber cX6_readsNumber 1 (some .boolean), Cond.methodLink RX6 168 yX6_readsRuns, Cond.instanceMethod yX6_readsRuns, Cond.selects RX6 yX6_readsRuns yX6_readsRuns, Cond.code yX6_readsRuns cX6_readsRuns 4 (some .boolean), Cond.methodLink RL 85 yX5_carryOut, Cond.instanceMethod yX5_carryOut, Cond.selects RX5 yX5_carryOut yX5_carryOut, Cond.code yX5_carryOut cX5_carryOut 2 (some .int)]
def wsL_law_r24 : List Cond := [Cond.methodLink RX5 158 yX3_begin, Cond.methodLink RX5 161 yX5_carryOrder, Cond.instanceMethod yX5_carryOrder, Cond.selects RX5 yX5_carryOrder yX5_carryOrder, Cond.code yX5_carryOrder cX5_carryOrder 1 (some .int), Cond.fieldLink RX5 172 "StepPairs$Pad" "number" "I", Cond.methodLink RX5 164 yX3_skip, Cond.methodLink RX5 168 yX3_readDigit, Cond.methodLink RX5 175 yX3_readNumber, Cond.methodLink RX5 178 yX5_carryRuns, Cond.instanceMethod yX5_carryRuns, Cond.selects RX5 yX5_carryRuns yX5_carryRuns, Cond.code yX5_carryRuns cX5_carryRuns 3 (some .int), Cond.fieldLink RX5 184 "StepPairs$Pad" "pair" "I", Cond.fieldLink RX5 187 "StepPairs$Pad" "index" "I", Cond.methodLink RX5 181 yX3_readRun, Cond.methodLink RL 88 yX6_carryOut, Cond.instanceMethod yX6_carryOut, Cond.selects RX6 yX6_carryOut yX6_carryOut, Cond.code yX6_carryOut cX6_carryOut 4 (some .int), Cond.methodLink RX6 174 yX6_fault, Cond.methodLink RL 89 yX5_undo, Cond.instanceMethod yX5_undo, Cond.selects RX5 yX5_undo yX5_undo]
def wsL_law_r25 : List Cond := [Cond.code yX5_undo cX5_undo 1 (some .int), Cond.methodLink RX5 190 yX2_takeBack, Cond.instanceMethod yX2_takeBack, Cond.selects RX2 yX2_takeBack yX2_takeBack, Cond.code yX2_takeBack cX2_takeBack 2 (some .int), Cond.methodLink RL 92 yX6_undo, Cond.instanceMethod yX6_undo, Cond.selects RX6 yX6_undo yX6_undo, Cond.code yX6_undo cX6_undo 2 (some .int), Cond.methodLink RL 93 yX5_save, Cond.instanceMethod yX5_save, Cond.selects RX5 yX5_save yX5_save, Cond.code yX5_save cX5_save 2 (some .int), Cond.methodLink RX5 194 yX4_store, Cond.instanceMethod yX4_store, Cond.selects RX4 yX4_store yX4_store, Cond.code yX4_store cX4_store 3 (some .int), Cond.fieldLink RX4 26 "StepPairs$Encoder" "count" "I", Cond.methodLink RX4 22 yX1_copy, Cond.methodLink RL 96 yX6_save, Cond.instanceMethod yX6_save, Cond.selects RX6 yX6_save yX6_save, Cond.code yX6_save cX6_save 3 (some .int), Cond.methodLink RL 97 yX5_restore]
def wsL_law_r26 : List Cond := [Cond.instanceMethod yX5_restore, Cond.selects RX5 yX5_restore yX5_restore, Cond.code yX5_restore cX5_restore 2 (some .int), Cond.methodLink RX5 198 yX4_fetch, Cond.instanceMethod yX4_fetch, Cond.selects RX4 yX4_fetch yX4_fetch, Cond.code yX4_fetch cX4_fetch 3 (some .int), Cond.methodLink RL 100 yX6_restore, Cond.instanceMethod yX6_restore, Cond.selects RX6 yX6_restore yX6_restore, Cond.code yX6_restore cX6_restore 3 (some .int)]
def wsL_law : List Cond := (wsL_law_r1 ++ (wsL_law_r2 ++ (wsL_law_r3 ++ (wsL_law_r4 ++ (wsL_law_r5 ++ (wsL_law_r6 ++ (wsL_law_r7 ++ (wsL_law_r8 ++ (wsL_law_r9 ++ (wsL_law_r10 ++ (wsL_law_r11 ++ (wsL_law_r12 ++ (wsL_law_r13 ++ (wsL_law_r14 ++ (wsL_law_r15 ++ (wsL_law_r16 ++ (wsL_law_r17 ++ (wsL_law_r18 ++ (wsL_law_r19 ++ (wsL_law_r20 ++ (wsL_law_r21 ++ (wsL_law_r22 ++ (wsL_law_r23 ++ (wsL_law_r24 ++ (wsL_law_r25 ++ wsL_law_r26))))))))))))))))))))))))) ++ wsX50 ++ wsX60 ++ wsX10 ++ wsX20 ++ wsX40 ++ wsX30 ++ ([] : List Cond)
set_option maxRecDepth 20000 in
theorem wsL_law_r1_in : ∀ w ∈ wsL_law_r1, w ∈ lw_tbl := zm_places _ [43, 44, 32, 490, 491, 38, 743, 45, 46, 47, 48, 49, 50, 51, 52, 33, 189, 190, 123, 124, 35, 191, 143, 144] (by decide +kernel)
set_option maxRecDepth 20000 in
theorem wsL_law_r2_in : ∀ w ∈ wsL_law_r2, w ∈ lw_tbl := zm_places _ [36, 192, 159, 160, 37, 193, 53, 54, 55, 56, 122, 62, 63, 59, 61, 60, 34, 125, 126, 127, 128, 129, 132, 131] (by decide +kernel)
set_option maxRecDepth 20000 in
theorem wsL_law_r3_in : ∀ w ∈ wsL_law_r3, w ∈ lw_tbl := zm_places _ [145, 146, 147, 148, 149, 151, 158, 152, 150, 161, 162, 163, 164, 188, 165, 492, 493, 494, 495, 500, 501, 502, 503, 505] (by decide +kernel)
set_option maxRecDepth 20000 in
theorem wsL_law_r4_in : ∀ w ∈ wsL_law_r4, w ∈ lw_tbl := zm_places _ [506, 507, 496, 498, 12, 499, 205, 206, 207, 208, 209, 210, 211, 212, 213, 215, 0, 216, 133, 217, 218, 219, 64, 67] (by decide +kernel)
set_option maxRecDepth 20000 in
theorem wsL_law_r5_in : ∀ w ∈ wsL_law_r5, w ∈ lw_tbl := zm_places _ [69, 71, 73, 74, 75, 76, 78, 80, 82, 84, 86, 87, 220, 221, 222, 223, 228, 229, 230, 231, 232, 233, 234, 134] (by decide +kernel)
set_option maxRecDepth 20000 in
theorem wsL_law_r6_in : ∀ w ∈ wsL_law_r6, w ∈ lw_tbl := zm_places _ [235, 236, 39, 237, 540, 541, 542, 543, 544, 545, 546, 547, 549, 13, 550, 551, 552, 553, 554, 555, 559, 560, 561, 562] (by decide +kernel)
set_option maxRecDepth 20000 in
theorem wsL_law_r7_in : ∀ w ∈ wsL_law_r7, w ∈ lw_tbl := zm_places _ [563, 556, 557, 558, 564, 566, 14, 567, 504, 238, 239, 240, 241, 242, 243, 244, 245, 246, 247, 249, 1, 250, 251, 252] (by decide +kernel)
set_option maxRecDepth 20000 in
theorem wsL_law_r8_in : ∀ w ∈ wsL_law_r8, w ∈ lw_tbl := zm_places _ [253, 254, 255, 257, 2, 258, 259, 260, 261, 262, 263, 264, 265, 266, 268, 3, 269, 270, 272, 4, 273, 568, 569, 570] (by decide +kernel)
set_option maxRecDepth 20000 in
theorem wsL_law_r9_in : ∀ w ∈ wsL_law_r9, w ∈ lw_tbl := zm_places _ [571, 572, 574, 15, 575, 576, 577, 578, 580, 16, 581, 582, 584, 17, 585, 586, 587, 588, 589, 591, 18, 592, 593, 595] (by decide +kernel)
set_option maxRecDepth 20000 in
theorem wsL_law_r10_in : ∀ w ∈ wsL_law_r10, w ∈ lw_tbl := zm_places _ [19, 596, 274, 275, 276, 277, 278, 279, 280, 281, 282, 283, 284, 285, 286, 287, 597, 598, 599, 600, 601, 603, 20, 604] (by decide +kernel)
set_option maxRecDepth 20000 in
theorem wsL_law_r11_in : ∀ w ∈ wsL_law_r11, w ∈ lw_tbl := zm_places _ [605, 606, 607, 608, 288, 289, 290, 291, 292, 293, 294, 295, 609, 610, 611, 612, 613, 615, 21, 616, 296, 297, 298, 299] (by decide +kernel)
set_option maxRecDepth 20000 in
theorem wsL_law_r12_in : ∀ w ∈ wsL_law_r12, w ∈ lw_tbl := zm_places _ [300, 301, 302, 303, 304, 305, 306, 307, 308, 309, 310, 311, 312, 313, 315, 5, 316, 317, 318, 319, 320, 321, 322, 323] (by decide +kernel)
set_option maxRecDepth 20000 in
theorem wsL_law_r13_in : ∀ w ∈ wsL_law_r13, w ∈ lw_tbl := zm_places _ [324, 325, 617, 618, 619, 620, 326, 327, 328, 329, 65, 68, 70, 72, 77, 79, 81, 83, 85, 167, 135, 330, 331, 621] (by decide +kernel)
set_option maxRecDepth 20000 in
theorem wsL_law_r14_in : ∀ w ∈ wsL_law_r14, w ∈ lw_tbl := zm_places _ [622, 623, 624, 625, 508, 332, 333, 334, 335, 88, 336, 337, 338, 339, 340, 626, 627, 628, 629, 630, 632, 22, 633, 634] (by decide +kernel)
set_option maxRecDepth 20000 in
theorem wsL_law_r15_in : ∀ w ∈ wsL_law_r15, w ∈ lw_tbl := zm_places _ [636, 23, 637, 341, 342, 343, 344, 345, 346, 347, 40, 348, 349, 350, 351, 638, 639, 640, 641, 642, 643, 644, 41, 645] (by decide +kernel)
set_option maxRecDepth 20000 in
theorem wsL_law_r16_in : ∀ w ∈ wsL_law_r16, w ∈ lw_tbl := zm_places _ [649, 651, 650, 41, 652, 646, 647, 648, 352, 353, 354, 355, 356, 357, 358, 359, 653, 654, 655, 656, 657, 658, 42, 659] (by decide +kernel)
set_option maxRecDepth 20000 in
theorem wsL_law_r17_in : ∀ w ∈ wsL_law_r17, w ∈ lw_tbl := zm_places _ [663, 665, 664, 42, 666, 660, 661, 662, 360, 361, 362, 363, 364, 365, 366, 367, 368, 369, 370, 372, 6, 373, 374, 375] (by decide +kernel)
set_option maxRecDepth 20000 in
theorem wsL_law_r18_in : ∀ w ∈ wsL_law_r18, w ∈ lw_tbl := zm_places _ [667, 668, 669, 670, 671, 673, 24, 674, 376, 377, 378, 379, 675, 676, 677, 678, 380, 381, 382, 383, 384, 679, 680, 681] (by decide +kernel)
set_option maxRecDepth 20000 in
theorem wsL_law_r19_in : ∀ w ∈ wsL_law_r19, w ∈ lw_tbl := zm_places _ [682, 385, 386, 387, 388, 683, 684, 685, 686, 389, 390, 391, 392, 393, 394, 395, 396, 397, 398, 399, 166, 687, 688, 689] (by decide +kernel)
set_option maxRecDepth 20000 in
theorem wsL_law_r20_in : ∀ w ∈ wsL_law_r20, w ∈ lw_tbl := zm_places _ [690, 691, 692, 693, 400, 401, 402, 403, 404, 405, 406, 407, 694, 695, 696, 697, 408, 409, 410, 411, 412, 413, 414, 415] (by decide +kernel)
set_option maxRecDepth 20000 in
theorem wsL_law_r21_in : ∀ w ∈ wsL_law_r21, w ∈ lw_tbl := zm_places _ [168, 416, 417, 418, 419, 420, 422, 7, 423, 424, 425, 426, 427, 428, 430, 8, 431, 432, 433, 434, 435, 173, 436, 437] (by decide +kernel)
set_option maxRecDepth 20000 in
theorem wsL_law_r22_in : ∀ w ∈ wsL_law_r22, w ∈ lw_tbl := zm_places _ [438, 439, 440, 442, 9, 443, 444, 445, 446, 447, 169, 171, 698, 699, 700, 701, 509, 511, 702, 704, 25, 705, 510, 706] (by decide +kernel)
set_option maxRecDepth 20000 in
theorem wsL_law_r23_in : ∀ w ∈ wsL_law_r23, w ∈ lw_tbl := zm_places _ [708, 26, 709, 710, 712, 27, 713, 714, 716, 28, 717, 512, 718, 720, 29, 721, 722, 724, 30, 725, 448, 449, 450, 451] (by decide +kernel)
set_option maxRecDepth 20000 in
theorem wsL_law_r24_in : ∀ w ∈ wsL_law_r24, w ∈ lw_tbl := zm_places _ [452, 453, 455, 10, 456, 174, 457, 458, 459, 460, 462, 11, 463, 170, 172, 464, 726, 727, 728, 729, 730, 465, 466, 467] (by decide +kernel)
set_option maxRecDepth 20000 in
theorem wsL_law_r25_in : ∀ w ∈ wsL_law_r25, w ∈ lw_tbl := zm_places _ [468, 469, 470, 471, 472, 731, 732, 733, 734, 473, 474, 475, 476, 477, 478, 479, 480, 66, 481, 735, 736, 737, 738, 482] (by decide +kernel)
set_option maxRecDepth 20000 in
theorem wsL_law_r26_in : ∀ w ∈ wsL_law_r26, w ∈ lw_tbl := zm_places _ [483, 484, 485, 486, 487, 488, 489, 739, 740, 741, 742] (by decide +kernel)
set_option maxRecDepth 20000 in
theorem wsX50_in : ∀ w ∈ wsX50, w ∈ lw_tbl := zm_places _ [194, 196, 198, 200, 202] (by decide +kernel)
set_option maxRecDepth 20000 in
theorem wsX60_in : ∀ w ∈ wsX60, w ∈ lw_tbl := zm_places _ [513, 515, 517, 519, 521, 523, 525, 527, 529, 531, 533, 535, 537] (by decide +kernel)
set_option maxRecDepth 20000 in
theorem wsX10_in : ∀ w ∈ wsX10, w ∈ lw_tbl := zm_places _ [89, 91, 93, 95, 97, 99, 101, 103, 105, 107, 109, 111, 113, 115, 117, 119] (by decide +kernel)
set_option maxRecDepth 20000 in
theorem wsX20_in : ∀ w ∈ wsX20, w ∈ lw_tbl := zm_places _ [136, 138, 140] (by decide +kernel)
set_option maxRecDepth 20000 in
theorem wsX40_in : ∀ w ∈ wsX40, w ∈ lw_tbl := zm_places _ [153, 155] (by decide +kernel)
set_option maxRecDepth 20000 in
theorem wsX30_in : ∀ w ∈ wsX30, w ∈ lw_tbl := zm_places _ [175, 177, 179, 181, 183, 185] (by decide +kernel)
theorem wsL_law_in : ∀ w ∈ wsL_law, w ∈ lw_tbl := (List.forall_mem_append.mpr ⟨(List.forall_mem_append.mpr ⟨(List.forall_mem_append.mpr ⟨(List.forall_mem_append.mpr ⟨(List.forall_mem_append.mpr ⟨(List.forall_mem_append.mpr ⟨(List.forall_mem_append.mpr ⟨(List.forall_mem_append.mpr ⟨wsL_law_r1_in, (List.forall_mem_append.mpr ⟨wsL_law_r2_in, (List.forall_mem_append.mpr ⟨wsL_law_r3_in, (List.forall_mem_append.mpr ⟨wsL_law_r4_in, (List.forall_mem_append.mpr ⟨wsL_law_r5_in, (List.forall_mem_append.mpr ⟨wsL_law_r6_in, (List.forall_mem_append.mpr ⟨wsL_law_r7_in, (List.forall_mem_append.mpr ⟨wsL_law_r8_in, (List.forall_mem_append.mpr ⟨wsL_law_r9_in, (List.forall_mem_append.mpr ⟨wsL_law_r10_in, (List.forall_mem_append.mpr ⟨wsL_law_r11_in, (List.forall_mem_append.mpr ⟨wsL_law_r12_in, (List.forall_mem_append.mpr ⟨wsL_law_r13_in, (List.forall_mem_append.mpr ⟨wsL_law_r14_in, (List.forall_mem_append.mpr ⟨wsL_law_r15_in, (List.forall_mem_append.mpr ⟨wsL_law_r16_in, (List.forall_mem_append.mpr ⟨wsL_law_r17_in, (List.forall_mem_append.mpr ⟨wsL_law_r18_in, (List.forall_mem_append.mpr ⟨wsL_law_r19_in, (List.forall_mem_append.mpr ⟨wsL_law_r20_in, (List.forall_mem_append.mpr ⟨wsL_law_r21_in, (List.forall_mem_append.mpr ⟨wsL_law_r22_in, (List.forall_mem_append.mpr ⟨wsL_law_r23_in, (List.forall_mem_append.mpr ⟨wsL_law_r24_in, (List.forall_mem_append.mpr ⟨wsL_law_r25_in, wsL_law_r26_in⟩)⟩)⟩)⟩)⟩)⟩)⟩)⟩)⟩)⟩)⟩)⟩)⟩)⟩)⟩)⟩)⟩)⟩)⟩)⟩)⟩)⟩)⟩)⟩)⟩), wsX50_in⟩), wsX60_in⟩), wsX10_in⟩), wsX20_in⟩), wsX40_in⟩), wsX30_in⟩), (fun _ h => absurd h List.not_mem_nil)⟩)
theorem inX0 : ∀ w ∈ wsX00, w ∈ lw_tbl := by decide +kernel
theorem inlX1 : ∀ w ∈ wsX10, w ∈ wsL_law := fun _ h => List.mem_append_left _ (List.mem_append_left _ (List.mem_append_left _ (List.mem_append_left _ (List.mem_append_right _ h))))
theorem inX1 : ∀ w ∈ wsX10, w ∈ lw_tbl := wsX10_in
theorem inlX2 : ∀ w ∈ wsX20, w ∈ wsL_law := fun _ h => List.mem_append_left _ (List.mem_append_left _ (List.mem_append_left _ (List.mem_append_right _ h)))
theorem inX2 : ∀ w ∈ wsX20, w ∈ lw_tbl := wsX20_in
theorem inlX3 : ∀ w ∈ wsX30, w ∈ wsL_law := fun _ h => List.mem_append_left _ (List.mem_append_right _ h)
theorem inX3 : ∀ w ∈ wsX30, w ∈ lw_tbl := wsX30_in
theorem inlX4 : ∀ w ∈ wsX40, w ∈ wsL_law := fun _ h => List.mem_append_left _ (List.mem_append_left _ (List.mem_append_right _ h))
theorem inX4 : ∀ w ∈ wsX40, w ∈ lw_tbl := wsX40_in
theorem inlX5 : ∀ w ∈ wsX50, w ∈ wsL_law := fun _ h => List.mem_append_left _ (List.mem_append_left _ (List.mem_append_left _ (List.mem_append_left _ (List.mem_append_left _ (List.mem_append_left _ (List.mem_append_right _ h))))))
theorem inX5 : ∀ w ∈ wsX50, w ∈ lw_tbl := wsX50_in
theorem inlX6 : ∀ w ∈ wsX60, w ∈ wsL_law := fun _ h => List.mem_append_left _ (List.mem_append_left _ (List.mem_append_left _ (List.mem_append_left _ (List.mem_append_left _ (List.mem_append_right _ h)))))
theorem inX6 : ∀ w ∈ wsX60, w ∈ lw_tbl := wsX60_in
theorem inJxe99ae : ∀ w ∈ wsJxe99ae0, w ∈ lw_tbl := by decide +kernel
theorem inJxf58ca : ∀ w ∈ wsJxf58ca0, w ∈ lw_tbl := by decide +kernel
theorem inJ9 : ∀ w ∈ wsJ90, w ∈ lw_tbl := by decide +kernel
theorem inJ10 : ∀ w ∈ wsJ100, w ∈ lw_tbl := by decide +kernel
end
section
theorem dX0_ofDouble_0 : decode cX0_ofDouble 0 = .ok (.dload_n 0, 1) := by decide +kernel
theorem dX0_ofDouble_1 : decode cX0_ofDouble 1 = .ok (.dconst 0, 1) := by decide +kernel
theorem dX0_ofDouble_2 : decode cX0_ofDouble 2 = .ok (.dcmp .l, 1) := by decide +kernel
theorem dX0_ofDouble_3 : decode cX0_ofDouble 3 = .ok (.ifCond .ne 5, 3) := by decide +kernel
theorem dX0_ofDouble_6 : decode cX0_ofDouble 6 = .ok (.lconst 0, 1) := by decide +kernel
theorem dX0_ofDouble_7 : decode cX0_ofDouble 7 = .ok (.lreturn, 1) := by decide +kernel
theorem dX0_ofDouble_8 : decode cX0_ofDouble 8 = .ok (.dload_n 0, 1) := by decide +kernel
theorem dX0_ofDouble_9 : decode cX0_ofDouble 9 = .ok (.dconst 0, 1) := by decide +kernel
theorem dX0_ofDouble_10 : decode cX0_ofDouble 10 = .ok (.dcmp .g, 1) := by decide +kernel
theorem dX0_ofDouble_11 : decode cX0_ofDouble 11 = .ok (.ifCond .ge 8, 3) := by decide +kernel
theorem dX0_ofDouble_14 : decode cX0_ofDouble 14 = .ok (.dload_n 0, 1) := by decide +kernel
theorem dX0_ofDouble_15 : decode cX0_ofDouble 15 = .ok (.dneg, 1) := by decide +kernel
theorem dX0_ofDouble_16 : decode cX0_ofDouble 16 = .ok (.goto 4, 3) := by decide +kernel
theorem dX0_ofDouble_19 : decode cX0_ofDouble 19 = .ok (.dload_n 0, 1) := by decide +kernel
theorem dX0_ofDouble_20 : decode cX0_ofDouble 20 = .ok (.dstore_n 2, 1) := by decide +kernel
theorem dX0_ofDouble_21 : decode cX0_ofDouble 21 = .ok (.ldc2_w 7, 3) := by decide +kernel
theorem dX0_ofDouble_24 : decode cX0_ofDouble 24 = .ok (.lstore 4, 2) := by decide +kernel
theorem dX0_ofDouble_26 : decode cX0_ofDouble 26 = .ok (.iconst 0, 1) := by decide +kernel
theorem dX0_ofDouble_27 : decode cX0_ofDouble 27 = .ok (.istore 6, 2) := by decide +kernel
theorem dX0_ofDouble_29 : decode cX0_ofDouble 29 = .ok (.iload 6, 2) := by decide +kernel
theorem dX0_ofDouble_31 : decode cX0_ofDouble 31 = .ok (.sipush 2000, 3) := by decide +kernel
theorem dX0_ofDouble_34 : decode cX0_ofDouble 34 = .ok (.if_icmp .ge 27, 3) := by decide +kernel
theorem dX0_ofDouble_37 : decode cX0_ofDouble 37 = .ok (.dload_n 2, 1) := by decide +kernel
theorem dX0_ofDouble_38 : decode cX0_ofDouble 38 = .ok (.dconst 1, 1) := by decide +kernel
theorem dX0_ofDouble_39 : decode cX0_ofDouble 39 = .ok (.dcmp .g, 1) := by decide +kernel
theorem dX0_ofDouble_40 : decode cX0_ofDouble 40 = .ok (.ifCond .ge 21, 3) := by decide +kernel
theorem dX0_ofDouble_43 : decode cX0_ofDouble 43 = .ok (.dload_n 2, 1) := by decide +kernel
theorem dX0_ofDouble_44 : decode cX0_ofDouble 44 = .ok (.ldc2_w 11, 3) := by decide +kernel
theorem dX0_ofDouble_47 : decode cX0_ofDouble 47 = .ok (.dmul, 1) := by decide +kernel
theorem dX0_ofDouble_48 : decode cX0_ofDouble 48 = .ok (.dstore_n 2, 1) := by decide +kernel
theorem dX0_ofDouble_49 : decode cX0_ofDouble 49 = .ok (.lload 4, 2) := by decide +kernel
theorem dX0_ofDouble_51 : decode cX0_ofDouble 51 = .ok (.lconst 1, 1) := by decide +kernel
theorem dX0_ofDouble_52 : decode cX0_ofDouble 52 = .ok (.lsub, 1) := by decide +kernel
theorem dX0_ofDouble_53 : decode cX0_ofDouble 53 = .ok (.lstore 4, 2) := by decide +kernel
theorem dX0_ofDouble_55 : decode cX0_ofDouble 55 = .ok (.iinc 6 1, 3) := by decide +kernel
theorem dX0_ofDouble_58 : decode cX0_ofDouble 58 = .ok (.goto (-29), 3) := by decide +kernel
theorem dX0_ofDouble_61 : decode cX0_ofDouble 61 = .ok (.dload_n 2, 1) := by decide +kernel
theorem dX0_ofDouble_62 : decode cX0_ofDouble 62 = .ok (.dconst 1, 1) := by decide +kernel
theorem dX0_ofDouble_63 : decode cX0_ofDouble 63 = .ok (.dsub, 1) := by decide +kernel
theorem dX0_ofDouble_64 : decode cX0_ofDouble 64 = .ok (.ldc2_w 13, 3) := by decide +kernel
theorem dX0_ofDouble_67 : decode cX0_ofDouble 67 = .ok (.dmul, 1) := by decide +kernel
theorem dX0_ofDouble_68 : decode cX0_ofDouble 68 = .ok (.d2l, 1) := by decide +kernel
theorem dX0_ofDouble_69 : decode cX0_ofDouble 69 = .ok (.lstore 6, 2) := by decide +kernel
theorem dX0_ofDouble_71 : decode cX0_ofDouble 71 = .ok (.dload_n 0, 1) := by decide +kernel
theorem dX0_ofDouble_72 : decode cX0_ofDouble 72 = .ok (.dconst 0, 1) := by decide +kernel
theorem dX0_ofDouble_73 : decode cX0_ofDouble 73 = .ok (.dcmp .g, 1) := by decide +kernel
theorem dX0_ofDouble_74 : decode cX0_ofDouble 74 = .ok (.ifCond .ge 7, 3) := by decide +kernel
theorem dX0_ofDouble_77 : decode cX0_ofDouble 77 = .ok (.lconst 1, 1) := by decide +kernel
theorem dX0_ofDouble_78 : decode cX0_ofDouble 78 = .ok (.goto 4, 3) := by decide +kernel
theorem dX0_ofDouble_81 : decode cX0_ofDouble 81 = .ok (.lconst 0, 1) := by decide +kernel
theorem dX0_ofDouble_82 : decode cX0_ofDouble 82 = .ok (.lstore 8, 2) := by decide +kernel
theorem dX0_ofDouble_84 : decode cX0_ofDouble 84 = .ok (.lload 8, 2) := by decide +kernel
theorem dX0_ofDouble_86 : decode cX0_ofDouble 86 = .ok (.bipush 63, 2) := by decide +kernel
theorem dX0_ofDouble_88 : decode cX0_ofDouble 88 = .ok (.lshl, 1) := by decide +kernel
theorem dX0_ofDouble_89 : decode cX0_ofDouble 89 = .ok (.lload 4, 2) := by decide +kernel
theorem dX0_ofDouble_91 : decode cX0_ofDouble 91 = .ok (.bipush 52, 2) := by decide +kernel
theorem dX0_ofDouble_93 : decode cX0_ofDouble 93 = .ok (.lshl, 1) := by decide +kernel
theorem dX0_ofDouble_94 : decode cX0_ofDouble 94 = .ok (.lor, 1) := by decide +kernel
theorem dX0_ofDouble_95 : decode cX0_ofDouble 95 = .ok (.lload 6, 2) := by decide +kernel
theorem dX0_ofDouble_97 : decode cX0_ofDouble 97 = .ok (.lor, 1) := by decide +kernel
theorem dX0_ofDouble_98 : decode cX0_ofDouble 98 = .ok (.lreturn, 1) := by decide +kernel
theorem dX0_ofFloat_0 : decode cX0_ofFloat 0 = .ok (.fload_n 0, 1) := by decide +kernel
theorem dX0_ofFloat_1 : decode cX0_ofFloat 1 = .ok (.fconst 0, 1) := by decide +kernel
theorem dX0_ofFloat_2 : decode cX0_ofFloat 2 = .ok (.fcmp .l, 1) := by decide +kernel
theorem dX0_ofFloat_3 : decode cX0_ofFloat 3 = .ok (.ifCond .ne 5, 3) := by decide +kernel
theorem dX0_ofFloat_6 : decode cX0_ofFloat 6 = .ok (.iconst 0, 1) := by decide +kernel
theorem dX0_ofFloat_7 : decode cX0_ofFloat 7 = .ok (.ireturn, 1) := by decide +kernel
theorem dX0_ofFloat_8 : decode cX0_ofFloat 8 = .ok (.fload_n 0, 1) := by decide +kernel
theorem dX0_ofFloat_9 : decode cX0_ofFloat 9 = .ok (.fstore_n 1, 1) := by decide +kernel
theorem dX0_ofFloat_10 : decode cX0_ofFloat 10 = .ok (.bipush 127, 2) := by decide +kernel
theorem dX0_ofFloat_12 : decode cX0_ofFloat 12 = .ok (.istore_n 2, 1) := by decide +kernel
theorem dX0_ofFloat_13 : decode cX0_ofFloat 13 = .ok (.iconst 0, 1) := by decide +kernel
theorem dX0_ofFloat_14 : decode cX0_ofFloat 14 = .ok (.istore_n 3, 1) := by decide +kernel
theorem dX0_ofFloat_15 : decode cX0_ofFloat 15 = .ok (.iload_n 3, 1) := by decide +kernel
theorem dX0_ofFloat_16 : decode cX0_ofFloat 16 = .ok (.sipush 2000, 3) := by decide +kernel
theorem dX0_ofFloat_19 : decode cX0_ofFloat 19 = .ok (.if_icmp .ge 22, 3) := by decide +kernel
theorem dX0_ofFloat_22 : decode cX0_ofFloat 22 = .ok (.fload_n 1, 1) := by decide +kernel
theorem dX0_ofFloat_23 : decode cX0_ofFloat 23 = .ok (.fconst 1, 1) := by decide +kernel
theorem dX0_ofFloat_24 : decode cX0_ofFloat 24 = .ok (.fcmp .g, 1) := by decide +kernel
theorem dX0_ofFloat_25 : decode cX0_ofFloat 25 = .ok (.ifCond .ge 16, 3) := by decide +kernel
theorem dX0_ofFloat_28 : decode cX0_ofFloat 28 = .ok (.fload_n 1, 1) := by decide +kernel
theorem dX0_ofFloat_29 : decode cX0_ofFloat 29 = .ok (.fconst 2, 1) := by decide +kernel
theorem dX0_ofFloat_30 : decode cX0_ofFloat 30 = .ok (.fmul, 1) := by decide +kernel
theorem dX0_ofFloat_31 : decode cX0_ofFloat 31 = .ok (.fstore_n 1, 1) := by decide +kernel
theorem dX0_ofFloat_32 : decode cX0_ofFloat 32 = .ok (.iinc 2 (-1), 3) := by decide +kernel
theorem dX0_ofFloat_35 : decode cX0_ofFloat 35 = .ok (.iinc 3 1, 3) := by decide +kernel
theorem dX0_ofFloat_38 : decode cX0_ofFloat 38 = .ok (.goto (-23), 3) := by decide +kernel
theorem dX0_ofFloat_41 : decode cX0_ofFloat 41 = .ok (.fload_n 1, 1) := by decide +kernel
theorem dX0_ofFloat_42 : decode cX0_ofFloat 42 = .ok (.fconst 1, 1) := by decide +kernel
theorem dX0_ofFloat_43 : decode cX0_ofFloat 43 = .ok (.fsub, 1) := by decide +kernel
theorem dX0_ofFloat_44 : decode cX0_ofFloat 44 = .ok (.ldc 15, 2) := by decide +kernel
theorem dX0_ofFloat_46 : decode cX0_ofFloat 46 = .ok (.fmul, 1) := by decide +kernel
theorem dX0_ofFloat_47 : decode cX0_ofFloat 47 = .ok (.f2i, 1) := by decide +kernel
theorem dX0_ofFloat_48 : decode cX0_ofFloat 48 = .ok (.istore_n 3, 1) := by decide +kernel
theorem dX0_ofFloat_49 : decode cX0_ofFloat 49 = .ok (.iload_n 2, 1) := by decide +kernel
theorem dX0_ofFloat_50 : decode cX0_ofFloat 50 = .ok (.bipush 23, 2) := by decide +kernel
theorem dX0_ofFloat_52 : decode cX0_ofFloat 52 = .ok (.ishl, 1) := by decide +kernel
theorem dX0_ofFloat_53 : decode cX0_ofFloat 53 = .ok (.iload_n 3, 1) := by decide +kernel
theorem dX0_ofFloat_54 : decode cX0_ofFloat 54 = .ok (.ior, 1) := by decide +kernel
theorem dX0_ofFloat_55 : decode cX0_ofFloat 55 = .ok (.ireturn, 1) := by decide +kernel
theorem dX1_init_0 : decode cX1_init 0 = .ok (.aload_n 0, 1) := by decide +kernel
theorem dX1_init_1 : decode cX1_init 1 = .ok (.invokespecial 3, 3) := by decide +kernel
theorem dX1_init_4 : decode cX1_init 4 = .ok (.aload_n 0, 1) := by decide +kernel
theorem dX1_init_5 : decode cX1_init 5 = .ok (.iconst 5, 1) := by decide +kernel
theorem dX1_init_6 : decode cX1_init 6 = .ok (.newarray .int, 2) := by decide +kernel
theorem dX1_init_8 : decode cX1_init 8 = .ok (.putfield 9, 3) := by decide +kernel
theorem dX1_init_11 : decode cX1_init 11 = .ok (.aload_n 0, 1) := by decide +kernel
theorem dX1_init_12 : decode cX1_init 12 = .ok (.sipush 200, 3) := by decide +kernel
theorem dX1_init_15 : decode cX1_init 15 = .ok (.newarray .int, 2) := by decide +kernel
theorem dX1_init_17 : decode cX1_init 17 = .ok (.putfield 15, 3) := by decide +kernel
theorem dX1_init_20 : decode cX1_init 20 = .ok (.getstatic 18, 3) := by decide +kernel
theorem dX1_init_23 : decode cX1_init 23 = .ok (.iconst 0, 1) := by decide +kernel
theorem dX1_init_24 : decode cX1_init 24 = .ok (.aload_n 0, 1) := by decide +kernel
theorem dX1_init_25 : decode cX1_init 25 = .ok (.getfield 9, 3) := by decide +kernel
theorem dX1_init_28 : decode cX1_init 28 = .ok (.iconst 0, 1) := by decide +kernel
theorem dX1_init_29 : decode cX1_init 29 = .ok (.iconst 5, 1) := by decide +kernel
theorem dX1_init_30 : decode cX1_init 30 = .ok (.invokestatic 21, 3) := by decide +kernel
theorem dX1_init_33 : decode cX1_init 33 = .ok (.return_, 1) := by decide +kernel
theorem dX1_copy_0 : decode cX1_copy 0 = .ok (.aload_n 0, 1) := by decide +kernel
theorem dX1_copy_1 : decode cX1_copy 1 = .ok (.ifnull 7, 3) := by decide +kernel
theorem dX1_copy_4 : decode cX1_copy 4 = .ok (.aload_n 1, 1) := by decide +kernel
theorem dX1_copy_5 : decode cX1_copy 5 = .ok (.ifnonnull 4, 3) := by decide +kernel
theorem dX1_copy_8 : decode cX1_copy 8 = .ok (.return_, 1) := by decide +kernel
theorem dX1_copy_9 : decode cX1_copy 9 = .ok (.aload_n 0, 1) := by decide +kernel
theorem dX1_copy_10 : decode cX1_copy 10 = .ok (.getfield 9, 3) := by decide +kernel
theorem dX1_copy_13 : decode cX1_copy 13 = .ok (.iconst 0, 1) := by decide +kernel
theorem dX1_copy_14 : decode cX1_copy 14 = .ok (.aload_n 1, 1) := by decide +kernel
theorem dX1_copy_15 : decode cX1_copy 15 = .ok (.getfield 9, 3) := by decide +kernel
theorem dX1_copy_18 : decode cX1_copy 18 = .ok (.iconst 0, 1) := by decide +kernel
theorem dX1_copy_19 : decode cX1_copy 19 = .ok (.iconst 5, 1) := by decide +kernel
theorem dX1_copy_20 : decode cX1_copy 20 = .ok (.invokestatic 21, 3) := by decide +kernel
theorem dX1_copy_23 : decode cX1_copy 23 = .ok (.aload_n 0, 1) := by decide +kernel
theorem dX1_copy_24 : decode cX1_copy 24 = .ok (.getfield 15, 3) := by decide +kernel
theorem dX1_copy_27 : decode cX1_copy 27 = .ok (.iconst 0, 1) := by decide +kernel
theorem dX1_copy_28 : decode cX1_copy 28 = .ok (.aload_n 1, 1) := by decide +kernel
theorem dX1_copy_29 : decode cX1_copy 29 = .ok (.getfield 15, 3) := by decide +kernel
theorem dX1_copy_32 : decode cX1_copy 32 = .ok (.iconst 0, 1) := by decide +kernel
theorem dX1_copy_33 : decode cX1_copy 33 = .ok (.sipush 200, 3) := by decide +kernel
theorem dX1_copy_36 : decode cX1_copy 36 = .ok (.invokestatic 21, 3) := by decide +kernel
theorem dX1_copy_39 : decode cX1_copy 39 = .ok (.aload_n 1, 1) := by decide +kernel
theorem dX1_copy_40 : decode cX1_copy 40 = .ok (.aload_n 0, 1) := by decide +kernel
theorem dX1_copy_41 : decode cX1_copy 41 = .ok (.getfield 27, 3) := by decide +kernel
theorem dX1_copy_44 : decode cX1_copy 44 = .ok (.putfield 27, 3) := by decide +kernel
theorem dX1_copy_47 : decode cX1_copy 47 = .ok (.aload_n 1, 1) := by decide +kernel
theorem dX1_copy_48 : decode cX1_copy 48 = .ok (.aload_n 0, 1) := by decide +kernel
theorem dX1_copy_49 : decode cX1_copy 49 = .ok (.getfield 31, 3) := by decide +kernel
theorem dX1_copy_52 : decode cX1_copy 52 = .ok (.putfield 31, 3) := by decide +kernel
theorem dX1_copy_55 : decode cX1_copy 55 = .ok (.aload_n 1, 1) := by decide +kernel
theorem dX1_copy_56 : decode cX1_copy 56 = .ok (.aload_n 0, 1) := by decide +kernel
theorem dX1_copy_57 : decode cX1_copy 57 = .ok (.getfield 34, 3) := by decide +kernel
theorem dX1_copy_60 : decode cX1_copy 60 = .ok (.putfield 34, 3) := by decide +kernel
theorem dX1_copy_63 : decode cX1_copy 63 = .ok (.aload_n 1, 1) := by decide +kernel
theorem dX1_copy_64 : decode cX1_copy 64 = .ok (.aload_n 0, 1) := by decide +kernel
theorem dX1_copy_65 : decode cX1_copy 65 = .ok (.getfield 37, 3) := by decide +kernel
theorem dX1_copy_68 : decode cX1_copy 68 = .ok (.putfield 37, 3) := by decide +kernel
theorem dX1_copy_71 : decode cX1_copy 71 = .ok (.aload_n 1, 1) := by decide +kernel
theorem dX1_copy_72 : decode cX1_copy 72 = .ok (.aload_n 0, 1) := by decide +kernel
theorem dX1_copy_73 : decode cX1_copy 73 = .ok (.getfield 40, 3) := by decide +kernel
theorem dX1_copy_76 : decode cX1_copy 76 = .ok (.putfield 40, 3) := by decide +kernel
theorem dX1_copy_79 : decode cX1_copy 79 = .ok (.aload_n 1, 1) := by decide +kernel
theorem dX1_copy_80 : decode cX1_copy 80 = .ok (.aload_n 0, 1) := by decide +kernel
theorem dX1_copy_81 : decode cX1_copy 81 = .ok (.getfield 43, 3) := by decide +kernel
theorem dX1_copy_84 : decode cX1_copy 84 = .ok (.putfield 43, 3) := by decide +kernel
theorem dX1_copy_87 : decode cX1_copy 87 = .ok (.aload_n 1, 1) := by decide +kernel
theorem dX1_copy_88 : decode cX1_copy 88 = .ok (.aload_n 0, 1) := by decide +kernel
theorem dX1_copy_89 : decode cX1_copy 89 = .ok (.getfield 46, 3) := by decide +kernel
theorem dX1_copy_92 : decode cX1_copy 92 = .ok (.putfield 46, 3) := by decide +kernel
theorem dX1_copy_95 : decode cX1_copy 95 = .ok (.aload_n 1, 1) := by decide +kernel
theorem dX1_copy_96 : decode cX1_copy 96 = .ok (.aload_n 0, 1) := by decide +kernel
theorem dX1_copy_97 : decode cX1_copy 97 = .ok (.getfield 49, 3) := by decide +kernel
theorem dX1_copy_100 : decode cX1_copy 100 = .ok (.putfield 49, 3) := by decide +kernel
theorem dX1_copy_103 : decode cX1_copy 103 = .ok (.aload_n 1, 1) := by decide +kernel
theorem dX1_copy_104 : decode cX1_copy 104 = .ok (.aload_n 0, 1) := by decide +kernel
theorem dX1_copy_105 : decode cX1_copy 105 = .ok (.getfield 52, 3) := by decide +kernel
theorem dX1_copy_108 : decode cX1_copy 108 = .ok (.putfield 52, 3) := by decide +kernel
theorem dX1_copy_111 : decode cX1_copy 111 = .ok (.aload_n 1, 1) := by decide +kernel
theorem dX1_copy_112 : decode cX1_copy 112 = .ok (.aload_n 0, 1) := by decide +kernel
theorem dX1_copy_113 : decode cX1_copy 113 = .ok (.getfield 55, 3) := by decide +kernel
theorem dX1_copy_116 : decode cX1_copy 116 = .ok (.putfield 55, 3) := by decide +kernel
theorem dX1_copy_119 : decode cX1_copy 119 = .ok (.aload_n 1, 1) := by decide +kernel
theorem dX1_copy_120 : decode cX1_copy 120 = .ok (.aload_n 0, 1) := by decide +kernel
theorem dX1_copy_121 : decode cX1_copy 121 = .ok (.getfield 58, 3) := by decide +kernel
theorem dX1_copy_124 : decode cX1_copy 124 = .ok (.putfield 58, 3) := by decide +kernel
theorem dX1_copy_127 : decode cX1_copy 127 = .ok (.aload_n 1, 1) := by decide +kernel
theorem dX1_copy_128 : decode cX1_copy 128 = .ok (.aload_n 0, 1) := by decide +kernel
theorem dX1_copy_129 : decode cX1_copy 129 = .ok (.getfield 61, 3) := by decide +kernel
theorem dX1_copy_132 : decode cX1_copy 132 = .ok (.putfield 61, 3) := by decide +kernel
theorem dX1_copy_135 : decode cX1_copy 135 = .ok (.aload_n 1, 1) := by decide +kernel
theorem dX1_copy_136 : decode cX1_copy 136 = .ok (.aload_n 0, 1) := by decide +kernel
theorem dX1_copy_137 : decode cX1_copy 137 = .ok (.getfield 64, 3) := by decide +kernel
theorem dX1_copy_140 : decode cX1_copy 140 = .ok (.putfield 64, 3) := by decide +kernel
theorem dX1_copy_143 : decode cX1_copy 143 = .ok (.aload_n 1, 1) := by decide +kernel
theorem dX1_copy_144 : decode cX1_copy 144 = .ok (.aload_n 0, 1) := by decide +kernel
theorem dX1_copy_145 : decode cX1_copy 145 = .ok (.getfield 67, 3) := by decide +kernel
theorem dX1_copy_148 : decode cX1_copy 148 = .ok (.putfield 67, 3) := by decide +kernel
theorem dX1_copy_151 : decode cX1_copy 151 = .ok (.return_, 1) := by decide +kernel
theorem dX1_restart_0 : decode cX1_restart 0 = .ok (.aload_n 0, 1) := by decide +kernel
theorem dX1_restart_1 : decode cX1_restart 1 = .ok (.iconst 0, 1) := by decide +kernel
theorem dX1_restart_2 : decode cX1_restart 2 = .ok (.putfield 27, 3) := by decide +kernel
theorem dX1_restart_5 : decode cX1_restart 5 = .ok (.aload_n 0, 1) := by decide +kernel
theorem dX1_restart_6 : decode cX1_restart 6 = .ok (.iconst 0, 1) := by decide +kernel
theorem dX1_restart_7 : decode cX1_restart 7 = .ok (.putfield 31, 3) := by decide +kernel
theorem dX1_restart_10 : decode cX1_restart 10 = .ok (.aload_n 0, 1) := by decide +kernel
theorem dX1_restart_11 : decode cX1_restart 11 = .ok (.iconst 0, 1) := by decide +kernel
theorem dX1_restart_12 : decode cX1_restart 12 = .ok (.putfield 34, 3) := by decide +kernel
theorem dX1_restart_15 : decode cX1_restart 15 = .ok (.aload_n 0, 1) := by decide +kernel
theorem dX1_restart_16 : decode cX1_restart 16 = .ok (.iconst 0, 1) := by decide +kernel
theorem dX1_restart_17 : decode cX1_restart 17 = .ok (.putfield 37, 3) := by decide +kernel
theorem dX1_restart_20 : decode cX1_restart 20 = .ok (.aload_n 0, 1) := by decide +kernel
theorem dX1_restart_21 : decode cX1_restart 21 = .ok (.iconst 0, 1) := by decide +kernel
theorem dX1_restart_22 : decode cX1_restart 22 = .ok (.putfield 40, 3) := by decide +kernel
theorem dX1_restart_25 : decode cX1_restart 25 = .ok (.aload_n 0, 1) := by decide +kernel
theorem dX1_restart_26 : decode cX1_restart 26 = .ok (.iconst 0, 1) := by decide +kernel
theorem dX1_restart_27 : decode cX1_restart 27 = .ok (.putfield 43, 3) := by decide +kernel
theorem dX1_restart_30 : decode cX1_restart 30 = .ok (.aload_n 0, 1) := by decide +kernel
theorem dX1_restart_31 : decode cX1_restart 31 = .ok (.iconst 0, 1) := by decide +kernel
theorem dX1_restart_32 : decode cX1_restart 32 = .ok (.putfield 46, 3) := by decide +kernel
theorem dX1_restart_35 : decode cX1_restart 35 = .ok (.aload_n 0, 1) := by decide +kernel
theorem dX1_restart_36 : decode cX1_restart 36 = .ok (.iconst 0, 1) := by decide +kernel
theorem dX1_restart_37 : decode cX1_restart 37 = .ok (.putfield 49, 3) := by decide +kernel
theorem dX1_restart_40 : decode cX1_restart 40 = .ok (.aload_n 0, 1) := by decide +kernel
theorem dX1_restart_41 : decode cX1_restart 41 = .ok (.iconst 0, 1) := by decide +kernel
theorem dX1_restart_42 : decode cX1_restart 42 = .ok (.putfield 52, 3) := by decide +kernel
theorem dX1_restart_45 : decode cX1_restart 45 = .ok (.aload_n 0, 1) := by decide +kernel
theorem dX1_restart_46 : decode cX1_restart 46 = .ok (.iconst 0, 1) := by decide +kernel
theorem dX1_restart_47 : decode cX1_restart 47 = .ok (.putfield 55, 3) := by decide +kernel
theorem dX1_restart_50 : decode cX1_restart 50 = .ok (.aload_n 0, 1) := by decide +kernel
theorem dX1_restart_51 : decode cX1_restart 51 = .ok (.iconst 0, 1) := by decide +kernel
theorem dX1_restart_52 : decode cX1_restart 52 = .ok (.putfield 58, 3) := by decide +kernel
theorem dX1_restart_55 : decode cX1_restart 55 = .ok (.aload_n 0, 1) := by decide +kernel
theorem dX1_restart_56 : decode cX1_restart 56 = .ok (.iconst 0, 1) := by decide +kernel
theorem dX1_restart_57 : decode cX1_restart 57 = .ok (.putfield 61, 3) := by decide +kernel
theorem dX1_restart_60 : decode cX1_restart 60 = .ok (.aload_n 0, 1) := by decide +kernel
theorem dX1_restart_61 : decode cX1_restart 61 = .ok (.iconst 0, 1) := by decide +kernel
theorem dX1_restart_62 : decode cX1_restart 62 = .ok (.putfield 64, 3) := by decide +kernel
theorem dX1_restart_65 : decode cX1_restart 65 = .ok (.aload_n 0, 1) := by decide +kernel
theorem dX1_restart_66 : decode cX1_restart 66 = .ok (.iconst 0, 1) := by decide +kernel
theorem dX1_restart_67 : decode cX1_restart 67 = .ok (.putfield 67, 3) := by decide +kernel
theorem dX1_restart_70 : decode cX1_restart 70 = .ok (.return_, 1) := by decide +kernel
set_option maxRecDepth 20000 in
theorem ggX1_follow_X1_restart : GoodIn wsX1_follow wsX1_restart := goodIn_r _ [10, 11, 12, 13, 14, 15, 16, 17, 18, 19, 20, 21, 22, 23, 24, 80, 81, 82, 83, 84, 85, 86, 87, 88, 89, 90, 91, 92, 93, 94, 95] (by decide +kernel) (by decide +kernel)
set_option maxRecDepth 20000 in
theorem gX1_follow_X1_restart : GoodIn wsX1_follow (wsV RX1 70 RX1 yX1_restart wsX1_restart) := goodIn_app (goodIn_of _ (by decide +kernel)) ggX1_follow_X1_restart
set_option maxRecDepth 20000 in
theorem ggX1_follow_X1_logged : GoodIn wsX1_follow wsX1_logged := goodIn_r _ [28, 11, 29, 30, 31, 32, 80, 81, 82, 83, 84, 85, 86, 87, 88, 89, 90, 91, 92, 93, 94, 95] (by decide +kernel) (by decide +kernel)
set_option maxRecDepth 20000 in
theorem gX1_follow_X1_logged : GoodIn wsX1_follow (wsV RX1 73 RX1 yX1_logged wsX1_logged) := goodIn_app (goodIn_of _ (by decide +kernel)) ggX1_follow_X1_logged
set_option maxRecDepth 20000 in
theorem ggX1_follow_X1_pairAt : GoodIn wsX1_follow wsX1_pairAt := goodIn_r _ [36, 37, 38, 39, 9, 40, 11, 41, 42, 43, 44, 45, 25, 26, 27, 28, 29, 30, 31, 32, 80, 81, 82, 83, 84, 85, 86, 87, 88, 89, 90, 91, 92, 93, 94, 95] (by decide +kernel) (by decide +kernel)
set_option maxRecDepth 20000 in
theorem gX1_follow_X1_pairAt : GoodIn wsX1_follow (wsV RX1 77 RX1 yX1_pairAt wsX1_pairAt) := goodIn_app (goodIn_of _ (by decide +kernel)) ggX1_follow_X1_pairAt
set_option maxRecDepth 20000 in
theorem ggX1_follow_X1_indexAt : GoodIn wsX1_follow wsX1_indexAt := goodIn_r _ [49, 37, 38, 39, 9, 40, 11, 41, 42, 43, 44, 45, 25, 26, 27, 28, 29, 30, 31, 32, 80, 81, 82, 83, 84, 85, 86, 87, 88, 89, 90, 91, 92, 93, 94, 95] (by decide +kernel) (by decide +kernel)
set_option maxRecDepth 20000 in
theorem gX1_follow_X1_indexAt : GoodIn wsX1_follow (wsV RX1 81 RX1 yX1_indexAt wsX1_indexAt) := goodIn_app (goodIn_of _ (by decide +kernel)) ggX1_follow_X1_indexAt
set_option maxRecDepth 20000 in
theorem ggX1_follow_X1_tick : GoodIn wsX1_follow wsX1_tick := goodIn_r _ [53, 16, 17, 15, 14, 21, 11, 41, 54, 55, 56, 9, 57, 58, 59, 60, 61, 62, 63, 64, 65, 1, 66, 67, 68, 69, 70, 71, 72, 19, 20, 12, 13, 18, 23, 24, 73, 74, 75, 76, 77, 78, 79, 22, 80, 81, 82, 83, 84, 85, 86, 87, 88, 89, 90, 91, 92, 93, 94, 95] (by decide +kernel) (by decide +kernel)
set_option maxRecDepth 20000 in
theorem gX1_follow_X1_tick : GoodIn wsX1_follow (wsV RX1 84 RX1 yX1_tick wsX1_tick) := goodIn_app (goodIn_of _ (by decide +kernel)) ggX1_follow_X1_tick
theorem dX1_follow_0 : decode cX1_follow 0 = .ok (.aload_n 1, 1) := by decide +kernel
theorem dX1_follow_1 : decode cX1_follow 1 = .ok (.ifnonnull 4, 3) := by decide +kernel
theorem dX1_follow_4 : decode cX1_follow 4 = .ok (.return_, 1) := by decide +kernel
theorem dX1_follow_5 : decode cX1_follow 5 = .ok (.aload_n 0, 1) := by decide +kernel
theorem dX1_follow_6 : decode cX1_follow 6 = .ok (.invokevirtual 70, 3) := by decide +kernel
theorem dX1_follow_9 : decode cX1_follow 9 = .ok (.aload_n 1, 1) := by decide +kernel
theorem dX1_follow_10 : decode cX1_follow 10 = .ok (.getfield 9, 3) := by decide +kernel
theorem dX1_follow_13 : decode cX1_follow 13 = .ok (.iconst 0, 1) := by decide +kernel
theorem dX1_follow_14 : decode cX1_follow 14 = .ok (.aload_n 0, 1) := by decide +kernel
theorem dX1_follow_15 : decode cX1_follow 15 = .ok (.getfield 9, 3) := by decide +kernel
theorem dX1_follow_18 : decode cX1_follow 18 = .ok (.iconst 0, 1) := by decide +kernel
theorem dX1_follow_19 : decode cX1_follow 19 = .ok (.iconst 5, 1) := by decide +kernel
theorem dX1_follow_20 : decode cX1_follow 20 = .ok (.invokestatic 21, 3) := by decide +kernel
theorem dX1_follow_23 : decode cX1_follow 23 = .ok (.aload_n 0, 1) := by decide +kernel
theorem dX1_follow_24 : decode cX1_follow 24 = .ok (.getfield 9, 3) := by decide +kernel
theorem dX1_follow_27 : decode cX1_follow 27 = .ok (.iconst 2, 1) := by decide +kernel
theorem dX1_follow_28 : decode cX1_follow 28 = .ok (.iload_n 2, 1) := by decide +kernel
theorem dX1_follow_29 : decode cX1_follow 29 = .ok (.iastore, 1) := by decide +kernel
theorem dX1_follow_30 : decode cX1_follow 30 = .ok (.aload_n 1, 1) := by decide +kernel
theorem dX1_follow_31 : decode cX1_follow 31 = .ok (.invokevirtual 73, 3) := by decide +kernel
theorem dX1_follow_34 : decode cX1_follow 34 = .ok (.iconst 1, 1) := by decide +kernel
theorem dX1_follow_35 : decode cX1_follow 35 = .ok (.isub, 1) := by decide +kernel
theorem dX1_follow_36 : decode cX1_follow 36 = .ok (.istore_n 3, 1) := by decide +kernel
theorem dX1_follow_37 : decode cX1_follow 37 = .ok (.iload_n 3, 1) := by decide +kernel
theorem dX1_follow_38 : decode cX1_follow 38 = .ok (.ifCond .lt 24, 3) := by decide +kernel
theorem dX1_follow_41 : decode cX1_follow 41 = .ok (.aload_n 0, 1) := by decide +kernel
theorem dX1_follow_42 : decode cX1_follow 42 = .ok (.aload_n 1, 1) := by decide +kernel
theorem dX1_follow_43 : decode cX1_follow 43 = .ok (.iload_n 3, 1) := by decide +kernel
theorem dX1_follow_44 : decode cX1_follow 44 = .ok (.invokevirtual 77, 3) := by decide +kernel
theorem dX1_follow_47 : decode cX1_follow 47 = .ok (.aload_n 1, 1) := by decide +kernel
theorem dX1_follow_48 : decode cX1_follow 48 = .ok (.iload_n 3, 1) := by decide +kernel
theorem dX1_follow_49 : decode cX1_follow 49 = .ok (.invokevirtual 81, 3) := by decide +kernel
theorem dX1_follow_52 : decode cX1_follow 52 = .ok (.invokevirtual 84, 3) := by decide +kernel
theorem dX1_follow_55 : decode cX1_follow 55 = .ok (.pop, 1) := by decide +kernel
theorem dX1_follow_56 : decode cX1_follow 56 = .ok (.iinc 3 (-1), 3) := by decide +kernel
theorem dX1_follow_59 : decode cX1_follow 59 = .ok (.goto (-22), 3) := by decide +kernel
theorem dX1_follow_62 : decode cX1_follow 62 = .ok (.return_, 1) := by decide +kernel
theorem dX1_setting_0 : decode cX1_setting 0 = .ok (.iload_n 1, 1) := by decide +kernel
theorem dX1_setting_1 : decode cX1_setting 1 = .ok (.ifCond .lt 17, 3) := by decide +kernel
theorem dX1_setting_4 : decode cX1_setting 4 = .ok (.iload_n 1, 1) := by decide +kernel
theorem dX1_setting_5 : decode cX1_setting 5 = .ok (.iconst 5, 1) := by decide +kernel
theorem dX1_setting_6 : decode cX1_setting 6 = .ok (.if_icmp .ge 12, 3) := by decide +kernel
theorem dX1_setting_9 : decode cX1_setting 9 = .ok (.aload_n 0, 1) := by decide +kernel
theorem dX1_setting_10 : decode cX1_setting 10 = .ok (.getfield 9, 3) := by decide +kernel
theorem dX1_setting_13 : decode cX1_setting 13 = .ok (.iload_n 1, 1) := by decide +kernel
theorem dX1_setting_14 : decode cX1_setting 14 = .ok (.iaload, 1) := by decide +kernel
theorem dX1_setting_15 : decode cX1_setting 15 = .ok (.goto 4, 3) := by decide +kernel
theorem dX1_setting_18 : decode cX1_setting 18 = .ok (.iconst 0, 1) := by decide +kernel
theorem dX1_setting_19 : decode cX1_setting 19 = .ok (.ireturn, 1) := by decide +kernel
set_option maxRecDepth 20000 in
theorem ggX1_adjust_X1_leftOver : GoodIn wsX1_adjust wsX1_leftOver := goodIn_r _ [7] (by decide +kernel) (by decide +kernel)
set_option maxRecDepth 20000 in
theorem gX1_adjust_X1_leftOver : GoodIn wsX1_adjust (va_wsS RX1 94 yX1_leftOver wsX1_leftOver) := goodIn_app (goodIn_of _ (by decide +kernel)) ggX1_adjust_X1_leftOver
theorem dX1_adjust_0 : decode cX1_adjust 0 = .ok (.iload_n 1, 1) := by decide +kernel
theorem dX1_adjust_1 : decode cX1_adjust 1 = .ok (.ifCond .lt 8, 3) := by decide +kernel
theorem dX1_adjust_4 : decode cX1_adjust 4 = .ok (.iload_n 1, 1) := by decide +kernel
theorem dX1_adjust_5 : decode cX1_adjust 5 = .ok (.iconst 5, 1) := by decide +kernel
theorem dX1_adjust_6 : decode cX1_adjust 6 = .ok (.if_icmp .lt 6, 3) := by decide +kernel
theorem dX1_adjust_9 : decode cX1_adjust 9 = .ok (.bipush (-2), 2) := by decide +kernel
theorem dX1_adjust_11 : decode cX1_adjust 11 = .ok (.ireturn, 1) := by decide +kernel
theorem dX1_adjust_12 : decode cX1_adjust 12 = .ok (.iload_n 2, 1) := by decide +kernel
theorem dX1_adjust_13 : decode cX1_adjust 13 = .ok (.getstatic 88, 3) := by decide +kernel
theorem dX1_adjust_16 : decode cX1_adjust 16 = .ok (.iload_n 1, 1) := by decide +kernel
theorem dX1_adjust_17 : decode cX1_adjust 17 = .ok (.iaload, 1) := by decide +kernel
theorem dX1_adjust_18 : decode cX1_adjust 18 = .ok (.if_icmp .lt 12, 3) := by decide +kernel
theorem dX1_adjust_21 : decode cX1_adjust 21 = .ok (.iload_n 2, 1) := by decide +kernel
theorem dX1_adjust_22 : decode cX1_adjust 22 = .ok (.getstatic 91, 3) := by decide +kernel
theorem dX1_adjust_25 : decode cX1_adjust 25 = .ok (.iload_n 1, 1) := by decide +kernel
theorem dX1_adjust_26 : decode cX1_adjust 26 = .ok (.iaload, 1) := by decide +kernel
theorem dX1_adjust_27 : decode cX1_adjust 27 = .ok (.if_icmp .le 6, 3) := by decide +kernel
theorem dX1_adjust_30 : decode cX1_adjust 30 = .ok (.bipush (-2), 2) := by decide +kernel
theorem dX1_adjust_32 : decode cX1_adjust 32 = .ok (.ireturn, 1) := by decide +kernel
theorem dX1_adjust_33 : decode cX1_adjust 33 = .ok (.iload_n 1, 1) := by decide +kernel
theorem dX1_adjust_34 : decode cX1_adjust 34 = .ok (.ifCond .ne 12, 3) := by decide +kernel
theorem dX1_adjust_37 : decode cX1_adjust 37 = .ok (.iload_n 2, 1) := by decide +kernel
theorem dX1_adjust_38 : decode cX1_adjust 38 = .ok (.iconst 4, 1) := by decide +kernel
theorem dX1_adjust_39 : decode cX1_adjust 39 = .ok (.irem, 1) := by decide +kernel
theorem dX1_adjust_40 : decode cX1_adjust 40 = .ok (.ifCond .eq 6, 3) := by decide +kernel
theorem dX1_adjust_43 : decode cX1_adjust 43 = .ok (.bipush (-2), 2) := by decide +kernel
theorem dX1_adjust_45 : decode cX1_adjust 45 = .ok (.ireturn, 1) := by decide +kernel
theorem dX1_adjust_46 : decode cX1_adjust 46 = .ok (.aload_n 0, 1) := by decide +kernel
theorem dX1_adjust_47 : decode cX1_adjust 47 = .ok (.getfield 9, 3) := by decide +kernel
theorem dX1_adjust_50 : decode cX1_adjust 50 = .ok (.iload_n 1, 1) := by decide +kernel
theorem dX1_adjust_51 : decode cX1_adjust 51 = .ok (.iaload, 1) := by decide +kernel
theorem dX1_adjust_52 : decode cX1_adjust 52 = .ok (.istore_n 3, 1) := by decide +kernel
theorem dX1_adjust_53 : decode cX1_adjust 53 = .ok (.aload_n 0, 1) := by decide +kernel
theorem dX1_adjust_54 : decode cX1_adjust 54 = .ok (.getfield 9, 3) := by decide +kernel
theorem dX1_adjust_57 : decode cX1_adjust 57 = .ok (.iload_n 1, 1) := by decide +kernel
theorem dX1_adjust_58 : decode cX1_adjust 58 = .ok (.iload_n 2, 1) := by decide +kernel
theorem dX1_adjust_59 : decode cX1_adjust 59 = .ok (.iastore, 1) := by decide +kernel
theorem dX1_adjust_60 : decode cX1_adjust 60 = .ok (.iload_n 1, 1) := by decide +kernel
theorem dX1_adjust_61 : decode cX1_adjust 61 = .ok (.ifCond .ne 15, 3) := by decide +kernel
theorem dX1_adjust_64 : decode cX1_adjust 64 = .ok (.aload_n 0, 1) := by decide +kernel
theorem dX1_adjust_65 : decode cX1_adjust 65 = .ok (.aload_n 0, 1) := by decide +kernel
theorem dX1_adjust_66 : decode cX1_adjust 66 = .ok (.getfield 34, 3) := by decide +kernel
theorem dX1_adjust_69 : decode cX1_adjust 69 = .ok (.iload_n 2, 1) := by decide +kernel
theorem dX1_adjust_70 : decode cX1_adjust 70 = .ok (.invokestatic 94, 3) := by decide +kernel
theorem dX1_adjust_73 : decode cX1_adjust 73 = .ok (.putfield 34, 3) := by decide +kernel
theorem dX1_adjust_76 : decode cX1_adjust 76 = .ok (.iload_n 1, 1) := by decide +kernel
theorem dX1_adjust_77 : decode cX1_adjust 77 = .ok (.iconst 1, 1) := by decide +kernel
theorem dX1_adjust_78 : decode cX1_adjust 78 = .ok (.if_icmp .ne 15, 3) := by decide +kernel
theorem dX1_adjust_81 : decode cX1_adjust 81 = .ok (.aload_n 0, 1) := by decide +kernel
theorem dX1_adjust_82 : decode cX1_adjust 82 = .ok (.aload_n 0, 1) := by decide +kernel
theorem dX1_adjust_83 : decode cX1_adjust 83 = .ok (.getfield 31, 3) := by decide +kernel
theorem dX1_adjust_86 : decode cX1_adjust 86 = .ok (.iload_n 2, 1) := by decide +kernel
theorem dX1_adjust_87 : decode cX1_adjust 87 = .ok (.invokestatic 94, 3) := by decide +kernel
theorem dX1_adjust_90 : decode cX1_adjust 90 = .ok (.putfield 31, 3) := by decide +kernel
theorem dX1_adjust_93 : decode cX1_adjust 93 = .ok (.iload_n 3, 1) := by decide +kernel
theorem dX1_adjust_94 : decode cX1_adjust 94 = .ok (.ireturn, 1) := by decide +kernel
set_option maxRecDepth 20000 in
theorem ggX1_pass_X1_tick : GoodIn wsX1_pass wsX1_tick := goodIn_r _ [7, 8, 9, 10, 11, 12, 2, 13, 14, 15, 16, 6, 17, 18, 19, 20, 21, 22, 23, 24, 25, 26, 27, 28, 29, 30, 31, 32, 33, 34, 35, 36, 37, 38, 39, 40, 41, 42, 43, 44, 45, 46, 47, 48, 49, 50, 51, 52, 53, 54, 55, 56, 57, 58, 59, 60, 61, 62, 63, 64] (by decide +kernel) (by decide +kernel)
set_option maxRecDepth 20000 in
theorem gX1_pass_X1_tick : GoodIn wsX1_pass (wsV RX1 84 RX1 yX1_tick wsX1_tick) := goodIn_app (goodIn_of _ (by decide +kernel)) ggX1_pass_X1_tick
theorem dX1_pass_0 : decode cX1_pass 0 = .ok (.iload_n 1, 1) := by decide +kernel
theorem dX1_pass_1 : decode cX1_pass 1 = .ok (.ifCond .lt 28, 3) := by decide +kernel
theorem dX1_pass_4 : decode cX1_pass 4 = .ok (.iload_n 1, 1) := by decide +kernel
theorem dX1_pass_5 : decode cX1_pass 5 = .ok (.iconst 3, 1) := by decide +kernel
theorem dX1_pass_6 : decode cX1_pass 6 = .ok (.if_icmp .gt 23, 3) := by decide +kernel
theorem dX1_pass_9 : decode cX1_pass 9 = .ok (.iload_n 2, 1) := by decide +kernel
theorem dX1_pass_10 : decode cX1_pass 10 = .ok (.ifCond .lt 19, 3) := by decide +kernel
theorem dX1_pass_13 : decode cX1_pass 13 = .ok (.iload_n 2, 1) := by decide +kernel
theorem dX1_pass_14 : decode cX1_pass 14 = .ok (.iconst 1, 1) := by decide +kernel
theorem dX1_pass_15 : decode cX1_pass 15 = .ok (.if_icmp .gt 14, 3) := by decide +kernel
theorem dX1_pass_18 : decode cX1_pass 18 = .ok (.iload_n 3, 1) := by decide +kernel
theorem dX1_pass_19 : decode cX1_pass 19 = .ok (.iconst 1, 1) := by decide +kernel
theorem dX1_pass_20 : decode cX1_pass 20 = .ok (.if_icmp .lt 9, 3) := by decide +kernel
theorem dX1_pass_23 : decode cX1_pass 23 = .ok (.iload_n 3, 1) := by decide +kernel
theorem dX1_pass_24 : decode cX1_pass 24 = .ok (.bipush 99, 2) := by decide +kernel
theorem dX1_pass_26 : decode cX1_pass 26 = .ok (.if_icmp .le 6, 3) := by decide +kernel
theorem dX1_pass_29 : decode cX1_pass 29 = .ok (.bipush (-2), 2) := by decide +kernel
theorem dX1_pass_31 : decode cX1_pass 31 = .ok (.ireturn, 1) := by decide +kernel
theorem dX1_pass_32 : decode cX1_pass 32 = .ok (.iload_n 3, 1) := by decide +kernel
theorem dX1_pass_33 : decode cX1_pass 33 = .ok (.ldc 97, 2) := by decide +kernel
theorem dX1_pass_35 : decode cX1_pass 35 = .ok (.aload_n 0, 1) := by decide +kernel
theorem dX1_pass_36 : decode cX1_pass 36 = .ok (.getfield 27, 3) := by decide +kernel
theorem dX1_pass_39 : decode cX1_pass 39 = .ok (.isub, 1) := by decide +kernel
theorem dX1_pass_40 : decode cX1_pass 40 = .ok (.if_icmp .le 6, 3) := by decide +kernel
theorem dX1_pass_43 : decode cX1_pass 43 = .ok (.bipush (-5), 2) := by decide +kernel
theorem dX1_pass_45 : decode cX1_pass 45 = .ok (.ireturn, 1) := by decide +kernel
theorem dX1_pass_46 : decode cX1_pass 46 = .ok (.iconst 0, 1) := by decide +kernel
theorem dX1_pass_47 : decode cX1_pass 47 = .ok (.istore 4, 2) := by decide +kernel
theorem dX1_pass_49 : decode cX1_pass 49 = .ok (.iconst 0, 1) := by decide +kernel
theorem dX1_pass_50 : decode cX1_pass 50 = .ok (.istore 5, 2) := by decide +kernel
theorem dX1_pass_52 : decode cX1_pass 52 = .ok (.iload 5, 2) := by decide +kernel
theorem dX1_pass_54 : decode cX1_pass 54 = .ok (.iload_n 3, 1) := by decide +kernel
theorem dX1_pass_55 : decode cX1_pass 55 = .ok (.if_icmp .ge 32, 3) := by decide +kernel
theorem dX1_pass_58 : decode cX1_pass 58 = .ok (.aload_n 0, 1) := by decide +kernel
theorem dX1_pass_59 : decode cX1_pass 59 = .ok (.iload_n 1, 1) := by decide +kernel
theorem dX1_pass_60 : decode cX1_pass 60 = .ok (.iload_n 2, 1) := by decide +kernel
theorem dX1_pass_61 : decode cX1_pass 61 = .ok (.invokevirtual 84, 3) := by decide +kernel
theorem dX1_pass_64 : decode cX1_pass 64 = .ok (.istore 6, 2) := by decide +kernel
theorem dX1_pass_66 : decode cX1_pass 66 = .ok (.iload 6, 2) := by decide +kernel
theorem dX1_pass_68 : decode cX1_pass 68 = .ok (.iconst 1, 1) := by decide +kernel
theorem dX1_pass_69 : decode cX1_pass 69 = .ok (.if_icmp .eq 9, 3) := by decide +kernel
theorem dX1_pass_72 : decode cX1_pass 72 = .ok (.iload 6, 2) := by decide +kernel
theorem dX1_pass_74 : decode cX1_pass 74 = .ok (.iconst 2, 1) := by decide +kernel
theorem dX1_pass_75 : decode cX1_pass 75 = .ok (.if_icmp .ne 6, 3) := by decide +kernel
theorem dX1_pass_78 : decode cX1_pass 78 = .ok (.iinc 4 1, 3) := by decide +kernel
theorem dX1_pass_81 : decode cX1_pass 81 = .ok (.iinc 5 1, 3) := by decide +kernel
theorem dX1_pass_84 : decode cX1_pass 84 = .ok (.goto (-32), 3) := by decide +kernel
theorem dX1_pass_87 : decode cX1_pass 87 = .ok (.iload 4, 2) := by decide +kernel
theorem dX1_pass_89 : decode cX1_pass 89 = .ok (.ireturn, 1) := by decide +kernel
set_option maxRecDepth 20000 in
theorem ggX1_revolve_X1_setting : GoodIn wsX1_revolve wsX1_setting := goodIn_r _ [13, 14, 56, 57, 58, 59, 60, 61, 62, 63, 64, 65, 66, 67, 68, 69, 70, 71] (by decide +kernel) (by decide +kernel)
set_option maxRecDepth 20000 in
theorem gX1_revolve_X1_setting : GoodIn wsX1_revolve (wsV RX1 103 RX1 yX1_setting wsX1_setting) := goodIn_app (goodIn_of _ (by decide +kernel)) ggX1_revolve_X1_setting
set_option maxRecDepth 20000 in
theorem ggX1_revolve_X1_orderOf : GoodIn wsX1_revolve wsX1_orderOf := goodIn_r _ [17] (by decide +kernel) (by decide +kernel)
set_option maxRecDepth 20000 in
theorem gX1_revolve_X1_orderOf : GoodIn wsX1_revolve (va_wsS RX1 106 yX1_orderOf wsX1_orderOf) := goodIn_app (goodIn_of _ (by decide +kernel)) ggX1_revolve_X1_orderOf
set_option maxRecDepth 20000 in
theorem ggX1_revolve_X1_pairAlong : GoodIn wsX1_revolve wsX1_pairAlong := goodIn_r _ [20] (by decide +kernel) (by decide +kernel)
set_option maxRecDepth 20000 in
theorem gX1_revolve_X1_pairAlong : GoodIn wsX1_revolve (va_wsS RX1 109 yX1_pairAlong wsX1_pairAlong) := goodIn_app (goodIn_of _ (by decide +kernel)) ggX1_revolve_X1_pairAlong
set_option maxRecDepth 20000 in
theorem ggX1_revolve_X1_tick : GoodIn wsX1_revolve wsX1_tick := goodIn_r _ [24, 25, 26, 27, 7, 28, 6, 29, 30, 31, 32, 12, 33, 34, 35, 36, 37, 9, 10, 11, 13, 14, 15, 16, 17, 38, 39, 40, 41, 42, 43, 8, 44, 45, 46, 47, 48, 49, 50, 51, 52, 53, 54, 55, 56, 57, 58, 59, 60, 61, 62, 63, 64, 65, 66, 67, 68, 69, 70, 71] (by decide +kernel) (by decide +kernel)
set_option maxRecDepth 20000 in
theorem gX1_revolve_X1_tick : GoodIn wsX1_revolve (wsV RX1 84 RX1 yX1_tick wsX1_tick) := goodIn_app (goodIn_of _ (by decide +kernel)) ggX1_revolve_X1_tick
theorem dX1_revolve_0 : decode cX1_revolve 0 = .ok (.iload_n 1, 1) := by decide +kernel
theorem dX1_revolve_1 : decode cX1_revolve 1 = .ok (.ifCond .eq 15, 3) := by decide +kernel
theorem dX1_revolve_4 : decode cX1_revolve 4 = .ok (.iload_n 1, 1) := by decide +kernel
theorem dX1_revolve_5 : decode cX1_revolve 5 = .ok (.bipush (-99), 2) := by decide +kernel
theorem dX1_revolve_7 : decode cX1_revolve 7 = .ok (.if_icmp .lt 9, 3) := by decide +kernel
theorem dX1_revolve_10 : decode cX1_revolve 10 = .ok (.iload_n 1, 1) := by decide +kernel
theorem dX1_revolve_11 : decode cX1_revolve 11 = .ok (.bipush 99, 2) := by decide +kernel
theorem dX1_revolve_13 : decode cX1_revolve 13 = .ok (.if_icmp .le 6, 3) := by decide +kernel
theorem dX1_revolve_16 : decode cX1_revolve 16 = .ok (.bipush (-2), 2) := by decide +kernel
theorem dX1_revolve_18 : decode cX1_revolve 18 = .ok (.ireturn, 1) := by decide +kernel
theorem dX1_revolve_19 : decode cX1_revolve 19 = .ok (.iload_n 1, 1) := by decide +kernel
theorem dX1_revolve_20 : decode cX1_revolve 20 = .ok (.invokestatic 98, 3) := by decide +kernel
theorem dX1_revolve_23 : decode cX1_revolve 23 = .ok (.istore_n 2, 1) := by decide +kernel
theorem dX1_revolve_24 : decode cX1_revolve 24 = .ok (.aload_n 0, 1) := by decide +kernel
theorem dX1_revolve_25 : decode cX1_revolve 25 = .ok (.iconst 2, 1) := by decide +kernel
theorem dX1_revolve_26 : decode cX1_revolve 26 = .ok (.invokevirtual 103, 3) := by decide +kernel
theorem dX1_revolve_29 : decode cX1_revolve 29 = .ok (.istore_n 3, 1) := by decide +kernel
theorem dX1_revolve_30 : decode cX1_revolve 30 = .ok (.iload_n 2, 1) := by decide +kernel
theorem dX1_revolve_31 : decode cX1_revolve 31 = .ok (.iload_n 3, 1) := by decide +kernel
theorem dX1_revolve_32 : decode cX1_revolve 32 = .ok (.imul, 1) := by decide +kernel
theorem dX1_revolve_33 : decode cX1_revolve 33 = .ok (.ldc 97, 2) := by decide +kernel
theorem dX1_revolve_35 : decode cX1_revolve 35 = .ok (.aload_n 0, 1) := by decide +kernel
theorem dX1_revolve_36 : decode cX1_revolve 36 = .ok (.getfield 27, 3) := by decide +kernel
theorem dX1_revolve_39 : decode cX1_revolve 39 = .ok (.isub, 1) := by decide +kernel
theorem dX1_revolve_40 : decode cX1_revolve 40 = .ok (.if_icmp .le 6, 3) := by decide +kernel
theorem dX1_revolve_43 : decode cX1_revolve 43 = .ok (.bipush (-5), 2) := by decide +kernel
theorem dX1_revolve_45 : decode cX1_revolve 45 = .ok (.ireturn, 1) := by decide +kernel
theorem dX1_revolve_46 : decode cX1_revolve 46 = .ok (.iload_n 1, 1) := by decide +kernel
theorem dX1_revolve_47 : decode cX1_revolve 47 = .ok (.ifCond .le 7, 3) := by decide +kernel
theorem dX1_revolve_50 : decode cX1_revolve 50 = .ok (.iconst 1, 1) := by decide +kernel
theorem dX1_revolve_51 : decode cX1_revolve 51 = .ok (.goto 4, 3) := by decide +kernel
theorem dX1_revolve_54 : decode cX1_revolve 54 = .ok (.iconst (-1), 1) := by decide +kernel
theorem dX1_revolve_55 : decode cX1_revolve 55 = .ok (.istore 4, 2) := by decide +kernel
theorem dX1_revolve_57 : decode cX1_revolve 57 = .ok (.iconst 0, 1) := by decide +kernel
theorem dX1_revolve_58 : decode cX1_revolve 58 = .ok (.istore 5, 2) := by decide +kernel
theorem dX1_revolve_60 : decode cX1_revolve 60 = .ok (.iload 5, 2) := by decide +kernel
theorem dX1_revolve_62 : decode cX1_revolve 62 = .ok (.iload_n 2, 1) := by decide +kernel
theorem dX1_revolve_63 : decode cX1_revolve 63 = .ok (.if_icmp .ge 47, 3) := by decide +kernel
theorem dX1_revolve_66 : decode cX1_revolve 66 = .ok (.aload_n 0, 1) := by decide +kernel
theorem dX1_revolve_67 : decode cX1_revolve 67 = .ok (.getfield 37, 3) := by decide +kernel
theorem dX1_revolve_70 : decode cX1_revolve 70 = .ok (.invokestatic 106, 3) := by decide +kernel
theorem dX1_revolve_73 : decode cX1_revolve 73 = .ok (.iload 4, 2) := by decide +kernel
theorem dX1_revolve_75 : decode cX1_revolve 75 = .ok (.iadd, 1) := by decide +kernel
theorem dX1_revolve_76 : decode cX1_revolve 76 = .ok (.invokestatic 109, 3) := by decide +kernel
theorem dX1_revolve_79 : decode cX1_revolve 79 = .ok (.istore 6, 2) := by decide +kernel
theorem dX1_revolve_81 : decode cX1_revolve 81 = .ok (.iconst 0, 1) := by decide +kernel
theorem dX1_revolve_82 : decode cX1_revolve 82 = .ok (.istore 7, 2) := by decide +kernel
theorem dX1_revolve_84 : decode cX1_revolve 84 = .ok (.iload 7, 2) := by decide +kernel
theorem dX1_revolve_86 : decode cX1_revolve 86 = .ok (.iload_n 3, 1) := by decide +kernel
theorem dX1_revolve_87 : decode cX1_revolve 87 = .ok (.if_icmp .ge 17, 3) := by decide +kernel
theorem dX1_revolve_90 : decode cX1_revolve 90 = .ok (.aload_n 0, 1) := by decide +kernel
theorem dX1_revolve_91 : decode cX1_revolve 91 = .ok (.iload 6, 2) := by decide +kernel
theorem dX1_revolve_93 : decode cX1_revolve 93 = .ok (.iconst 0, 1) := by decide +kernel
theorem dX1_revolve_94 : decode cX1_revolve 94 = .ok (.invokevirtual 84, 3) := by decide +kernel
theorem dX1_revolve_97 : decode cX1_revolve 97 = .ok (.pop, 1) := by decide +kernel
theorem dX1_revolve_98 : decode cX1_revolve 98 = .ok (.iinc 7 1, 3) := by decide +kernel
theorem dX1_revolve_101 : decode cX1_revolve 101 = .ok (.goto (-17), 3) := by decide +kernel
theorem dX1_revolve_104 : decode cX1_revolve 104 = .ok (.iinc 5 1, 3) := by decide +kernel
theorem dX1_revolve_107 : decode cX1_revolve 107 = .ok (.goto (-47), 3) := by decide +kernel
theorem dX1_revolve_110 : decode cX1_revolve 110 = .ok (.aload_n 0, 1) := by decide +kernel
theorem dX1_revolve_111 : decode cX1_revolve 111 = .ok (.getfield 31, 3) := by decide +kernel
theorem dX1_revolve_114 : decode cX1_revolve 114 = .ok (.ireturn, 1) := by decide +kernel
theorem dX1_clear_0 : decode cX1_clear 0 = .ok (.aload_n 0, 1) := by decide +kernel
theorem dX1_clear_1 : decode cX1_clear 1 = .ok (.getfield 31, 3) := by decide +kernel
theorem dX1_clear_4 : decode cX1_clear 4 = .ok (.istore_n 1, 1) := by decide +kernel
theorem dX1_clear_5 : decode cX1_clear 5 = .ok (.aload_n 0, 1) := by decide +kernel
theorem dX1_clear_6 : decode cX1_clear 6 = .ok (.iconst 0, 1) := by decide +kernel
theorem dX1_clear_7 : decode cX1_clear 7 = .ok (.putfield 31, 3) := by decide +kernel
theorem dX1_clear_10 : decode cX1_clear 10 = .ok (.aload_n 0, 1) := by decide +kernel
theorem dX1_clear_11 : decode cX1_clear 11 = .ok (.iconst 0, 1) := by decide +kernel
theorem dX1_clear_12 : decode cX1_clear 12 = .ok (.putfield 34, 3) := by decide +kernel
theorem dX1_clear_15 : decode cX1_clear 15 = .ok (.iload_n 1, 1) := by decide +kernel
theorem dX1_clear_16 : decode cX1_clear 16 = .ok (.ireturn, 1) := by decide +kernel
set_option maxRecDepth 20000 in
theorem ggX1_tick_X1_deedBy : GoodIn wsX1_tick wsX1_deedBy := goodIn_r _ [12, 4, 13, 14, 15, 11, 16, 3, 2, 17, 18, 19, 20, 21, 22, 23, 24, 44, 45, 46, 47, 48, 49, 50, 51, 52, 53, 54, 55, 56, 57, 58, 59] (by decide +kernel) (by decide +kernel)
set_option maxRecDepth 20000 in
theorem gX1_tick_X1_deedBy : GoodIn wsX1_tick (wsV RX1 112 RX1 yX1_deedBy wsX1_deedBy) := goodIn_app (goodIn_of _ (by decide +kernel)) ggX1_tick_X1_deedBy
set_option maxRecDepth 20000 in
theorem ggX1_tick_X1_runWith : GoodIn wsX1_tick wsX1_runWith := goodIn_r _ [16, 3, 2, 44, 45, 46, 47, 48, 49, 50, 51, 52, 53, 54, 55, 56, 57, 58, 59] (by decide +kernel) (by decide +kernel)
set_option maxRecDepth 20000 in
theorem gX1_tick_X1_runWith : GoodIn wsX1_tick (wsV RX1 115 RX1 yX1_runWith wsX1_runWith) := goodIn_app (goodIn_of _ (by decide +kernel)) ggX1_tick_X1_runWith
set_option maxRecDepth 20000 in
theorem ggX1_tick_X1_step : GoodIn wsX1_tick wsX1_step := goodIn_r _ [28, 29, 30, 31, 32, 33, 6, 34, 35, 17, 18, 19, 11, 20, 21, 36, 37, 38, 44, 45, 46, 47, 48, 49, 50, 51, 52, 53, 54, 55, 56, 57, 58, 59] (by decide +kernel) (by decide +kernel)
set_option maxRecDepth 20000 in
theorem gX1_tick_X1_step : GoodIn wsX1_tick (wsV RX1 118 RX1 yX1_step wsX1_step) := goodIn_app (goodIn_of _ (by decide +kernel)) ggX1_tick_X1_step
set_option maxRecDepth 20000 in
theorem ggX1_tick_X1_meetIndex : GoodIn wsX1_tick wsX1_meetIndex := goodIn_r _ [42, 32, 43, 31, 17, 18, 19, 11, 20, 21, 44, 45, 46, 47, 48, 49, 50, 51, 52, 53, 54, 55, 56, 57, 58, 59] (by decide +kernel) (by decide +kernel)
set_option maxRecDepth 20000 in
theorem gX1_tick_X1_meetIndex : GoodIn wsX1_tick (wsV RX1 122 RX1 yX1_meetIndex wsX1_meetIndex) := goodIn_app (goodIn_of _ (by decide +kernel)) ggX1_tick_X1_meetIndex
theorem dX1_tick_0 : decode cX1_tick 0 = .ok (.aload_n 0, 1) := by decide +kernel
theorem dX1_tick_1 : decode cX1_tick 1 = .ok (.iload_n 1, 1) := by decide +kernel
theorem dX1_tick_2 : decode cX1_tick 2 = .ok (.invokevirtual 112, 3) := by decide +kernel
theorem dX1_tick_5 : decode cX1_tick 5 = .ok (.istore_n 3, 1) := by decide +kernel
theorem dX1_tick_6 : decode cX1_tick 6 = .ok (.iload_n 2, 1) := by decide +kernel
theorem dX1_tick_7 : decode cX1_tick 7 = .ok (.iconst 1, 1) := by decide +kernel
theorem dX1_tick_8 : decode cX1_tick 8 = .ok (.if_icmp .ne 14, 3) := by decide +kernel
theorem dX1_tick_11 : decode cX1_tick 11 = .ok (.aload_n 0, 1) := by decide +kernel
theorem dX1_tick_12 : decode cX1_tick 12 = .ok (.getfield 43, 3) := by decide +kernel
theorem dX1_tick_15 : decode cX1_tick 15 = .ok (.ifCond .ne 7, 3) := by decide +kernel
theorem dX1_tick_18 : decode cX1_tick 18 = .ok (.iconst 1, 1) := by decide +kernel
theorem dX1_tick_19 : decode cX1_tick 19 = .ok (.goto 4, 3) := by decide +kernel
theorem dX1_tick_22 : decode cX1_tick 22 = .ok (.iconst 0, 1) := by decide +kernel
theorem dX1_tick_23 : decode cX1_tick 23 = .ok (.istore 4, 2) := by decide +kernel
theorem dX1_tick_25 : decode cX1_tick 25 = .ok (.aload_n 0, 1) := by decide +kernel
theorem dX1_tick_26 : decode cX1_tick 26 = .ok (.aload_n 0, 1) := by decide +kernel
theorem dX1_tick_27 : decode cX1_tick 27 = .ok (.iload_n 1, 1) := by decide +kernel
theorem dX1_tick_28 : decode cX1_tick 28 = .ok (.invokevirtual 115, 3) := by decide +kernel
theorem dX1_tick_31 : decode cX1_tick 31 = .ok (.putfield 46, 3) := by decide +kernel
theorem dX1_tick_34 : decode cX1_tick 34 = .ok (.aload_n 0, 1) := by decide +kernel
theorem dX1_tick_35 : decode cX1_tick 35 = .ok (.iload_n 1, 1) := by decide +kernel
theorem dX1_tick_36 : decode cX1_tick 36 = .ok (.putfield 40, 3) := by decide +kernel
theorem dX1_tick_39 : decode cX1_tick 39 = .ok (.aload_n 0, 1) := by decide +kernel
theorem dX1_tick_40 : decode cX1_tick 40 = .ok (.iload_n 2, 1) := by decide +kernel
theorem dX1_tick_41 : decode cX1_tick 41 = .ok (.putfield 43, 3) := by decide +kernel
theorem dX1_tick_44 : decode cX1_tick 44 = .ok (.iload_n 3, 1) := by decide +kernel
theorem dX1_tick_45 : decode cX1_tick 45 = .ok (.ifCond .eq 8, 3) := by decide +kernel
theorem dX1_tick_48 : decode cX1_tick 48 = .ok (.aload_n 0, 1) := by decide +kernel
theorem dX1_tick_49 : decode cX1_tick 49 = .ok (.iload_n 1, 1) := by decide +kernel
theorem dX1_tick_50 : decode cX1_tick 50 = .ok (.putfield 37, 3) := by decide +kernel
theorem dX1_tick_53 : decode cX1_tick 53 = .ok (.iload_n 3, 1) := by decide +kernel
theorem dX1_tick_54 : decode cX1_tick 54 = .ok (.iconst 3, 1) := by decide +kernel
theorem dX1_tick_55 : decode cX1_tick 55 = .ok (.if_icmp .ne 13, 3) := by decide +kernel
theorem dX1_tick_58 : decode cX1_tick 58 = .ok (.aload_n 0, 1) := by decide +kernel
theorem dX1_tick_59 : decode cX1_tick 59 = .ok (.dup, 1) := by decide +kernel
theorem dX1_tick_60 : decode cX1_tick 60 = .ok (.getfield 58, 3) := by decide +kernel
theorem dX1_tick_63 : decode cX1_tick 63 = .ok (.iconst 1, 1) := by decide +kernel
theorem dX1_tick_64 : decode cX1_tick 64 = .ok (.iadd, 1) := by decide +kernel
theorem dX1_tick_65 : decode cX1_tick 65 = .ok (.putfield 58, 3) := by decide +kernel
theorem dX1_tick_68 : decode cX1_tick 68 = .ok (.iload_n 3, 1) := by decide +kernel
theorem dX1_tick_69 : decode cX1_tick 69 = .ok (.iconst 1, 1) := by decide +kernel
theorem dX1_tick_70 : decode cX1_tick 70 = .ok (.if_icmp .eq 8, 3) := by decide +kernel
theorem dX1_tick_73 : decode cX1_tick 73 = .ok (.iload_n 3, 1) := by decide +kernel
theorem dX1_tick_74 : decode cX1_tick 74 = .ok (.iconst 2, 1) := by decide +kernel
theorem dX1_tick_75 : decode cX1_tick 75 = .ok (.if_icmp .ne 8, 3) := by decide +kernel
theorem dX1_tick_78 : decode cX1_tick 78 = .ok (.aload_n 0, 1) := by decide +kernel
theorem dX1_tick_79 : decode cX1_tick 79 = .ok (.iload_n 3, 1) := by decide +kernel
theorem dX1_tick_80 : decode cX1_tick 80 = .ok (.invokevirtual 118, 3) := by decide +kernel
theorem dX1_tick_83 : decode cX1_tick 83 = .ok (.iload 4, 2) := by decide +kernel
theorem dX1_tick_85 : decode cX1_tick 85 = .ok (.ifCond .eq 7, 3) := by decide +kernel
theorem dX1_tick_88 : decode cX1_tick 88 = .ok (.aload_n 0, 1) := by decide +kernel
theorem dX1_tick_89 : decode cX1_tick 89 = .ok (.invokevirtual 122, 3) := by decide +kernel
theorem dX1_tick_92 : decode cX1_tick 92 = .ok (.aload_n 0, 1) := by decide +kernel
theorem dX1_tick_93 : decode cX1_tick 93 = .ok (.getfield 27, 3) := by decide +kernel
theorem dX1_tick_96 : decode cX1_tick 96 = .ok (.sipush 200, 3) := by decide +kernel
theorem dX1_tick_99 : decode cX1_tick 99 = .ok (.irem, 1) := by decide +kernel
theorem dX1_tick_100 : decode cX1_tick 100 = .ok (.istore 5, 2) := by decide +kernel
theorem dX1_tick_102 : decode cX1_tick 102 = .ok (.iload 5, 2) := by decide +kernel
theorem dX1_tick_104 : decode cX1_tick 104 = .ok (.ifCond .lt 28, 3) := by decide +kernel
theorem dX1_tick_107 : decode cX1_tick 107 = .ok (.iload 5, 2) := by decide +kernel
theorem dX1_tick_109 : decode cX1_tick 109 = .ok (.sipush 200, 3) := by decide +kernel
theorem dX1_tick_112 : decode cX1_tick 112 = .ok (.if_icmp .ge 20, 3) := by decide +kernel
theorem dX1_tick_115 : decode cX1_tick 115 = .ok (.aload_n 0, 1) := by decide +kernel
theorem dX1_tick_116 : decode cX1_tick 116 = .ok (.getfield 15, 3) := by decide +kernel
theorem dX1_tick_119 : decode cX1_tick 119 = .ok (.iload 5, 2) := by decide +kernel
theorem dX1_tick_121 : decode cX1_tick 121 = .ok (.iload_n 1, 1) := by decide +kernel
theorem dX1_tick_122 : decode cX1_tick 122 = .ok (.iconst 4, 1) := by decide +kernel
theorem dX1_tick_123 : decode cX1_tick 123 = .ok (.iload_n 2, 1) := by decide +kernel
theorem dX1_tick_124 : decode cX1_tick 124 = .ok (.imul, 1) := by decide +kernel
theorem dX1_tick_125 : decode cX1_tick 125 = .ok (.iadd, 1) := by decide +kernel
theorem dX1_tick_126 : decode cX1_tick 126 = .ok (.bipush 8, 2) := by decide +kernel
theorem dX1_tick_128 : decode cX1_tick 128 = .ok (.iload_n 3, 1) := by decide +kernel
theorem dX1_tick_129 : decode cX1_tick 129 = .ok (.imul, 1) := by decide +kernel
theorem dX1_tick_130 : decode cX1_tick 130 = .ok (.iadd, 1) := by decide +kernel
theorem dX1_tick_131 : decode cX1_tick 131 = .ok (.iastore, 1) := by decide +kernel
theorem dX1_tick_132 : decode cX1_tick 132 = .ok (.aload_n 0, 1) := by decide +kernel
theorem dX1_tick_133 : decode cX1_tick 133 = .ok (.dup, 1) := by decide +kernel
theorem dX1_tick_134 : decode cX1_tick 134 = .ok (.getfield 27, 3) := by decide +kernel
theorem dX1_tick_137 : decode cX1_tick 137 = .ok (.iconst 1, 1) := by decide +kernel
theorem dX1_tick_138 : decode cX1_tick 138 = .ok (.iadd, 1) := by decide +kernel
theorem dX1_tick_139 : decode cX1_tick 139 = .ok (.putfield 27, 3) := by decide +kernel
theorem dX1_tick_142 : decode cX1_tick 142 = .ok (.iload_n 3, 1) := by decide +kernel
theorem dX1_tick_143 : decode cX1_tick 143 = .ok (.ireturn, 1) := by decide +kernel
set_option maxRecDepth 20000 in
theorem ggX1_deedBy_X1_runWith : GoodIn wsX1_deedBy wsX1_runWith := goodIn_r _ [6, 7, 8, 17, 18, 19, 20, 21, 22, 23, 24, 25, 26, 27, 28, 29, 30, 31, 32] (by decide +kernel) (by decide +kernel)
set_option maxRecDepth 20000 in
theorem gX1_deedBy_X1_runWith : GoodIn wsX1_deedBy (wsV RX1 115 RX1 yX1_runWith wsX1_runWith) := goodIn_app (goodIn_of _ (by decide +kernel)) ggX1_deedBy_X1_runWith
set_option maxRecDepth 20000 in
theorem ggX1_deedBy_X1_setting : GoodIn wsX1_deedBy wsX1_setting := goodIn_r _ [12, 13, 17, 18, 19, 20, 21, 22, 23, 24, 25, 26, 27, 28, 29, 30, 31, 32] (by decide +kernel) (by decide +kernel)
set_option maxRecDepth 20000 in
theorem gX1_deedBy_X1_setting : GoodIn wsX1_deedBy (wsV RX1 103 RX1 yX1_setting wsX1_setting) := goodIn_app (goodIn_of _ (by decide +kernel)) ggX1_deedBy_X1_setting
set_option maxRecDepth 20000 in
theorem ggX1_deedBy_X1_orderOf : GoodIn wsX1_deedBy wsX1_orderOf := goodIn_r _ [16] (by decide +kernel) (by decide +kernel)
set_option maxRecDepth 20000 in
theorem gX1_deedBy_X1_orderOf : GoodIn wsX1_deedBy (va_wsS RX1 106 yX1_orderOf wsX1_orderOf) := goodIn_app (goodIn_of _ (by decide +kernel)) ggX1_deedBy_X1_orderOf
theorem dX1_deedBy_0 : decode cX1_deedBy 0 = .ok (.iload_n 1, 1) := by decide +kernel
theorem dX1_deedBy_1 : decode cX1_deedBy 1 = .ok (.aload_n 0, 1) := by decide +kernel
theorem dX1_deedBy_2 : decode cX1_deedBy 2 = .ok (.getfield 37, 3) := by decide +kernel
theorem dX1_deedBy_5 : decode cX1_deedBy 5 = .ok (.if_icmp .eq 16, 3) := by decide +kernel
theorem dX1_deedBy_8 : decode cX1_deedBy 8 = .ok (.aload_n 0, 1) := by decide +kernel
theorem dX1_deedBy_9 : decode cX1_deedBy 9 = .ok (.iload_n 1, 1) := by decide +kernel
theorem dX1_deedBy_10 : decode cX1_deedBy 10 = .ok (.invokevirtual 115, 3) := by decide +kernel
theorem dX1_deedBy_13 : decode cX1_deedBy 13 = .ok (.aload_n 0, 1) := by decide +kernel
theorem dX1_deedBy_14 : decode cX1_deedBy 14 = .ok (.iconst 2, 1) := by decide +kernel
theorem dX1_deedBy_15 : decode cX1_deedBy 15 = .ok (.invokevirtual 103, 3) := by decide +kernel
theorem dX1_deedBy_18 : decode cX1_deedBy 18 = .ok (.if_icmp .ge 5, 3) := by decide +kernel
theorem dX1_deedBy_21 : decode cX1_deedBy 21 = .ok (.iconst 0, 1) := by decide +kernel
theorem dX1_deedBy_22 : decode cX1_deedBy 22 = .ok (.ireturn, 1) := by decide +kernel
theorem dX1_deedBy_23 : decode cX1_deedBy 23 = .ok (.iload_n 1, 1) := by decide +kernel
theorem dX1_deedBy_24 : decode cX1_deedBy 24 = .ok (.invokestatic 106, 3) := by decide +kernel
theorem dX1_deedBy_27 : decode cX1_deedBy 27 = .ok (.aload_n 0, 1) := by decide +kernel
theorem dX1_deedBy_28 : decode cX1_deedBy 28 = .ok (.getfield 37, 3) := by decide +kernel
theorem dX1_deedBy_31 : decode cX1_deedBy 31 = .ok (.invokestatic 106, 3) := by decide +kernel
theorem dX1_deedBy_34 : decode cX1_deedBy 34 = .ok (.isub, 1) := by decide +kernel
theorem dX1_deedBy_35 : decode cX1_deedBy 35 = .ok (.iconst 3, 1) := by decide +kernel
theorem dX1_deedBy_36 : decode cX1_deedBy 36 = .ok (.iand, 1) := by decide +kernel
theorem dX1_deedBy_37 : decode cX1_deedBy 37 = .ok (.istore_n 2, 1) := by decide +kernel
theorem dX1_deedBy_38 : decode cX1_deedBy 38 = .ok (.iload_n 2, 1) := by decide +kernel
theorem dX1_deedBy_39 : decode cX1_deedBy 39 = .ok (.iconst 1, 1) := by decide +kernel
theorem dX1_deedBy_40 : decode cX1_deedBy 40 = .ok (.if_icmp .ne 5, 3) := by decide +kernel
theorem dX1_deedBy_43 : decode cX1_deedBy 43 = .ok (.iconst 1, 1) := by decide +kernel
theorem dX1_deedBy_44 : decode cX1_deedBy 44 = .ok (.ireturn, 1) := by decide +kernel
theorem dX1_deedBy_45 : decode cX1_deedBy 45 = .ok (.iload_n 2, 1) := by decide +kernel
theorem dX1_deedBy_46 : decode cX1_deedBy 46 = .ok (.iconst 3, 1) := by decide +kernel
theorem dX1_deedBy_47 : decode cX1_deedBy 47 = .ok (.if_icmp .ne 7, 3) := by decide +kernel
theorem dX1_deedBy_50 : decode cX1_deedBy 50 = .ok (.iconst 2, 1) := by decide +kernel
theorem dX1_deedBy_51 : decode cX1_deedBy 51 = .ok (.goto 4, 3) := by decide +kernel
theorem dX1_deedBy_54 : decode cX1_deedBy 54 = .ok (.iconst 3, 1) := by decide +kernel
theorem dX1_deedBy_55 : decode cX1_deedBy 55 = .ok (.ireturn, 1) := by decide +kernel
theorem dX1_runWith_0 : decode cX1_runWith 0 = .ok (.iload_n 1, 1) := by decide +kernel
theorem dX1_runWith_1 : decode cX1_runWith 1 = .ok (.aload_n 0, 1) := by decide +kernel
theorem dX1_runWith_2 : decode cX1_runWith 2 = .ok (.getfield 40, 3) := by decide +kernel
theorem dX1_runWith_5 : decode cX1_runWith 5 = .ok (.if_icmp .ne 12, 3) := by decide +kernel
theorem dX1_runWith_8 : decode cX1_runWith 8 = .ok (.aload_n 0, 1) := by decide +kernel
theorem dX1_runWith_9 : decode cX1_runWith 9 = .ok (.getfield 46, 3) := by decide +kernel
theorem dX1_runWith_12 : decode cX1_runWith 12 = .ok (.iconst 1, 1) := by decide +kernel
theorem dX1_runWith_13 : decode cX1_runWith 13 = .ok (.iadd, 1) := by decide +kernel
theorem dX1_runWith_14 : decode cX1_runWith 14 = .ok (.goto 4, 3) := by decide +kernel
theorem dX1_runWith_17 : decode cX1_runWith 17 = .ok (.iconst 1, 1) := by decide +kernel
theorem dX1_runWith_18 : decode cX1_runWith 18 = .ok (.ireturn, 1) := by decide +kernel
set_option maxRecDepth 20000 in
theorem ggX1_step_X1_setting : GoodIn wsX1_step wsX1_setting := goodIn_r _ [13, 14, 18, 19, 20, 21, 22, 23, 24, 25, 26, 27, 28, 29, 30, 31, 32, 33] (by decide +kernel) (by decide +kernel)
set_option maxRecDepth 20000 in
theorem gX1_step_X1_setting : GoodIn wsX1_step (wsV RX1 103 RX1 yX1_setting wsX1_setting) := goodIn_app (goodIn_of _ (by decide +kernel)) ggX1_step_X1_setting
set_option maxRecDepth 20000 in
theorem ggX1_step_X1_leftOver : GoodIn wsX1_step wsX1_leftOver := goodIn_r _ [17] (by decide +kernel) (by decide +kernel)
set_option maxRecDepth 20000 in
theorem gX1_step_X1_leftOver : GoodIn wsX1_step (va_wsS RX1 94 yX1_leftOver wsX1_leftOver) := goodIn_app (goodIn_of _ (by decide +kernel)) ggX1_step_X1_leftOver
theorem dX1_step_0 : decode cX1_step 0 = .ok (.iload_n 1, 1) := by decide +kernel
theorem dX1_step_1 : decode cX1_step 1 = .ok (.iconst 1, 1) := by decide +kernel
theorem dX1_step_2 : decode cX1_step 2 = .ok (.if_icmp .ne 7, 3) := by decide +kernel
theorem dX1_step_5 : decode cX1_step 5 = .ok (.iconst 1, 1) := by decide +kernel
theorem dX1_step_6 : decode cX1_step 6 = .ok (.goto 4, 3) := by decide +kernel
theorem dX1_step_9 : decode cX1_step 9 = .ok (.iconst (-1), 1) := by decide +kernel
theorem dX1_step_10 : decode cX1_step 10 = .ok (.istore_n 2, 1) := by decide +kernel
theorem dX1_step_11 : decode cX1_step 11 = .ok (.iload_n 1, 1) := by decide +kernel
theorem dX1_step_12 : decode cX1_step 12 = .ok (.iconst 1, 1) := by decide +kernel
theorem dX1_step_13 : decode cX1_step 13 = .ok (.if_icmp .ne 16, 3) := by decide +kernel
theorem dX1_step_16 : decode cX1_step 16 = .ok (.aload_n 0, 1) := by decide +kernel
theorem dX1_step_17 : decode cX1_step 17 = .ok (.dup, 1) := by decide +kernel
theorem dX1_step_18 : decode cX1_step 18 = .ok (.getfield 52, 3) := by decide +kernel
theorem dX1_step_21 : decode cX1_step 21 = .ok (.iconst 1, 1) := by decide +kernel
theorem dX1_step_22 : decode cX1_step 22 = .ok (.iadd, 1) := by decide +kernel
theorem dX1_step_23 : decode cX1_step 23 = .ok (.putfield 52, 3) := by decide +kernel
theorem dX1_step_26 : decode cX1_step 26 = .ok (.goto 13, 3) := by decide +kernel
theorem dX1_step_29 : decode cX1_step 29 = .ok (.aload_n 0, 1) := by decide +kernel
theorem dX1_step_30 : decode cX1_step 30 = .ok (.dup, 1) := by decide +kernel
theorem dX1_step_31 : decode cX1_step 31 = .ok (.getfield 55, 3) := by decide +kernel
theorem dX1_step_34 : decode cX1_step 34 = .ok (.iconst 1, 1) := by decide +kernel
theorem dX1_step_35 : decode cX1_step 35 = .ok (.iadd, 1) := by decide +kernel
theorem dX1_step_36 : decode cX1_step 36 = .ok (.putfield 55, 3) := by decide +kernel
theorem dX1_step_39 : decode cX1_step 39 = .ok (.aload_n 0, 1) := by decide +kernel
theorem dX1_step_40 : decode cX1_step 40 = .ok (.aload_n 0, 1) := by decide +kernel
theorem dX1_step_41 : decode cX1_step 41 = .ok (.getfield 31, 3) := by decide +kernel
theorem dX1_step_44 : decode cX1_step 44 = .ok (.iload_n 2, 1) := by decide +kernel
theorem dX1_step_45 : decode cX1_step 45 = .ok (.iadd, 1) := by decide +kernel
theorem dX1_step_46 : decode cX1_step 46 = .ok (.aload_n 0, 1) := by decide +kernel
theorem dX1_step_47 : decode cX1_step 47 = .ok (.iconst 1, 1) := by decide +kernel
theorem dX1_step_48 : decode cX1_step 48 = .ok (.invokevirtual 103, 3) := by decide +kernel
theorem dX1_step_51 : decode cX1_step 51 = .ok (.invokestatic 94, 3) := by decide +kernel
theorem dX1_step_54 : decode cX1_step 54 = .ok (.putfield 31, 3) := by decide +kernel
theorem dX1_step_57 : decode cX1_step 57 = .ok (.aload_n 0, 1) := by decide +kernel
theorem dX1_step_58 : decode cX1_step 58 = .ok (.aload_n 0, 1) := by decide +kernel
theorem dX1_step_59 : decode cX1_step 59 = .ok (.getfield 34, 3) := by decide +kernel
theorem dX1_step_62 : decode cX1_step 62 = .ok (.iload_n 2, 1) := by decide +kernel
theorem dX1_step_63 : decode cX1_step 63 = .ok (.iadd, 1) := by decide +kernel
theorem dX1_step_64 : decode cX1_step 64 = .ok (.aload_n 0, 1) := by decide +kernel
theorem dX1_step_65 : decode cX1_step 65 = .ok (.iconst 0, 1) := by decide +kernel
theorem dX1_step_66 : decode cX1_step 66 = .ok (.invokevirtual 103, 3) := by decide +kernel
theorem dX1_step_69 : decode cX1_step 69 = .ok (.invokestatic 94, 3) := by decide +kernel
theorem dX1_step_72 : decode cX1_step 72 = .ok (.putfield 34, 3) := by decide +kernel
theorem dX1_step_75 : decode cX1_step 75 = .ok (.aload_n 0, 1) := by decide +kernel
theorem dX1_step_76 : decode cX1_step 76 = .ok (.iload_n 1, 1) := by decide +kernel
theorem dX1_step_77 : decode cX1_step 77 = .ok (.aload_n 0, 1) := by decide +kernel
theorem dX1_step_78 : decode cX1_step 78 = .ok (.getfield 49, 3) := by decide +kernel
theorem dX1_step_81 : decode cX1_step 81 = .ok (.if_icmp .ne 15, 3) := by decide +kernel
theorem dX1_step_84 : decode cX1_step 84 = .ok (.aload_n 0, 1) := by decide +kernel
theorem dX1_step_85 : decode cX1_step 85 = .ok (.getfield 27, 3) := by decide +kernel
theorem dX1_step_88 : decode cX1_step 88 = .ok (.aload_n 0, 1) := by decide +kernel
theorem dX1_step_89 : decode cX1_step 89 = .ok (.getfield 64, 3) := by decide +kernel
theorem dX1_step_92 : decode cX1_step 92 = .ok (.isub, 1) := by decide +kernel
theorem dX1_step_93 : decode cX1_step 93 = .ok (.goto 4, 3) := by decide +kernel
theorem dX1_step_96 : decode cX1_step 96 = .ok (.iconst 0, 1) := by decide +kernel
theorem dX1_step_97 : decode cX1_step 97 = .ok (.putfield 67, 3) := by decide +kernel
theorem dX1_step_100 : decode cX1_step 100 = .ok (.aload_n 0, 1) := by decide +kernel
theorem dX1_step_101 : decode cX1_step 101 = .ok (.iload_n 1, 1) := by decide +kernel
theorem dX1_step_102 : decode cX1_step 102 = .ok (.putfield 49, 3) := by decide +kernel
theorem dX1_step_105 : decode cX1_step 105 = .ok (.aload_n 0, 1) := by decide +kernel
theorem dX1_step_106 : decode cX1_step 106 = .ok (.aload_n 0, 1) := by decide +kernel
theorem dX1_step_107 : decode cX1_step 107 = .ok (.getfield 27, 3) := by decide +kernel
theorem dX1_step_110 : decode cX1_step 110 = .ok (.putfield 64, 3) := by decide +kernel
theorem dX1_step_113 : decode cX1_step 113 = .ok (.return_, 1) := by decide +kernel
set_option maxRecDepth 20000 in
theorem ggX1_meetIndex_X1_setting : GoodIn wsX1_meetIndex wsX1_setting := goodIn_r _ [8, 9, 10, 11, 12, 13, 14, 15, 16, 17, 18, 19, 20, 21, 22, 23, 24, 25] (by decide +kernel) (by decide +kernel)
set_option maxRecDepth 20000 in
theorem gX1_meetIndex_X1_setting : GoodIn wsX1_meetIndex (wsV RX1 103 RX1 yX1_setting wsX1_setting) := goodIn_app (goodIn_of _ (by decide +kernel)) ggX1_meetIndex_X1_setting
theorem dX1_meetIndex_0 : decode cX1_meetIndex 0 = .ok (.aload_n 0, 1) := by decide +kernel
theorem dX1_meetIndex_1 : decode cX1_meetIndex 1 = .ok (.iconst 4, 1) := by decide +kernel
theorem dX1_meetIndex_2 : decode cX1_meetIndex 2 = .ok (.invokevirtual 103, 3) := by decide +kernel
theorem dX1_meetIndex_5 : decode cX1_meetIndex 5 = .ok (.istore_n 1, 1) := by decide +kernel
theorem dX1_meetIndex_6 : decode cX1_meetIndex 6 = .ok (.iload_n 1, 1) := by decide +kernel
theorem dX1_meetIndex_7 : decode cX1_meetIndex 7 = .ok (.iconst 1, 1) := by decide +kernel
theorem dX1_meetIndex_8 : decode cX1_meetIndex 8 = .ok (.if_icmp .ne 25, 3) := by decide +kernel
theorem dX1_meetIndex_11 : decode cX1_meetIndex 11 = .ok (.aload_n 0, 1) := by decide +kernel
theorem dX1_meetIndex_12 : decode cX1_meetIndex 12 = .ok (.getfield 34, 3) := by decide +kernel
theorem dX1_meetIndex_15 : decode cX1_meetIndex 15 = .ok (.ifCond .eq 18, 3) := by decide +kernel
theorem dX1_meetIndex_18 : decode cX1_meetIndex 18 = .ok (.aload_n 0, 1) := by decide +kernel
theorem dX1_meetIndex_19 : decode cX1_meetIndex 19 = .ok (.dup, 1) := by decide +kernel
theorem dX1_meetIndex_20 : decode cX1_meetIndex 20 = .ok (.getfield 61, 3) := by decide +kernel
theorem dX1_meetIndex_23 : decode cX1_meetIndex 23 = .ok (.iconst 1, 1) := by decide +kernel
theorem dX1_meetIndex_24 : decode cX1_meetIndex 24 = .ok (.iadd, 1) := by decide +kernel
theorem dX1_meetIndex_25 : decode cX1_meetIndex 25 = .ok (.putfield 61, 3) := by decide +kernel
theorem dX1_meetIndex_28 : decode cX1_meetIndex 28 = .ok (.aload_n 0, 1) := by decide +kernel
theorem dX1_meetIndex_29 : decode cX1_meetIndex 29 = .ok (.iconst 0, 1) := by decide +kernel
theorem dX1_meetIndex_30 : decode cX1_meetIndex 30 = .ok (.putfield 34, 3) := by decide +kernel
theorem dX1_meetIndex_33 : decode cX1_meetIndex 33 = .ok (.iload_n 1, 1) := by decide +kernel
theorem dX1_meetIndex_34 : decode cX1_meetIndex 34 = .ok (.iconst 2, 1) := by decide +kernel
theorem dX1_meetIndex_35 : decode cX1_meetIndex 35 = .ok (.if_icmp .ne 13, 3) := by decide +kernel
theorem dX1_meetIndex_38 : decode cX1_meetIndex 38 = .ok (.aload_n 0, 1) := by decide +kernel
theorem dX1_meetIndex_39 : decode cX1_meetIndex 39 = .ok (.iconst 0, 1) := by decide +kernel
theorem dX1_meetIndex_40 : decode cX1_meetIndex 40 = .ok (.putfield 34, 3) := by decide +kernel
theorem dX1_meetIndex_43 : decode cX1_meetIndex 43 = .ok (.aload_n 0, 1) := by decide +kernel
theorem dX1_meetIndex_44 : decode cX1_meetIndex 44 = .ok (.iconst 0, 1) := by decide +kernel
theorem dX1_meetIndex_45 : decode cX1_meetIndex 45 = .ok (.putfield 31, 3) := by decide +kernel
theorem dX1_meetIndex_48 : decode cX1_meetIndex 48 = .ok (.return_, 1) := by decide +kernel
set_option maxRecDepth 20000 in
theorem ggX1_stepsOfGate_X1_setting : GoodIn wsX1_stepsOfGate wsX1_setting := goodIn_r _ [9, 10, 29, 30, 31, 32, 33, 34, 35, 36, 37, 38, 39, 40, 41, 42, 43, 44] (by decide +kernel) (by decide +kernel)
set_option maxRecDepth 20000 in
theorem gX1_stepsOfGate_X1_setting : GoodIn wsX1_stepsOfGate (wsV RX1 103 RX1 yX1_setting wsX1_setting) := goodIn_app (goodIn_of _ (by decide +kernel)) ggX1_stepsOfGate_X1_setting
set_option maxRecDepth 20000 in
theorem ggX1_stepsOfGate_X1_logged : GoodIn wsX1_stepsOfGate wsX1_logged := goodIn_r _ [14, 15, 1, 2, 3, 4, 29, 30, 31, 32, 33, 34, 35, 36, 37, 38, 39, 40, 41, 42, 43, 44] (by decide +kernel) (by decide +kernel)
set_option maxRecDepth 20000 in
theorem gX1_stepsOfGate_X1_logged : GoodIn wsX1_stepsOfGate (wsV RX1 73 RX1 yX1_logged wsX1_logged) := goodIn_app (goodIn_of _ (by decide +kernel)) ggX1_stepsOfGate_X1_logged
set_option maxRecDepth 20000 in
theorem ggX1_stepsOfGate_X1_deedAt : GoodIn wsX1_stepsOfGate wsX1_deedAt := goodIn_r _ [19, 20, 21, 22, 8, 23, 15, 24, 25, 26, 27, 28, 11, 12, 13, 14, 1, 2, 3, 4, 29, 30, 31, 32, 33, 34, 35, 36, 37, 38, 39, 40, 41, 42, 43, 44] (by decide +kernel) (by decide +kernel)
set_option maxRecDepth 20000 in
theorem gX1_stepsOfGate_X1_deedAt : GoodIn wsX1_stepsOfGate (wsV RX1 128 RX1 yX1_deedAt wsX1_deedAt) := goodIn_app (goodIn_of _ (by decide +kernel)) ggX1_stepsOfGate_X1_deedAt
theorem dX1_stepsOfGate_0 : decode cX1_stepsOfGate 0 = .ok (.aload_n 0, 1) := by decide +kernel
theorem dX1_stepsOfGate_1 : decode cX1_stepsOfGate 1 = .ok (.iconst 3, 1) := by decide +kernel
theorem dX1_stepsOfGate_2 : decode cX1_stepsOfGate 2 = .ok (.invokevirtual 103, 3) := by decide +kernel
theorem dX1_stepsOfGate_5 : decode cX1_stepsOfGate 5 = .ok (.aload_n 0, 1) := by decide +kernel
theorem dX1_stepsOfGate_6 : decode cX1_stepsOfGate 6 = .ok (.invokevirtual 73, 3) := by decide +kernel
theorem dX1_stepsOfGate_9 : decode cX1_stepsOfGate 9 = .ok (.invokestatic 125, 3) := by decide +kernel
theorem dX1_stepsOfGate_12 : decode cX1_stepsOfGate 12 = .ok (.istore_n 1, 1) := by decide +kernel
theorem dX1_stepsOfGate_13 : decode cX1_stepsOfGate 13 = .ok (.iconst 0, 1) := by decide +kernel
theorem dX1_stepsOfGate_14 : decode cX1_stepsOfGate 14 = .ok (.istore_n 2, 1) := by decide +kernel
theorem dX1_stepsOfGate_15 : decode cX1_stepsOfGate 15 = .ok (.iconst 0, 1) := by decide +kernel
theorem dX1_stepsOfGate_16 : decode cX1_stepsOfGate 16 = .ok (.istore_n 3, 1) := by decide +kernel
theorem dX1_stepsOfGate_17 : decode cX1_stepsOfGate 17 = .ok (.iload_n 3, 1) := by decide +kernel
theorem dX1_stepsOfGate_18 : decode cX1_stepsOfGate 18 = .ok (.iload_n 1, 1) := by decide +kernel
theorem dX1_stepsOfGate_19 : decode cX1_stepsOfGate 19 = .ok (.if_icmp .ge 34, 3) := by decide +kernel
theorem dX1_stepsOfGate_22 : decode cX1_stepsOfGate 22 = .ok (.aload_n 0, 1) := by decide +kernel
theorem dX1_stepsOfGate_23 : decode cX1_stepsOfGate 23 = .ok (.iload_n 3, 1) := by decide +kernel
theorem dX1_stepsOfGate_24 : decode cX1_stepsOfGate 24 = .ok (.invokevirtual 128, 3) := by decide +kernel
theorem dX1_stepsOfGate_27 : decode cX1_stepsOfGate 27 = .ok (.istore 4, 2) := by decide +kernel
theorem dX1_stepsOfGate_29 : decode cX1_stepsOfGate 29 = .ok (.iload 4, 2) := by decide +kernel
theorem dX1_stepsOfGate_31 : decode cX1_stepsOfGate 31 = .ok (.iconst 1, 1) := by decide +kernel
theorem dX1_stepsOfGate_32 : decode cX1_stepsOfGate 32 = .ok (.if_icmp .ne 6, 3) := by decide +kernel
theorem dX1_stepsOfGate_35 : decode cX1_stepsOfGate 35 = .ok (.iinc 2 1, 3) := by decide +kernel
theorem dX1_stepsOfGate_38 : decode cX1_stepsOfGate 38 = .ok (.iload 4, 2) := by decide +kernel
theorem dX1_stepsOfGate_40 : decode cX1_stepsOfGate 40 = .ok (.iconst 2, 1) := by decide +kernel
theorem dX1_stepsOfGate_41 : decode cX1_stepsOfGate 41 = .ok (.if_icmp .ne 6, 3) := by decide +kernel
theorem dX1_stepsOfGate_44 : decode cX1_stepsOfGate 44 = .ok (.iinc 2 (-1), 3) := by decide +kernel
theorem dX1_stepsOfGate_47 : decode cX1_stepsOfGate 47 = .ok (.iinc 3 1, 3) := by decide +kernel
theorem dX1_stepsOfGate_50 : decode cX1_stepsOfGate 50 = .ok (.goto (-33), 3) := by decide +kernel
theorem dX1_stepsOfGate_53 : decode cX1_stepsOfGate 53 = .ok (.iload_n 2, 1) := by decide +kernel
theorem dX1_stepsOfGate_54 : decode cX1_stepsOfGate 54 = .ok (.ireturn, 1) := by decide +kernel
theorem dX1_logged_0 : decode cX1_logged 0 = .ok (.aload_n 0, 1) := by decide +kernel
theorem dX1_logged_1 : decode cX1_logged 1 = .ok (.getfield 27, 3) := by decide +kernel
theorem dX1_logged_4 : decode cX1_logged 4 = .ok (.sipush 200, 3) := by decide +kernel
theorem dX1_logged_7 : decode cX1_logged 7 = .ok (.invokestatic 125, 3) := by decide +kernel
theorem dX1_logged_10 : decode cX1_logged 10 = .ok (.ireturn, 1) := by decide +kernel
set_option maxRecDepth 20000 in
theorem ggX1_hasTick_X1_logged : GoodIn wsX1_hasTick wsX1_logged := goodIn_r _ [5, 6, 7, 8, 9, 10, 11, 12, 13, 14, 15, 16, 17, 18, 19, 20, 21, 22, 23, 24, 25, 26] (by decide +kernel) (by decide +kernel)
set_option maxRecDepth 20000 in
theorem gX1_hasTick_X1_logged : GoodIn wsX1_hasTick (wsV RX1 73 RX1 yX1_logged wsX1_logged) := goodIn_app (goodIn_of _ (by decide +kernel)) ggX1_hasTick_X1_logged
theorem dX1_hasTick_0 : decode cX1_hasTick 0 = .ok (.iload_n 1, 1) := by decide +kernel
theorem dX1_hasTick_1 : decode cX1_hasTick 1 = .ok (.ifCond .lt 15, 3) := by decide +kernel
theorem dX1_hasTick_4 : decode cX1_hasTick 4 = .ok (.iload_n 1, 1) := by decide +kernel
theorem dX1_hasTick_5 : decode cX1_hasTick 5 = .ok (.aload_n 0, 1) := by decide +kernel
theorem dX1_hasTick_6 : decode cX1_hasTick 6 = .ok (.invokevirtual 73, 3) := by decide +kernel
theorem dX1_hasTick_9 : decode cX1_hasTick 9 = .ok (.if_icmp .ge 7, 3) := by decide +kernel
theorem dX1_hasTick_12 : decode cX1_hasTick 12 = .ok (.iconst 1, 1) := by decide +kernel
theorem dX1_hasTick_13 : decode cX1_hasTick 13 = .ok (.goto 4, 3) := by decide +kernel
theorem dX1_hasTick_16 : decode cX1_hasTick 16 = .ok (.iconst 0, 1) := by decide +kernel
theorem dX1_hasTick_17 : decode cX1_hasTick 17 = .ok (.ireturn, 1) := by decide +kernel
set_option maxRecDepth 20000 in
theorem ggX1_entry_X1_hasTick : GoodIn wsX1_entry wsX1_hasTick := goodIn_r _ [7, 8, 9, 10, 6, 11, 1, 12, 13, 14, 15, 16, 17, 18, 19, 20, 21, 22, 23, 24, 25, 26, 27, 28, 29, 30, 31] (by decide +kernel) (by decide +kernel)
set_option maxRecDepth 20000 in
theorem gX1_entry_X1_hasTick : GoodIn wsX1_entry (wsV RX1 131 RX1 yX1_hasTick wsX1_hasTick) := goodIn_app (goodIn_of _ (by decide +kernel)) ggX1_entry_X1_hasTick
theorem dX1_entry_0 : decode cX1_entry 0 = .ok (.aload_n 0, 1) := by decide +kernel
theorem dX1_entry_1 : decode cX1_entry 1 = .ok (.iload_n 1, 1) := by decide +kernel
theorem dX1_entry_2 : decode cX1_entry 2 = .ok (.invokevirtual 131, 3) := by decide +kernel
theorem dX1_entry_5 : decode cX1_entry 5 = .ok (.ifCond .ne 5, 3) := by decide +kernel
theorem dX1_entry_8 : decode cX1_entry 8 = .ok (.iconst 0, 1) := by decide +kernel
theorem dX1_entry_9 : decode cX1_entry 9 = .ok (.ireturn, 1) := by decide +kernel
theorem dX1_entry_10 : decode cX1_entry 10 = .ok (.aload_n 0, 1) := by decide +kernel
theorem dX1_entry_11 : decode cX1_entry 11 = .ok (.getfield 27, 3) := by decide +kernel
theorem dX1_entry_14 : decode cX1_entry 14 = .ok (.iconst 1, 1) := by decide +kernel
theorem dX1_entry_15 : decode cX1_entry 15 = .ok (.isub, 1) := by decide +kernel
theorem dX1_entry_16 : decode cX1_entry 16 = .ok (.iload_n 1, 1) := by decide +kernel
theorem dX1_entry_17 : decode cX1_entry 17 = .ok (.isub, 1) := by decide +kernel
theorem dX1_entry_18 : decode cX1_entry 18 = .ok (.sipush 200, 3) := by decide +kernel
theorem dX1_entry_21 : decode cX1_entry 21 = .ok (.irem, 1) := by decide +kernel
theorem dX1_entry_22 : decode cX1_entry 22 = .ok (.istore_n 2, 1) := by decide +kernel
theorem dX1_entry_23 : decode cX1_entry 23 = .ok (.iload_n 2, 1) := by decide +kernel
theorem dX1_entry_24 : decode cX1_entry 24 = .ok (.ifCond .lt 19, 3) := by decide +kernel
theorem dX1_entry_27 : decode cX1_entry 27 = .ok (.iload_n 2, 1) := by decide +kernel
theorem dX1_entry_28 : decode cX1_entry 28 = .ok (.sipush 200, 3) := by decide +kernel
theorem dX1_entry_31 : decode cX1_entry 31 = .ok (.if_icmp .ge 12, 3) := by decide +kernel
theorem dX1_entry_34 : decode cX1_entry 34 = .ok (.aload_n 0, 1) := by decide +kernel
theorem dX1_entry_35 : decode cX1_entry 35 = .ok (.getfield 15, 3) := by decide +kernel
theorem dX1_entry_38 : decode cX1_entry 38 = .ok (.iload_n 2, 1) := by decide +kernel
theorem dX1_entry_39 : decode cX1_entry 39 = .ok (.iaload, 1) := by decide +kernel
theorem dX1_entry_40 : decode cX1_entry 40 = .ok (.goto 4, 3) := by decide +kernel
theorem dX1_entry_43 : decode cX1_entry 43 = .ok (.iconst 0, 1) := by decide +kernel
theorem dX1_entry_44 : decode cX1_entry 44 = .ok (.ireturn, 1) := by decide +kernel
set_option maxRecDepth 20000 in
theorem ggX1_pairAt_X1_entry : GoodIn wsX1_pairAt wsX1_entry := goodIn_r _ [5, 6, 7, 8, 9, 10, 4, 11, 12, 13, 14, 15, 16, 17, 18, 19, 20, 21, 22, 23, 24, 25, 26, 27, 28, 29, 30, 31, 32, 33, 34, 35] (by decide +kernel) (by decide +kernel)
set_option maxRecDepth 20000 in
theorem gX1_pairAt_X1_entry : GoodIn wsX1_pairAt (wsV RX1 135 RX1 yX1_entry wsX1_entry) := goodIn_app (goodIn_of _ (by decide +kernel)) ggX1_pairAt_X1_entry
theorem dX1_pairAt_0 : decode cX1_pairAt 0 = .ok (.aload_n 0, 1) := by decide +kernel
theorem dX1_pairAt_1 : decode cX1_pairAt 1 = .ok (.iload_n 1, 1) := by decide +kernel
theorem dX1_pairAt_2 : decode cX1_pairAt 2 = .ok (.invokevirtual 135, 3) := by decide +kernel
theorem dX1_pairAt_5 : decode cX1_pairAt 5 = .ok (.iconst 3, 1) := by decide +kernel
theorem dX1_pairAt_6 : decode cX1_pairAt 6 = .ok (.iand, 1) := by decide +kernel
theorem dX1_pairAt_7 : decode cX1_pairAt 7 = .ok (.ireturn, 1) := by decide +kernel
set_option maxRecDepth 20000 in
theorem ggX1_indexAt_X1_entry : GoodIn wsX1_indexAt wsX1_entry := goodIn_r _ [5, 6, 7, 8, 9, 10, 4, 11, 12, 13, 14, 15, 16, 17, 18, 19, 20, 21, 22, 23, 24, 25, 26, 27, 28, 29, 30, 31, 32, 33, 34, 35] (by decide +kernel) (by decide +kernel)
set_option maxRecDepth 20000 in
theorem gX1_indexAt_X1_entry : GoodIn wsX1_indexAt (wsV RX1 135 RX1 yX1_entry wsX1_entry) := goodIn_app (goodIn_of _ (by decide +kernel)) ggX1_indexAt_X1_entry
theorem dX1_indexAt_0 : decode cX1_indexAt 0 = .ok (.aload_n 0, 1) := by decide +kernel
theorem dX1_indexAt_1 : decode cX1_indexAt 1 = .ok (.iload_n 1, 1) := by decide +kernel
theorem dX1_indexAt_2 : decode cX1_indexAt 2 = .ok (.invokevirtual 135, 3) := by decide +kernel
theorem dX1_indexAt_5 : decode cX1_indexAt 5 = .ok (.iconst 2, 1) := by decide +kernel
theorem dX1_indexAt_6 : decode cX1_indexAt 6 = .ok (.ishr, 1) := by decide +kernel
theorem dX1_indexAt_7 : decode cX1_indexAt 7 = .ok (.iconst 1, 1) := by decide +kernel
theorem dX1_indexAt_8 : decode cX1_indexAt 8 = .ok (.iand, 1) := by decide +kernel
theorem dX1_indexAt_9 : decode cX1_indexAt 9 = .ok (.ireturn, 1) := by decide +kernel
set_option maxRecDepth 20000 in
theorem ggX1_deedAt_X1_entry : GoodIn wsX1_deedAt wsX1_entry := goodIn_r _ [5, 6, 7, 8, 9, 10, 4, 11, 12, 13, 14, 15, 16, 17, 18, 19, 20, 21, 22, 23, 24, 25, 26, 27, 28, 29, 30, 31, 32, 33, 34, 35] (by decide +kernel) (by decide +kernel)
set_option maxRecDepth 20000 in
theorem gX1_deedAt_X1_entry : GoodIn wsX1_deedAt (wsV RX1 135 RX1 yX1_entry wsX1_entry) := goodIn_app (goodIn_of _ (by decide +kernel)) ggX1_deedAt_X1_entry
theorem dX1_deedAt_0 : decode cX1_deedAt 0 = .ok (.aload_n 0, 1) := by decide +kernel
theorem dX1_deedAt_1 : decode cX1_deedAt 1 = .ok (.iload_n 1, 1) := by decide +kernel
theorem dX1_deedAt_2 : decode cX1_deedAt 2 = .ok (.invokevirtual 135, 3) := by decide +kernel
theorem dX1_deedAt_5 : decode cX1_deedAt 5 = .ok (.iconst 3, 1) := by decide +kernel
theorem dX1_deedAt_6 : decode cX1_deedAt 6 = .ok (.ishr, 1) := by decide +kernel
theorem dX1_deedAt_7 : decode cX1_deedAt 7 = .ok (.ireturn, 1) := by decide +kernel
theorem dX1_orderOf_0 : decode cX1_orderOf 0 = .ok (.iload_n 0, 1) := by decide +kernel
theorem dX1_orderOf_1 : decode cX1_orderOf 1 = .ok (.iload_n 0, 1) := by decide +kernel
theorem dX1_orderOf_2 : decode cX1_orderOf 2 = .ok (.iconst 1, 1) := by decide +kernel
theorem dX1_orderOf_3 : decode cX1_orderOf 3 = .ok (.ishr, 1) := by decide +kernel
theorem dX1_orderOf_4 : decode cX1_orderOf 4 = .ok (.ixor, 1) := by decide +kernel
theorem dX1_orderOf_5 : decode cX1_orderOf 5 = .ok (.ireturn, 1) := by decide +kernel
theorem dX1_pairAlong_0 : decode cX1_pairAlong 0 = .ok (.iload_n 0, 1) := by decide +kernel
theorem dX1_pairAlong_1 : decode cX1_pairAlong 1 = .ok (.iconst 3, 1) := by decide +kernel
theorem dX1_pairAlong_2 : decode cX1_pairAlong 2 = .ok (.iand, 1) := by decide +kernel
theorem dX1_pairAlong_3 : decode cX1_pairAlong 3 = .ok (.istore_n 1, 1) := by decide +kernel
theorem dX1_pairAlong_4 : decode cX1_pairAlong 4 = .ok (.iload_n 1, 1) := by decide +kernel
theorem dX1_pairAlong_5 : decode cX1_pairAlong 5 = .ok (.iload_n 1, 1) := by decide +kernel
theorem dX1_pairAlong_6 : decode cX1_pairAlong 6 = .ok (.iconst 1, 1) := by decide +kernel
theorem dX1_pairAlong_7 : decode cX1_pairAlong 7 = .ok (.ishr, 1) := by decide +kernel
theorem dX1_pairAlong_8 : decode cX1_pairAlong 8 = .ok (.ixor, 1) := by decide +kernel
theorem dX1_pairAlong_9 : decode cX1_pairAlong 9 = .ok (.ireturn, 1) := by decide +kernel
theorem dX1_leftOver_0 : decode cX1_leftOver 0 = .ok (.iload_n 1, 1) := by decide +kernel
theorem dX1_leftOver_1 : decode cX1_leftOver 1 = .ok (.ifCond .le 11, 3) := by decide +kernel
theorem dX1_leftOver_4 : decode cX1_leftOver 4 = .ok (.iload_n 0, 1) := by decide +kernel
theorem dX1_leftOver_5 : decode cX1_leftOver 5 = .ok (.iload_n 1, 1) := by decide +kernel
theorem dX1_leftOver_6 : decode cX1_leftOver 6 = .ok (.iadd, 1) := by decide +kernel
theorem dX1_leftOver_7 : decode cX1_leftOver 7 = .ok (.iload_n 1, 1) := by decide +kernel
theorem dX1_leftOver_8 : decode cX1_leftOver 8 = .ok (.irem, 1) := by decide +kernel
theorem dX1_leftOver_9 : decode cX1_leftOver 9 = .ok (.goto 4, 3) := by decide +kernel
theorem dX1_leftOver_12 : decode cX1_leftOver 12 = .ok (.iconst 0, 1) := by decide +kernel
theorem dX1_leftOver_13 : decode cX1_leftOver 13 = .ok (.ireturn, 1) := by decide +kernel
end
section
set_option maxRecDepth 20000 in
theorem ggX2_init_X1_init : GoodIn wsX2_init wsX1_init := goodIn_r _ [10, 11, 2, 3, 12, 13, 14, 15, 16, 17, 18, 22, 23, 24, 25, 26, 27, 28, 29, 30, 31, 32, 33, 34, 35, 36, 37] (by decide +kernel) (by decide +kernel)
set_option maxRecDepth 20000 in
theorem gX2_init_X1_init : GoodIn wsX2_init (wsX1_init) := ggX2_init_X1_init
theorem dX2_init_0 : decode cX2_init 0 = .ok (.aload_n 0, 1) := by decide +kernel
theorem dX2_init_1 : decode cX2_init 1 = .ok (.invokespecial 3, 3) := by decide +kernel
theorem dX2_init_4 : decode cX2_init 4 = .ok (.aload_n 0, 1) := by decide +kernel
theorem dX2_init_5 : decode cX2_init 5 = .ok (.bipush 7, 2) := by decide +kernel
theorem dX2_init_7 : decode cX2_init 7 = .ok (.anewarray 11, 3) := by decide +kernel
theorem dX2_init_10 : decode cX2_init 10 = .ok (.putfield 13, 3) := by decide +kernel
theorem dX2_init_13 : decode cX2_init 13 = .ok (.iconst 0, 1) := by decide +kernel
theorem dX2_init_14 : decode cX2_init 14 = .ok (.istore_n 1, 1) := by decide +kernel
theorem dX2_init_15 : decode cX2_init 15 = .ok (.iload_n 1, 1) := by decide +kernel
theorem dX2_init_16 : decode cX2_init 16 = .ok (.bipush 7, 2) := by decide +kernel
theorem dX2_init_18 : decode cX2_init 18 = .ok (.if_icmp .ge 22, 3) := by decide +kernel
theorem dX2_init_21 : decode cX2_init 21 = .ok (.aload_n 0, 1) := by decide +kernel
theorem dX2_init_22 : decode cX2_init 22 = .ok (.getfield 13, 3) := by decide +kernel
theorem dX2_init_25 : decode cX2_init 25 = .ok (.iload_n 1, 1) := by decide +kernel
theorem dX2_init_26 : decode cX2_init 26 = .ok (.new 11, 3) := by decide +kernel
theorem dX2_init_29 : decode cX2_init 29 = .ok (.dup, 1) := by decide +kernel
theorem dX2_init_30 : decode cX2_init 30 = .ok (.invokespecial 17, 3) := by decide +kernel
theorem dX2_init_33 : decode cX2_init 33 = .ok (.aastore, 1) := by decide +kernel
theorem dX2_init_34 : decode cX2_init 34 = .ok (.iinc 1 1, 3) := by decide +kernel
theorem dX2_init_37 : decode cX2_init 37 = .ok (.goto (-22), 3) := by decide +kernel
theorem dX2_init_40 : decode cX2_init 40 = .ok (.return_, 1) := by decide +kernel
theorem dX2_nextRow_0 : decode cX2_nextRow 0 = .ok (.aload_n 0, 1) := by decide +kernel
theorem dX2_nextRow_1 : decode cX2_nextRow 1 = .ok (.getfield 18, 3) := by decide +kernel
theorem dX2_nextRow_4 : decode cX2_nextRow 4 = .ok (.ifCond .lt 24, 3) := by decide +kernel
theorem dX2_nextRow_7 : decode cX2_nextRow 7 = .ok (.aload_n 0, 1) := by decide +kernel
theorem dX2_nextRow_8 : decode cX2_nextRow 8 = .ok (.getfield 18, 3) := by decide +kernel
theorem dX2_nextRow_11 : decode cX2_nextRow 11 = .ok (.bipush 7, 2) := by decide +kernel
theorem dX2_nextRow_13 : decode cX2_nextRow 13 = .ok (.if_icmp .ge 15, 3) := by decide +kernel
theorem dX2_nextRow_16 : decode cX2_nextRow 16 = .ok (.aload_n 0, 1) := by decide +kernel
theorem dX2_nextRow_17 : decode cX2_nextRow 17 = .ok (.getfield 13, 3) := by decide +kernel
theorem dX2_nextRow_20 : decode cX2_nextRow 20 = .ok (.aload_n 0, 1) := by decide +kernel
theorem dX2_nextRow_21 : decode cX2_nextRow 21 = .ok (.getfield 18, 3) := by decide +kernel
theorem dX2_nextRow_24 : decode cX2_nextRow 24 = .ok (.aaload, 1) := by decide +kernel
theorem dX2_nextRow_25 : decode cX2_nextRow 25 = .ok (.goto 4, 3) := by decide +kernel
theorem dX2_nextRow_28 : decode cX2_nextRow 28 = .ok (.aconst_null, 1) := by decide +kernel
theorem dX2_nextRow_29 : decode cX2_nextRow 29 = .ok (.areturn, 1) := by decide +kernel
set_option maxRecDepth 20000 in
theorem ggX2_prepare_X2_nextRow : GoodIn wsX2_prepare wsX2_nextRow := goodIn_r _ [5, 6, 7, 32, 33, 34] (by decide +kernel) (by decide +kernel)
set_option maxRecDepth 20000 in
theorem gX2_prepare_X2_nextRow : GoodIn wsX2_prepare (wsV RX2 22 RX2 yX2_nextRow wsX2_nextRow) := goodIn_app (goodIn_of _ (by decide +kernel)) ggX2_prepare_X2_nextRow
set_option maxRecDepth 20000 in
theorem ggX2_prepare_X1_copy : GoodIn wsX2_prepare wsX1_copy := goodIn_r _ [11, 12, 13, 14, 15, 16, 17, 18, 19, 20, 21, 22, 23, 24, 25, 26, 27, 28, 29, 30, 31, 35, 36, 37, 38, 39, 40, 41, 42, 43, 44, 45, 46, 47, 48, 49, 50] (by decide +kernel) (by decide +kernel)
set_option maxRecDepth 20000 in
theorem gX2_prepare_X1_copy : GoodIn wsX2_prepare (va_wsS RX2 26 yX1_copy wsX1_copy) := goodIn_app (goodIn_of _ (by decide +kernel)) ggX2_prepare_X1_copy
theorem dX2_prepare_0 : decode cX2_prepare 0 = .ok (.aload_n 1, 1) := by decide +kernel
theorem dX2_prepare_1 : decode cX2_prepare 1 = .ok (.aload_n 0, 1) := by decide +kernel
theorem dX2_prepare_2 : decode cX2_prepare 2 = .ok (.invokevirtual 22, 3) := by decide +kernel
theorem dX2_prepare_5 : decode cX2_prepare 5 = .ok (.invokestatic 26, 3) := by decide +kernel
theorem dX2_prepare_8 : decode cX2_prepare 8 = .ok (.return_, 1) := by decide +kernel
theorem dX2_keepUnlessError_0 : decode cX2_keepUnlessError 0 = .ok (.iload_n 1, 1) := by decide +kernel
theorem dX2_keepUnlessError_1 : decode cX2_keepUnlessError 1 = .ok (.ifCond .lt 31, 3) := by decide +kernel
theorem dX2_keepUnlessError_4 : decode cX2_keepUnlessError 4 = .ok (.aload_n 0, 1) := by decide +kernel
theorem dX2_keepUnlessError_5 : decode cX2_keepUnlessError 5 = .ok (.aload_n 0, 1) := by decide +kernel
theorem dX2_keepUnlessError_6 : decode cX2_keepUnlessError 6 = .ok (.getfield 18, 3) := by decide +kernel
theorem dX2_keepUnlessError_9 : decode cX2_keepUnlessError 9 = .ok (.iconst 1, 1) := by decide +kernel
theorem dX2_keepUnlessError_10 : decode cX2_keepUnlessError 10 = .ok (.iadd, 1) := by decide +kernel
theorem dX2_keepUnlessError_11 : decode cX2_keepUnlessError 11 = .ok (.bipush 7, 2) := by decide +kernel
theorem dX2_keepUnlessError_13 : decode cX2_keepUnlessError 13 = .ok (.irem, 1) := by decide +kernel
theorem dX2_keepUnlessError_14 : decode cX2_keepUnlessError 14 = .ok (.putfield 18, 3) := by decide +kernel
theorem dX2_keepUnlessError_17 : decode cX2_keepUnlessError 17 = .ok (.aload_n 0, 1) := by decide +kernel
theorem dX2_keepUnlessError_18 : decode cX2_keepUnlessError 18 = .ok (.aload_n 0, 1) := by decide +kernel
theorem dX2_keepUnlessError_19 : decode cX2_keepUnlessError 19 = .ok (.getfield 30, 3) := by decide +kernel
theorem dX2_keepUnlessError_22 : decode cX2_keepUnlessError 22 = .ok (.iconst 1, 1) := by decide +kernel
theorem dX2_keepUnlessError_23 : decode cX2_keepUnlessError 23 = .ok (.iadd, 1) := by decide +kernel
theorem dX2_keepUnlessError_24 : decode cX2_keepUnlessError 24 = .ok (.bipush 6, 2) := by decide +kernel
theorem dX2_keepUnlessError_26 : decode cX2_keepUnlessError 26 = .ok (.invokestatic 33, 3) := by decide +kernel
theorem dX2_keepUnlessError_29 : decode cX2_keepUnlessError 29 = .ok (.putfield 30, 3) := by decide +kernel
theorem dX2_keepUnlessError_32 : decode cX2_keepUnlessError 32 = .ok (.iload_n 1, 1) := by decide +kernel
theorem dX2_keepUnlessError_33 : decode cX2_keepUnlessError 33 = .ok (.ireturn, 1) := by decide +kernel
set_option maxRecDepth 20000 in
theorem ggX2_takeBack_X2_nextRow : GoodIn wsX2_takeBack wsX2_nextRow := goodIn_r _ [7, 2, 8, 33, 34, 35] (by decide +kernel) (by decide +kernel)
set_option maxRecDepth 20000 in
theorem gX2_takeBack_X2_nextRow : GoodIn wsX2_takeBack (wsV RX2 22 RX2 yX2_nextRow wsX2_nextRow) := goodIn_app (goodIn_of _ (by decide +kernel)) ggX2_takeBack_X2_nextRow
set_option maxRecDepth 20000 in
theorem ggX2_takeBack_X1_copy : GoodIn wsX2_takeBack wsX1_copy := goodIn_r _ [12, 13, 14, 15, 16, 17, 18, 19, 20, 21, 22, 23, 24, 25, 26, 27, 28, 29, 30, 31, 32, 36, 37, 38, 39, 40, 41, 42, 43, 44, 45, 46, 47, 48, 49, 50, 51] (by decide +kernel) (by decide +kernel)
set_option maxRecDepth 20000 in
theorem gX2_takeBack_X1_copy : GoodIn wsX2_takeBack (va_wsS RX2 26 yX1_copy wsX1_copy) := goodIn_app (goodIn_of _ (by decide +kernel)) ggX2_takeBack_X1_copy
theorem dX2_takeBack_0 : decode cX2_takeBack 0 = .ok (.aload_n 0, 1) := by decide +kernel
theorem dX2_takeBack_1 : decode cX2_takeBack 1 = .ok (.getfield 30, 3) := by decide +kernel
theorem dX2_takeBack_4 : decode cX2_takeBack 4 = .ok (.ifCond .ne 6, 3) := by decide +kernel
theorem dX2_takeBack_7 : decode cX2_takeBack 7 = .ok (.bipush (-5), 2) := by decide +kernel
theorem dX2_takeBack_9 : decode cX2_takeBack 9 = .ok (.ireturn, 1) := by decide +kernel
theorem dX2_takeBack_10 : decode cX2_takeBack 10 = .ok (.aload_n 0, 1) := by decide +kernel
theorem dX2_takeBack_11 : decode cX2_takeBack 11 = .ok (.aload_n 0, 1) := by decide +kernel
theorem dX2_takeBack_12 : decode cX2_takeBack 12 = .ok (.getfield 18, 3) := by decide +kernel
theorem dX2_takeBack_15 : decode cX2_takeBack 15 = .ok (.bipush 7, 2) := by decide +kernel
theorem dX2_takeBack_17 : decode cX2_takeBack 17 = .ok (.iadd, 1) := by decide +kernel
theorem dX2_takeBack_18 : decode cX2_takeBack 18 = .ok (.iconst 1, 1) := by decide +kernel
theorem dX2_takeBack_19 : decode cX2_takeBack 19 = .ok (.isub, 1) := by decide +kernel
theorem dX2_takeBack_20 : decode cX2_takeBack 20 = .ok (.bipush 7, 2) := by decide +kernel
theorem dX2_takeBack_22 : decode cX2_takeBack 22 = .ok (.irem, 1) := by decide +kernel
theorem dX2_takeBack_23 : decode cX2_takeBack 23 = .ok (.putfield 18, 3) := by decide +kernel
theorem dX2_takeBack_26 : decode cX2_takeBack 26 = .ok (.aload_n 0, 1) := by decide +kernel
theorem dX2_takeBack_27 : decode cX2_takeBack 27 = .ok (.dup, 1) := by decide +kernel
theorem dX2_takeBack_28 : decode cX2_takeBack 28 = .ok (.getfield 30, 3) := by decide +kernel
theorem dX2_takeBack_31 : decode cX2_takeBack 31 = .ok (.iconst 1, 1) := by decide +kernel
theorem dX2_takeBack_32 : decode cX2_takeBack 32 = .ok (.isub, 1) := by decide +kernel
theorem dX2_takeBack_33 : decode cX2_takeBack 33 = .ok (.putfield 30, 3) := by decide +kernel
theorem dX2_takeBack_36 : decode cX2_takeBack 36 = .ok (.aload_n 0, 1) := by decide +kernel
theorem dX2_takeBack_37 : decode cX2_takeBack 37 = .ok (.invokevirtual 22, 3) := by decide +kernel
theorem dX2_takeBack_40 : decode cX2_takeBack 40 = .ok (.aload_n 1, 1) := by decide +kernel
theorem dX2_takeBack_41 : decode cX2_takeBack 41 = .ok (.invokestatic 26, 3) := by decide +kernel
theorem dX2_takeBack_44 : decode cX2_takeBack 44 = .ok (.aload_n 0, 1) := by decide +kernel
theorem dX2_takeBack_45 : decode cX2_takeBack 45 = .ok (.getfield 30, 3) := by decide +kernel
theorem dX2_takeBack_48 : decode cX2_takeBack 48 = .ok (.ireturn, 1) := by decide +kernel
theorem dX3_init_0 : decode cX3_init 0 = .ok (.aload_n 0, 1) := by decide +kernel
theorem dX3_init_1 : decode cX3_init 1 = .ok (.invokespecial 3, 3) := by decide +kernel
theorem dX3_init_4 : decode cX3_init 4 = .ok (.aload_n 0, 1) := by decide +kernel
theorem dX3_init_5 : decode cX3_init 5 = .ok (.bipush 80, 2) := by decide +kernel
theorem dX3_init_7 : decode cX3_init 7 = .ok (.newarray .char, 2) := by decide +kernel
theorem dX3_init_9 : decode cX3_init 9 = .ok (.putfield 9, 3) := by decide +kernel
theorem dX3_init_12 : decode cX3_init 12 = .ok (.return_, 1) := by decide +kernel
theorem dX3_append_0 : decode cX3_append 0 = .ok (.iconst 0, 1) := by decide +kernel
theorem dX3_append_1 : decode cX3_append 1 = .ok (.istore_n 3, 1) := by decide +kernel
theorem dX3_append_2 : decode cX3_append 2 = .ok (.lload_n 1, 1) := by decide +kernel
theorem dX3_append_3 : decode cX3_append 3 = .ok (.lstore 4, 2) := by decide +kernel
theorem dX3_append_5 : decode cX3_append 5 = .ok (.lload 4, 2) := by decide +kernel
theorem dX3_append_7 : decode cX3_append 7 = .ok (.lconst 0, 1) := by decide +kernel
theorem dX3_append_8 : decode cX3_append 8 = .ok (.lcmp, 1) := by decide +kernel
theorem dX3_append_9 : decode cX3_append 9 = .ok (.ifCond .eq 51, 3) := by decide +kernel
theorem dX3_append_12 : decode cX3_append 12 = .ok (.iload_n 3, 1) := by decide +kernel
theorem dX3_append_13 : decode cX3_append 13 = .ok (.bipush 8, 2) := by decide +kernel
theorem dX3_append_15 : decode cX3_append 15 = .ok (.if_icmp .ge 45, 3) := by decide +kernel
theorem dX3_append_18 : decode cX3_append 18 = .ok (.lload 4, 2) := by decide +kernel
theorem dX3_append_20 : decode cX3_append 20 = .ok (.ldc2_w 15, 3) := by decide +kernel
theorem dX3_append_23 : decode cX3_append 23 = .ok (.land, 1) := by decide +kernel
theorem dX3_append_24 : decode cX3_append 24 = .ok (.lstore 6, 2) := by decide +kernel
theorem dX3_append_26 : decode cX3_append 26 = .ok (.lload 6, 2) := by decide +kernel
theorem dX3_append_28 : decode cX3_append 28 = .ok (.ldc2_w 17, 3) := by decide +kernel
theorem dX3_append_31 : decode cX3_append 31 = .ok (.lcmp, 1) := by decide +kernel
theorem dX3_append_32 : decode cX3_append 32 = .ok (.ifCond .lt 12, 3) := by decide +kernel
theorem dX3_append_35 : decode cX3_append 35 = .ok (.lload 6, 2) := by decide +kernel
theorem dX3_append_37 : decode cX3_append 37 = .ok (.ldc2_w 19, 3) := by decide +kernel
theorem dX3_append_40 : decode cX3_append 40 = .ok (.lcmp, 1) := by decide +kernel
theorem dX3_append_41 : decode cX3_append 41 = .ok (.ifCond .le 6, 3) := by decide +kernel
theorem dX3_append_44 : decode cX3_append 44 = .ok (.bipush (-2), 2) := by decide +kernel
theorem dX3_append_46 : decode cX3_append 46 = .ok (.ireturn, 1) := by decide +kernel
theorem dX3_append_47 : decode cX3_append 47 = .ok (.iinc 3 1, 3) := by decide +kernel
theorem dX3_append_50 : decode cX3_append 50 = .ok (.lload 4, 2) := by decide +kernel
theorem dX3_append_52 : decode cX3_append 52 = .ok (.bipush 8, 2) := by decide +kernel
theorem dX3_append_54 : decode cX3_append 54 = .ok (.lushr, 1) := by decide +kernel
theorem dX3_append_55 : decode cX3_append 55 = .ok (.lstore 4, 2) := by decide +kernel
theorem dX3_append_57 : decode cX3_append 57 = .ok (.goto (-52), 3) := by decide +kernel
theorem dX3_append_60 : decode cX3_append 60 = .ok (.iload_n 3, 1) := by decide +kernel
theorem dX3_append_61 : decode cX3_append 61 = .ok (.ifCond .ne 6, 3) := by decide +kernel
theorem dX3_append_64 : decode cX3_append 64 = .ok (.bipush (-2), 2) := by decide +kernel
theorem dX3_append_66 : decode cX3_append 66 = .ok (.ireturn, 1) := by decide +kernel
theorem dX3_append_67 : decode cX3_append 67 = .ok (.iload_n 3, 1) := by decide +kernel
theorem dX3_append_68 : decode cX3_append 68 = .ok (.bipush 80, 2) := by decide +kernel
theorem dX3_append_70 : decode cX3_append 70 = .ok (.aload_n 0, 1) := by decide +kernel
theorem dX3_append_71 : decode cX3_append 71 = .ok (.getfield 21, 3) := by decide +kernel
theorem dX3_append_74 : decode cX3_append 74 = .ok (.isub, 1) := by decide +kernel
theorem dX3_append_75 : decode cX3_append 75 = .ok (.if_icmp .le 6, 3) := by decide +kernel
theorem dX3_append_78 : decode cX3_append 78 = .ok (.bipush (-4), 2) := by decide +kernel
theorem dX3_append_80 : decode cX3_append 80 = .ok (.ireturn, 1) := by decide +kernel
theorem dX3_append_81 : decode cX3_append 81 = .ok (.iload_n 3, 1) := by decide +kernel
theorem dX3_append_82 : decode cX3_append 82 = .ok (.iconst 1, 1) := by decide +kernel
theorem dX3_append_83 : decode cX3_append 83 = .ok (.isub, 1) := by decide +kernel
theorem dX3_append_84 : decode cX3_append 84 = .ok (.istore 4, 2) := by decide +kernel
theorem dX3_append_86 : decode cX3_append 86 = .ok (.iload 4, 2) := by decide +kernel
theorem dX3_append_88 : decode cX3_append 88 = .ok (.ifCond .lt 57, 3) := by decide +kernel
theorem dX3_append_91 : decode cX3_append 91 = .ok (.aload_n 0, 1) := by decide +kernel
theorem dX3_append_92 : decode cX3_append 92 = .ok (.getfield 21, 3) := by decide +kernel
theorem dX3_append_95 : decode cX3_append 95 = .ok (.ifCond .lt 44, 3) := by decide +kernel
theorem dX3_append_98 : decode cX3_append 98 = .ok (.aload_n 0, 1) := by decide +kernel
theorem dX3_append_99 : decode cX3_append 99 = .ok (.getfield 21, 3) := by decide +kernel
theorem dX3_append_102 : decode cX3_append 102 = .ok (.bipush 80, 2) := by decide +kernel
theorem dX3_append_104 : decode cX3_append 104 = .ok (.if_icmp .ge 35, 3) := by decide +kernel
theorem dX3_append_107 : decode cX3_append 107 = .ok (.aload_n 0, 1) := by decide +kernel
theorem dX3_append_108 : decode cX3_append 108 = .ok (.getfield 9, 3) := by decide +kernel
theorem dX3_append_111 : decode cX3_append 111 = .ok (.aload_n 0, 1) := by decide +kernel
theorem dX3_append_112 : decode cX3_append 112 = .ok (.getfield 21, 3) := by decide +kernel
theorem dX3_append_115 : decode cX3_append 115 = .ok (.lload_n 1, 1) := by decide +kernel
theorem dX3_append_116 : decode cX3_append 116 = .ok (.bipush 8, 2) := by decide +kernel
theorem dX3_append_118 : decode cX3_append 118 = .ok (.iload 4, 2) := by decide +kernel
theorem dX3_append_120 : decode cX3_append 120 = .ok (.imul, 1) := by decide +kernel
theorem dX3_append_121 : decode cX3_append 121 = .ok (.lushr, 1) := by decide +kernel
theorem dX3_append_122 : decode cX3_append 122 = .ok (.ldc2_w 15, 3) := by decide +kernel
theorem dX3_append_125 : decode cX3_append 125 = .ok (.land, 1) := by decide +kernel
theorem dX3_append_126 : decode cX3_append 126 = .ok (.l2i, 1) := by decide +kernel
theorem dX3_append_127 : decode cX3_append 127 = .ok (.i2c, 1) := by decide +kernel
theorem dX3_append_128 : decode cX3_append 128 = .ok (.castore, 1) := by decide +kernel
theorem dX3_append_129 : decode cX3_append 129 = .ok (.aload_n 0, 1) := by decide +kernel
theorem dX3_append_130 : decode cX3_append 130 = .ok (.dup, 1) := by decide +kernel
theorem dX3_append_131 : decode cX3_append 131 = .ok (.getfield 21, 3) := by decide +kernel
theorem dX3_append_134 : decode cX3_append 134 = .ok (.iconst 1, 1) := by decide +kernel
theorem dX3_append_135 : decode cX3_append 135 = .ok (.iadd, 1) := by decide +kernel
theorem dX3_append_136 : decode cX3_append 136 = .ok (.putfield 21, 3) := by decide +kernel
theorem dX3_append_139 : decode cX3_append 139 = .ok (.iinc 4 (-1), 3) := by decide +kernel
theorem dX3_append_142 : decode cX3_append 142 = .ok (.goto (-56), 3) := by decide +kernel
theorem dX3_append_145 : decode cX3_append 145 = .ok (.aload_n 0, 1) := by decide +kernel
theorem dX3_append_146 : decode cX3_append 146 = .ok (.getfield 21, 3) := by decide +kernel
theorem dX3_append_149 : decode cX3_append 149 = .ok (.ireturn, 1) := by decide +kernel
theorem dX3_empty_0 : decode cX3_empty 0 = .ok (.aload_n 0, 1) := by decide +kernel
theorem dX3_empty_1 : decode cX3_empty 1 = .ok (.getfield 21, 3) := by decide +kernel
theorem dX3_empty_4 : decode cX3_empty 4 = .ok (.istore_n 1, 1) := by decide +kernel
theorem dX3_empty_5 : decode cX3_empty 5 = .ok (.aload_n 0, 1) := by decide +kernel
theorem dX3_empty_6 : decode cX3_empty 6 = .ok (.iconst 0, 1) := by decide +kernel
theorem dX3_empty_7 : decode cX3_empty 7 = .ok (.putfield 21, 3) := by decide +kernel
theorem dX3_empty_10 : decode cX3_empty 10 = .ok (.iload_n 1, 1) := by decide +kernel
theorem dX3_empty_11 : decode cX3_empty 11 = .ok (.ireturn, 1) := by decide +kernel
set_option maxRecDepth 20000 in
theorem ggX3_firstFault_X3_begin : GoodIn wsX3_firstFault wsX3_begin := goodIn_r _ [7, 1, 40, 41, 42, 43, 44, 45] (by decide +kernel) (by decide +kernel)
set_option maxRecDepth 20000 in
theorem gX3_firstFault_X3_begin : GoodIn wsX3_firstFault (wsV RX3 25 RX3 yX3_begin wsX3_begin) := goodIn_app (goodIn_of _ (by decide +kernel)) ggX3_firstFault_X3_begin
set_option maxRecDepth 20000 in
theorem ggX3_firstFault_X3_readOrder : GoodIn wsX3_firstFault wsX3_readOrder := goodIn_r _ [11, 12, 13, 14, 6, 15, 1, 16, 17, 18, 19, 2, 20, 21, 22, 23, 24, 25, 26, 27, 28, 29, 30, 31, 32, 33, 34, 35, 36, 37, 38, 39, 40, 41, 42, 43, 44, 45] (by decide +kernel) (by decide +kernel)
set_option maxRecDepth 20000 in
theorem gX3_firstFault_X3_readOrder : GoodIn wsX3_firstFault (wsV RX3 28 RX3 yX3_readOrder wsX3_readOrder) := goodIn_app (goodIn_of _ (by decide +kernel)) ggX3_firstFault_X3_readOrder
set_option maxRecDepth 20000 in
theorem ggX3_firstFault_X3_skip : GoodIn wsX3_firstFault wsX3_skip := goodIn_r _ [15, 1, 16, 17, 18, 6, 19, 2, 20, 40, 41, 42, 43, 44, 45] (by decide +kernel) (by decide +kernel)
set_option maxRecDepth 20000 in
theorem gX3_firstFault_X3_skip : GoodIn wsX3_firstFault (wsV RX3 35 RX3 yX3_skip wsX3_skip) := goodIn_app (goodIn_of _ (by decide +kernel)) ggX3_firstFault_X3_skip
theorem dX3_firstFault_0 : decode cX3_firstFault 0 = .ok (.aload_n 0, 1) := by decide +kernel
theorem dX3_firstFault_1 : decode cX3_firstFault 1 = .ok (.invokevirtual 25, 3) := by decide +kernel
theorem dX3_firstFault_4 : decode cX3_firstFault 4 = .ok (.iconst 0, 1) := by decide +kernel
theorem dX3_firstFault_5 : decode cX3_firstFault 5 = .ok (.istore_n 1, 1) := by decide +kernel
theorem dX3_firstFault_6 : decode cX3_firstFault 6 = .ok (.iload_n 1, 1) := by decide +kernel
theorem dX3_firstFault_7 : decode cX3_firstFault 7 = .ok (.bipush 80, 2) := by decide +kernel
theorem dX3_firstFault_9 : decode cX3_firstFault 9 = .ok (.if_icmp .gt 33, 3) := by decide +kernel
theorem dX3_firstFault_12 : decode cX3_firstFault 12 = .ok (.aload_n 0, 1) := by decide +kernel
theorem dX3_firstFault_13 : decode cX3_firstFault 13 = .ok (.invokevirtual 28, 3) := by decide +kernel
theorem dX3_firstFault_16 : decode cX3_firstFault 16 = .ok (.ifCond .ne 8, 3) := by decide +kernel
theorem dX3_firstFault_19 : decode cX3_firstFault 19 = .ok (.aload_n 0, 1) := by decide +kernel
theorem dX3_firstFault_20 : decode cX3_firstFault 20 = .ok (.getfield 32, 3) := by decide +kernel
theorem dX3_firstFault_23 : decode cX3_firstFault 23 = .ok (.ireturn, 1) := by decide +kernel
theorem dX3_firstFault_24 : decode cX3_firstFault 24 = .ok (.aload_n 0, 1) := by decide +kernel
theorem dX3_firstFault_25 : decode cX3_firstFault 25 = .ok (.bipush 59, 2) := by decide +kernel
theorem dX3_firstFault_27 : decode cX3_firstFault 27 = .ok (.invokevirtual 35, 3) := by decide +kernel
theorem dX3_firstFault_30 : decode cX3_firstFault 30 = .ok (.ifCond .ne 6, 3) := by decide +kernel
theorem dX3_firstFault_33 : decode cX3_firstFault 33 = .ok (.goto 9, 3) := by decide +kernel
theorem dX3_firstFault_36 : decode cX3_firstFault 36 = .ok (.iinc 1 1, 3) := by decide +kernel
theorem dX3_firstFault_39 : decode cX3_firstFault 39 = .ok (.goto (-33), 3) := by decide +kernel
theorem dX3_firstFault_42 : decode cX3_firstFault 42 = .ok (.aload_n 0, 1) := by decide +kernel
theorem dX3_firstFault_43 : decode cX3_firstFault 43 = .ok (.getfield 32, 3) := by decide +kernel
theorem dX3_firstFault_46 : decode cX3_firstFault 46 = .ok (.aload_n 0, 1) := by decide +kernel
theorem dX3_firstFault_47 : decode cX3_firstFault 47 = .ok (.getfield 21, 3) := by decide +kernel
theorem dX3_firstFault_50 : decode cX3_firstFault 50 = .ok (.if_icmp .ge 10, 3) := by decide +kernel
theorem dX3_firstFault_53 : decode cX3_firstFault 53 = .ok (.aload_n 0, 1) := by decide +kernel
theorem dX3_firstFault_54 : decode cX3_firstFault 54 = .ok (.getfield 32, 3) := by decide +kernel
theorem dX3_firstFault_57 : decode cX3_firstFault 57 = .ok (.goto 5, 3) := by decide +kernel
theorem dX3_firstFault_60 : decode cX3_firstFault 60 = .ok (.bipush (-6), 2) := by decide +kernel
theorem dX3_firstFault_62 : decode cX3_firstFault 62 = .ok (.ireturn, 1) := by decide +kernel
theorem dX3_begin_0 : decode cX3_begin 0 = .ok (.aload_n 0, 1) := by decide +kernel
theorem dX3_begin_1 : decode cX3_begin 1 = .ok (.iconst 0, 1) := by decide +kernel
theorem dX3_begin_2 : decode cX3_begin 2 = .ok (.putfield 32, 3) := by decide +kernel
theorem dX3_begin_5 : decode cX3_begin 5 = .ok (.return_, 1) := by decide +kernel
theorem dX3_here_0 : decode cX3_here 0 = .ok (.aload_n 0, 1) := by decide +kernel
theorem dX3_here_1 : decode cX3_here 1 = .ok (.getfield 32, 3) := by decide +kernel
theorem dX3_here_4 : decode cX3_here 4 = .ok (.ifCond .lt 35, 3) := by decide +kernel
theorem dX3_here_7 : decode cX3_here 7 = .ok (.aload_n 0, 1) := by decide +kernel
theorem dX3_here_8 : decode cX3_here 8 = .ok (.getfield 32, 3) := by decide +kernel
theorem dX3_here_11 : decode cX3_here 11 = .ok (.aload_n 0, 1) := by decide +kernel
theorem dX3_here_12 : decode cX3_here 12 = .ok (.getfield 21, 3) := by decide +kernel
theorem dX3_here_15 : decode cX3_here 15 = .ok (.if_icmp .ge 24, 3) := by decide +kernel
theorem dX3_here_18 : decode cX3_here 18 = .ok (.aload_n 0, 1) := by decide +kernel
theorem dX3_here_19 : decode cX3_here 19 = .ok (.getfield 32, 3) := by decide +kernel
theorem dX3_here_22 : decode cX3_here 22 = .ok (.bipush 80, 2) := by decide +kernel
theorem dX3_here_24 : decode cX3_here 24 = .ok (.if_icmp .ge 15, 3) := by decide +kernel
theorem dX3_here_27 : decode cX3_here 27 = .ok (.aload_n 0, 1) := by decide +kernel
theorem dX3_here_28 : decode cX3_here 28 = .ok (.getfield 9, 3) := by decide +kernel
theorem dX3_here_31 : decode cX3_here 31 = .ok (.aload_n 0, 1) := by decide +kernel
theorem dX3_here_32 : decode cX3_here 32 = .ok (.getfield 32, 3) := by decide +kernel
theorem dX3_here_35 : decode cX3_here 35 = .ok (.caload, 1) := by decide +kernel
theorem dX3_here_36 : decode cX3_here 36 = .ok (.goto 4, 3) := by decide +kernel
theorem dX3_here_39 : decode cX3_here 39 = .ok (.iconst 0, 1) := by decide +kernel
theorem dX3_here_40 : decode cX3_here 40 = .ok (.ireturn, 1) := by decide +kernel
set_option maxRecDepth 20000 in
theorem ggX3_skip_X3_here : GoodIn wsX3_skip wsX3_here := goodIn_r _ [6, 1, 7, 8, 9, 10, 11, 12, 13, 14] (by decide +kernel) (by decide +kernel)
set_option maxRecDepth 20000 in
theorem gX3_skip_X3_here : GoodIn wsX3_skip (wsV RX3 39 RX3 yX3_here wsX3_here) := goodIn_app (goodIn_of _ (by decide +kernel)) ggX3_skip_X3_here
theorem dX3_skip_0 : decode cX3_skip 0 = .ok (.aload_n 0, 1) := by decide +kernel
theorem dX3_skip_1 : decode cX3_skip 1 = .ok (.invokevirtual 39, 3) := by decide +kernel
theorem dX3_skip_4 : decode cX3_skip 4 = .ok (.iload_n 1, 1) := by decide +kernel
theorem dX3_skip_5 : decode cX3_skip 5 = .ok (.if_icmp .eq 5, 3) := by decide +kernel
theorem dX3_skip_8 : decode cX3_skip 8 = .ok (.iconst 0, 1) := by decide +kernel
theorem dX3_skip_9 : decode cX3_skip 9 = .ok (.ireturn, 1) := by decide +kernel
theorem dX3_skip_10 : decode cX3_skip 10 = .ok (.aload_n 0, 1) := by decide +kernel
theorem dX3_skip_11 : decode cX3_skip 11 = .ok (.dup, 1) := by decide +kernel
theorem dX3_skip_12 : decode cX3_skip 12 = .ok (.getfield 32, 3) := by decide +kernel
theorem dX3_skip_15 : decode cX3_skip 15 = .ok (.iconst 1, 1) := by decide +kernel
theorem dX3_skip_16 : decode cX3_skip 16 = .ok (.iadd, 1) := by decide +kernel
theorem dX3_skip_17 : decode cX3_skip 17 = .ok (.putfield 32, 3) := by decide +kernel
theorem dX3_skip_20 : decode cX3_skip 20 = .ok (.iconst 1, 1) := by decide +kernel
theorem dX3_skip_21 : decode cX3_skip 21 = .ok (.ireturn, 1) := by decide +kernel
set_option maxRecDepth 20000 in
theorem ggX3_readOrder_X3_skip : GoodIn wsX3_readOrder wsX3_skip := goodIn_r _ [5, 6, 7, 8, 9, 4, 10, 11, 12, 32, 33, 34, 35, 36, 37] (by decide +kernel) (by decide +kernel)
set_option maxRecDepth 20000 in
theorem gX3_readOrder_X3_skip : GoodIn wsX3_readOrder (wsV RX3 35 RX3 yX3_skip wsX3_skip) := goodIn_app (goodIn_of _ (by decide +kernel)) ggX3_readOrder_X3_skip
set_option maxRecDepth 20000 in
theorem ggX3_readOrder_X3_readDigit : GoodIn wsX3_readOrder wsX3_readDigit := goodIn_r _ [16, 17, 6, 7, 8, 9, 4, 10, 11, 12, 32, 33, 34, 35, 36, 37] (by decide +kernel) (by decide +kernel)
set_option maxRecDepth 20000 in
theorem gX3_readOrder_X3_readDigit : GoodIn wsX3_readOrder (wsV RX3 43 RX3 yX3_readDigit wsX3_readDigit) := goodIn_app (goodIn_of _ (by decide +kernel)) ggX3_readOrder_X3_readDigit
set_option maxRecDepth 20000 in
theorem ggX3_readOrder_X3_readNumber : GoodIn wsX3_readOrder wsX3_readNumber := goodIn_r _ [21, 17, 6, 1, 2, 3, 4, 5, 7, 8, 9, 10, 11, 12, 32, 33, 34, 35, 36, 37] (by decide +kernel) (by decide +kernel)
set_option maxRecDepth 20000 in
theorem gX3_readOrder_X3_readNumber : GoodIn wsX3_readOrder (wsV RX3 46 RX3 yX3_readNumber wsX3_readNumber) := goodIn_app (goodIn_of _ (by decide +kernel)) ggX3_readOrder_X3_readNumber
set_option maxRecDepth 20000 in
theorem ggX3_readOrder_X3_readRuns : GoodIn wsX3_readOrder wsX3_readRuns := goodIn_r _ [25, 26, 27, 28, 4, 29, 30, 6, 31, 17, 7, 8, 9, 10, 11, 12, 1, 2, 3, 5, 18, 19, 20, 21, 32, 33, 34, 35, 36, 37] (by decide +kernel) (by decide +kernel)
set_option maxRecDepth 20000 in
theorem gX3_readOrder_X3_readRuns : GoodIn wsX3_readOrder (wsV RX3 49 RX3 yX3_readRuns wsX3_readRuns) := goodIn_app (goodIn_of _ (by decide +kernel)) ggX3_readOrder_X3_readRuns
theorem dX3_readOrder_0 : decode cX3_readOrder 0 = .ok (.aload_n 0, 1) := by decide +kernel
theorem dX3_readOrder_1 : decode cX3_readOrder 1 = .ok (.bipush 122, 2) := by decide +kernel
theorem dX3_readOrder_3 : decode cX3_readOrder 3 = .ok (.invokevirtual 35, 3) := by decide +kernel
theorem dX3_readOrder_6 : decode cX3_readOrder 6 = .ok (.ifCond .eq 5, 3) := by decide +kernel
theorem dX3_readOrder_9 : decode cX3_readOrder 9 = .ok (.iconst 1, 1) := by decide +kernel
theorem dX3_readOrder_10 : decode cX3_readOrder 10 = .ok (.ireturn, 1) := by decide +kernel
theorem dX3_readOrder_11 : decode cX3_readOrder 11 = .ok (.aload_n 0, 1) := by decide +kernel
theorem dX3_readOrder_12 : decode cX3_readOrder 12 = .ok (.bipush 110, 2) := by decide +kernel
theorem dX3_readOrder_14 : decode cX3_readOrder 14 = .ok (.invokevirtual 35, 3) := by decide +kernel
theorem dX3_readOrder_17 : decode cX3_readOrder 17 = .ok (.ifCond .eq 8, 3) := by decide +kernel
theorem dX3_readOrder_20 : decode cX3_readOrder 20 = .ok (.aload_n 0, 1) := by decide +kernel
theorem dX3_readOrder_21 : decode cX3_readOrder 21 = .ok (.invokevirtual 43, 3) := by decide +kernel
theorem dX3_readOrder_24 : decode cX3_readOrder 24 = .ok (.ireturn, 1) := by decide +kernel
theorem dX3_readOrder_25 : decode cX3_readOrder 25 = .ok (.aload_n 0, 1) := by decide +kernel
theorem dX3_readOrder_26 : decode cX3_readOrder 26 = .ok (.bipush 102, 2) := by decide +kernel
theorem dX3_readOrder_28 : decode cX3_readOrder 28 = .ok (.invokevirtual 35, 3) := by decide +kernel
theorem dX3_readOrder_31 : decode cX3_readOrder 31 = .ok (.ifCond .ne 12, 3) := by decide +kernel
theorem dX3_readOrder_34 : decode cX3_readOrder 34 = .ok (.aload_n 0, 1) := by decide +kernel
theorem dX3_readOrder_35 : decode cX3_readOrder 35 = .ok (.bipush 98, 2) := by decide +kernel
theorem dX3_readOrder_37 : decode cX3_readOrder 37 = .ok (.invokevirtual 35, 3) := by decide +kernel
theorem dX3_readOrder_40 : decode cX3_readOrder 40 = .ok (.ifCond .eq 8, 3) := by decide +kernel
theorem dX3_readOrder_43 : decode cX3_readOrder 43 = .ok (.aload_n 0, 1) := by decide +kernel
theorem dX3_readOrder_44 : decode cX3_readOrder 44 = .ok (.invokevirtual 46, 3) := by decide +kernel
theorem dX3_readOrder_47 : decode cX3_readOrder 47 = .ok (.ireturn, 1) := by decide +kernel
theorem dX3_readOrder_48 : decode cX3_readOrder 48 = .ok (.aload_n 0, 1) := by decide +kernel
theorem dX3_readOrder_49 : decode cX3_readOrder 49 = .ok (.invokevirtual 49, 3) := by decide +kernel
theorem dX3_readOrder_52 : decode cX3_readOrder 52 = .ok (.ireturn, 1) := by decide +kernel
set_option maxRecDepth 20000 in
theorem ggX3_readRuns_X3_readRun : GoodIn wsX3_readRuns wsX3_readRun := goodIn_r _ [5, 6, 7, 8, 9, 10, 11, 12, 4, 13, 14, 15, 16, 17, 18, 19, 20, 21, 22, 23, 24, 25, 26, 27, 28, 29] (by decide +kernel) (by decide +kernel)
set_option maxRecDepth 20000 in
theorem gX3_readRuns_X3_readRun : GoodIn wsX3_readRuns (wsV RX3 52 RX3 yX3_readRun wsX3_readRun) := goodIn_app (goodIn_of _ (by decide +kernel)) ggX3_readRuns_X3_readRun
set_option maxRecDepth 20000 in
theorem ggX3_readRuns_X3_skip : GoodIn wsX3_readRuns wsX3_skip := goodIn_r _ [19, 7, 10, 11, 12, 4, 13, 14, 15, 24, 25, 26, 27, 28, 29] (by decide +kernel) (by decide +kernel)
set_option maxRecDepth 20000 in
theorem gX3_readRuns_X3_skip : GoodIn wsX3_readRuns (wsV RX3 35 RX3 yX3_skip wsX3_skip) := goodIn_app (goodIn_of _ (by decide +kernel)) ggX3_readRuns_X3_skip
theorem dX3_readRuns_0 : decode cX3_readRuns 0 = .ok (.iconst 0, 1) := by decide +kernel
theorem dX3_readRuns_1 : decode cX3_readRuns 1 = .ok (.istore_n 1, 1) := by decide +kernel
theorem dX3_readRuns_2 : decode cX3_readRuns 2 = .ok (.iload_n 1, 1) := by decide +kernel
theorem dX3_readRuns_3 : decode cX3_readRuns 3 = .ok (.bipush 80, 2) := by decide +kernel
theorem dX3_readRuns_5 : decode cX3_readRuns 5 = .ok (.if_icmp .ge 29, 3) := by decide +kernel
theorem dX3_readRuns_8 : decode cX3_readRuns 8 = .ok (.aload_n 0, 1) := by decide +kernel
theorem dX3_readRuns_9 : decode cX3_readRuns 9 = .ok (.invokevirtual 52, 3) := by decide +kernel
theorem dX3_readRuns_12 : decode cX3_readRuns 12 = .ok (.ifCond .ne 5, 3) := by decide +kernel
theorem dX3_readRuns_15 : decode cX3_readRuns 15 = .ok (.iconst 0, 1) := by decide +kernel
theorem dX3_readRuns_16 : decode cX3_readRuns 16 = .ok (.ireturn, 1) := by decide +kernel
theorem dX3_readRuns_17 : decode cX3_readRuns 17 = .ok (.aload_n 0, 1) := by decide +kernel
theorem dX3_readRuns_18 : decode cX3_readRuns 18 = .ok (.bipush 44, 2) := by decide +kernel
theorem dX3_readRuns_20 : decode cX3_readRuns 20 = .ok (.invokevirtual 35, 3) := by decide +kernel
theorem dX3_readRuns_23 : decode cX3_readRuns 23 = .ok (.ifCond .ne 5, 3) := by decide +kernel
theorem dX3_readRuns_26 : decode cX3_readRuns 26 = .ok (.iconst 1, 1) := by decide +kernel
theorem dX3_readRuns_27 : decode cX3_readRuns 27 = .ok (.ireturn, 1) := by decide +kernel
theorem dX3_readRuns_28 : decode cX3_readRuns 28 = .ok (.iinc 1 1, 3) := by decide +kernel
theorem dX3_readRuns_31 : decode cX3_readRuns 31 = .ok (.goto (-29), 3) := by decide +kernel
theorem dX3_readRuns_34 : decode cX3_readRuns 34 = .ok (.iconst 0, 1) := by decide +kernel
theorem dX3_readRuns_35 : decode cX3_readRuns 35 = .ok (.ireturn, 1) := by decide +kernel
set_option maxRecDepth 20000 in
theorem ggX3_readRun_X3_here : GoodIn wsX3_readRun wsX3_here := goodIn_r _ [9, 2, 10, 11, 20, 21, 22, 23, 24, 25] (by decide +kernel) (by decide +kernel)
set_option maxRecDepth 20000 in
theorem gX3_readRun_X3_here : GoodIn wsX3_readRun (wsV RX3 39 RX3 yX3_here wsX3_here) := goodIn_app (goodIn_of _ (by decide +kernel)) ggX3_readRun_X3_here
set_option maxRecDepth 20000 in
theorem ggX3_readRun_X3_skip : GoodIn wsX3_readRun wsX3_skip := goodIn_r _ [15, 2, 5, 6, 7, 8, 9, 10, 11, 20, 21, 22, 23, 24, 25] (by decide +kernel) (by decide +kernel)
set_option maxRecDepth 20000 in
theorem gX3_readRun_X3_skip : GoodIn wsX3_readRun (wsV RX3 35 RX3 yX3_skip wsX3_skip) := goodIn_app (goodIn_of _ (by decide +kernel)) ggX3_readRun_X3_skip
set_option maxRecDepth 20000 in
theorem ggX3_readRun_X3_readNumber : GoodIn wsX3_readRun wsX3_readNumber := goodIn_r _ [19, 4, 2, 12, 13, 14, 8, 15, 5, 6, 7, 9, 10, 11, 20, 21, 22, 23, 24, 25] (by decide +kernel) (by decide +kernel)
set_option maxRecDepth 20000 in
theorem gX3_readRun_X3_readNumber : GoodIn wsX3_readRun (wsV RX3 46 RX3 yX3_readNumber wsX3_readNumber) := goodIn_app (goodIn_of _ (by decide +kernel)) ggX3_readRun_X3_readNumber
theorem dX3_readRun_0 : decode cX3_readRun 0 = .ok (.aload_n 0, 1) := by decide +kernel
theorem dX3_readRun_1 : decode cX3_readRun 1 = .ok (.invokevirtual 39, 3) := by decide +kernel
theorem dX3_readRun_4 : decode cX3_readRun 4 = .ok (.bipush 48, 2) := by decide +kernel
theorem dX3_readRun_6 : decode cX3_readRun 6 = .ok (.if_icmp .lt 12, 3) := by decide +kernel
theorem dX3_readRun_9 : decode cX3_readRun 9 = .ok (.aload_n 0, 1) := by decide +kernel
theorem dX3_readRun_10 : decode cX3_readRun 10 = .ok (.invokevirtual 39, 3) := by decide +kernel
theorem dX3_readRun_13 : decode cX3_readRun 13 = .ok (.bipush 51, 2) := by decide +kernel
theorem dX3_readRun_15 : decode cX3_readRun 15 = .ok (.if_icmp .le 5, 3) := by decide +kernel
theorem dX3_readRun_18 : decode cX3_readRun 18 = .ok (.iconst 0, 1) := by decide +kernel
theorem dX3_readRun_19 : decode cX3_readRun 19 = .ok (.ireturn, 1) := by decide +kernel
theorem dX3_readRun_20 : decode cX3_readRun 20 = .ok (.aload_n 0, 1) := by decide +kernel
theorem dX3_readRun_21 : decode cX3_readRun 21 = .ok (.aload_n 0, 1) := by decide +kernel
theorem dX3_readRun_22 : decode cX3_readRun 22 = .ok (.invokevirtual 39, 3) := by decide +kernel
theorem dX3_readRun_25 : decode cX3_readRun 25 = .ok (.bipush 48, 2) := by decide +kernel
theorem dX3_readRun_27 : decode cX3_readRun 27 = .ok (.isub, 1) := by decide +kernel
theorem dX3_readRun_28 : decode cX3_readRun 28 = .ok (.putfield 55, 3) := by decide +kernel
theorem dX3_readRun_31 : decode cX3_readRun 31 = .ok (.aload_n 0, 1) := by decide +kernel
theorem dX3_readRun_32 : decode cX3_readRun 32 = .ok (.dup, 1) := by decide +kernel
theorem dX3_readRun_33 : decode cX3_readRun 33 = .ok (.getfield 32, 3) := by decide +kernel
theorem dX3_readRun_36 : decode cX3_readRun 36 = .ok (.iconst 1, 1) := by decide +kernel
theorem dX3_readRun_37 : decode cX3_readRun 37 = .ok (.iadd, 1) := by decide +kernel
theorem dX3_readRun_38 : decode cX3_readRun 38 = .ok (.putfield 32, 3) := by decide +kernel
theorem dX3_readRun_41 : decode cX3_readRun 41 = .ok (.aload_n 0, 1) := by decide +kernel
theorem dX3_readRun_42 : decode cX3_readRun 42 = .ok (.aload_n 0, 1) := by decide +kernel
theorem dX3_readRun_43 : decode cX3_readRun 43 = .ok (.bipush 105, 2) := by decide +kernel
theorem dX3_readRun_45 : decode cX3_readRun 45 = .ok (.invokevirtual 35, 3) := by decide +kernel
theorem dX3_readRun_48 : decode cX3_readRun 48 = .ok (.ifCond .eq 7, 3) := by decide +kernel
theorem dX3_readRun_51 : decode cX3_readRun 51 = .ok (.iconst 1, 1) := by decide +kernel
theorem dX3_readRun_52 : decode cX3_readRun 52 = .ok (.goto 4, 3) := by decide +kernel
theorem dX3_readRun_55 : decode cX3_readRun 55 = .ok (.iconst 0, 1) := by decide +kernel
theorem dX3_readRun_56 : decode cX3_readRun 56 = .ok (.putfield 58, 3) := by decide +kernel
theorem dX3_readRun_59 : decode cX3_readRun 59 = .ok (.aload_n 0, 1) := by decide +kernel
theorem dX3_readRun_60 : decode cX3_readRun 60 = .ok (.iconst 1, 1) := by decide +kernel
theorem dX3_readRun_61 : decode cX3_readRun 61 = .ok (.putfield 61, 3) := by decide +kernel
theorem dX3_readRun_64 : decode cX3_readRun 64 = .ok (.aload_n 0, 1) := by decide +kernel
theorem dX3_readRun_65 : decode cX3_readRun 65 = .ok (.bipush 42, 2) := by decide +kernel
theorem dX3_readRun_67 : decode cX3_readRun 67 = .ok (.invokevirtual 35, 3) := by decide +kernel
theorem dX3_readRun_70 : decode cX3_readRun 70 = .ok (.ifCond .eq 10, 3) := by decide +kernel
theorem dX3_readRun_73 : decode cX3_readRun 73 = .ok (.aload_n 0, 1) := by decide +kernel
theorem dX3_readRun_74 : decode cX3_readRun 74 = .ok (.invokevirtual 46, 3) := by decide +kernel
theorem dX3_readRun_77 : decode cX3_readRun 77 = .ok (.ifCond .eq 7, 3) := by decide +kernel
theorem dX3_readRun_80 : decode cX3_readRun 80 = .ok (.iconst 1, 1) := by decide +kernel
theorem dX3_readRun_81 : decode cX3_readRun 81 = .ok (.goto 4, 3) := by decide +kernel
theorem dX3_readRun_84 : decode cX3_readRun 84 = .ok (.iconst 0, 1) := by decide +kernel
theorem dX3_readRun_85 : decode cX3_readRun 85 = .ok (.ireturn, 1) := by decide +kernel
set_option maxRecDepth 20000 in
theorem ggX3_readNumber_X3_skip : GoodIn wsX3_readNumber wsX3_skip := goodIn_r _ [7, 2, 8, 9, 10, 6, 11, 12, 13, 14, 15, 16, 17, 18, 19] (by decide +kernel) (by decide +kernel)
set_option maxRecDepth 20000 in
theorem gX3_readNumber_X3_skip : GoodIn wsX3_readNumber (wsV RX3 35 RX3 yX3_skip wsX3_skip) := goodIn_app (goodIn_of _ (by decide +kernel)) ggX3_readNumber_X3_skip
set_option maxRecDepth 20000 in
theorem ggX3_readNumber_X3_here : GoodIn wsX3_readNumber wsX3_here := goodIn_r _ [11, 2, 12, 13, 14, 15, 16, 17, 18, 19] (by decide +kernel) (by decide +kernel)
set_option maxRecDepth 20000 in
theorem gX3_readNumber_X3_here : GoodIn wsX3_readNumber (wsV RX3 39 RX3 yX3_here wsX3_here) := goodIn_app (goodIn_of _ (by decide +kernel)) ggX3_readNumber_X3_here
theorem dX3_readNumber_0 : decode cX3_readNumber 0 = .ok (.aload_n 0, 1) := by decide +kernel
theorem dX3_readNumber_1 : decode cX3_readNumber 1 = .ok (.iconst 0, 1) := by decide +kernel
theorem dX3_readNumber_2 : decode cX3_readNumber 2 = .ok (.putfield 61, 3) := by decide +kernel
theorem dX3_readNumber_5 : decode cX3_readNumber 5 = .ok (.aload_n 0, 1) := by decide +kernel
theorem dX3_readNumber_6 : decode cX3_readNumber 6 = .ok (.bipush 48, 2) := by decide +kernel
theorem dX3_readNumber_8 : decode cX3_readNumber 8 = .ok (.invokevirtual 35, 3) := by decide +kernel
theorem dX3_readNumber_11 : decode cX3_readNumber 11 = .ok (.ifCond .eq 5, 3) := by decide +kernel
theorem dX3_readNumber_14 : decode cX3_readNumber 14 = .ok (.iconst 1, 1) := by decide +kernel
theorem dX3_readNumber_15 : decode cX3_readNumber 15 = .ok (.ireturn, 1) := by decide +kernel
theorem dX3_readNumber_16 : decode cX3_readNumber 16 = .ok (.iconst 0, 1) := by decide +kernel
theorem dX3_readNumber_17 : decode cX3_readNumber 17 = .ok (.istore_n 1, 1) := by decide +kernel
theorem dX3_readNumber_18 : decode cX3_readNumber 18 = .ok (.iload_n 1, 1) := by decide +kernel
theorem dX3_readNumber_19 : decode cX3_readNumber 19 = .ok (.iconst 3, 1) := by decide +kernel
theorem dX3_readNumber_20 : decode cX3_readNumber 20 = .ok (.if_icmp .ge 56, 3) := by decide +kernel
theorem dX3_readNumber_23 : decode cX3_readNumber 23 = .ok (.aload_n 0, 1) := by decide +kernel
theorem dX3_readNumber_24 : decode cX3_readNumber 24 = .ok (.invokevirtual 39, 3) := by decide +kernel
theorem dX3_readNumber_27 : decode cX3_readNumber 27 = .ok (.bipush 48, 2) := by decide +kernel
theorem dX3_readNumber_29 : decode cX3_readNumber 29 = .ok (.if_icmp .lt 47, 3) := by decide +kernel
theorem dX3_readNumber_32 : decode cX3_readNumber 32 = .ok (.aload_n 0, 1) := by decide +kernel
theorem dX3_readNumber_33 : decode cX3_readNumber 33 = .ok (.invokevirtual 39, 3) := by decide +kernel
theorem dX3_readNumber_36 : decode cX3_readNumber 36 = .ok (.bipush 57, 2) := by decide +kernel
theorem dX3_readNumber_38 : decode cX3_readNumber 38 = .ok (.if_icmp .gt 38, 3) := by decide +kernel
theorem dX3_readNumber_41 : decode cX3_readNumber 41 = .ok (.aload_n 0, 1) := by decide +kernel
theorem dX3_readNumber_42 : decode cX3_readNumber 42 = .ok (.bipush 10, 2) := by decide +kernel
theorem dX3_readNumber_44 : decode cX3_readNumber 44 = .ok (.aload_n 0, 1) := by decide +kernel
theorem dX3_readNumber_45 : decode cX3_readNumber 45 = .ok (.getfield 61, 3) := by decide +kernel
theorem dX3_readNumber_48 : decode cX3_readNumber 48 = .ok (.imul, 1) := by decide +kernel
theorem dX3_readNumber_49 : decode cX3_readNumber 49 = .ok (.aload_n 0, 1) := by decide +kernel
theorem dX3_readNumber_50 : decode cX3_readNumber 50 = .ok (.invokevirtual 39, 3) := by decide +kernel
theorem dX3_readNumber_53 : decode cX3_readNumber 53 = .ok (.iadd, 1) := by decide +kernel
theorem dX3_readNumber_54 : decode cX3_readNumber 54 = .ok (.bipush 48, 2) := by decide +kernel
theorem dX3_readNumber_56 : decode cX3_readNumber 56 = .ok (.isub, 1) := by decide +kernel
theorem dX3_readNumber_57 : decode cX3_readNumber 57 = .ok (.putfield 61, 3) := by decide +kernel
theorem dX3_readNumber_60 : decode cX3_readNumber 60 = .ok (.aload_n 0, 1) := by decide +kernel
theorem dX3_readNumber_61 : decode cX3_readNumber 61 = .ok (.dup, 1) := by decide +kernel
theorem dX3_readNumber_62 : decode cX3_readNumber 62 = .ok (.getfield 32, 3) := by decide +kernel
theorem dX3_readNumber_65 : decode cX3_readNumber 65 = .ok (.iconst 1, 1) := by decide +kernel
theorem dX3_readNumber_66 : decode cX3_readNumber 66 = .ok (.iadd, 1) := by decide +kernel
theorem dX3_readNumber_67 : decode cX3_readNumber 67 = .ok (.putfield 32, 3) := by decide +kernel
theorem dX3_readNumber_70 : decode cX3_readNumber 70 = .ok (.iinc 1 1, 3) := by decide +kernel
theorem dX3_readNumber_73 : decode cX3_readNumber 73 = .ok (.goto (-55), 3) := by decide +kernel
theorem dX3_readNumber_76 : decode cX3_readNumber 76 = .ok (.iload_n 1, 1) := by decide +kernel
theorem dX3_readNumber_77 : decode cX3_readNumber 77 = .ok (.ifCond .le 7, 3) := by decide +kernel
theorem dX3_readNumber_80 : decode cX3_readNumber 80 = .ok (.iconst 1, 1) := by decide +kernel
theorem dX3_readNumber_81 : decode cX3_readNumber 81 = .ok (.goto 4, 3) := by decide +kernel
theorem dX3_readNumber_84 : decode cX3_readNumber 84 = .ok (.iconst 0, 1) := by decide +kernel
theorem dX3_readNumber_85 : decode cX3_readNumber 85 = .ok (.ireturn, 1) := by decide +kernel
set_option maxRecDepth 20000 in
theorem ggX3_readDigit_X3_here : GoodIn wsX3_readDigit wsX3_here := goodIn_r _ [7, 2, 8, 9, 10, 11, 12, 13, 14, 15] (by decide +kernel) (by decide +kernel)
set_option maxRecDepth 20000 in
theorem gX3_readDigit_X3_here : GoodIn wsX3_readDigit (wsV RX3 39 RX3 yX3_here wsX3_here) := goodIn_app (goodIn_of _ (by decide +kernel)) ggX3_readDigit_X3_here
theorem dX3_readDigit_0 : decode cX3_readDigit 0 = .ok (.aload_n 0, 1) := by decide +kernel
theorem dX3_readDigit_1 : decode cX3_readDigit 1 = .ok (.invokevirtual 39, 3) := by decide +kernel
theorem dX3_readDigit_4 : decode cX3_readDigit 4 = .ok (.bipush 49, 2) := by decide +kernel
theorem dX3_readDigit_6 : decode cX3_readDigit 6 = .ok (.if_icmp .lt 12, 3) := by decide +kernel
theorem dX3_readDigit_9 : decode cX3_readDigit 9 = .ok (.aload_n 0, 1) := by decide +kernel
theorem dX3_readDigit_10 : decode cX3_readDigit 10 = .ok (.invokevirtual 39, 3) := by decide +kernel
theorem dX3_readDigit_13 : decode cX3_readDigit 13 = .ok (.bipush 57, 2) := by decide +kernel
theorem dX3_readDigit_15 : decode cX3_readDigit 15 = .ok (.if_icmp .le 5, 3) := by decide +kernel
theorem dX3_readDigit_18 : decode cX3_readDigit 18 = .ok (.iconst 0, 1) := by decide +kernel
theorem dX3_readDigit_19 : decode cX3_readDigit 19 = .ok (.ireturn, 1) := by decide +kernel
theorem dX3_readDigit_20 : decode cX3_readDigit 20 = .ok (.aload_n 0, 1) := by decide +kernel
theorem dX3_readDigit_21 : decode cX3_readDigit 21 = .ok (.aload_n 0, 1) := by decide +kernel
theorem dX3_readDigit_22 : decode cX3_readDigit 22 = .ok (.invokevirtual 39, 3) := by decide +kernel
theorem dX3_readDigit_25 : decode cX3_readDigit 25 = .ok (.bipush 48, 2) := by decide +kernel
theorem dX3_readDigit_27 : decode cX3_readDigit 27 = .ok (.isub, 1) := by decide +kernel
theorem dX3_readDigit_28 : decode cX3_readDigit 28 = .ok (.putfield 61, 3) := by decide +kernel
theorem dX3_readDigit_31 : decode cX3_readDigit 31 = .ok (.aload_n 0, 1) := by decide +kernel
theorem dX3_readDigit_32 : decode cX3_readDigit 32 = .ok (.dup, 1) := by decide +kernel
theorem dX3_readDigit_33 : decode cX3_readDigit 33 = .ok (.getfield 32, 3) := by decide +kernel
theorem dX3_readDigit_36 : decode cX3_readDigit 36 = .ok (.iconst 1, 1) := by decide +kernel
theorem dX3_readDigit_37 : decode cX3_readDigit 37 = .ok (.iadd, 1) := by decide +kernel
theorem dX3_readDigit_38 : decode cX3_readDigit 38 = .ok (.putfield 32, 3) := by decide +kernel
theorem dX3_readDigit_41 : decode cX3_readDigit 41 = .ok (.iconst 1, 1) := by decide +kernel
theorem dX3_readDigit_42 : decode cX3_readDigit 42 = .ok (.ireturn, 1) := by decide +kernel
set_option maxRecDepth 20000 in
theorem ggX4_init_X1_init : GoodIn wsX4_init wsX1_init := goodIn_r _ [12, 13, 2, 3, 14, 15, 16, 17, 18, 19, 20, 23, 24, 25, 26, 27, 28, 29, 30, 31, 32, 33, 34, 35, 36, 37, 38] (by decide +kernel) (by decide +kernel)
set_option maxRecDepth 20000 in
theorem gX4_init_X1_init : GoodIn wsX4_init (wsX1_init) := ggX4_init_X1_init
theorem dX4_init_0 : decode cX4_init 0 = .ok (.aload_n 0, 1) := by decide +kernel
theorem dX4_init_1 : decode cX4_init 1 = .ok (.invokespecial 3, 3) := by decide +kernel
theorem dX4_init_4 : decode cX4_init 4 = .ok (.aload_n 0, 1) := by decide +kernel
theorem dX4_init_5 : decode cX4_init 5 = .ok (.iconst 2, 1) := by decide +kernel
theorem dX4_init_6 : decode cX4_init 6 = .ok (.anewarray 9, 3) := by decide +kernel
theorem dX4_init_9 : decode cX4_init 9 = .ok (.putfield 11, 3) := by decide +kernel
theorem dX4_init_12 : decode cX4_init 12 = .ok (.aload_n 0, 1) := by decide +kernel
theorem dX4_init_13 : decode cX4_init 13 = .ok (.iconst 2, 1) := by decide +kernel
theorem dX4_init_14 : decode cX4_init 14 = .ok (.newarray .boolean, 2) := by decide +kernel
theorem dX4_init_16 : decode cX4_init 16 = .ok (.putfield 17, 3) := by decide +kernel
theorem dX4_init_19 : decode cX4_init 19 = .ok (.iconst 0, 1) := by decide +kernel
theorem dX4_init_20 : decode cX4_init 20 = .ok (.istore_n 1, 1) := by decide +kernel
theorem dX4_init_21 : decode cX4_init 21 = .ok (.iload_n 1, 1) := by decide +kernel
theorem dX4_init_22 : decode cX4_init 22 = .ok (.iconst 2, 1) := by decide +kernel
theorem dX4_init_23 : decode cX4_init 23 = .ok (.if_icmp .ge 22, 3) := by decide +kernel
theorem dX4_init_26 : decode cX4_init 26 = .ok (.aload_n 0, 1) := by decide +kernel
theorem dX4_init_27 : decode cX4_init 27 = .ok (.getfield 11, 3) := by decide +kernel
theorem dX4_init_30 : decode cX4_init 30 = .ok (.iload_n 1, 1) := by decide +kernel
theorem dX4_init_31 : decode cX4_init 31 = .ok (.new 9, 3) := by decide +kernel
theorem dX4_init_34 : decode cX4_init 34 = .ok (.dup, 1) := by decide +kernel
theorem dX4_init_35 : decode cX4_init 35 = .ok (.invokespecial 21, 3) := by decide +kernel
theorem dX4_init_38 : decode cX4_init 38 = .ok (.aastore, 1) := by decide +kernel
theorem dX4_init_39 : decode cX4_init 39 = .ok (.iinc 1 1, 3) := by decide +kernel
theorem dX4_init_42 : decode cX4_init 42 = .ok (.goto (-21), 3) := by decide +kernel
theorem dX4_init_45 : decode cX4_init 45 = .ok (.return_, 1) := by decide +kernel
set_option maxRecDepth 20000 in
theorem ggX4_store_X1_copy : GoodIn wsX4_store wsX1_copy := goodIn_r _ [7, 8, 9, 10, 11, 12, 13, 14, 15, 16, 17, 18, 19, 20, 21, 22, 23, 24, 25, 26, 27, 30, 31, 32, 33, 34, 35, 36, 37, 38, 39, 40, 41, 42, 43, 44, 45] (by decide +kernel) (by decide +kernel)
set_option maxRecDepth 20000 in
theorem gX4_store_X1_copy : GoodIn wsX4_store (va_wsS RX4 22 yX1_copy wsX1_copy) := goodIn_app (goodIn_of _ (by decide +kernel)) ggX4_store_X1_copy
theorem dX4_store_0 : decode cX4_store 0 = .ok (.iload_n 1, 1) := by decide +kernel
theorem dX4_store_1 : decode cX4_store 1 = .ok (.ifCond .lt 12, 3) := by decide +kernel
theorem dX4_store_4 : decode cX4_store 4 = .ok (.iload_n 1, 1) := by decide +kernel
theorem dX4_store_5 : decode cX4_store 5 = .ok (.iconst 2, 1) := by decide +kernel
theorem dX4_store_6 : decode cX4_store 6 = .ok (.if_icmp .ge 7, 3) := by decide +kernel
theorem dX4_store_9 : decode cX4_store 9 = .ok (.aload_n 2, 1) := by decide +kernel
theorem dX4_store_10 : decode cX4_store 10 = .ok (.ifnonnull 6, 3) := by decide +kernel
theorem dX4_store_13 : decode cX4_store 13 = .ok (.bipush (-2), 2) := by decide +kernel
theorem dX4_store_15 : decode cX4_store 15 = .ok (.ireturn, 1) := by decide +kernel
theorem dX4_store_16 : decode cX4_store 16 = .ok (.aload_n 2, 1) := by decide +kernel
theorem dX4_store_17 : decode cX4_store 17 = .ok (.aload_n 0, 1) := by decide +kernel
theorem dX4_store_18 : decode cX4_store 18 = .ok (.getfield 11, 3) := by decide +kernel
theorem dX4_store_21 : decode cX4_store 21 = .ok (.iload_n 1, 1) := by decide +kernel
theorem dX4_store_22 : decode cX4_store 22 = .ok (.aaload, 1) := by decide +kernel
theorem dX4_store_23 : decode cX4_store 23 = .ok (.invokestatic 22, 3) := by decide +kernel
theorem dX4_store_26 : decode cX4_store 26 = .ok (.aload_n 0, 1) := by decide +kernel
theorem dX4_store_27 : decode cX4_store 27 = .ok (.getfield 17, 3) := by decide +kernel
theorem dX4_store_30 : decode cX4_store 30 = .ok (.iload_n 1, 1) := by decide +kernel
theorem dX4_store_31 : decode cX4_store 31 = .ok (.iconst 1, 1) := by decide +kernel
theorem dX4_store_32 : decode cX4_store 32 = .ok (.bastore, 1) := by decide +kernel
theorem dX4_store_33 : decode cX4_store 33 = .ok (.aload_n 2, 1) := by decide +kernel
theorem dX4_store_34 : decode cX4_store 34 = .ok (.getfield 26, 3) := by decide +kernel
theorem dX4_store_37 : decode cX4_store 37 = .ok (.ireturn, 1) := by decide +kernel
set_option maxRecDepth 20000 in
theorem ggX4_fetch_X1_copy : GoodIn wsX4_fetch wsX1_copy := goodIn_r _ [7, 8, 9, 10, 11, 12, 13, 14, 15, 16, 17, 18, 19, 20, 21, 22, 23, 24, 25, 26, 27, 30, 31, 32, 33, 34, 35, 36, 37, 38, 39, 40, 41, 42, 43, 44, 45] (by decide +kernel) (by decide +kernel)
set_option maxRecDepth 20000 in
theorem gX4_fetch_X1_copy : GoodIn wsX4_fetch (va_wsS RX4 22 yX1_copy wsX1_copy) := goodIn_app (goodIn_of _ (by decide +kernel)) ggX4_fetch_X1_copy
theorem dX4_fetch_0 : decode cX4_fetch 0 = .ok (.iload_n 1, 1) := by decide +kernel
theorem dX4_fetch_1 : decode cX4_fetch 1 = .ok (.ifCond .lt 12, 3) := by decide +kernel
theorem dX4_fetch_4 : decode cX4_fetch 4 = .ok (.iload_n 1, 1) := by decide +kernel
theorem dX4_fetch_5 : decode cX4_fetch 5 = .ok (.iconst 2, 1) := by decide +kernel
theorem dX4_fetch_6 : decode cX4_fetch 6 = .ok (.if_icmp .ge 7, 3) := by decide +kernel
theorem dX4_fetch_9 : decode cX4_fetch 9 = .ok (.aload_n 2, 1) := by decide +kernel
theorem dX4_fetch_10 : decode cX4_fetch 10 = .ok (.ifnonnull 6, 3) := by decide +kernel
theorem dX4_fetch_13 : decode cX4_fetch 13 = .ok (.bipush (-2), 2) := by decide +kernel
theorem dX4_fetch_15 : decode cX4_fetch 15 = .ok (.ireturn, 1) := by decide +kernel
theorem dX4_fetch_16 : decode cX4_fetch 16 = .ok (.aload_n 0, 1) := by decide +kernel
theorem dX4_fetch_17 : decode cX4_fetch 17 = .ok (.getfield 17, 3) := by decide +kernel
theorem dX4_fetch_20 : decode cX4_fetch 20 = .ok (.iload_n 1, 1) := by decide +kernel
theorem dX4_fetch_21 : decode cX4_fetch 21 = .ok (.baload, 1) := by decide +kernel
theorem dX4_fetch_22 : decode cX4_fetch 22 = .ok (.ifCond .ne 6, 3) := by decide +kernel
theorem dX4_fetch_25 : decode cX4_fetch 25 = .ok (.bipush (-5), 2) := by decide +kernel
theorem dX4_fetch_27 : decode cX4_fetch 27 = .ok (.ireturn, 1) := by decide +kernel
theorem dX4_fetch_28 : decode cX4_fetch 28 = .ok (.aload_n 0, 1) := by decide +kernel
theorem dX4_fetch_29 : decode cX4_fetch 29 = .ok (.getfield 11, 3) := by decide +kernel
theorem dX4_fetch_32 : decode cX4_fetch 32 = .ok (.iload_n 1, 1) := by decide +kernel
theorem dX4_fetch_33 : decode cX4_fetch 33 = .ok (.aaload, 1) := by decide +kernel
theorem dX4_fetch_34 : decode cX4_fetch 34 = .ok (.aload_n 2, 1) := by decide +kernel
theorem dX4_fetch_35 : decode cX4_fetch 35 = .ok (.invokestatic 22, 3) := by decide +kernel
theorem dX4_fetch_38 : decode cX4_fetch 38 = .ok (.aload_n 2, 1) := by decide +kernel
theorem dX4_fetch_39 : decode cX4_fetch 39 = .ok (.getfield 26, 3) := by decide +kernel
theorem dX4_fetch_42 : decode cX4_fetch 42 = .ok (.ireturn, 1) := by decide +kernel
set_option maxRecDepth 20000 in
theorem ggX5_init_X1_init : GoodIn wsX5_init wsX1_init := goodIn_r _ [23, 24, 2, 3, 25, 26, 27, 28, 29, 30, 31, 54, 55, 56, 57, 58, 59, 60, 61, 62, 63, 64, 65, 66, 67, 68, 69] (by decide +kernel) (by decide +kernel)
set_option maxRecDepth 20000 in
theorem gX5_init_X1_init : GoodIn wsX5_init (wsX1_init) := ggX5_init_X1_init
set_option maxRecDepth 20000 in
theorem ggX5_init_X2_init : GoodIn wsX5_init wsX2_init := goodIn_r _ [34, 35, 2, 3, 36, 37, 5, 6, 38, 22, 23, 24, 25, 26, 27, 28, 29, 30, 31, 75, 76, 77, 54, 55, 56, 57, 58, 59, 60, 61, 62, 63, 64, 65, 66, 67, 68, 69] (by decide +kernel) (by decide +kernel)
set_option maxRecDepth 20000 in
theorem gX5_init_X2_init : GoodIn wsX5_init (wsX2_init) := ggX5_init_X2_init
set_option maxRecDepth 20000 in
theorem ggX5_init_X4_init : GoodIn wsX5_init wsX4_init := goodIn_r _ [41, 42, 2, 3, 43, 44, 45, 46, 5, 6, 47, 22, 23, 24, 25, 26, 27, 28, 29, 30, 31, 78, 79, 54, 55, 56, 57, 58, 59, 60, 61, 62, 63, 64, 65, 66, 67, 68, 69] (by decide +kernel) (by decide +kernel)
set_option maxRecDepth 20000 in
theorem gX5_init_X4_init : GoodIn wsX5_init (wsX4_init) := ggX5_init_X4_init
set_option maxRecDepth 20000 in
theorem ggX5_init_X3_init : GoodIn wsX5_init wsX3_init := goodIn_r _ [50, 51, 2, 3, 52, 53, 80, 81, 82, 83, 84, 85] (by decide +kernel) (by decide +kernel)
set_option maxRecDepth 20000 in
theorem gX5_init_X3_init : GoodIn wsX5_init (wsX3_init) := ggX5_init_X3_init
theorem dX5_init_0 : decode cX5_init 0 = .ok (.aload_n 0, 1) := by decide +kernel
theorem dX5_init_1 : decode cX5_init 1 = .ok (.invokespecial 1, 3) := by decide +kernel
theorem dX5_init_4 : decode cX5_init 4 = .ok (.aload_n 0, 1) := by decide +kernel
theorem dX5_init_5 : decode cX5_init 5 = .ok (.new 7, 3) := by decide +kernel
theorem dX5_init_8 : decode cX5_init 8 = .ok (.dup, 1) := by decide +kernel
theorem dX5_init_9 : decode cX5_init 9 = .ok (.invokespecial 9, 3) := by decide +kernel
theorem dX5_init_12 : decode cX5_init 12 = .ok (.putfield 10, 3) := by decide +kernel
theorem dX5_init_15 : decode cX5_init 15 = .ok (.aload_n 0, 1) := by decide +kernel
theorem dX5_init_16 : decode cX5_init 16 = .ok (.new 7, 3) := by decide +kernel
theorem dX5_init_19 : decode cX5_init 19 = .ok (.dup, 1) := by decide +kernel
theorem dX5_init_20 : decode cX5_init 20 = .ok (.invokespecial 9, 3) := by decide +kernel
theorem dX5_init_23 : decode cX5_init 23 = .ok (.putfield 16, 3) := by decide +kernel
theorem dX5_init_26 : decode cX5_init 26 = .ok (.aload_n 0, 1) := by decide +kernel
theorem dX5_init_27 : decode cX5_init 27 = .ok (.new 19, 3) := by decide +kernel
theorem dX5_init_30 : decode cX5_init 30 = .ok (.dup, 1) := by decide +kernel
theorem dX5_init_31 : decode cX5_init 31 = .ok (.invokespecial 21, 3) := by decide +kernel
theorem dX5_init_34 : decode cX5_init 34 = .ok (.putfield 22, 3) := by decide +kernel
theorem dX5_init_37 : decode cX5_init 37 = .ok (.aload_n 0, 1) := by decide +kernel
theorem dX5_init_38 : decode cX5_init 38 = .ok (.new 26, 3) := by decide +kernel
theorem dX5_init_41 : decode cX5_init 41 = .ok (.dup, 1) := by decide +kernel
theorem dX5_init_42 : decode cX5_init 42 = .ok (.invokespecial 28, 3) := by decide +kernel
theorem dX5_init_45 : decode cX5_init 45 = .ok (.putfield 29, 3) := by decide +kernel
theorem dX5_init_48 : decode cX5_init 48 = .ok (.aload_n 0, 1) := by decide +kernel
theorem dX5_init_49 : decode cX5_init 49 = .ok (.new 33, 3) := by decide +kernel
theorem dX5_init_52 : decode cX5_init 52 = .ok (.dup, 1) := by decide +kernel
theorem dX5_init_53 : decode cX5_init 53 = .ok (.invokespecial 35, 3) := by decide +kernel
theorem dX5_init_56 : decode cX5_init 56 = .ok (.putfield 36, 3) := by decide +kernel
theorem dX5_init_59 : decode cX5_init 59 = .ok (.return_, 1) := by decide +kernel
set_option maxRecDepth 20000 in
theorem ggX5_set_X2_prepare : GoodIn wsX5_set wsX2_prepare := goodIn_r _ [7, 8, 9, 10, 6, 11, 12, 13, 14, 15, 16, 17, 18, 19, 20, 21, 22, 23, 24, 25, 26, 27, 28, 29, 30, 31, 32, 33, 34, 35, 36, 37, 59, 60, 61, 62, 63, 64, 65, 66, 67, 68, 69, 70, 71, 72, 73, 74, 75, 76, 77] (by decide +kernel) (by decide +kernel)
set_option maxRecDepth 20000 in
theorem gX5_set_X2_prepare : GoodIn wsX5_set (wsV RX5 40 RX2 yX2_prepare wsX2_prepare) := goodIn_app (goodIn_of _ (by decide +kernel)) ggX5_set_X2_prepare
set_option maxRecDepth 20000 in
theorem ggX5_set_X1_adjust : GoodIn wsX5_set wsX1_adjust := goodIn_r _ [41, 18, 26, 25, 42, 43, 16, 44, 62, 63, 64, 65, 66, 67, 68, 69, 70, 71, 72, 73, 74, 75, 76, 77] (by decide +kernel) (by decide +kernel)
set_option maxRecDepth 20000 in
theorem gX5_set_X1_adjust : GoodIn wsX5_set (wsV RX5 44 RX1 yX1_adjust wsX1_adjust) := goodIn_app (goodIn_of _ (by decide +kernel)) ggX5_set_X1_adjust
set_option maxRecDepth 20000 in
theorem ggX5_set_X2_keepUnlessError : GoodIn wsX5_set wsX2_keepUnlessError := goodIn_r _ [48, 12, 49, 50, 51, 52, 53, 59, 60, 61] (by decide +kernel) (by decide +kernel)
set_option maxRecDepth 20000 in
theorem gX5_set_X2_keepUnlessError : GoodIn wsX5_set (wsV RX5 48 RX2 yX2_keepUnlessError wsX2_keepUnlessError) := goodIn_app (goodIn_of _ (by decide +kernel)) ggX5_set_X2_keepUnlessError
theorem dX5_set_0 : decode cX5_set 0 = .ok (.aload_n 0, 1) := by decide +kernel
theorem dX5_set_1 : decode cX5_set 1 = .ok (.getfield 22, 3) := by decide +kernel
theorem dX5_set_4 : decode cX5_set 4 = .ok (.aload_n 0, 1) := by decide +kernel
theorem dX5_set_5 : decode cX5_set 5 = .ok (.getfield 10, 3) := by decide +kernel
theorem dX5_set_8 : decode cX5_set 8 = .ok (.invokevirtual 40, 3) := by decide +kernel
theorem dX5_set_11 : decode cX5_set 11 = .ok (.aload_n 0, 1) := by decide +kernel
theorem dX5_set_12 : decode cX5_set 12 = .ok (.getfield 22, 3) := by decide +kernel
theorem dX5_set_15 : decode cX5_set 15 = .ok (.aload_n 0, 1) := by decide +kernel
theorem dX5_set_16 : decode cX5_set 16 = .ok (.getfield 10, 3) := by decide +kernel
theorem dX5_set_19 : decode cX5_set 19 = .ok (.iload_n 1, 1) := by decide +kernel
theorem dX5_set_20 : decode cX5_set 20 = .ok (.iload_n 2, 1) := by decide +kernel
theorem dX5_set_21 : decode cX5_set 21 = .ok (.invokevirtual 44, 3) := by decide +kernel
theorem dX5_set_24 : decode cX5_set 24 = .ok (.invokevirtual 48, 3) := by decide +kernel
theorem dX5_set_27 : decode cX5_set 27 = .ok (.ireturn, 1) := by decide +kernel
set_option maxRecDepth 20000 in
theorem ggX5_feed_X2_prepare : GoodIn wsX5_feed wsX2_prepare := goodIn_r _ [7, 8, 9, 10, 6, 11, 12, 13, 14, 15, 16, 17, 18, 19, 20, 21, 22, 23, 24, 25, 26, 27, 28, 29, 30, 31, 32, 33, 34, 35, 36, 37, 87, 88, 89, 90, 91, 92, 93, 94, 95, 96, 97, 98, 99, 100, 101, 102, 103, 104, 105] (by decide +kernel) (by decide +kernel)
set_option maxRecDepth 20000 in
theorem gX5_feed_X2_prepare : GoodIn wsX5_feed (wsV RX5 40 RX2 yX2_prepare wsX2_prepare) := goodIn_app (goodIn_of _ (by decide +kernel)) ggX5_feed_X2_prepare
set_option maxRecDepth 20000 in
theorem ggX5_feed_X1_pass : GoodIn wsX5_feed wsX1_pass := goodIn_r _ [41, 42, 24, 43, 44, 45, 16, 46, 29, 30, 28, 27, 34, 23, 47, 48, 49, 50, 51, 52, 53, 54, 55, 56, 57, 58, 18, 59, 60, 61, 62, 63, 64, 65, 32, 33, 25, 26, 31, 36, 37, 66, 67, 68, 69, 70, 71, 72, 35, 90, 91, 92, 93, 94, 95, 96, 97, 98, 99, 100, 101, 102, 103, 104, 105] (by decide +kernel) (by decide +kernel)
set_option maxRecDepth 20000 in
theorem gX5_feed_X1_pass : GoodIn wsX5_feed (wsV RX5 52 RX1 yX1_pass wsX1_pass) := goodIn_app (goodIn_of _ (by decide +kernel)) ggX5_feed_X1_pass
set_option maxRecDepth 20000 in
theorem ggX5_feed_X2_keepUnlessError : GoodIn wsX5_feed wsX2_keepUnlessError := goodIn_r _ [76, 12, 77, 78, 79, 80, 81, 87, 88, 89] (by decide +kernel) (by decide +kernel)
set_option maxRecDepth 20000 in
theorem gX5_feed_X2_keepUnlessError : GoodIn wsX5_feed (wsV RX5 48 RX2 yX2_keepUnlessError wsX2_keepUnlessError) := goodIn_app (goodIn_of _ (by decide +kernel)) ggX5_feed_X2_keepUnlessError
theorem dX5_feed_0 : decode cX5_feed 0 = .ok (.aload_n 0, 1) := by decide +kernel
theorem dX5_feed_1 : decode cX5_feed 1 = .ok (.getfield 22, 3) := by decide +kernel
theorem dX5_feed_4 : decode cX5_feed 4 = .ok (.aload_n 0, 1) := by decide +kernel
theorem dX5_feed_5 : decode cX5_feed 5 = .ok (.getfield 10, 3) := by decide +kernel
theorem dX5_feed_8 : decode cX5_feed 8 = .ok (.invokevirtual 40, 3) := by decide +kernel
theorem dX5_feed_11 : decode cX5_feed 11 = .ok (.aload_n 0, 1) := by decide +kernel
theorem dX5_feed_12 : decode cX5_feed 12 = .ok (.getfield 22, 3) := by decide +kernel
theorem dX5_feed_15 : decode cX5_feed 15 = .ok (.aload_n 0, 1) := by decide +kernel
theorem dX5_feed_16 : decode cX5_feed 16 = .ok (.getfield 10, 3) := by decide +kernel
theorem dX5_feed_19 : decode cX5_feed 19 = .ok (.iload_n 1, 1) := by decide +kernel
theorem dX5_feed_20 : decode cX5_feed 20 = .ok (.iload_n 2, 1) := by decide +kernel
theorem dX5_feed_21 : decode cX5_feed 21 = .ok (.iload_n 3, 1) := by decide +kernel
theorem dX5_feed_22 : decode cX5_feed 22 = .ok (.invokevirtual 52, 3) := by decide +kernel
theorem dX5_feed_25 : decode cX5_feed 25 = .ok (.invokevirtual 48, 3) := by decide +kernel
theorem dX5_feed_28 : decode cX5_feed 28 = .ok (.ireturn, 1) := by decide +kernel
set_option maxRecDepth 20000 in
theorem ggX5_turn_X2_prepare : GoodIn wsX5_turn wsX2_prepare := goodIn_r _ [7, 8, 9, 10, 6, 11, 12, 13, 14, 15, 16, 17, 18, 19, 20, 21, 22, 23, 24, 25, 26, 27, 28, 29, 30, 31, 32, 33, 34, 35, 36, 37, 93, 94, 95, 96, 97, 98, 99, 100, 101, 102, 103, 104, 105, 106, 107, 108, 109, 110, 111] (by decide +kernel) (by decide +kernel)
set_option maxRecDepth 20000 in
theorem gX5_turn_X2_prepare : GoodIn wsX5_turn (wsV RX5 40 RX2 yX2_prepare wsX2_prepare) := goodIn_app (goodIn_of _ (by decide +kernel)) ggX5_turn_X2_prepare
set_option maxRecDepth 20000 in
theorem ggX5_turn_X1_revolve : GoodIn wsX5_turn wsX1_revolve := goodIn_r _ [41, 42, 43, 44, 45, 46, 24, 27, 25, 47, 48, 49, 16, 50, 18, 51, 52, 53, 54, 55, 56, 57, 58, 59, 60, 29, 30, 28, 34, 23, 61, 62, 63, 64, 65, 66, 67, 68, 69, 70, 71, 72, 32, 33, 26, 31, 36, 37, 73, 74, 75, 76, 77, 78, 79, 35, 96, 97, 98, 99, 100, 101, 102, 103, 104, 105, 106, 107, 108, 109, 110, 111] (by decide +kernel) (by decide +kernel)
set_option maxRecDepth 20000 in
theorem gX5_turn_X1_revolve : GoodIn wsX5_turn (wsV RX5 56 RX1 yX1_revolve wsX1_revolve) := goodIn_app (goodIn_of _ (by decide +kernel)) ggX5_turn_X1_revolve
set_option maxRecDepth 20000 in
theorem ggX5_turn_X2_keepUnlessError : GoodIn wsX5_turn wsX2_keepUnlessError := goodIn_r _ [83, 12, 84, 85, 86, 44, 87, 93, 94, 95] (by decide +kernel) (by decide +kernel)
set_option maxRecDepth 20000 in
theorem gX5_turn_X2_keepUnlessError : GoodIn wsX5_turn (wsV RX5 48 RX2 yX2_keepUnlessError wsX2_keepUnlessError) := goodIn_app (goodIn_of _ (by decide +kernel)) ggX5_turn_X2_keepUnlessError
theorem dX5_turn_0 : decode cX5_turn 0 = .ok (.aload_n 0, 1) := by decide +kernel
theorem dX5_turn_1 : decode cX5_turn 1 = .ok (.getfield 22, 3) := by decide +kernel
theorem dX5_turn_4 : decode cX5_turn 4 = .ok (.aload_n 0, 1) := by decide +kernel
theorem dX5_turn_5 : decode cX5_turn 5 = .ok (.getfield 10, 3) := by decide +kernel
theorem dX5_turn_8 : decode cX5_turn 8 = .ok (.invokevirtual 40, 3) := by decide +kernel
theorem dX5_turn_11 : decode cX5_turn 11 = .ok (.aload_n 0, 1) := by decide +kernel
theorem dX5_turn_12 : decode cX5_turn 12 = .ok (.getfield 22, 3) := by decide +kernel
theorem dX5_turn_15 : decode cX5_turn 15 = .ok (.aload_n 0, 1) := by decide +kernel
theorem dX5_turn_16 : decode cX5_turn 16 = .ok (.getfield 10, 3) := by decide +kernel
theorem dX5_turn_19 : decode cX5_turn 19 = .ok (.iload_n 1, 1) := by decide +kernel
theorem dX5_turn_20 : decode cX5_turn 20 = .ok (.invokevirtual 56, 3) := by decide +kernel
theorem dX5_turn_23 : decode cX5_turn 23 = .ok (.invokevirtual 48, 3) := by decide +kernel
theorem dX5_turn_26 : decode cX5_turn 26 = .ok (.ireturn, 1) := by decide +kernel
set_option maxRecDepth 20000 in
theorem ggX5_zero_X2_prepare : GoodIn wsX5_zero wsX2_prepare := goodIn_r _ [7, 8, 9, 10, 6, 11, 12, 13, 14, 15, 16, 17, 18, 19, 20, 21, 22, 23, 24, 25, 26, 27, 28, 29, 30, 31, 32, 33, 34, 35, 36, 37, 56, 57, 58, 59, 60, 61, 62, 63, 64, 65, 66, 67, 68, 69, 70, 71, 72, 73, 74] (by decide +kernel) (by decide +kernel)
set_option maxRecDepth 20000 in
theorem gX5_zero_X2_prepare : GoodIn wsX5_zero (wsV RX5 40 RX2 yX2_prepare wsX2_prepare) := goodIn_app (goodIn_of _ (by decide +kernel)) ggX5_zero_X2_prepare
set_option maxRecDepth 20000 in
theorem ggX5_zero_X1_clear : GoodIn wsX5_zero wsX1_clear := goodIn_r _ [41, 25, 26, 59, 60, 61, 62, 63, 64, 65, 66, 67, 68, 69, 70, 71, 72, 73, 74] (by decide +kernel) (by decide +kernel)
set_option maxRecDepth 20000 in
theorem gX5_zero_X1_clear : GoodIn wsX5_zero (wsV RX5 59 RX1 yX1_clear wsX1_clear) := goodIn_app (goodIn_of _ (by decide +kernel)) ggX5_zero_X1_clear
set_option maxRecDepth 20000 in
theorem ggX5_zero_X2_keepUnlessError : GoodIn wsX5_zero wsX2_keepUnlessError := goodIn_r _ [45, 12, 46, 47, 48, 49, 50, 56, 57, 58] (by decide +kernel) (by decide +kernel)
set_option maxRecDepth 20000 in
theorem gX5_zero_X2_keepUnlessError : GoodIn wsX5_zero (wsV RX5 48 RX2 yX2_keepUnlessError wsX2_keepUnlessError) := goodIn_app (goodIn_of _ (by decide +kernel)) ggX5_zero_X2_keepUnlessError
theorem dX5_zero_0 : decode cX5_zero 0 = .ok (.aload_n 0, 1) := by decide +kernel
theorem dX5_zero_1 : decode cX5_zero 1 = .ok (.getfield 22, 3) := by decide +kernel
theorem dX5_zero_4 : decode cX5_zero 4 = .ok (.aload_n 0, 1) := by decide +kernel
theorem dX5_zero_5 : decode cX5_zero 5 = .ok (.getfield 10, 3) := by decide +kernel
theorem dX5_zero_8 : decode cX5_zero 8 = .ok (.invokevirtual 40, 3) := by decide +kernel
theorem dX5_zero_11 : decode cX5_zero 11 = .ok (.aload_n 0, 1) := by decide +kernel
theorem dX5_zero_12 : decode cX5_zero 12 = .ok (.getfield 22, 3) := by decide +kernel
theorem dX5_zero_15 : decode cX5_zero 15 = .ok (.aload_n 0, 1) := by decide +kernel
theorem dX5_zero_16 : decode cX5_zero 16 = .ok (.getfield 10, 3) := by decide +kernel
theorem dX5_zero_19 : decode cX5_zero 19 = .ok (.invokevirtual 59, 3) := by decide +kernel
theorem dX5_zero_22 : decode cX5_zero 22 = .ok (.invokevirtual 48, 3) := by decide +kernel
theorem dX5_zero_25 : decode cX5_zero 25 = .ok (.ireturn, 1) := by decide +kernel
set_option maxRecDepth 20000 in
theorem ggX5_log_X1_hasTick : GoodIn wsX5_log wsX1_hasTick := goodIn_r _ [6, 7, 8, 9, 5, 10, 11, 12, 13, 14, 15, 39, 40, 41, 42, 43, 44, 45, 46, 47, 48, 49, 50, 51, 52, 53, 54] (by decide +kernel) (by decide +kernel)
set_option maxRecDepth 20000 in
theorem gX5_log_X1_hasTick : GoodIn wsX5_log (wsV RX5 63 RX1 yX1_hasTick wsX1_hasTick) := goodIn_app (goodIn_of _ (by decide +kernel)) ggX5_log_X1_hasTick
set_option maxRecDepth 20000 in
theorem ggX5_log_X1_pairAt : GoodIn wsX5_log wsX1_pairAt := goodIn_r _ [19, 20, 21, 22, 5, 23, 11, 24, 25, 3, 4, 6, 7, 8, 9, 10, 12, 13, 14, 15, 39, 40, 41, 42, 43, 44, 45, 46, 47, 48, 49, 50, 51, 52, 53, 54] (by decide +kernel) (by decide +kernel)
set_option maxRecDepth 20000 in
theorem gX5_log_X1_pairAt : GoodIn wsX5_log (wsV RX5 67 RX1 yX1_pairAt wsX1_pairAt) := goodIn_app (goodIn_of _ (by decide +kernel)) ggX5_log_X1_pairAt
set_option maxRecDepth 20000 in
theorem ggX5_log_X1_indexAt : GoodIn wsX5_log wsX1_indexAt := goodIn_r _ [29, 20, 21, 22, 5, 23, 11, 24, 25, 3, 4, 6, 7, 8, 9, 10, 12, 13, 14, 15, 39, 40, 41, 42, 43, 44, 45, 46, 47, 48, 49, 50, 51, 52, 53, 54] (by decide +kernel) (by decide +kernel)
set_option maxRecDepth 20000 in
theorem gX5_log_X1_indexAt : GoodIn wsX5_log (wsV RX5 70 RX1 yX1_indexAt wsX1_indexAt) := goodIn_app (goodIn_of _ (by decide +kernel)) ggX5_log_X1_indexAt
set_option maxRecDepth 20000 in
theorem ggX5_log_X1_deedAt : GoodIn wsX5_log wsX1_deedAt := goodIn_r _ [33, 20, 21, 22, 5, 23, 11, 24, 25, 3, 4, 6, 7, 8, 9, 10, 12, 13, 14, 15, 39, 40, 41, 42, 43, 44, 45, 46, 47, 48, 49, 50, 51, 52, 53, 54] (by decide +kernel) (by decide +kernel)
set_option maxRecDepth 20000 in
theorem gX5_log_X1_deedAt : GoodIn wsX5_log (wsV RX5 73 RX1 yX1_deedAt wsX1_deedAt) := goodIn_app (goodIn_of _ (by decide +kernel)) ggX5_log_X1_deedAt
theorem dX5_log_0 : decode cX5_log 0 = .ok (.aload_n 0, 1) := by decide +kernel
theorem dX5_log_1 : decode cX5_log 1 = .ok (.getfield 10, 3) := by decide +kernel
theorem dX5_log_4 : decode cX5_log 4 = .ok (.iload_n 1, 1) := by decide +kernel
theorem dX5_log_5 : decode cX5_log 5 = .ok (.invokevirtual 63, 3) := by decide +kernel
theorem dX5_log_8 : decode cX5_log 8 = .ok (.ifCond .ne 5, 3) := by decide +kernel
theorem dX5_log_11 : decode cX5_log 11 = .ok (.iconst (-1), 1) := by decide +kernel
theorem dX5_log_12 : decode cX5_log 12 = .ok (.ireturn, 1) := by decide +kernel
theorem dX5_log_13 : decode cX5_log 13 = .ok (.iload_n 2, 1) := by decide +kernel
theorem dX5_log_14 : decode cX5_log 14 = .ok (.tableswitch 53 0 2 #[26, 35, 44], 26) := by decide +kernel
theorem dX5_log_40 : decode cX5_log 40 = .ok (.aload_n 0, 1) := by decide +kernel
theorem dX5_log_41 : decode cX5_log 41 = .ok (.getfield 10, 3) := by decide +kernel
theorem dX5_log_44 : decode cX5_log 44 = .ok (.iload_n 1, 1) := by decide +kernel
theorem dX5_log_45 : decode cX5_log 45 = .ok (.invokevirtual 67, 3) := by decide +kernel
theorem dX5_log_48 : decode cX5_log 48 = .ok (.ireturn, 1) := by decide +kernel
theorem dX5_log_49 : decode cX5_log 49 = .ok (.aload_n 0, 1) := by decide +kernel
theorem dX5_log_50 : decode cX5_log 50 = .ok (.getfield 10, 3) := by decide +kernel
theorem dX5_log_53 : decode cX5_log 53 = .ok (.iload_n 1, 1) := by decide +kernel
theorem dX5_log_54 : decode cX5_log 54 = .ok (.invokevirtual 70, 3) := by decide +kernel
theorem dX5_log_57 : decode cX5_log 57 = .ok (.ireturn, 1) := by decide +kernel
theorem dX5_log_58 : decode cX5_log 58 = .ok (.aload_n 0, 1) := by decide +kernel
theorem dX5_log_59 : decode cX5_log 59 = .ok (.getfield 10, 3) := by decide +kernel
theorem dX5_log_62 : decode cX5_log 62 = .ok (.iload_n 1, 1) := by decide +kernel
theorem dX5_log_63 : decode cX5_log 63 = .ok (.invokevirtual 73, 3) := by decide +kernel
theorem dX5_log_66 : decode cX5_log 66 = .ok (.ireturn, 1) := by decide +kernel
theorem dX5_log_67 : decode cX5_log 67 = .ok (.bipush (-2), 2) := by decide +kernel
theorem dX5_log_69 : decode cX5_log 69 = .ok (.ireturn, 1) := by decide +kernel
set_option maxRecDepth 20000 in
theorem ggX5_count_X1_logged : GoodIn wsX5_count wsX1_logged := goodIn_r _ [19, 20, 21, 22, 23, 24, 35, 36, 37, 38, 39, 40, 41, 42, 43, 44, 45, 46, 47, 48, 49, 50] (by decide +kernel) (by decide +kernel)
set_option maxRecDepth 20000 in
theorem gX5_count_X1_logged : GoodIn wsX5_count (wsV RX5 104 RX1 yX1_logged wsX1_logged) := goodIn_app (goodIn_of _ (by decide +kernel)) ggX5_count_X1_logged
set_option maxRecDepth 20000 in
theorem ggX5_count_X1_setting : GoodIn wsX5_count wsX1_setting := goodIn_r _ [28, 29, 35, 36, 37, 38, 39, 40, 41, 42, 43, 44, 45, 46, 47, 48, 49, 50] (by decide +kernel) (by decide +kernel)
set_option maxRecDepth 20000 in
theorem gX5_count_X1_setting : GoodIn wsX5_count (wsV RX5 113 RX1 yX1_setting wsX1_setting) := goodIn_app (goodIn_of _ (by decide +kernel)) ggX5_count_X1_setting
theorem dX5_count_0 : decode cX5_count 0 = .ok (.iload_n 1, 1) := by decide +kernel
theorem dX5_count_1 : decode cX5_count 1 = .ok (.tableswitch 179 0 16 #[83, 91, 99, 107, 115, 123, 131, 139, 147, 155, 179, 179, 179, 179, 179, 163, 171], 83) := by decide +kernel
theorem dX5_count_84 : decode cX5_count 84 = .ok (.aload_n 0, 1) := by decide +kernel
theorem dX5_count_85 : decode cX5_count 85 = .ok (.getfield 10, 3) := by decide +kernel
theorem dX5_count_88 : decode cX5_count 88 = .ok (.getfield 76, 3) := by decide +kernel
theorem dX5_count_91 : decode cX5_count 91 = .ok (.ireturn, 1) := by decide +kernel
theorem dX5_count_92 : decode cX5_count 92 = .ok (.aload_n 0, 1) := by decide +kernel
theorem dX5_count_93 : decode cX5_count 93 = .ok (.getfield 10, 3) := by decide +kernel
theorem dX5_count_96 : decode cX5_count 96 = .ok (.getfield 80, 3) := by decide +kernel
theorem dX5_count_99 : decode cX5_count 99 = .ok (.ireturn, 1) := by decide +kernel
theorem dX5_count_100 : decode cX5_count 100 = .ok (.aload_n 0, 1) := by decide +kernel
theorem dX5_count_101 : decode cX5_count 101 = .ok (.getfield 10, 3) := by decide +kernel
theorem dX5_count_104 : decode cX5_count 104 = .ok (.getfield 83, 3) := by decide +kernel
theorem dX5_count_107 : decode cX5_count 107 = .ok (.ireturn, 1) := by decide +kernel
theorem dX5_count_108 : decode cX5_count 108 = .ok (.aload_n 0, 1) := by decide +kernel
theorem dX5_count_109 : decode cX5_count 109 = .ok (.getfield 10, 3) := by decide +kernel
theorem dX5_count_112 : decode cX5_count 112 = .ok (.getfield 86, 3) := by decide +kernel
theorem dX5_count_115 : decode cX5_count 115 = .ok (.ireturn, 1) := by decide +kernel
theorem dX5_count_116 : decode cX5_count 116 = .ok (.aload_n 0, 1) := by decide +kernel
theorem dX5_count_117 : decode cX5_count 117 = .ok (.getfield 10, 3) := by decide +kernel
theorem dX5_count_120 : decode cX5_count 120 = .ok (.getfield 89, 3) := by decide +kernel
theorem dX5_count_123 : decode cX5_count 123 = .ok (.ireturn, 1) := by decide +kernel
theorem dX5_count_124 : decode cX5_count 124 = .ok (.aload_n 0, 1) := by decide +kernel
theorem dX5_count_125 : decode cX5_count 125 = .ok (.getfield 10, 3) := by decide +kernel
theorem dX5_count_128 : decode cX5_count 128 = .ok (.getfield 92, 3) := by decide +kernel
theorem dX5_count_131 : decode cX5_count 131 = .ok (.ireturn, 1) := by decide +kernel
theorem dX5_count_132 : decode cX5_count 132 = .ok (.aload_n 0, 1) := by decide +kernel
theorem dX5_count_133 : decode cX5_count 133 = .ok (.getfield 10, 3) := by decide +kernel
theorem dX5_count_136 : decode cX5_count 136 = .ok (.getfield 95, 3) := by decide +kernel
theorem dX5_count_139 : decode cX5_count 139 = .ok (.ireturn, 1) := by decide +kernel
theorem dX5_count_140 : decode cX5_count 140 = .ok (.aload_n 0, 1) := by decide +kernel
theorem dX5_count_141 : decode cX5_count 141 = .ok (.getfield 10, 3) := by decide +kernel
theorem dX5_count_144 : decode cX5_count 144 = .ok (.getfield 98, 3) := by decide +kernel
theorem dX5_count_147 : decode cX5_count 147 = .ok (.ireturn, 1) := by decide +kernel
theorem dX5_count_148 : decode cX5_count 148 = .ok (.aload_n 0, 1) := by decide +kernel
theorem dX5_count_149 : decode cX5_count 149 = .ok (.getfield 10, 3) := by decide +kernel
theorem dX5_count_152 : decode cX5_count 152 = .ok (.getfield 101, 3) := by decide +kernel
theorem dX5_count_155 : decode cX5_count 155 = .ok (.ireturn, 1) := by decide +kernel
theorem dX5_count_156 : decode cX5_count 156 = .ok (.aload_n 0, 1) := by decide +kernel
theorem dX5_count_157 : decode cX5_count 157 = .ok (.getfield 10, 3) := by decide +kernel
theorem dX5_count_160 : decode cX5_count 160 = .ok (.invokevirtual 104, 3) := by decide +kernel
theorem dX5_count_163 : decode cX5_count 163 = .ok (.ireturn, 1) := by decide +kernel
theorem dX5_count_164 : decode cX5_count 164 = .ok (.aload_n 0, 1) := by decide +kernel
theorem dX5_count_165 : decode cX5_count 165 = .ok (.getfield 36, 3) := by decide +kernel
theorem dX5_count_168 : decode cX5_count 168 = .ok (.getfield 107, 3) := by decide +kernel
theorem dX5_count_171 : decode cX5_count 171 = .ok (.ireturn, 1) := by decide +kernel
theorem dX5_count_172 : decode cX5_count 172 = .ok (.aload_n 0, 1) := by decide +kernel
theorem dX5_count_173 : decode cX5_count 173 = .ok (.getfield 22, 3) := by decide +kernel
theorem dX5_count_176 : decode cX5_count 176 = .ok (.getfield 110, 3) := by decide +kernel
theorem dX5_count_179 : decode cX5_count 179 = .ok (.ireturn, 1) := by decide +kernel
theorem dX5_count_180 : decode cX5_count 180 = .ok (.iload_n 1, 1) := by decide +kernel
theorem dX5_count_181 : decode cX5_count 181 = .ok (.bipush 10, 2) := by decide +kernel
theorem dX5_count_183 : decode cX5_count 183 = .ok (.if_icmp .lt 23, 3) := by decide +kernel
theorem dX5_count_186 : decode cX5_count 186 = .ok (.iload_n 1, 1) := by decide +kernel
theorem dX5_count_187 : decode cX5_count 187 = .ok (.bipush 14, 2) := by decide +kernel
theorem dX5_count_189 : decode cX5_count 189 = .ok (.if_icmp .gt 17, 3) := by decide +kernel
theorem dX5_count_192 : decode cX5_count 192 = .ok (.aload_n 0, 1) := by decide +kernel
theorem dX5_count_193 : decode cX5_count 193 = .ok (.getfield 10, 3) := by decide +kernel
theorem dX5_count_196 : decode cX5_count 196 = .ok (.iload_n 1, 1) := by decide +kernel
theorem dX5_count_197 : decode cX5_count 197 = .ok (.bipush 10, 2) := by decide +kernel
theorem dX5_count_199 : decode cX5_count 199 = .ok (.isub, 1) := by decide +kernel
theorem dX5_count_200 : decode cX5_count 200 = .ok (.invokevirtual 113, 3) := by decide +kernel
theorem dX5_count_203 : decode cX5_count 203 = .ok (.goto 5, 3) := by decide +kernel
theorem dX5_count_206 : decode cX5_count 206 = .ok (.bipush (-2), 2) := by decide +kernel
theorem dX5_count_208 : decode cX5_count 208 = .ok (.ireturn, 1) := by decide +kernel
set_option maxRecDepth 20000 in
theorem ggX5_speed_X1_stepsOfGate : GoodIn wsX5_speed wsX1_stepsOfGate := goodIn_r _ [7, 8, 9, 10, 11, 12, 13, 14, 6, 15, 16, 17, 18, 19, 20, 21, 22, 23, 24, 25, 26, 27, 28, 29, 30, 31, 32, 33, 34, 40, 41, 42, 43, 44, 45, 46, 47, 48, 49, 50, 51, 52, 53, 54, 55] (by decide +kernel) (by decide +kernel)
set_option maxRecDepth 20000 in
theorem gX5_speed_X1_stepsOfGate : GoodIn wsX5_speed (wsV RX5 116 RX1 yX1_stepsOfGate wsX1_stepsOfGate) := goodIn_app (goodIn_of _ (by decide +kernel)) ggX5_speed_X1_stepsOfGate
theorem dX5_speed_0 : decode cX5_speed 0 = .ok (.iload_n 1, 1) := by decide +kernel
theorem dX5_speed_1 : decode cX5_speed 1 = .ok (.lookupswitch 62 #[(0, 27), (1, 39)], 27) := by decide +kernel
theorem dX5_speed_28 : decode cX5_speed 28 = .ok (.sipush 1000, 3) := by decide +kernel
theorem dX5_speed_31 : decode cX5_speed 31 = .ok (.aload_n 0, 1) := by decide +kernel
theorem dX5_speed_32 : decode cX5_speed 32 = .ok (.getfield 10, 3) := by decide +kernel
theorem dX5_speed_35 : decode cX5_speed 35 = .ok (.invokevirtual 116, 3) := by decide +kernel
theorem dX5_speed_38 : decode cX5_speed 38 = .ok (.iadd, 1) := by decide +kernel
theorem dX5_speed_39 : decode cX5_speed 39 = .ok (.ireturn, 1) := by decide +kernel
theorem dX5_speed_40 : decode cX5_speed 40 = .ok (.aload_n 0, 1) := by decide +kernel
theorem dX5_speed_41 : decode cX5_speed 41 = .ok (.getfield 10, 3) := by decide +kernel
theorem dX5_speed_44 : decode cX5_speed 44 = .ok (.getfield 119, 3) := by decide +kernel
theorem dX5_speed_47 : decode cX5_speed 47 = .ok (.ifCond .le 13, 3) := by decide +kernel
theorem dX5_speed_50 : decode cX5_speed 50 = .ok (.aload_n 0, 1) := by decide +kernel
theorem dX5_speed_51 : decode cX5_speed 51 = .ok (.getfield 10, 3) := by decide +kernel
theorem dX5_speed_54 : decode cX5_speed 54 = .ok (.getfield 119, 3) := by decide +kernel
theorem dX5_speed_57 : decode cX5_speed 57 = .ok (.goto 5, 3) := by decide +kernel
theorem dX5_speed_60 : decode cX5_speed 60 = .ok (.bipush (-6), 2) := by decide +kernel
theorem dX5_speed_62 : decode cX5_speed 62 = .ok (.ireturn, 1) := by decide +kernel
theorem dX5_speed_63 : decode cX5_speed 63 = .ok (.bipush (-2), 2) := by decide +kernel
theorem dX5_speed_65 : decode cX5_speed 65 = .ok (.ireturn, 1) := by decide +kernel
set_option maxRecDepth 20000 in
theorem ggX5_rate_X1_setting : GoodIn wsX5_rate wsX1_setting := goodIn_r _ [9, 10, 23, 24, 25, 26, 27, 28, 29, 30, 31, 32, 33, 34, 35, 36, 37, 38] (by decide +kernel) (by decide +kernel)
set_option maxRecDepth 20000 in
theorem gX5_rate_X1_setting : GoodIn wsX5_rate (wsV RX5 113 RX1 yX1_setting wsX1_setting) := goodIn_app (goodIn_of _ (by decide +kernel)) ggX5_rate_X1_setting
set_option maxRecDepth 20000 in
theorem ggX5_rate_X0_ofDouble : GoodIn wsX5_rate wsX0_ofDouble := goodIn_r _ [14, 15, 16, 17] (by decide +kernel) (by decide +kernel)
set_option maxRecDepth 20000 in
theorem gX5_rate_X0_ofDouble : GoodIn wsX5_rate (va_wsS RX5 124 yX0_ofDouble wsX0_ofDouble) := goodIn_app (goodIn_of _ (by decide +kernel)) ggX5_rate_X0_ofDouble
theorem dX5_rate_0 : decode cX5_rate 0 = .ok (.aload_n 0, 1) := by decide +kernel
theorem dX5_rate_1 : decode cX5_rate 1 = .ok (.getfield 10, 3) := by decide +kernel
theorem dX5_rate_4 : decode cX5_rate 4 = .ok (.getfield 119, 3) := by decide +kernel
theorem dX5_rate_7 : decode cX5_rate 7 = .ok (.aload_n 0, 1) := by decide +kernel
theorem dX5_rate_8 : decode cX5_rate 8 = .ok (.getfield 10, 3) := by decide +kernel
theorem dX5_rate_11 : decode cX5_rate 11 = .ok (.iconst 0, 1) := by decide +kernel
theorem dX5_rate_12 : decode cX5_rate 12 = .ok (.invokevirtual 113, 3) := by decide +kernel
theorem dX5_rate_15 : decode cX5_rate 15 = .ok (.imul, 1) := by decide +kernel
theorem dX5_rate_16 : decode cX5_rate 16 = .ok (.istore_n 1, 1) := by decide +kernel
theorem dX5_rate_17 : decode cX5_rate 17 = .ok (.iload_n 1, 1) := by decide +kernel
theorem dX5_rate_18 : decode cX5_rate 18 = .ok (.ifCond .gt 5, 3) := by decide +kernel
theorem dX5_rate_21 : decode cX5_rate 21 = .ok (.lconst 0, 1) := by decide +kernel
theorem dX5_rate_22 : decode cX5_rate 22 = .ok (.lreturn, 1) := by decide +kernel
theorem dX5_rate_23 : decode cX5_rate 23 = .ok (.aload_n 0, 1) := by decide +kernel
theorem dX5_rate_24 : decode cX5_rate 24 = .ok (.getfield 10, 3) := by decide +kernel
theorem dX5_rate_27 : decode cX5_rate 27 = .ok (.getfield 89, 3) := by decide +kernel
theorem dX5_rate_30 : decode cX5_rate 30 = .ok (.iconst 1, 1) := by decide +kernel
theorem dX5_rate_31 : decode cX5_rate 31 = .ok (.if_icmp .ne 7, 3) := by decide +kernel
theorem dX5_rate_34 : decode cX5_rate 34 = .ok (.dconst 1, 1) := by decide +kernel
theorem dX5_rate_35 : decode cX5_rate 35 = .ok (.goto 6, 3) := by decide +kernel
theorem dX5_rate_38 : decode cX5_rate 38 = .ok (.ldc2_w 122, 3) := by decide +kernel
theorem dX5_rate_41 : decode cX5_rate 41 = .ok (.dstore_n 2, 1) := by decide +kernel
theorem dX5_rate_42 : decode cX5_rate 42 = .ok (.dload_n 2, 1) := by decide +kernel
theorem dX5_rate_43 : decode cX5_rate 43 = .ok (.iload_n 1, 1) := by decide +kernel
theorem dX5_rate_44 : decode cX5_rate 44 = .ok (.i2d, 1) := by decide +kernel
theorem dX5_rate_45 : decode cX5_rate 45 = .ok (.ddiv, 1) := by decide +kernel
theorem dX5_rate_46 : decode cX5_rate 46 = .ok (.invokestatic 124, 3) := by decide +kernel
theorem dX5_rate_49 : decode cX5_rate 49 = .ok (.lreturn, 1) := by decide +kernel
set_option maxRecDepth 20000 in
theorem ggX5_noise_X0_ofFloat : GoodIn wsX5_noise wsX0_ofFloat := goodIn_r _ [8, 9] (by decide +kernel) (by decide +kernel)
set_option maxRecDepth 20000 in
theorem gX5_noise_X0_ofFloat : GoodIn wsX5_noise (va_wsS RX5 130 yX0_ofFloat wsX0_ofFloat) := goodIn_app (goodIn_of _ (by decide +kernel)) ggX5_noise_X0_ofFloat
theorem dX5_noise_0 : decode cX5_noise 0 = .ok (.aload_n 0, 1) := by decide +kernel
theorem dX5_noise_1 : decode cX5_noise 1 = .ok (.getfield 10, 3) := by decide +kernel
theorem dX5_noise_4 : decode cX5_noise 4 = .ok (.getfield 92, 3) := by decide +kernel
theorem dX5_noise_7 : decode cX5_noise 7 = .ok (.aload_n 0, 1) := by decide +kernel
theorem dX5_noise_8 : decode cX5_noise 8 = .ok (.getfield 10, 3) := by decide +kernel
theorem dX5_noise_11 : decode cX5_noise 11 = .ok (.getfield 95, 3) := by decide +kernel
theorem dX5_noise_14 : decode cX5_noise 14 = .ok (.iadd, 1) := by decide +kernel
theorem dX5_noise_15 : decode cX5_noise 15 = .ok (.aload_n 0, 1) := by decide +kernel
theorem dX5_noise_16 : decode cX5_noise 16 = .ok (.getfield 10, 3) := by decide +kernel
theorem dX5_noise_19 : decode cX5_noise 19 = .ok (.getfield 98, 3) := by decide +kernel
theorem dX5_noise_22 : decode cX5_noise 22 = .ok (.iadd, 1) := by decide +kernel
theorem dX5_noise_23 : decode cX5_noise 23 = .ok (.istore_n 1, 1) := by decide +kernel
theorem dX5_noise_24 : decode cX5_noise 24 = .ok (.iload_n 1, 1) := by decide +kernel
theorem dX5_noise_25 : decode cX5_noise 25 = .ok (.ifCond .gt 6, 3) := by decide +kernel
theorem dX5_noise_28 : decode cX5_noise 28 = .ok (.bipush (-6), 2) := by decide +kernel
theorem dX5_noise_30 : decode cX5_noise 30 = .ok (.ireturn, 1) := by decide +kernel
theorem dX5_noise_31 : decode cX5_noise 31 = .ok (.aload_n 0, 1) := by decide +kernel
theorem dX5_noise_32 : decode cX5_noise 32 = .ok (.getfield 10, 3) := by decide +kernel
theorem dX5_noise_35 : decode cX5_noise 35 = .ok (.getfield 98, 3) := by decide +kernel
theorem dX5_noise_38 : decode cX5_noise 38 = .ok (.i2f, 1) := by decide +kernel
theorem dX5_noise_39 : decode cX5_noise 39 = .ok (.iload_n 1, 1) := by decide +kernel
theorem dX5_noise_40 : decode cX5_noise 40 = .ok (.i2f, 1) := by decide +kernel
theorem dX5_noise_41 : decode cX5_noise 41 = .ok (.fdiv, 1) := by decide +kernel
theorem dX5_noise_42 : decode cX5_noise 42 = .ok (.invokestatic 130, 3) := by decide +kernel
theorem dX5_noise_45 : decode cX5_noise 45 = .ok (.ireturn, 1) := by decide +kernel
set_option maxRecDepth 20000 in
theorem ggX5_replay_X1_follow : GoodIn wsX5_replay wsX1_follow := goodIn_r _ [13, 14, 15, 16, 17, 18, 19, 20, 21, 12, 22, 23, 24, 25, 26, 27, 28, 29, 30, 31, 32, 33, 34, 35, 36, 37, 38, 39, 40, 41, 42, 43, 44, 45, 46, 47, 48, 49, 50, 51, 52, 53, 54, 55, 56, 57, 58, 59, 60, 61, 62, 63, 64, 65, 66, 67, 68, 69, 70, 71, 72, 73, 74, 75, 76, 77, 78, 79, 80, 81, 82, 83, 84, 85, 86, 87, 88, 89, 90, 91, 97, 98, 99, 100, 101, 102, 103, 104, 105, 106, 107, 108, 109, 110, 111, 112] (by decide +kernel) (by decide +kernel)
set_option maxRecDepth 20000 in
theorem gX5_replay_X1_follow : GoodIn wsX5_replay (wsV RX5 141 RX1 yX1_follow wsX1_follow) := goodIn_app (goodIn_of _ (by decide +kernel)) ggX5_replay_X1_follow
theorem dX5_replay_0 : decode cX5_replay 0 = .ok (.iload_n 1, 1) := by decide +kernel
theorem dX5_replay_1 : decode cX5_replay 1 = .ok (.getstatic 134, 3) := by decide +kernel
theorem dX5_replay_4 : decode cX5_replay 4 = .ok (.iconst 2, 1) := by decide +kernel
theorem dX5_replay_5 : decode cX5_replay 5 = .ok (.iaload, 1) := by decide +kernel
theorem dX5_replay_6 : decode cX5_replay 6 = .ok (.if_icmp .lt 21, 3) := by decide +kernel
theorem dX5_replay_9 : decode cX5_replay 9 = .ok (.iload_n 1, 1) := by decide +kernel
theorem dX5_replay_10 : decode cX5_replay 10 = .ok (.getstatic 138, 3) := by decide +kernel
theorem dX5_replay_13 : decode cX5_replay 13 = .ok (.iconst 2, 1) := by decide +kernel
theorem dX5_replay_14 : decode cX5_replay 14 = .ok (.iaload, 1) := by decide +kernel
theorem dX5_replay_15 : decode cX5_replay 15 = .ok (.if_icmp .gt 12, 3) := by decide +kernel
theorem dX5_replay_18 : decode cX5_replay 18 = .ok (.iload_n 2, 1) := by decide +kernel
theorem dX5_replay_19 : decode cX5_replay 19 = .ok (.ifCond .lt 8, 3) := by decide +kernel
theorem dX5_replay_22 : decode cX5_replay 22 = .ok (.iload_n 2, 1) := by decide +kernel
theorem dX5_replay_23 : decode cX5_replay 23 = .ok (.iconst 3, 1) := by decide +kernel
theorem dX5_replay_24 : decode cX5_replay 24 = .ok (.if_icmp .le 6, 3) := by decide +kernel
theorem dX5_replay_27 : decode cX5_replay 27 = .ok (.bipush (-2), 2) := by decide +kernel
theorem dX5_replay_29 : decode cX5_replay 29 = .ok (.ireturn, 1) := by decide +kernel
theorem dX5_replay_30 : decode cX5_replay 30 = .ok (.aload_n 0, 1) := by decide +kernel
theorem dX5_replay_31 : decode cX5_replay 31 = .ok (.getfield 16, 3) := by decide +kernel
theorem dX5_replay_34 : decode cX5_replay 34 = .ok (.aload_n 0, 1) := by decide +kernel
theorem dX5_replay_35 : decode cX5_replay 35 = .ok (.getfield 10, 3) := by decide +kernel
theorem dX5_replay_38 : decode cX5_replay 38 = .ok (.iload_n 1, 1) := by decide +kernel
theorem dX5_replay_39 : decode cX5_replay 39 = .ok (.invokevirtual 141, 3) := by decide +kernel
theorem dX5_replay_42 : decode cX5_replay 42 = .ok (.iload_n 2, 1) := by decide +kernel
theorem dX5_replay_43 : decode cX5_replay 43 = .ok (.tableswitch 49 0 2 #[25, 33, 41], 25) := by decide +kernel
theorem dX5_replay_68 : decode cX5_replay 68 = .ok (.aload_n 0, 1) := by decide +kernel
theorem dX5_replay_69 : decode cX5_replay 69 = .ok (.getfield 16, 3) := by decide +kernel
theorem dX5_replay_72 : decode cX5_replay 72 = .ok (.getfield 92, 3) := by decide +kernel
theorem dX5_replay_75 : decode cX5_replay 75 = .ok (.ireturn, 1) := by decide +kernel
theorem dX5_replay_76 : decode cX5_replay 76 = .ok (.aload_n 0, 1) := by decide +kernel
theorem dX5_replay_77 : decode cX5_replay 77 = .ok (.getfield 16, 3) := by decide +kernel
theorem dX5_replay_80 : decode cX5_replay 80 = .ok (.getfield 95, 3) := by decide +kernel
theorem dX5_replay_83 : decode cX5_replay 83 = .ok (.ireturn, 1) := by decide +kernel
theorem dX5_replay_84 : decode cX5_replay 84 = .ok (.aload_n 0, 1) := by decide +kernel
theorem dX5_replay_85 : decode cX5_replay 85 = .ok (.getfield 16, 3) := by decide +kernel
theorem dX5_replay_88 : decode cX5_replay 88 = .ok (.getfield 98, 3) := by decide +kernel
theorem dX5_replay_91 : decode cX5_replay 91 = .ok (.ireturn, 1) := by decide +kernel
theorem dX5_replay_92 : decode cX5_replay 92 = .ok (.aload_n 0, 1) := by decide +kernel
theorem dX5_replay_93 : decode cX5_replay 93 = .ok (.getfield 16, 3) := by decide +kernel
theorem dX5_replay_96 : decode cX5_replay 96 = .ok (.getfield 80, 3) := by decide +kernel
theorem dX5_replay_99 : decode cX5_replay 99 = .ok (.ireturn, 1) := by decide +kernel
set_option maxRecDepth 20000 in
theorem ggX5_bestFilter_X1_follow : GoodIn wsX5_bestFilter wsX1_follow := goodIn_r _ [10, 11, 12, 13, 14, 15, 16, 17, 18, 9, 19, 20, 21, 22, 23, 24, 25, 26, 27, 28, 29, 30, 31, 32, 33, 34, 35, 36, 37, 38, 39, 40, 41, 42, 43, 44, 45, 46, 47, 48, 49, 50, 51, 52, 53, 54, 55, 56, 57, 58, 59, 60, 61, 62, 63, 64, 65, 66, 67, 68, 69, 70, 71, 72, 73, 74, 75, 76, 77, 78, 79, 80, 81, 82, 83, 84, 85, 86, 87, 88, 94, 95, 96, 97, 98, 99, 100, 101, 102, 103, 104, 105, 106, 107, 108, 109] (by decide +kernel) (by decide +kernel)
set_option maxRecDepth 20000 in
theorem gX5_bestFilter_X1_follow : GoodIn wsX5_bestFilter (wsV RX5 141 RX1 yX1_follow wsX1_follow) := goodIn_app (goodIn_of _ (by decide +kernel)) ggX5_bestFilter_X1_follow
theorem dX5_bestFilter_0 : decode cX5_bestFilter 0 = .ok (.iload_n 1, 1) := by decide +kernel
theorem dX5_bestFilter_1 : decode cX5_bestFilter 1 = .ok (.ifCond .lt 8, 3) := by decide +kernel
theorem dX5_bestFilter_4 : decode cX5_bestFilter 4 = .ok (.iload_n 1, 1) := by decide +kernel
theorem dX5_bestFilter_5 : decode cX5_bestFilter 5 = .ok (.iconst 1, 1) := by decide +kernel
theorem dX5_bestFilter_6 : decode cX5_bestFilter 6 = .ok (.if_icmp .le 6, 3) := by decide +kernel
theorem dX5_bestFilter_9 : decode cX5_bestFilter 9 = .ok (.bipush (-2), 2) := by decide +kernel
theorem dX5_bestFilter_11 : decode cX5_bestFilter 11 = .ok (.ireturn, 1) := by decide +kernel
theorem dX5_bestFilter_12 : decode cX5_bestFilter 12 = .ok (.iconst 0, 1) := by decide +kernel
theorem dX5_bestFilter_13 : decode cX5_bestFilter 13 = .ok (.istore_n 2, 1) := by decide +kernel
theorem dX5_bestFilter_14 : decode cX5_bestFilter 14 = .ok (.iconst 0, 1) := by decide +kernel
theorem dX5_bestFilter_15 : decode cX5_bestFilter 15 = .ok (.istore_n 3, 1) := by decide +kernel
theorem dX5_bestFilter_16 : decode cX5_bestFilter 16 = .ok (.getstatic 134, 3) := by decide +kernel
theorem dX5_bestFilter_19 : decode cX5_bestFilter 19 = .ok (.iconst 2, 1) := by decide +kernel
theorem dX5_bestFilter_20 : decode cX5_bestFilter 20 = .ok (.iaload, 1) := by decide +kernel
theorem dX5_bestFilter_21 : decode cX5_bestFilter 21 = .ok (.istore 4, 2) := by decide +kernel
theorem dX5_bestFilter_23 : decode cX5_bestFilter 23 = .ok (.iload 4, 2) := by decide +kernel
theorem dX5_bestFilter_25 : decode cX5_bestFilter 25 = .ok (.getstatic 138, 3) := by decide +kernel
theorem dX5_bestFilter_28 : decode cX5_bestFilter 28 = .ok (.iconst 2, 1) := by decide +kernel
theorem dX5_bestFilter_29 : decode cX5_bestFilter 29 = .ok (.iaload, 1) := by decide +kernel
theorem dX5_bestFilter_30 : decode cX5_bestFilter 30 = .ok (.if_icmp .gt 48, 3) := by decide +kernel
theorem dX5_bestFilter_33 : decode cX5_bestFilter 33 = .ok (.aload_n 0, 1) := by decide +kernel
theorem dX5_bestFilter_34 : decode cX5_bestFilter 34 = .ok (.getfield 16, 3) := by decide +kernel
theorem dX5_bestFilter_37 : decode cX5_bestFilter 37 = .ok (.aload_n 0, 1) := by decide +kernel
theorem dX5_bestFilter_38 : decode cX5_bestFilter 38 = .ok (.getfield 10, 3) := by decide +kernel
theorem dX5_bestFilter_41 : decode cX5_bestFilter 41 = .ok (.iload 4, 2) := by decide +kernel
theorem dX5_bestFilter_43 : decode cX5_bestFilter 43 = .ok (.invokevirtual 141, 3) := by decide +kernel
theorem dX5_bestFilter_46 : decode cX5_bestFilter 46 = .ok (.iload_n 2, 1) := by decide +kernel
theorem dX5_bestFilter_47 : decode cX5_bestFilter 47 = .ok (.ifCond .eq 14, 3) := by decide +kernel
theorem dX5_bestFilter_50 : decode cX5_bestFilter 50 = .ok (.aload_n 0, 1) := by decide +kernel
theorem dX5_bestFilter_51 : decode cX5_bestFilter 51 = .ok (.getfield 16, 3) := by decide +kernel
theorem dX5_bestFilter_54 : decode cX5_bestFilter 54 = .ok (.getfield 98, 3) := by decide +kernel
theorem dX5_bestFilter_57 : decode cX5_bestFilter 57 = .ok (.iload_n 3, 1) := by decide +kernel
theorem dX5_bestFilter_58 : decode cX5_bestFilter 58 = .ok (.if_icmp .ge 14, 3) := by decide +kernel
theorem dX5_bestFilter_61 : decode cX5_bestFilter 61 = .ok (.iload 4, 2) := by decide +kernel
theorem dX5_bestFilter_63 : decode cX5_bestFilter 63 = .ok (.istore_n 2, 1) := by decide +kernel
theorem dX5_bestFilter_64 : decode cX5_bestFilter 64 = .ok (.aload_n 0, 1) := by decide +kernel
theorem dX5_bestFilter_65 : decode cX5_bestFilter 65 = .ok (.getfield 16, 3) := by decide +kernel
theorem dX5_bestFilter_68 : decode cX5_bestFilter 68 = .ok (.getfield 98, 3) := by decide +kernel
theorem dX5_bestFilter_71 : decode cX5_bestFilter 71 = .ok (.istore_n 3, 1) := by decide +kernel
theorem dX5_bestFilter_72 : decode cX5_bestFilter 72 = .ok (.iinc 4 1, 3) := by decide +kernel
theorem dX5_bestFilter_75 : decode cX5_bestFilter 75 = .ok (.goto (-52), 3) := by decide +kernel
theorem dX5_bestFilter_78 : decode cX5_bestFilter 78 = .ok (.iload_n 1, 1) := by decide +kernel
theorem dX5_bestFilter_79 : decode cX5_bestFilter 79 = .ok (.ifCond .ne 7, 3) := by decide +kernel
theorem dX5_bestFilter_82 : decode cX5_bestFilter 82 = .ok (.iload_n 2, 1) := by decide +kernel
theorem dX5_bestFilter_83 : decode cX5_bestFilter 83 = .ok (.goto 4, 3) := by decide +kernel
theorem dX5_bestFilter_86 : decode cX5_bestFilter 86 = .ok (.iload_n 3, 1) := by decide +kernel
theorem dX5_bestFilter_87 : decode cX5_bestFilter 87 = .ok (.ireturn, 1) := by decide +kernel
set_option maxRecDepth 20000 in
theorem ggX5_would_X1_deedBy : GoodIn wsX5_would wsX1_deedBy := goodIn_r _ [6, 7, 8, 9, 10, 5, 11, 12, 13, 14, 15, 16, 17, 18, 19, 20, 21, 27, 28, 29, 30, 31, 32, 33, 34, 35, 36, 37, 38, 39, 40, 41, 42] (by decide +kernel) (by decide +kernel)
set_option maxRecDepth 20000 in
theorem gX5_would_X1_deedBy : GoodIn wsX5_would (wsV RX5 145 RX1 yX1_deedBy wsX1_deedBy) := goodIn_app (goodIn_of _ (by decide +kernel)) ggX5_would_X1_deedBy
theorem dX5_would_0 : decode cX5_would 0 = .ok (.iload_n 1, 1) := by decide +kernel
theorem dX5_would_1 : decode cX5_would 1 = .ok (.ifCond .lt 8, 3) := by decide +kernel
theorem dX5_would_4 : decode cX5_would 4 = .ok (.iload_n 1, 1) := by decide +kernel
theorem dX5_would_5 : decode cX5_would 5 = .ok (.iconst 3, 1) := by decide +kernel
theorem dX5_would_6 : decode cX5_would 6 = .ok (.if_icmp .le 8, 3) := by decide +kernel
theorem dX5_would_9 : decode cX5_would 9 = .ok (.bipush (-2), 2) := by decide +kernel
theorem dX5_would_11 : decode cX5_would 11 = .ok (.goto 11, 3) := by decide +kernel
theorem dX5_would_14 : decode cX5_would 14 = .ok (.aload_n 0, 1) := by decide +kernel
theorem dX5_would_15 : decode cX5_would 15 = .ok (.getfield 10, 3) := by decide +kernel
theorem dX5_would_18 : decode cX5_would 18 = .ok (.iload_n 1, 1) := by decide +kernel
theorem dX5_would_19 : decode cX5_would 19 = .ok (.invokevirtual 145, 3) := by decide +kernel
theorem dX5_would_22 : decode cX5_would 22 = .ok (.ireturn, 1) := by decide +kernel
set_option maxRecDepth 20000 in
theorem ggX5_deeds_X1_logged : GoodIn wsX5_deeds wsX1_logged := goodIn_r _ [6, 7, 8, 9, 10, 11, 31, 32, 33, 34, 35, 36, 37, 38, 39, 40, 41, 42, 43, 44, 45, 46] (by decide +kernel) (by decide +kernel)
set_option maxRecDepth 20000 in
theorem gX5_deeds_X1_logged : GoodIn wsX5_deeds (wsV RX5 104 RX1 yX1_logged wsX1_logged) := goodIn_app (goodIn_of _ (by decide +kernel)) ggX5_deeds_X1_logged
set_option maxRecDepth 20000 in
theorem ggX5_deeds_X1_deedAt : GoodIn wsX5_deeds wsX1_deedAt := goodIn_r _ [15, 16, 17, 18, 5, 19, 7, 20, 21, 22, 23, 24, 25, 3, 4, 6, 8, 9, 10, 11, 31, 32, 33, 34, 35, 36, 37, 38, 39, 40, 41, 42, 43, 44, 45, 46] (by decide +kernel) (by decide +kernel)
set_option maxRecDepth 20000 in
theorem gX5_deeds_X1_deedAt : GoodIn wsX5_deeds (wsV RX5 73 RX1 yX1_deedAt wsX1_deedAt) := goodIn_app (goodIn_of _ (by decide +kernel)) ggX5_deeds_X1_deedAt
theorem dX5_deeds_0 : decode cX5_deeds 0 = .ok (.iload_n 1, 1) := by decide +kernel
theorem dX5_deeds_1 : decode cX5_deeds 1 = .ok (.ifCond .lt 8, 3) := by decide +kernel
theorem dX5_deeds_4 : decode cX5_deeds 4 = .ok (.iload_n 1, 1) := by decide +kernel
theorem dX5_deeds_5 : decode cX5_deeds 5 = .ok (.iconst 3, 1) := by decide +kernel
theorem dX5_deeds_6 : decode cX5_deeds 6 = .ok (.if_icmp .le 6, 3) := by decide +kernel
theorem dX5_deeds_9 : decode cX5_deeds 9 = .ok (.bipush (-2), 2) := by decide +kernel
theorem dX5_deeds_11 : decode cX5_deeds 11 = .ok (.ireturn, 1) := by decide +kernel
theorem dX5_deeds_12 : decode cX5_deeds 12 = .ok (.iconst 0, 1) := by decide +kernel
theorem dX5_deeds_13 : decode cX5_deeds 13 = .ok (.istore_n 2, 1) := by decide +kernel
theorem dX5_deeds_14 : decode cX5_deeds 14 = .ok (.iconst 0, 1) := by decide +kernel
theorem dX5_deeds_15 : decode cX5_deeds 15 = .ok (.istore_n 3, 1) := by decide +kernel
theorem dX5_deeds_16 : decode cX5_deeds 16 = .ok (.iload_n 3, 1) := by decide +kernel
theorem dX5_deeds_17 : decode cX5_deeds 17 = .ok (.aload_n 0, 1) := by decide +kernel
theorem dX5_deeds_18 : decode cX5_deeds 18 = .ok (.getfield 10, 3) := by decide +kernel
theorem dX5_deeds_21 : decode cX5_deeds 21 = .ok (.invokevirtual 104, 3) := by decide +kernel
theorem dX5_deeds_24 : decode cX5_deeds 24 = .ok (.if_icmp .ge 24, 3) := by decide +kernel
theorem dX5_deeds_27 : decode cX5_deeds 27 = .ok (.aload_n 0, 1) := by decide +kernel
theorem dX5_deeds_28 : decode cX5_deeds 28 = .ok (.getfield 10, 3) := by decide +kernel
theorem dX5_deeds_31 : decode cX5_deeds 31 = .ok (.iload_n 3, 1) := by decide +kernel
theorem dX5_deeds_32 : decode cX5_deeds 32 = .ok (.invokevirtual 73, 3) := by decide +kernel
theorem dX5_deeds_35 : decode cX5_deeds 35 = .ok (.iload_n 1, 1) := by decide +kernel
theorem dX5_deeds_36 : decode cX5_deeds 36 = .ok (.if_icmp .ne 6, 3) := by decide +kernel
theorem dX5_deeds_39 : decode cX5_deeds 39 = .ok (.iinc 2 1, 3) := by decide +kernel
theorem dX5_deeds_42 : decode cX5_deeds 42 = .ok (.iinc 3 1, 3) := by decide +kernel
theorem dX5_deeds_45 : decode cX5_deeds 45 = .ok (.goto (-29), 3) := by decide +kernel
theorem dX5_deeds_48 : decode cX5_deeds 48 = .ok (.iload_n 2, 1) := by decide +kernel
theorem dX5_deeds_49 : decode cX5_deeds 49 = .ok (.ireturn, 1) := by decide +kernel
set_option maxRecDepth 20000 in
theorem ggX5_put_X3_append : GoodIn wsX5_put wsX3_append := goodIn_r _ [6, 7, 8, 9, 10, 11, 17, 18, 19, 20, 21, 22] (by decide +kernel) (by decide +kernel)
set_option maxRecDepth 20000 in
theorem gX5_put_X3_append : GoodIn wsX5_put (wsV RX5 148 RX3 yX3_append wsX3_append) := goodIn_app (goodIn_of _ (by decide +kernel)) ggX5_put_X3_append
theorem dX5_put_0 : decode cX5_put 0 = .ok (.aload_n 0, 1) := by decide +kernel
theorem dX5_put_1 : decode cX5_put 1 = .ok (.getfield 36, 3) := by decide +kernel
theorem dX5_put_4 : decode cX5_put 4 = .ok (.lload_n 1, 1) := by decide +kernel
theorem dX5_put_5 : decode cX5_put 5 = .ok (.invokevirtual 148, 3) := by decide +kernel
theorem dX5_put_8 : decode cX5_put 8 = .ok (.ireturn, 1) := by decide +kernel
set_option maxRecDepth 20000 in
theorem ggX5_wipe_X3_empty : GoodIn wsX5_wipe wsX3_empty := goodIn_r _ [6, 7, 13, 14, 15, 16, 17, 18] (by decide +kernel) (by decide +kernel)
set_option maxRecDepth 20000 in
theorem gX5_wipe_X3_empty : GoodIn wsX5_wipe (wsV RX5 152 RX3 yX3_empty wsX3_empty) := goodIn_app (goodIn_of _ (by decide +kernel)) ggX5_wipe_X3_empty
theorem dX5_wipe_0 : decode cX5_wipe 0 = .ok (.aload_n 0, 1) := by decide +kernel
theorem dX5_wipe_1 : decode cX5_wipe 1 = .ok (.getfield 36, 3) := by decide +kernel
theorem dX5_wipe_4 : decode cX5_wipe 4 = .ok (.invokevirtual 152, 3) := by decide +kernel
theorem dX5_wipe_7 : decode cX5_wipe 7 = .ok (.ireturn, 1) := by decide +kernel
set_option maxRecDepth 20000 in
theorem ggX5_fault_X3_firstFault : GoodIn wsX5_fault wsX3_firstFault := goodIn_r _ [6, 7, 8, 9, 10, 11, 5, 12, 13, 14, 15, 16, 17, 18, 19, 20, 21, 22, 23, 24, 25, 26, 27, 28, 29, 30, 31, 32, 33, 34, 35, 36, 37, 38, 39, 40, 41, 42, 43, 44, 50, 51, 52, 53, 54, 55] (by decide +kernel) (by decide +kernel)
set_option maxRecDepth 20000 in
theorem gX5_fault_X3_firstFault : GoodIn wsX5_fault (wsV RX5 155 RX3 yX3_firstFault wsX3_firstFault) := goodIn_app (goodIn_of _ (by decide +kernel)) ggX5_fault_X3_firstFault
theorem dX5_fault_0 : decode cX5_fault 0 = .ok (.aload_n 0, 1) := by decide +kernel
theorem dX5_fault_1 : decode cX5_fault 1 = .ok (.getfield 36, 3) := by decide +kernel
theorem dX5_fault_4 : decode cX5_fault 4 = .ok (.invokevirtual 155, 3) := by decide +kernel
theorem dX5_fault_7 : decode cX5_fault 7 = .ok (.ireturn, 1) := by decide +kernel
set_option maxRecDepth 20000 in
theorem ggX5_carryOut_X3_firstFault : GoodIn wsX5_carryOut wsX3_firstFault := goodIn_r _ [8, 9, 10, 11, 12, 13, 7, 14, 15, 16, 17, 18, 19, 20, 21, 22, 23, 24, 25, 26, 27, 28, 29, 30, 31, 32, 33, 34, 35, 36, 37, 38, 39, 40, 41, 42, 43, 44, 45, 46, 170, 171, 172, 173, 174, 175] (by decide +kernel) (by decide +kernel)
set_option maxRecDepth 20000 in
theorem gX5_carryOut_X3_firstFault : GoodIn wsX5_carryOut (wsV RX5 155 RX3 yX3_firstFault wsX3_firstFault) := goodIn_app (goodIn_of _ (by decide +kernel)) ggX5_carryOut_X3_firstFault
set_option maxRecDepth 20000 in
theorem ggX5_carryOut_X2_prepare : GoodIn wsX5_carryOut wsX2_prepare := goodIn_r _ [51, 52, 53, 54, 50, 55, 56, 57, 58, 59, 60, 61, 62, 63, 64, 65, 66, 67, 68, 69, 70, 71, 72, 73, 74, 75, 76, 77, 78, 79, 80, 81, 176, 177, 178, 179, 180, 181, 182, 183, 184, 185, 186, 187, 188, 189, 190, 191, 192, 193, 194] (by decide +kernel) (by decide +kernel)
set_option maxRecDepth 20000 in
theorem gX5_carryOut_X2_prepare : GoodIn wsX5_carryOut (wsV RX5 40 RX2 yX2_prepare wsX2_prepare) := goodIn_app (goodIn_of _ (by decide +kernel)) ggX5_carryOut_X2_prepare
set_option maxRecDepth 20000 in
theorem ggX5_carryOut_X3_begin : GoodIn wsX5_carryOut wsX3_begin := goodIn_r _ [14, 9, 170, 171, 172, 173, 174, 175] (by decide +kernel) (by decide +kernel)
set_option maxRecDepth 20000 in
theorem gX5_carryOut_X3_begin : GoodIn wsX5_carryOut (wsV RX5 158 RX3 yX3_begin wsX3_begin) := goodIn_app (goodIn_of _ (by decide +kernel)) ggX5_carryOut_X3_begin
set_option maxRecDepth 20000 in
theorem ggX5_carryOut_X5_carryOrder : GoodIn wsX5_carryOut wsX5_carryOrder := goodIn_r _ [87, 1, 3, 88, 89, 20, 21, 7, 22, 9, 23, 24, 25, 26, 10, 27, 90, 91, 92, 60, 93, 69, 70, 94, 29, 30, 31, 32, 95, 96, 97, 98, 62, 99, 100, 101, 102, 34, 35, 36, 19, 103, 104, 105, 106, 107, 108, 109, 110, 111, 68, 71, 112, 113, 114, 115, 116, 117, 118, 119, 120, 121, 122, 123, 124, 125, 73, 74, 72, 78, 67, 126, 127, 128, 129, 130, 131, 132, 133, 134, 135, 136, 137, 76, 77, 75, 80, 81, 138, 139, 140, 141, 79, 142, 143, 144, 86, 145, 146, 147, 148, 42, 43, 44, 45, 46, 33, 149, 150, 151, 152, 165, 166, 167, 168, 169, 170, 171, 172, 173, 174, 175, 179, 180, 181, 182, 183, 184, 185, 186, 187, 188, 189, 190, 191, 192, 193, 194] (by decide +kernel) (by decide +kernel)
set_option maxRecDepth 20000 in
theorem gX5_carryOut_X5_carryOrder : GoodIn wsX5_carryOut (wsV RX5 161 RX5 yX5_carryOrder wsX5_carryOrder) := goodIn_app (goodIn_of _ (by decide +kernel)) ggX5_carryOut_X5_carryOrder
set_option maxRecDepth 20000 in
theorem ggX5_carryOut_X3_skip : GoodIn wsX5_carryOut wsX3_skip := goodIn_r _ [22, 9, 23, 24, 25, 7, 26, 10, 27, 170, 171, 172, 173, 174, 175] (by decide +kernel) (by decide +kernel)
set_option maxRecDepth 20000 in
theorem gX5_carryOut_X3_skip : GoodIn wsX5_carryOut (wsV RX5 164 RX3 yX3_skip wsX3_skip) := goodIn_app (goodIn_of _ (by decide +kernel)) ggX5_carryOut_X3_skip
set_option maxRecDepth 20000 in
theorem ggX5_carryOut_X3_empty : GoodIn wsX5_carryOut wsX3_empty := goodIn_r _ [156, 10, 170, 171, 172, 173, 174, 175] (by decide +kernel) (by decide +kernel)
set_option maxRecDepth 20000 in
theorem gX5_carryOut_X3_empty : GoodIn wsX5_carryOut (wsV RX5 152 RX3 yX3_empty wsX3_empty) := goodIn_app (goodIn_of _ (by decide +kernel)) ggX5_carryOut_X3_empty
set_option maxRecDepth 20000 in
theorem ggX5_carryOut_X2_keepUnlessError : GoodIn wsX5_carryOut wsX2_keepUnlessError := goodIn_r _ [160, 56, 161, 162, 163, 109, 164, 176, 177, 178] (by decide +kernel) (by decide +kernel)
set_option maxRecDepth 20000 in
theorem gX5_carryOut_X2_keepUnlessError : GoodIn wsX5_carryOut (wsV RX5 48 RX2 yX2_keepUnlessError wsX2_keepUnlessError) := goodIn_app (goodIn_of _ (by decide +kernel)) ggX5_carryOut_X2_keepUnlessError
theorem dX5_carryOut_0 : decode cX5_carryOut 0 = .ok (.aload_n 0, 1) := by decide +kernel
theorem dX5_carryOut_1 : decode cX5_carryOut 1 = .ok (.getfield 36, 3) := by decide +kernel
theorem dX5_carryOut_4 : decode cX5_carryOut 4 = .ok (.invokevirtual 155, 3) := by decide +kernel
theorem dX5_carryOut_7 : decode cX5_carryOut 7 = .ok (.bipush (-6), 2) := by decide +kernel
theorem dX5_carryOut_9 : decode cX5_carryOut 9 = .ok (.if_icmp .eq 6, 3) := by decide +kernel
theorem dX5_carryOut_12 : decode cX5_carryOut 12 = .ok (.bipush (-3), 2) := by decide +kernel
theorem dX5_carryOut_14 : decode cX5_carryOut 14 = .ok (.ireturn, 1) := by decide +kernel
theorem dX5_carryOut_15 : decode cX5_carryOut 15 = .ok (.aload_n 0, 1) := by decide +kernel
theorem dX5_carryOut_16 : decode cX5_carryOut 16 = .ok (.getfield 22, 3) := by decide +kernel
theorem dX5_carryOut_19 : decode cX5_carryOut 19 = .ok (.aload_n 0, 1) := by decide +kernel
theorem dX5_carryOut_20 : decode cX5_carryOut 20 = .ok (.getfield 10, 3) := by decide +kernel
theorem dX5_carryOut_23 : decode cX5_carryOut 23 = .ok (.invokevirtual 40, 3) := by decide +kernel
theorem dX5_carryOut_26 : decode cX5_carryOut 26 = .ok (.aload_n 0, 1) := by decide +kernel
theorem dX5_carryOut_27 : decode cX5_carryOut 27 = .ok (.getfield 36, 3) := by decide +kernel
theorem dX5_carryOut_30 : decode cX5_carryOut 30 = .ok (.invokevirtual 158, 3) := by decide +kernel
theorem dX5_carryOut_33 : decode cX5_carryOut 33 = .ok (.iconst 0, 1) := by decide +kernel
theorem dX5_carryOut_34 : decode cX5_carryOut 34 = .ok (.istore_n 1, 1) := by decide +kernel
theorem dX5_carryOut_35 : decode cX5_carryOut 35 = .ok (.iload_n 1, 1) := by decide +kernel
theorem dX5_carryOut_36 : decode cX5_carryOut 36 = .ok (.bipush 80, 2) := by decide +kernel
theorem dX5_carryOut_38 : decode cX5_carryOut 38 = .ok (.if_icmp .ge 28, 3) := by decide +kernel
theorem dX5_carryOut_41 : decode cX5_carryOut 41 = .ok (.aload_n 0, 1) := by decide +kernel
theorem dX5_carryOut_42 : decode cX5_carryOut 42 = .ok (.invokevirtual 161, 3) := by decide +kernel
theorem dX5_carryOut_45 : decode cX5_carryOut 45 = .ok (.ifCond .lt 21, 3) := by decide +kernel
theorem dX5_carryOut_48 : decode cX5_carryOut 48 = .ok (.iinc 1 1, 3) := by decide +kernel
theorem dX5_carryOut_51 : decode cX5_carryOut 51 = .ok (.aload_n 0, 1) := by decide +kernel
theorem dX5_carryOut_52 : decode cX5_carryOut 52 = .ok (.getfield 36, 3) := by decide +kernel
theorem dX5_carryOut_55 : decode cX5_carryOut 55 = .ok (.bipush 59, 2) := by decide +kernel
theorem dX5_carryOut_57 : decode cX5_carryOut 57 = .ok (.invokevirtual 164, 3) := by decide +kernel
theorem dX5_carryOut_60 : decode cX5_carryOut 60 = .ok (.ifCond .ne (-25), 3) := by decide +kernel
theorem dX5_carryOut_63 : decode cX5_carryOut 63 = .ok (.goto 3, 3) := by decide +kernel
theorem dX5_carryOut_66 : decode cX5_carryOut 66 = .ok (.aload_n 0, 1) := by decide +kernel
theorem dX5_carryOut_67 : decode cX5_carryOut 67 = .ok (.getfield 36, 3) := by decide +kernel
theorem dX5_carryOut_70 : decode cX5_carryOut 70 = .ok (.invokevirtual 152, 3) := by decide +kernel
theorem dX5_carryOut_73 : decode cX5_carryOut 73 = .ok (.pop, 1) := by decide +kernel
theorem dX5_carryOut_74 : decode cX5_carryOut 74 = .ok (.aload_n 0, 1) := by decide +kernel
theorem dX5_carryOut_75 : decode cX5_carryOut 75 = .ok (.getfield 22, 3) := by decide +kernel
theorem dX5_carryOut_78 : decode cX5_carryOut 78 = .ok (.iload_n 1, 1) := by decide +kernel
theorem dX5_carryOut_79 : decode cX5_carryOut 79 = .ok (.invokevirtual 48, 3) := by decide +kernel
theorem dX5_carryOut_82 : decode cX5_carryOut 82 = .ok (.ireturn, 1) := by decide +kernel
set_option maxRecDepth 20000 in
theorem ggX5_carryOrder_X3_skip : GoodIn wsX5_carryOrder wsX3_skip := goodIn_r _ [8, 9, 10, 11, 12, 7, 13, 14, 15, 116, 117, 118, 119, 120, 121] (by decide +kernel) (by decide +kernel)
set_option maxRecDepth 20000 in
theorem gX5_carryOrder_X3_skip : GoodIn wsX5_carryOrder (wsV RX5 164 RX3 yX3_skip wsX3_skip) := goodIn_app (goodIn_of _ (by decide +kernel)) ggX5_carryOrder_X3_skip
set_option maxRecDepth 20000 in
theorem ggX5_carryOrder_X1_clear : GoodIn wsX5_carryOrder wsX1_clear := goodIn_r _ [20, 21, 22, 122, 123, 124, 125, 126, 127, 128, 129, 130, 131, 132, 133, 134, 135, 136, 137] (by decide +kernel) (by decide +kernel)
set_option maxRecDepth 20000 in
theorem gX5_carryOrder_X1_clear : GoodIn wsX5_carryOrder (wsV RX5 59 RX1 yX1_clear wsX1_clear) := goodIn_app (goodIn_of _ (by decide +kernel)) ggX5_carryOrder_X1_clear
set_option maxRecDepth 20000 in
theorem ggX5_carryOrder_X3_readDigit : GoodIn wsX5_carryOrder wsX3_readDigit := goodIn_r _ [26, 27, 9, 10, 11, 12, 7, 13, 14, 15, 116, 117, 118, 119, 120, 121] (by decide +kernel) (by decide +kernel)
set_option maxRecDepth 20000 in
theorem gX5_carryOrder_X3_readDigit : GoodIn wsX5_carryOrder (wsV RX5 168 RX3 yX3_readDigit wsX3_readDigit) := goodIn_app (goodIn_of _ (by decide +kernel)) ggX5_carryOrder_X3_readDigit
set_option maxRecDepth 20000 in
theorem ggX5_carryOrder_X1_adjust : GoodIn wsX5_carryOrder wsX1_adjust := goodIn_r _ [31, 32, 22, 21, 33, 34, 19, 35, 122, 123, 124, 125, 126, 127, 128, 129, 130, 131, 132, 133, 134, 135, 136, 137] (by decide +kernel) (by decide +kernel)
set_option maxRecDepth 20000 in
theorem gX5_carryOrder_X1_adjust : GoodIn wsX5_carryOrder (wsV RX5 44 RX1 yX1_adjust wsX1_adjust) := goodIn_app (goodIn_of _ (by decide +kernel)) ggX5_carryOrder_X1_adjust
set_option maxRecDepth 20000 in
theorem ggX5_carryOrder_X3_readNumber : GoodIn wsX5_carryOrder wsX3_readNumber := goodIn_r _ [39, 27, 9, 40, 5, 6, 7, 8, 10, 11, 12, 13, 14, 15, 116, 117, 118, 119, 120, 121] (by decide +kernel) (by decide +kernel)
set_option maxRecDepth 20000 in
theorem gX5_carryOrder_X3_readNumber : GoodIn wsX5_carryOrder (wsV RX5 175 RX3 yX3_readNumber wsX3_readNumber) := goodIn_app (goodIn_of _ (by decide +kernel)) ggX5_carryOrder_X3_readNumber
set_option maxRecDepth 20000 in
theorem ggX5_carryOrder_X1_revolve : GoodIn wsX5_carryOrder wsX1_revolve := goodIn_r _ [44, 45, 46, 47, 48, 49, 50, 51, 21, 52, 53, 54, 19, 55, 32, 56, 57, 58, 59, 60, 61, 62, 63, 64, 65, 66, 67, 68, 69, 70, 71, 72, 73, 74, 75, 76, 77, 78, 79, 80, 81, 82, 83, 84, 22, 85, 86, 87, 33, 34, 35, 88, 89, 90, 91, 92, 122, 123, 124, 125, 126, 127, 128, 129, 130, 131, 132, 133, 134, 135, 136, 137] (by decide +kernel) (by decide +kernel)
set_option maxRecDepth 20000 in
theorem gX5_carryOrder_X1_revolve : GoodIn wsX5_carryOrder (wsV RX5 56 RX1 yX1_revolve wsX1_revolve) := goodIn_app (goodIn_of _ (by decide +kernel)) ggX5_carryOrder_X1_revolve
set_option maxRecDepth 20000 in
theorem ggX5_carryOrder_X5_carryRuns : GoodIn wsX5_carryOrder wsX5_carryRuns := goodIn_r _ [97, 1, 2, 98, 99, 3, 100, 101, 102, 7, 103, 104, 9, 105, 27, 10, 11, 12, 13, 14, 15, 40, 5, 6, 8, 106, 37, 38, 39, 107, 108, 109, 19, 110, 49, 50, 62, 63, 64, 65, 66, 67, 68, 51, 69, 70, 71, 72, 73, 74, 75, 76, 77, 78, 52, 53, 54, 55, 32, 56, 57, 58, 79, 80, 81, 82, 83, 84, 21, 22, 85, 86, 87, 33, 34, 35, 88, 89, 90, 91, 92, 4, 111, 112, 113, 114, 115, 116, 117, 118, 119, 120, 121, 122, 123, 124, 125, 126, 127, 128, 129, 130, 131, 132, 133, 134, 135, 136, 137] (by decide +kernel) (by decide +kernel)
set_option maxRecDepth 20000 in
theorem gX5_carryOrder_X5_carryRuns : GoodIn wsX5_carryOrder (wsV RX5 178 RX5 yX5_carryRuns wsX5_carryRuns) := goodIn_app (goodIn_of _ (by decide +kernel)) ggX5_carryOrder_X5_carryRuns
theorem dX5_carryOrder_0 : decode cX5_carryOrder 0 = .ok (.aload_n 0, 1) := by decide +kernel
theorem dX5_carryOrder_1 : decode cX5_carryOrder 1 = .ok (.getfield 36, 3) := by decide +kernel
theorem dX5_carryOrder_4 : decode cX5_carryOrder 4 = .ok (.bipush 122, 2) := by decide +kernel
theorem dX5_carryOrder_6 : decode cX5_carryOrder 6 = .ok (.invokevirtual 164, 3) := by decide +kernel
theorem dX5_carryOrder_9 : decode cX5_carryOrder 9 = .ok (.ifCond .eq 11, 3) := by decide +kernel
theorem dX5_carryOrder_12 : decode cX5_carryOrder 12 = .ok (.aload_n 0, 1) := by decide +kernel
theorem dX5_carryOrder_13 : decode cX5_carryOrder 13 = .ok (.getfield 10, 3) := by decide +kernel
theorem dX5_carryOrder_16 : decode cX5_carryOrder 16 = .ok (.invokevirtual 59, 3) := by decide +kernel
theorem dX5_carryOrder_19 : decode cX5_carryOrder 19 = .ok (.ireturn, 1) := by decide +kernel
theorem dX5_carryOrder_20 : decode cX5_carryOrder 20 = .ok (.aload_n 0, 1) := by decide +kernel
theorem dX5_carryOrder_21 : decode cX5_carryOrder 21 = .ok (.getfield 36, 3) := by decide +kernel
theorem dX5_carryOrder_24 : decode cX5_carryOrder 24 = .ok (.bipush 110, 2) := by decide +kernel
theorem dX5_carryOrder_26 : decode cX5_carryOrder 26 = .ok (.invokevirtual 164, 3) := by decide +kernel
theorem dX5_carryOrder_29 : decode cX5_carryOrder 29 = .ok (.ifCond .eq 34, 3) := by decide +kernel
theorem dX5_carryOrder_32 : decode cX5_carryOrder 32 = .ok (.aload_n 0, 1) := by decide +kernel
theorem dX5_carryOrder_33 : decode cX5_carryOrder 33 = .ok (.getfield 36, 3) := by decide +kernel
theorem dX5_carryOrder_36 : decode cX5_carryOrder 36 = .ok (.invokevirtual 168, 3) := by decide +kernel
theorem dX5_carryOrder_39 : decode cX5_carryOrder 39 = .ok (.ifCond .eq 21, 3) := by decide +kernel
theorem dX5_carryOrder_42 : decode cX5_carryOrder 42 = .ok (.aload_n 0, 1) := by decide +kernel
theorem dX5_carryOrder_43 : decode cX5_carryOrder 43 = .ok (.getfield 10, 3) := by decide +kernel
theorem dX5_carryOrder_46 : decode cX5_carryOrder 46 = .ok (.iconst 2, 1) := by decide +kernel
theorem dX5_carryOrder_47 : decode cX5_carryOrder 47 = .ok (.aload_n 0, 1) := by decide +kernel
theorem dX5_carryOrder_48 : decode cX5_carryOrder 48 = .ok (.getfield 36, 3) := by decide +kernel
theorem dX5_carryOrder_51 : decode cX5_carryOrder 51 = .ok (.getfield 172, 3) := by decide +kernel
theorem dX5_carryOrder_54 : decode cX5_carryOrder 54 = .ok (.invokevirtual 44, 3) := by decide +kernel
theorem dX5_carryOrder_57 : decode cX5_carryOrder 57 = .ok (.goto 5, 3) := by decide +kernel
theorem dX5_carryOrder_60 : decode cX5_carryOrder 60 = .ok (.bipush (-3), 2) := by decide +kernel
theorem dX5_carryOrder_62 : decode cX5_carryOrder 62 = .ok (.ireturn, 1) := by decide +kernel
theorem dX5_carryOrder_63 : decode cX5_carryOrder 63 = .ok (.aload_n 0, 1) := by decide +kernel
theorem dX5_carryOrder_64 : decode cX5_carryOrder 64 = .ok (.getfield 36, 3) := by decide +kernel
theorem dX5_carryOrder_67 : decode cX5_carryOrder 67 = .ok (.bipush 102, 2) := by decide +kernel
theorem dX5_carryOrder_69 : decode cX5_carryOrder 69 = .ok (.invokevirtual 164, 3) := by decide +kernel
theorem dX5_carryOrder_72 : decode cX5_carryOrder 72 = .ok (.ifCond .eq 33, 3) := by decide +kernel
theorem dX5_carryOrder_75 : decode cX5_carryOrder 75 = .ok (.aload_n 0, 1) := by decide +kernel
theorem dX5_carryOrder_76 : decode cX5_carryOrder 76 = .ok (.getfield 36, 3) := by decide +kernel
theorem dX5_carryOrder_79 : decode cX5_carryOrder 79 = .ok (.invokevirtual 175, 3) := by decide +kernel
theorem dX5_carryOrder_82 : decode cX5_carryOrder 82 = .ok (.ifCond .eq 20, 3) := by decide +kernel
theorem dX5_carryOrder_85 : decode cX5_carryOrder 85 = .ok (.aload_n 0, 1) := by decide +kernel
theorem dX5_carryOrder_86 : decode cX5_carryOrder 86 = .ok (.getfield 10, 3) := by decide +kernel
theorem dX5_carryOrder_89 : decode cX5_carryOrder 89 = .ok (.aload_n 0, 1) := by decide +kernel
theorem dX5_carryOrder_90 : decode cX5_carryOrder 90 = .ok (.getfield 36, 3) := by decide +kernel
theorem dX5_carryOrder_93 : decode cX5_carryOrder 93 = .ok (.getfield 172, 3) := by decide +kernel
theorem dX5_carryOrder_96 : decode cX5_carryOrder 96 = .ok (.invokevirtual 56, 3) := by decide +kernel
theorem dX5_carryOrder_99 : decode cX5_carryOrder 99 = .ok (.goto 5, 3) := by decide +kernel
theorem dX5_carryOrder_102 : decode cX5_carryOrder 102 = .ok (.bipush (-3), 2) := by decide +kernel
theorem dX5_carryOrder_104 : decode cX5_carryOrder 104 = .ok (.ireturn, 1) := by decide +kernel
theorem dX5_carryOrder_105 : decode cX5_carryOrder 105 = .ok (.aload_n 0, 1) := by decide +kernel
theorem dX5_carryOrder_106 : decode cX5_carryOrder 106 = .ok (.getfield 36, 3) := by decide +kernel
theorem dX5_carryOrder_109 : decode cX5_carryOrder 109 = .ok (.bipush 98, 2) := by decide +kernel
theorem dX5_carryOrder_111 : decode cX5_carryOrder 111 = .ok (.invokevirtual 164, 3) := by decide +kernel
theorem dX5_carryOrder_114 : decode cX5_carryOrder 114 = .ok (.ifCond .eq 34, 3) := by decide +kernel
theorem dX5_carryOrder_117 : decode cX5_carryOrder 117 = .ok (.aload_n 0, 1) := by decide +kernel
theorem dX5_carryOrder_118 : decode cX5_carryOrder 118 = .ok (.getfield 36, 3) := by decide +kernel
theorem dX5_carryOrder_121 : decode cX5_carryOrder 121 = .ok (.invokevirtual 175, 3) := by decide +kernel
theorem dX5_carryOrder_124 : decode cX5_carryOrder 124 = .ok (.ifCond .eq 21, 3) := by decide +kernel
theorem dX5_carryOrder_127 : decode cX5_carryOrder 127 = .ok (.aload_n 0, 1) := by decide +kernel
theorem dX5_carryOrder_128 : decode cX5_carryOrder 128 = .ok (.getfield 10, 3) := by decide +kernel
theorem dX5_carryOrder_131 : decode cX5_carryOrder 131 = .ok (.aload_n 0, 1) := by decide +kernel
theorem dX5_carryOrder_132 : decode cX5_carryOrder 132 = .ok (.getfield 36, 3) := by decide +kernel
theorem dX5_carryOrder_135 : decode cX5_carryOrder 135 = .ok (.getfield 172, 3) := by decide +kernel
theorem dX5_carryOrder_138 : decode cX5_carryOrder 138 = .ok (.ineg, 1) := by decide +kernel
theorem dX5_carryOrder_139 : decode cX5_carryOrder 139 = .ok (.invokevirtual 56, 3) := by decide +kernel
theorem dX5_carryOrder_142 : decode cX5_carryOrder 142 = .ok (.goto 5, 3) := by decide +kernel
theorem dX5_carryOrder_145 : decode cX5_carryOrder 145 = .ok (.bipush (-3), 2) := by decide +kernel
theorem dX5_carryOrder_147 : decode cX5_carryOrder 147 = .ok (.ireturn, 1) := by decide +kernel
theorem dX5_carryOrder_148 : decode cX5_carryOrder 148 = .ok (.aload_n 0, 1) := by decide +kernel
theorem dX5_carryOrder_149 : decode cX5_carryOrder 149 = .ok (.invokevirtual 178, 3) := by decide +kernel
theorem dX5_carryOrder_152 : decode cX5_carryOrder 152 = .ok (.ireturn, 1) := by decide +kernel
set_option maxRecDepth 20000 in
theorem ggX5_carryRuns_X3_readRun : GoodIn wsX5_carryRuns wsX3_readRun := goodIn_r _ [10, 11, 12, 13, 14, 15, 16, 17, 9, 18, 19, 20, 21, 22, 23, 24, 25, 26, 27, 28, 87, 88, 89, 90, 91, 92] (by decide +kernel) (by decide +kernel)
set_option maxRecDepth 20000 in
theorem gX5_carryRuns_X3_readRun : GoodIn wsX5_carryRuns (wsV RX5 181 RX3 yX3_readRun wsX3_readRun) := goodIn_app (goodIn_of _ (by decide +kernel)) ggX5_carryRuns_X3_readRun
set_option maxRecDepth 20000 in
theorem ggX5_carryRuns_X1_pass : GoodIn wsX5_carryRuns wsX1_pass := goodIn_r _ [33, 34, 35, 36, 37, 38, 32, 39, 40, 41, 42, 43, 44, 45, 46, 47, 48, 49, 50, 51, 52, 53, 54, 55, 56, 57, 58, 59, 60, 61, 62, 63, 64, 65, 66, 67, 68, 69, 70, 71, 72, 73, 74, 75, 76, 77, 78, 79, 80, 93, 94, 95, 96, 97, 98, 99, 100, 101, 102, 103, 104, 105, 106, 107, 108] (by decide +kernel) (by decide +kernel)
set_option maxRecDepth 20000 in
theorem gX5_carryRuns_X1_pass : GoodIn wsX5_carryRuns (wsV RX5 52 RX1 yX1_pass wsX1_pass) := goodIn_app (goodIn_of _ (by decide +kernel)) ggX5_carryRuns_X1_pass
set_option maxRecDepth 20000 in
theorem ggX5_carryRuns_X3_skip : GoodIn wsX5_carryRuns wsX3_skip := goodIn_r _ [24, 12, 15, 16, 17, 9, 18, 19, 20, 87, 88, 89, 90, 91, 92] (by decide +kernel) (by decide +kernel)
set_option maxRecDepth 20000 in
theorem gX5_carryRuns_X3_skip : GoodIn wsX5_carryRuns (wsV RX5 164 RX3 yX3_skip wsX3_skip) := goodIn_app (goodIn_of _ (by decide +kernel)) ggX5_carryRuns_X3_skip
theorem dX5_carryRuns_0 : decode cX5_carryRuns 0 = .ok (.iconst 0, 1) := by decide +kernel
theorem dX5_carryRuns_1 : decode cX5_carryRuns 1 = .ok (.istore_n 1, 1) := by decide +kernel
theorem dX5_carryRuns_2 : decode cX5_carryRuns 2 = .ok (.iload_n 1, 1) := by decide +kernel
theorem dX5_carryRuns_3 : decode cX5_carryRuns 3 = .ok (.bipush 80, 2) := by decide +kernel
theorem dX5_carryRuns_5 : decode cX5_carryRuns 5 = .ok (.if_icmp .ge 69, 3) := by decide +kernel
theorem dX5_carryRuns_8 : decode cX5_carryRuns 8 = .ok (.aload_n 0, 1) := by decide +kernel
theorem dX5_carryRuns_9 : decode cX5_carryRuns 9 = .ok (.getfield 36, 3) := by decide +kernel
theorem dX5_carryRuns_12 : decode cX5_carryRuns 12 = .ok (.invokevirtual 181, 3) := by decide +kernel
theorem dX5_carryRuns_15 : decode cX5_carryRuns 15 = .ok (.ifCond .ne 6, 3) := by decide +kernel
theorem dX5_carryRuns_18 : decode cX5_carryRuns 18 = .ok (.bipush (-3), 2) := by decide +kernel
theorem dX5_carryRuns_20 : decode cX5_carryRuns 20 = .ok (.ireturn, 1) := by decide +kernel
theorem dX5_carryRuns_21 : decode cX5_carryRuns 21 = .ok (.aload_n 0, 1) := by decide +kernel
theorem dX5_carryRuns_22 : decode cX5_carryRuns 22 = .ok (.getfield 10, 3) := by decide +kernel
theorem dX5_carryRuns_25 : decode cX5_carryRuns 25 = .ok (.aload_n 0, 1) := by decide +kernel
theorem dX5_carryRuns_26 : decode cX5_carryRuns 26 = .ok (.getfield 36, 3) := by decide +kernel
theorem dX5_carryRuns_29 : decode cX5_carryRuns 29 = .ok (.getfield 184, 3) := by decide +kernel
theorem dX5_carryRuns_32 : decode cX5_carryRuns 32 = .ok (.aload_n 0, 1) := by decide +kernel
theorem dX5_carryRuns_33 : decode cX5_carryRuns 33 = .ok (.getfield 36, 3) := by decide +kernel
theorem dX5_carryRuns_36 : decode cX5_carryRuns 36 = .ok (.getfield 187, 3) := by decide +kernel
theorem dX5_carryRuns_39 : decode cX5_carryRuns 39 = .ok (.aload_n 0, 1) := by decide +kernel
theorem dX5_carryRuns_40 : decode cX5_carryRuns 40 = .ok (.getfield 36, 3) := by decide +kernel
theorem dX5_carryRuns_43 : decode cX5_carryRuns 43 = .ok (.getfield 172, 3) := by decide +kernel
theorem dX5_carryRuns_46 : decode cX5_carryRuns 46 = .ok (.invokevirtual 52, 3) := by decide +kernel
theorem dX5_carryRuns_49 : decode cX5_carryRuns 49 = .ok (.istore_n 2, 1) := by decide +kernel
theorem dX5_carryRuns_50 : decode cX5_carryRuns 50 = .ok (.iload_n 2, 1) := by decide +kernel
theorem dX5_carryRuns_51 : decode cX5_carryRuns 51 = .ok (.ifCond .lt 15, 3) := by decide +kernel
theorem dX5_carryRuns_54 : decode cX5_carryRuns 54 = .ok (.aload_n 0, 1) := by decide +kernel
theorem dX5_carryRuns_55 : decode cX5_carryRuns 55 = .ok (.getfield 36, 3) := by decide +kernel
theorem dX5_carryRuns_58 : decode cX5_carryRuns 58 = .ok (.bipush 44, 2) := by decide +kernel
theorem dX5_carryRuns_60 : decode cX5_carryRuns 60 = .ok (.invokevirtual 164, 3) := by decide +kernel
theorem dX5_carryRuns_63 : decode cX5_carryRuns 63 = .ok (.ifCond .ne 5, 3) := by decide +kernel
theorem dX5_carryRuns_66 : decode cX5_carryRuns 66 = .ok (.iload_n 2, 1) := by decide +kernel
theorem dX5_carryRuns_67 : decode cX5_carryRuns 67 = .ok (.ireturn, 1) := by decide +kernel
theorem dX5_carryRuns_68 : decode cX5_carryRuns 68 = .ok (.iinc 1 1, 3) := by decide +kernel
theorem dX5_carryRuns_71 : decode cX5_carryRuns 71 = .ok (.goto (-69), 3) := by decide +kernel
theorem dX5_carryRuns_74 : decode cX5_carryRuns 74 = .ok (.bipush (-3), 2) := by decide +kernel
theorem dX5_carryRuns_76 : decode cX5_carryRuns 76 = .ok (.ireturn, 1) := by decide +kernel
set_option maxRecDepth 20000 in
theorem ggX5_undo_X2_takeBack : GoodIn wsX5_undo wsX2_takeBack := goodIn_r _ [7, 8, 9, 10, 11, 12, 6, 13, 14, 15, 16, 17, 18, 19, 20, 21, 22, 23, 24, 25, 26, 27, 28, 29, 30, 31, 32, 33, 34, 35, 36, 37, 38, 44, 45, 46, 47, 48, 49, 50, 51, 52, 53, 54, 55, 56, 57, 58, 59, 60, 61, 62] (by decide +kernel) (by decide +kernel)
set_option maxRecDepth 20000 in
theorem gX5_undo_X2_takeBack : GoodIn wsX5_undo (wsV RX5 190 RX2 yX2_takeBack wsX2_takeBack) := goodIn_app (goodIn_of _ (by decide +kernel)) ggX5_undo_X2_takeBack
theorem dX5_undo_0 : decode cX5_undo 0 = .ok (.aload_n 0, 1) := by decide +kernel
theorem dX5_undo_1 : decode cX5_undo 1 = .ok (.getfield 22, 3) := by decide +kernel
theorem dX5_undo_4 : decode cX5_undo 4 = .ok (.aload_n 0, 1) := by decide +kernel
theorem dX5_undo_5 : decode cX5_undo 5 = .ok (.getfield 10, 3) := by decide +kernel
theorem dX5_undo_8 : decode cX5_undo 8 = .ok (.invokevirtual 190, 3) := by decide +kernel
theorem dX5_undo_11 : decode cX5_undo 11 = .ok (.ireturn, 1) := by decide +kernel
set_option maxRecDepth 20000 in
theorem ggX5_save_X4_store : GoodIn wsX5_save wsX4_store := goodIn_r _ [7, 8, 9, 10, 11, 12, 13, 14, 15, 16, 17, 18, 19, 20, 21, 22, 23, 24, 25, 26, 27, 28, 29, 30, 31, 32, 33, 34, 40, 41, 42, 43, 44, 45, 46, 47, 48, 49, 50, 51, 52, 53, 54, 55, 56, 57] (by decide +kernel) (by decide +kernel)
set_option maxRecDepth 20000 in
theorem gX5_save_X4_store : GoodIn wsX5_save (wsV RX5 194 RX4 yX4_store wsX4_store) := goodIn_app (goodIn_of _ (by decide +kernel)) ggX5_save_X4_store
theorem dX5_save_0 : decode cX5_save 0 = .ok (.aload_n 0, 1) := by decide +kernel
theorem dX5_save_1 : decode cX5_save 1 = .ok (.getfield 29, 3) := by decide +kernel
theorem dX5_save_4 : decode cX5_save 4 = .ok (.iload_n 1, 1) := by decide +kernel
theorem dX5_save_5 : decode cX5_save 5 = .ok (.aload_n 0, 1) := by decide +kernel
theorem dX5_save_6 : decode cX5_save 6 = .ok (.getfield 10, 3) := by decide +kernel
theorem dX5_save_9 : decode cX5_save 9 = .ok (.invokevirtual 194, 3) := by decide +kernel
theorem dX5_save_12 : decode cX5_save 12 = .ok (.ireturn, 1) := by decide +kernel
set_option maxRecDepth 20000 in
theorem ggX5_restore_X2_prepare : GoodIn wsX5_restore wsX2_prepare := goodIn_r _ [8, 9, 10, 11, 7, 12, 13, 14, 15, 16, 17, 18, 19, 20, 21, 22, 23, 24, 25, 26, 27, 28, 29, 30, 31, 32, 33, 34, 35, 36, 37, 38, 62, 63, 64, 65, 66, 67, 68, 69, 70, 71, 72, 73, 74, 75, 76, 77, 78, 79, 80] (by decide +kernel) (by decide +kernel)
set_option maxRecDepth 20000 in
theorem gX5_restore_X2_prepare : GoodIn wsX5_restore (wsV RX5 40 RX2 yX2_prepare wsX2_prepare) := goodIn_app (goodIn_of _ (by decide +kernel)) ggX5_restore_X2_prepare
set_option maxRecDepth 20000 in
theorem ggX5_restore_X4_fetch : GoodIn wsX5_restore wsX4_fetch := goodIn_r _ [43, 44, 45, 46, 47, 16, 17, 18, 19, 20, 21, 22, 23, 24, 25, 26, 27, 28, 29, 30, 31, 32, 33, 34, 35, 36, 37, 38, 81, 82, 65, 66, 67, 68, 69, 70, 71, 72, 73, 74, 75, 76, 77, 78, 79, 80] (by decide +kernel) (by decide +kernel)
set_option maxRecDepth 20000 in
theorem gX5_restore_X4_fetch : GoodIn wsX5_restore (wsV RX5 198 RX4 yX4_fetch wsX4_fetch) := goodIn_app (goodIn_of _ (by decide +kernel)) ggX5_restore_X4_fetch
set_option maxRecDepth 20000 in
theorem ggX5_restore_X2_keepUnlessError : GoodIn wsX5_restore wsX2_keepUnlessError := goodIn_r _ [51, 13, 52, 53, 54, 55, 56, 62, 63, 64] (by decide +kernel) (by decide +kernel)
set_option maxRecDepth 20000 in
theorem gX5_restore_X2_keepUnlessError : GoodIn wsX5_restore (wsV RX5 48 RX2 yX2_keepUnlessError wsX2_keepUnlessError) := goodIn_app (goodIn_of _ (by decide +kernel)) ggX5_restore_X2_keepUnlessError
theorem dX5_restore_0 : decode cX5_restore 0 = .ok (.aload_n 0, 1) := by decide +kernel
theorem dX5_restore_1 : decode cX5_restore 1 = .ok (.getfield 22, 3) := by decide +kernel
theorem dX5_restore_4 : decode cX5_restore 4 = .ok (.aload_n 0, 1) := by decide +kernel
theorem dX5_restore_5 : decode cX5_restore 5 = .ok (.getfield 10, 3) := by decide +kernel
theorem dX5_restore_8 : decode cX5_restore 8 = .ok (.invokevirtual 40, 3) := by decide +kernel
theorem dX5_restore_11 : decode cX5_restore 11 = .ok (.aload_n 0, 1) := by decide +kernel
theorem dX5_restore_12 : decode cX5_restore 12 = .ok (.getfield 22, 3) := by decide +kernel
theorem dX5_restore_15 : decode cX5_restore 15 = .ok (.aload_n 0, 1) := by decide +kernel
theorem dX5_restore_16 : decode cX5_restore 16 = .ok (.getfield 29, 3) := by decide +kernel
theorem dX5_restore_19 : decode cX5_restore 19 = .ok (.iload_n 1, 1) := by decide +kernel
theorem dX5_restore_20 : decode cX5_restore 20 = .ok (.aload_n 0, 1) := by decide +kernel
theorem dX5_restore_21 : decode cX5_restore 21 = .ok (.getfield 10, 3) := by decide +kernel
theorem dX5_restore_24 : decode cX5_restore 24 = .ok (.invokevirtual 198, 3) := by decide +kernel
theorem dX5_restore_27 : decode cX5_restore 27 = .ok (.invokevirtual 48, 3) := by decide +kernel
theorem dX5_restore_30 : decode cX5_restore 30 = .ok (.ireturn, 1) := by decide +kernel
end
section
set_option maxRecDepth 20000 in
theorem ggX6_init_X6_beginsAnew : GoodIn wsX6_init wsX6_beginsAnew := goodIn_r _ [16, 5, 17, 18, 19, 20, 21, 22, 23, 24, 25, 26, 27, 28, 29] (by decide +kernel) (by decide +kernel)
set_option maxRecDepth 20000 in
theorem gX6_init_X6_beginsAnew : GoodIn wsX6_init (wsV RX6 31 RX6 yX6_beginsAnew wsX6_beginsAnew) := goodIn_app (goodIn_of _ (by decide +kernel)) ggX6_init_X6_beginsAnew
theorem dX6_init_0 : decode cX6_init 0 = .ok (.aload_n 0, 1) := by decide +kernel
theorem dX6_init_1 : decode cX6_init 1 = .ok (.invokespecial 1, 3) := by decide +kernel
theorem dX6_init_4 : decode cX6_init 4 = .ok (.aload_n 0, 1) := by decide +kernel
theorem dX6_init_5 : decode cX6_init 5 = .ok (.sipush 222, 3) := by decide +kernel
theorem dX6_init_8 : decode cX6_init 8 = .ok (.newarray .int, 2) := by decide +kernel
theorem dX6_init_10 : decode cX6_init 10 = .ok (.putfield 7, 3) := by decide +kernel
theorem dX6_init_13 : decode cX6_init 13 = .ok (.aload_n 0, 1) := by decide +kernel
theorem dX6_init_14 : decode cX6_init 14 = .ok (.sipush 222, 3) := by decide +kernel
theorem dX6_init_17 : decode cX6_init 17 = .ok (.newarray .int, 2) := by decide +kernel
theorem dX6_init_19 : decode cX6_init 19 = .ok (.putfield 13, 3) := by decide +kernel
theorem dX6_init_22 : decode cX6_init 22 = .ok (.aload_n 0, 1) := by decide +kernel
theorem dX6_init_23 : decode cX6_init 23 = .ok (.sipush 222, 3) := by decide +kernel
theorem dX6_init_26 : decode cX6_init 26 = .ok (.newarray .int, 2) := by decide +kernel
theorem dX6_init_28 : decode cX6_init 28 = .ok (.putfield 16, 3) := by decide +kernel
theorem dX6_init_31 : decode cX6_init 31 = .ok (.aload_n 0, 1) := by decide +kernel
theorem dX6_init_32 : decode cX6_init 32 = .ok (.sipush 1332, 3) := by decide +kernel
theorem dX6_init_35 : decode cX6_init 35 = .ok (.newarray .int, 2) := by decide +kernel
theorem dX6_init_37 : decode cX6_init 37 = .ok (.putfield 19, 3) := by decide +kernel
theorem dX6_init_40 : decode cX6_init 40 = .ok (.aload_n 0, 1) := by decide +kernel
theorem dX6_init_41 : decode cX6_init 41 = .ok (.sipush 444, 3) := by decide +kernel
theorem dX6_init_44 : decode cX6_init 44 = .ok (.newarray .int, 2) := by decide +kernel
theorem dX6_init_46 : decode cX6_init 46 = .ok (.putfield 22, 3) := by decide +kernel
theorem dX6_init_49 : decode cX6_init 49 = .ok (.aload_n 0, 1) := by decide +kernel
theorem dX6_init_50 : decode cX6_init 50 = .ok (.iconst 2, 1) := by decide +kernel
theorem dX6_init_51 : decode cX6_init 51 = .ok (.newarray .int, 2) := by decide +kernel
theorem dX6_init_53 : decode cX6_init 53 = .ok (.putfield 25, 3) := by decide +kernel
theorem dX6_init_56 : decode cX6_init 56 = .ok (.aload_n 0, 1) := by decide +kernel
theorem dX6_init_57 : decode cX6_init 57 = .ok (.bipush 80, 2) := by decide +kernel
theorem dX6_init_59 : decode cX6_init 59 = .ok (.newarray .int, 2) := by decide +kernel
theorem dX6_init_61 : decode cX6_init 61 = .ok (.putfield 28, 3) := by decide +kernel
theorem dX6_init_64 : decode cX6_init 64 = .ok (.aload_n 0, 1) := by decide +kernel
theorem dX6_init_65 : decode cX6_init 65 = .ok (.getfield 7, 3) := by decide +kernel
theorem dX6_init_68 : decode cX6_init 68 = .ok (.iconst 0, 1) := by decide +kernel
theorem dX6_init_69 : decode cX6_init 69 = .ok (.bipush 40, 2) := by decide +kernel
theorem dX6_init_71 : decode cX6_init 71 = .ok (.iastore, 1) := by decide +kernel
theorem dX6_init_72 : decode cX6_init 72 = .ok (.aload_n 0, 1) := by decide +kernel
theorem dX6_init_73 : decode cX6_init 73 = .ok (.getfield 7, 3) := by decide +kernel
theorem dX6_init_76 : decode cX6_init 76 = .ok (.iconst 1, 1) := by decide +kernel
theorem dX6_init_77 : decode cX6_init 77 = .ok (.sipush 1000, 3) := by decide +kernel
theorem dX6_init_80 : decode cX6_init 80 = .ok (.iastore, 1) := by decide +kernel
theorem dX6_init_81 : decode cX6_init 81 = .ok (.aload_n 0, 1) := by decide +kernel
theorem dX6_init_82 : decode cX6_init 82 = .ok (.getfield 7, 3) := by decide +kernel
theorem dX6_init_85 : decode cX6_init 85 = .ok (.iconst 2, 1) := by decide +kernel
theorem dX6_init_86 : decode cX6_init 86 = .ok (.iconst 1, 1) := by decide +kernel
theorem dX6_init_87 : decode cX6_init 87 = .ok (.iastore, 1) := by decide +kernel
theorem dX6_init_88 : decode cX6_init 88 = .ok (.aload_n 0, 1) := by decide +kernel
theorem dX6_init_89 : decode cX6_init 89 = .ok (.getfield 7, 3) := by decide +kernel
theorem dX6_init_92 : decode cX6_init 92 = .ok (.iconst 3, 1) := by decide +kernel
theorem dX6_init_93 : decode cX6_init 93 = .ok (.bipush 10, 2) := by decide +kernel
theorem dX6_init_95 : decode cX6_init 95 = .ok (.iastore, 1) := by decide +kernel
theorem dX6_init_96 : decode cX6_init 96 = .ok (.aload_n 0, 1) := by decide +kernel
theorem dX6_init_97 : decode cX6_init 97 = .ok (.getfield 7, 3) := by decide +kernel
theorem dX6_init_100 : decode cX6_init 100 = .ok (.iconst 4, 1) := by decide +kernel
theorem dX6_init_101 : decode cX6_init 101 = .ok (.iconst 1, 1) := by decide +kernel
theorem dX6_init_102 : decode cX6_init 102 = .ok (.iastore, 1) := by decide +kernel
theorem dX6_init_103 : decode cX6_init 103 = .ok (.aload_n 0, 1) := by decide +kernel
theorem dX6_init_104 : decode cX6_init 104 = .ok (.invokevirtual 31, 3) := by decide +kernel
theorem dX6_init_107 : decode cX6_init 107 = .ok (.return_, 1) := by decide +kernel
theorem dX6_in_0 : decode cX6_in 0 = .ok (.lload_n 0, 1) := by decide +kernel
theorem dX6_in_1 : decode cX6_in 1 = .ok (.lload_n 2, 1) := by decide +kernel
theorem dX6_in_2 : decode cX6_in 2 = .ok (.lcmp, 1) := by decide +kernel
theorem dX6_in_3 : decode cX6_in 3 = .ok (.ifCond .lt 14, 3) := by decide +kernel
theorem dX6_in_6 : decode cX6_in 6 = .ok (.lload_n 0, 1) := by decide +kernel
theorem dX6_in_7 : decode cX6_in 7 = .ok (.lload 4, 2) := by decide +kernel
theorem dX6_in_9 : decode cX6_in 9 = .ok (.lcmp, 1) := by decide +kernel
theorem dX6_in_10 : decode cX6_in 10 = .ok (.ifCond .gt 7, 3) := by decide +kernel
theorem dX6_in_13 : decode cX6_in 13 = .ok (.iconst 1, 1) := by decide +kernel
theorem dX6_in_14 : decode cX6_in 14 = .ok (.goto 4, 3) := by decide +kernel
theorem dX6_in_17 : decode cX6_in 17 = .ok (.iconst 0, 1) := by decide +kernel
theorem dX6_in_18 : decode cX6_in 18 = .ok (.ireturn, 1) := by decide +kernel
theorem dX6_copy_0 : decode cX6_copy 0 = .ok (.iconst 0, 1) := by decide +kernel
theorem dX6_copy_1 : decode cX6_copy 1 = .ok (.istore_n 2, 1) := by decide +kernel
theorem dX6_copy_2 : decode cX6_copy 2 = .ok (.iload_n 2, 1) := by decide +kernel
theorem dX6_copy_3 : decode cX6_copy 3 = .ok (.sipush 222, 3) := by decide +kernel
theorem dX6_copy_6 : decode cX6_copy 6 = .ok (.if_icmp .ge 15, 3) := by decide +kernel
theorem dX6_copy_9 : decode cX6_copy 9 = .ok (.aload_n 1, 1) := by decide +kernel
theorem dX6_copy_10 : decode cX6_copy 10 = .ok (.iload_n 2, 1) := by decide +kernel
theorem dX6_copy_11 : decode cX6_copy 11 = .ok (.aload_n 0, 1) := by decide +kernel
theorem dX6_copy_12 : decode cX6_copy 12 = .ok (.iload_n 2, 1) := by decide +kernel
theorem dX6_copy_13 : decode cX6_copy 13 = .ok (.iaload, 1) := by decide +kernel
theorem dX6_copy_14 : decode cX6_copy 14 = .ok (.iastore, 1) := by decide +kernel
theorem dX6_copy_15 : decode cX6_copy 15 = .ok (.iinc 2 1, 3) := by decide +kernel
theorem dX6_copy_18 : decode cX6_copy 18 = .ok (.goto (-16), 3) := by decide +kernel
theorem dX6_copy_21 : decode cX6_copy 21 = .ok (.return_, 1) := by decide +kernel
theorem dX6_changed_0 : decode cX6_changed 0 = .ok (.aload_n 0, 1) := by decide +kernel
theorem dX6_changed_1 : decode cX6_changed 1 = .ok (.getfield 34, 3) := by decide +kernel
theorem dX6_changed_4 : decode cX6_changed 4 = .ok (.bipush 6, 2) := by decide +kernel
theorem dX6_changed_6 : decode cX6_changed 6 = .ok (.if_icmp .ne 44, 3) := by decide +kernel
theorem dX6_changed_9 : decode cX6_changed 9 = .ok (.iconst 0, 1) := by decide +kernel
theorem dX6_changed_10 : decode cX6_changed 10 = .ok (.istore_n 2, 1) := by decide +kernel
theorem dX6_changed_11 : decode cX6_changed 11 = .ok (.iload_n 2, 1) := by decide +kernel
theorem dX6_changed_12 : decode cX6_changed 12 = .ok (.sipush 1110, 3) := by decide +kernel
theorem dX6_changed_15 : decode cX6_changed 15 = .ok (.if_icmp .ge 25, 3) := by decide +kernel
theorem dX6_changed_18 : decode cX6_changed 18 = .ok (.aload_n 0, 1) := by decide +kernel
theorem dX6_changed_19 : decode cX6_changed 19 = .ok (.getfield 19, 3) := by decide +kernel
theorem dX6_changed_22 : decode cX6_changed 22 = .ok (.iload_n 2, 1) := by decide +kernel
theorem dX6_changed_23 : decode cX6_changed 23 = .ok (.aload_n 0, 1) := by decide +kernel
theorem dX6_changed_24 : decode cX6_changed 24 = .ok (.getfield 19, 3) := by decide +kernel
theorem dX6_changed_27 : decode cX6_changed 27 = .ok (.iload_n 2, 1) := by decide +kernel
theorem dX6_changed_28 : decode cX6_changed 28 = .ok (.sipush 222, 3) := by decide +kernel
theorem dX6_changed_31 : decode cX6_changed 31 = .ok (.iadd, 1) := by decide +kernel
theorem dX6_changed_32 : decode cX6_changed 32 = .ok (.iaload, 1) := by decide +kernel
theorem dX6_changed_33 : decode cX6_changed 33 = .ok (.iastore, 1) := by decide +kernel
theorem dX6_changed_34 : decode cX6_changed 34 = .ok (.iinc 2 1, 3) := by decide +kernel
theorem dX6_changed_37 : decode cX6_changed 37 = .ok (.goto (-26), 3) := by decide +kernel
theorem dX6_changed_40 : decode cX6_changed 40 = .ok (.aload_n 0, 1) := by decide +kernel
theorem dX6_changed_41 : decode cX6_changed 41 = .ok (.dup, 1) := by decide +kernel
theorem dX6_changed_42 : decode cX6_changed 42 = .ok (.getfield 34, 3) := by decide +kernel
theorem dX6_changed_45 : decode cX6_changed 45 = .ok (.iconst 1, 1) := by decide +kernel
theorem dX6_changed_46 : decode cX6_changed 46 = .ok (.isub, 1) := by decide +kernel
theorem dX6_changed_47 : decode cX6_changed 47 = .ok (.putfield 34, 3) := by decide +kernel
theorem dX6_changed_50 : decode cX6_changed 50 = .ok (.iconst 0, 1) := by decide +kernel
theorem dX6_changed_51 : decode cX6_changed 51 = .ok (.istore_n 2, 1) := by decide +kernel
theorem dX6_changed_52 : decode cX6_changed 52 = .ok (.iload_n 2, 1) := by decide +kernel
theorem dX6_changed_53 : decode cX6_changed 53 = .ok (.sipush 222, 3) := by decide +kernel
theorem dX6_changed_56 : decode cX6_changed 56 = .ok (.if_icmp .ge 30, 3) := by decide +kernel
theorem dX6_changed_59 : decode cX6_changed 59 = .ok (.aload_n 0, 1) := by decide +kernel
theorem dX6_changed_60 : decode cX6_changed 60 = .ok (.getfield 19, 3) := by decide +kernel
theorem dX6_changed_63 : decode cX6_changed 63 = .ok (.sipush 222, 3) := by decide +kernel
theorem dX6_changed_66 : decode cX6_changed 66 = .ok (.aload_n 0, 1) := by decide +kernel
theorem dX6_changed_67 : decode cX6_changed 67 = .ok (.getfield 34, 3) := by decide +kernel
theorem dX6_changed_70 : decode cX6_changed 70 = .ok (.imul, 1) := by decide +kernel
theorem dX6_changed_71 : decode cX6_changed 71 = .ok (.iload_n 2, 1) := by decide +kernel
theorem dX6_changed_72 : decode cX6_changed 72 = .ok (.iadd, 1) := by decide +kernel
theorem dX6_changed_73 : decode cX6_changed 73 = .ok (.aload_n 0, 1) := by decide +kernel
theorem dX6_changed_74 : decode cX6_changed 74 = .ok (.getfield 13, 3) := by decide +kernel
theorem dX6_changed_77 : decode cX6_changed 77 = .ok (.iload_n 2, 1) := by decide +kernel
theorem dX6_changed_78 : decode cX6_changed 78 = .ok (.iaload, 1) := by decide +kernel
theorem dX6_changed_79 : decode cX6_changed 79 = .ok (.iastore, 1) := by decide +kernel
theorem dX6_changed_80 : decode cX6_changed 80 = .ok (.iinc 2 1, 3) := by decide +kernel
theorem dX6_changed_83 : decode cX6_changed 83 = .ok (.goto (-31), 3) := by decide +kernel
theorem dX6_changed_86 : decode cX6_changed 86 = .ok (.aload_n 0, 1) := by decide +kernel
theorem dX6_changed_87 : decode cX6_changed 87 = .ok (.dup, 1) := by decide +kernel
theorem dX6_changed_88 : decode cX6_changed 88 = .ok (.getfield 34, 3) := by decide +kernel
theorem dX6_changed_91 : decode cX6_changed 91 = .ok (.iconst 1, 1) := by decide +kernel
theorem dX6_changed_92 : decode cX6_changed 92 = .ok (.iadd, 1) := by decide +kernel
theorem dX6_changed_93 : decode cX6_changed 93 = .ok (.putfield 34, 3) := by decide +kernel
theorem dX6_changed_96 : decode cX6_changed 96 = .ok (.iload_n 1, 1) := by decide +kernel
theorem dX6_changed_97 : decode cX6_changed 97 = .ok (.ireturn, 1) := by decide +kernel
theorem dX6_beginsAnew_0 : decode cX6_beginsAnew 0 = .ok (.iconst 5, 1) := by decide +kernel
theorem dX6_beginsAnew_1 : decode cX6_beginsAnew 1 = .ok (.istore_n 1, 1) := by decide +kernel
theorem dX6_beginsAnew_2 : decode cX6_beginsAnew 2 = .ok (.iload_n 1, 1) := by decide +kernel
theorem dX6_beginsAnew_3 : decode cX6_beginsAnew 3 = .ok (.sipush 222, 3) := by decide +kernel
theorem dX6_beginsAnew_6 : decode cX6_beginsAnew 6 = .ok (.if_icmp .ge 16, 3) := by decide +kernel
theorem dX6_beginsAnew_9 : decode cX6_beginsAnew 9 = .ok (.aload_n 0, 1) := by decide +kernel
theorem dX6_beginsAnew_10 : decode cX6_beginsAnew 10 = .ok (.getfield 7, 3) := by decide +kernel
theorem dX6_beginsAnew_13 : decode cX6_beginsAnew 13 = .ok (.iload_n 1, 1) := by decide +kernel
theorem dX6_beginsAnew_14 : decode cX6_beginsAnew 14 = .ok (.iconst 0, 1) := by decide +kernel
theorem dX6_beginsAnew_15 : decode cX6_beginsAnew 15 = .ok (.iastore, 1) := by decide +kernel
theorem dX6_beginsAnew_16 : decode cX6_beginsAnew 16 = .ok (.iinc 1 1, 3) := by decide +kernel
theorem dX6_beginsAnew_19 : decode cX6_beginsAnew 19 = .ok (.goto (-17), 3) := by decide +kernel
theorem dX6_beginsAnew_22 : decode cX6_beginsAnew 22 = .ok (.aload_n 0, 1) := by decide +kernel
theorem dX6_beginsAnew_23 : decode cX6_beginsAnew 23 = .ok (.getfield 7, 3) := by decide +kernel
theorem dX6_beginsAnew_26 : decode cX6_beginsAnew 26 = .ok (.bipush 18, 2) := by decide +kernel
theorem dX6_beginsAnew_28 : decode cX6_beginsAnew 28 = .ok (.bipush (-6), 2) := by decide +kernel
theorem dX6_beginsAnew_30 : decode cX6_beginsAnew 30 = .ok (.iastore, 1) := by decide +kernel
theorem dX6_beginsAnew_31 : decode cX6_beginsAnew 31 = .ok (.aload_n 0, 1) := by decide +kernel
theorem dX6_beginsAnew_32 : decode cX6_beginsAnew 32 = .ok (.getfield 7, 3) := by decide +kernel
theorem dX6_beginsAnew_35 : decode cX6_beginsAnew 35 = .ok (.bipush 19, 2) := by decide +kernel
theorem dX6_beginsAnew_37 : decode cX6_beginsAnew 37 = .ok (.bipush (-6), 2) := by decide +kernel
theorem dX6_beginsAnew_39 : decode cX6_beginsAnew 39 = .ok (.iastore, 1) := by decide +kernel
theorem dX6_beginsAnew_40 : decode cX6_beginsAnew 40 = .ok (.return_, 1) := by decide +kernel
theorem dX6_orderOf_0 : decode cX6_orderOf 0 = .ok (.iload_n 0, 1) := by decide +kernel
theorem dX6_orderOf_1 : decode cX6_orderOf 1 = .ok (.iconst 2, 1) := by decide +kernel
theorem dX6_orderOf_2 : decode cX6_orderOf 2 = .ok (.if_icmp .ge 7, 3) := by decide +kernel
theorem dX6_orderOf_5 : decode cX6_orderOf 5 = .ok (.iload_n 0, 1) := by decide +kernel
theorem dX6_orderOf_6 : decode cX6_orderOf 6 = .ok (.goto 6, 3) := by decide +kernel
theorem dX6_orderOf_9 : decode cX6_orderOf 9 = .ok (.iconst 5, 1) := by decide +kernel
theorem dX6_orderOf_10 : decode cX6_orderOf 10 = .ok (.iload_n 0, 1) := by decide +kernel
theorem dX6_orderOf_11 : decode cX6_orderOf 11 = .ok (.isub, 1) := by decide +kernel
theorem dX6_orderOf_12 : decode cX6_orderOf 12 = .ok (.ireturn, 1) := by decide +kernel
theorem dX6_pairAt_0 : decode cX6_pairAt 0 = .ok (.iload_n 0, 1) := by decide +kernel
theorem dX6_pairAt_1 : decode cX6_pairAt 1 = .ok (.iconst 2, 1) := by decide +kernel
theorem dX6_pairAt_2 : decode cX6_pairAt 2 = .ok (.if_icmp .ge 7, 3) := by decide +kernel
theorem dX6_pairAt_5 : decode cX6_pairAt 5 = .ok (.iload_n 0, 1) := by decide +kernel
theorem dX6_pairAt_6 : decode cX6_pairAt 6 = .ok (.goto 6, 3) := by decide +kernel
theorem dX6_pairAt_9 : decode cX6_pairAt 9 = .ok (.iconst 5, 1) := by decide +kernel
theorem dX6_pairAt_10 : decode cX6_pairAt 10 = .ok (.iload_n 0, 1) := by decide +kernel
theorem dX6_pairAt_11 : decode cX6_pairAt 11 = .ok (.isub, 1) := by decide +kernel
theorem dX6_pairAt_12 : decode cX6_pairAt 12 = .ok (.ireturn, 1) := by decide +kernel
set_option maxRecDepth 20000 in
theorem ggX6_deedOf_X6_orderOf : GoodIn wsX6_deedOf wsX6_orderOf := goodIn_r _ [5] (by decide +kernel) (by decide +kernel)
set_option maxRecDepth 20000 in
theorem gX6_deedOf_X6_orderOf : GoodIn wsX6_deedOf (va_wsS RX6 38 yX6_orderOf wsX6_orderOf) := goodIn_app (goodIn_of _ (by decide +kernel)) ggX6_deedOf_X6_orderOf
theorem dX6_deedOf_0 : decode cX6_deedOf 0 = .ok (.iload_n 1, 1) := by decide +kernel
theorem dX6_deedOf_1 : decode cX6_deedOf 1 = .ok (.aload_n 0, 1) := by decide +kernel
theorem dX6_deedOf_2 : decode cX6_deedOf 2 = .ok (.getfield 7, 3) := by decide +kernel
theorem dX6_deedOf_5 : decode cX6_deedOf 5 = .ok (.bipush 15, 2) := by decide +kernel
theorem dX6_deedOf_7 : decode cX6_deedOf 7 = .ok (.iaload, 1) := by decide +kernel
theorem dX6_deedOf_8 : decode cX6_deedOf 8 = .ok (.if_icmp .ne 24, 3) := by decide +kernel
theorem dX6_deedOf_11 : decode cX6_deedOf 11 = .ok (.aload_n 0, 1) := by decide +kernel
theorem dX6_deedOf_12 : decode cX6_deedOf 12 = .ok (.getfield 7, 3) := by decide +kernel
theorem dX6_deedOf_15 : decode cX6_deedOf 15 = .ok (.iconst 5, 1) := by decide +kernel
theorem dX6_deedOf_16 : decode cX6_deedOf 16 = .ok (.iaload, 1) := by decide +kernel
theorem dX6_deedOf_17 : decode cX6_deedOf 17 = .ok (.ifCond .le 15, 3) := by decide +kernel
theorem dX6_deedOf_20 : decode cX6_deedOf 20 = .ok (.aload_n 0, 1) := by decide +kernel
theorem dX6_deedOf_21 : decode cX6_deedOf 21 = .ok (.getfield 7, 3) := by decide +kernel
theorem dX6_deedOf_24 : decode cX6_deedOf 24 = .ok (.bipush 16, 2) := by decide +kernel
theorem dX6_deedOf_26 : decode cX6_deedOf 26 = .ok (.iaload, 1) := by decide +kernel
theorem dX6_deedOf_27 : decode cX6_deedOf 27 = .ok (.iconst 1, 1) := by decide +kernel
theorem dX6_deedOf_28 : decode cX6_deedOf 28 = .ok (.iadd, 1) := by decide +kernel
theorem dX6_deedOf_29 : decode cX6_deedOf 29 = .ok (.goto 4, 3) := by decide +kernel
theorem dX6_deedOf_32 : decode cX6_deedOf 32 = .ok (.iconst 1, 1) := by decide +kernel
theorem dX6_deedOf_33 : decode cX6_deedOf 33 = .ok (.istore_n 2, 1) := by decide +kernel
theorem dX6_deedOf_34 : decode cX6_deedOf 34 = .ok (.iload_n 1, 1) := by decide +kernel
theorem dX6_deedOf_35 : decode cX6_deedOf 35 = .ok (.aload_n 0, 1) := by decide +kernel
theorem dX6_deedOf_36 : decode cX6_deedOf 36 = .ok (.getfield 7, 3) := by decide +kernel
theorem dX6_deedOf_39 : decode cX6_deedOf 39 = .ok (.bipush 8, 2) := by decide +kernel
theorem dX6_deedOf_41 : decode cX6_deedOf 41 = .ok (.iaload, 1) := by decide +kernel
theorem dX6_deedOf_42 : decode cX6_deedOf 42 = .ok (.if_icmp .eq 13, 3) := by decide +kernel
theorem dX6_deedOf_45 : decode cX6_deedOf 45 = .ok (.iload_n 2, 1) := by decide +kernel
theorem dX6_deedOf_46 : decode cX6_deedOf 46 = .ok (.aload_n 0, 1) := by decide +kernel
theorem dX6_deedOf_47 : decode cX6_deedOf 47 = .ok (.getfield 7, 3) := by decide +kernel
theorem dX6_deedOf_50 : decode cX6_deedOf 50 = .ok (.iconst 2, 1) := by decide +kernel
theorem dX6_deedOf_51 : decode cX6_deedOf 51 = .ok (.iaload, 1) := by decide +kernel
theorem dX6_deedOf_52 : decode cX6_deedOf 52 = .ok (.if_icmp .ge 5, 3) := by decide +kernel
theorem dX6_deedOf_55 : decode cX6_deedOf 55 = .ok (.iconst 0, 1) := by decide +kernel
theorem dX6_deedOf_56 : decode cX6_deedOf 56 = .ok (.ireturn, 1) := by decide +kernel
theorem dX6_deedOf_57 : decode cX6_deedOf 57 = .ok (.iload_n 1, 1) := by decide +kernel
theorem dX6_deedOf_58 : decode cX6_deedOf 58 = .ok (.invokestatic 38, 3) := by decide +kernel
theorem dX6_deedOf_61 : decode cX6_deedOf 61 = .ok (.iconst 4, 1) := by decide +kernel
theorem dX6_deedOf_62 : decode cX6_deedOf 62 = .ok (.iadd, 1) := by decide +kernel
theorem dX6_deedOf_63 : decode cX6_deedOf 63 = .ok (.aload_n 0, 1) := by decide +kernel
theorem dX6_deedOf_64 : decode cX6_deedOf 64 = .ok (.getfield 7, 3) := by decide +kernel
theorem dX6_deedOf_67 : decode cX6_deedOf 67 = .ok (.bipush 8, 2) := by decide +kernel
theorem dX6_deedOf_69 : decode cX6_deedOf 69 = .ok (.iaload, 1) := by decide +kernel
theorem dX6_deedOf_70 : decode cX6_deedOf 70 = .ok (.invokestatic 38, 3) := by decide +kernel
theorem dX6_deedOf_73 : decode cX6_deedOf 73 = .ok (.isub, 1) := by decide +kernel
theorem dX6_deedOf_74 : decode cX6_deedOf 74 = .ok (.iconst 4, 1) := by decide +kernel
theorem dX6_deedOf_75 : decode cX6_deedOf 75 = .ok (.irem, 1) := by decide +kernel
theorem dX6_deedOf_76 : decode cX6_deedOf 76 = .ok (.istore_n 3, 1) := by decide +kernel
theorem dX6_deedOf_77 : decode cX6_deedOf 77 = .ok (.iload_n 3, 1) := by decide +kernel
theorem dX6_deedOf_78 : decode cX6_deedOf 78 = .ok (.iconst 1, 1) := by decide +kernel
theorem dX6_deedOf_79 : decode cX6_deedOf 79 = .ok (.if_icmp .ne 7, 3) := by decide +kernel
theorem dX6_deedOf_82 : decode cX6_deedOf 82 = .ok (.iconst 1, 1) := by decide +kernel
theorem dX6_deedOf_83 : decode cX6_deedOf 83 = .ok (.goto 13, 3) := by decide +kernel
theorem dX6_deedOf_86 : decode cX6_deedOf 86 = .ok (.iload_n 3, 1) := by decide +kernel
theorem dX6_deedOf_87 : decode cX6_deedOf 87 = .ok (.iconst 3, 1) := by decide +kernel
theorem dX6_deedOf_88 : decode cX6_deedOf 88 = .ok (.if_icmp .ne 7, 3) := by decide +kernel
theorem dX6_deedOf_91 : decode cX6_deedOf 91 = .ok (.iconst 2, 1) := by decide +kernel
theorem dX6_deedOf_92 : decode cX6_deedOf 92 = .ok (.goto 4, 3) := by decide +kernel
theorem dX6_deedOf_95 : decode cX6_deedOf 95 = .ok (.iconst 3, 1) := by decide +kernel
theorem dX6_deedOf_96 : decode cX6_deedOf 96 = .ok (.ireturn, 1) := by decide +kernel
theorem dX6_steps_0 : decode cX6_steps 0 = .ok (.iload_n 1, 1) := by decide +kernel
theorem dX6_steps_1 : decode cX6_steps 1 = .ok (.iconst 1, 1) := by decide +kernel
theorem dX6_steps_2 : decode cX6_steps 2 = .ok (.if_icmp .ne 7, 3) := by decide +kernel
theorem dX6_steps_5 : decode cX6_steps 5 = .ok (.iconst 1, 1) := by decide +kernel
theorem dX6_steps_6 : decode cX6_steps 6 = .ok (.goto 4, 3) := by decide +kernel
theorem dX6_steps_9 : decode cX6_steps 9 = .ok (.iconst (-1), 1) := by decide +kernel
theorem dX6_steps_10 : decode cX6_steps 10 = .ok (.istore_n 2, 1) := by decide +kernel
theorem dX6_steps_11 : decode cX6_steps 11 = .ok (.aload_n 0, 1) := by decide +kernel
theorem dX6_steps_12 : decode cX6_steps 12 = .ok (.getfield 7, 3) := by decide +kernel
theorem dX6_steps_15 : decode cX6_steps 15 = .ok (.bipush 6, 2) := by decide +kernel
theorem dX6_steps_17 : decode cX6_steps 17 = .ok (.aload_n 0, 1) := by decide +kernel
theorem dX6_steps_18 : decode cX6_steps 18 = .ok (.getfield 7, 3) := by decide +kernel
theorem dX6_steps_21 : decode cX6_steps 21 = .ok (.bipush 6, 2) := by decide +kernel
theorem dX6_steps_23 : decode cX6_steps 23 = .ok (.iaload, 1) := by decide +kernel
theorem dX6_steps_24 : decode cX6_steps 24 = .ok (.iload_n 2, 1) := by decide +kernel
theorem dX6_steps_25 : decode cX6_steps 25 = .ok (.iadd, 1) := by decide +kernel
theorem dX6_steps_26 : decode cX6_steps 26 = .ok (.aload_n 0, 1) := by decide +kernel
theorem dX6_steps_27 : decode cX6_steps 27 = .ok (.getfield 7, 3) := by decide +kernel
theorem dX6_steps_30 : decode cX6_steps 30 = .ok (.iconst 1, 1) := by decide +kernel
theorem dX6_steps_31 : decode cX6_steps 31 = .ok (.iaload, 1) := by decide +kernel
theorem dX6_steps_32 : decode cX6_steps 32 = .ok (.iadd, 1) := by decide +kernel
theorem dX6_steps_33 : decode cX6_steps 33 = .ok (.aload_n 0, 1) := by decide +kernel
theorem dX6_steps_34 : decode cX6_steps 34 = .ok (.getfield 7, 3) := by decide +kernel
theorem dX6_steps_37 : decode cX6_steps 37 = .ok (.iconst 1, 1) := by decide +kernel
theorem dX6_steps_38 : decode cX6_steps 38 = .ok (.iaload, 1) := by decide +kernel
theorem dX6_steps_39 : decode cX6_steps 39 = .ok (.irem, 1) := by decide +kernel
theorem dX6_steps_40 : decode cX6_steps 40 = .ok (.iastore, 1) := by decide +kernel
theorem dX6_steps_41 : decode cX6_steps 41 = .ok (.aload_n 0, 1) := by decide +kernel
theorem dX6_steps_42 : decode cX6_steps 42 = .ok (.getfield 7, 3) := by decide +kernel
theorem dX6_steps_45 : decode cX6_steps 45 = .ok (.bipush 7, 2) := by decide +kernel
theorem dX6_steps_47 : decode cX6_steps 47 = .ok (.aload_n 0, 1) := by decide +kernel
theorem dX6_steps_48 : decode cX6_steps 48 = .ok (.getfield 7, 3) := by decide +kernel
theorem dX6_steps_51 : decode cX6_steps 51 = .ok (.bipush 7, 2) := by decide +kernel
theorem dX6_steps_53 : decode cX6_steps 53 = .ok (.iaload, 1) := by decide +kernel
theorem dX6_steps_54 : decode cX6_steps 54 = .ok (.iload_n 2, 1) := by decide +kernel
theorem dX6_steps_55 : decode cX6_steps 55 = .ok (.iadd, 1) := by decide +kernel
theorem dX6_steps_56 : decode cX6_steps 56 = .ok (.aload_n 0, 1) := by decide +kernel
theorem dX6_steps_57 : decode cX6_steps 57 = .ok (.getfield 7, 3) := by decide +kernel
theorem dX6_steps_60 : decode cX6_steps 60 = .ok (.iconst 0, 1) := by decide +kernel
theorem dX6_steps_61 : decode cX6_steps 61 = .ok (.iaload, 1) := by decide +kernel
theorem dX6_steps_62 : decode cX6_steps 62 = .ok (.iadd, 1) := by decide +kernel
theorem dX6_steps_63 : decode cX6_steps 63 = .ok (.aload_n 0, 1) := by decide +kernel
theorem dX6_steps_64 : decode cX6_steps 64 = .ok (.getfield 7, 3) := by decide +kernel
theorem dX6_steps_67 : decode cX6_steps 67 = .ok (.iconst 0, 1) := by decide +kernel
theorem dX6_steps_68 : decode cX6_steps 68 = .ok (.iaload, 1) := by decide +kernel
theorem dX6_steps_69 : decode cX6_steps 69 = .ok (.irem, 1) := by decide +kernel
theorem dX6_steps_70 : decode cX6_steps 70 = .ok (.iastore, 1) := by decide +kernel
theorem dX6_steps_71 : decode cX6_steps 71 = .ok (.aload_n 0, 1) := by decide +kernel
theorem dX6_steps_72 : decode cX6_steps 72 = .ok (.getfield 7, 3) := by decide +kernel
theorem dX6_steps_75 : decode cX6_steps 75 = .ok (.bipush 19, 2) := by decide +kernel
theorem dX6_steps_77 : decode cX6_steps 77 = .ok (.aload_n 0, 1) := by decide +kernel
theorem dX6_steps_78 : decode cX6_steps 78 = .ok (.getfield 7, 3) := by decide +kernel
theorem dX6_steps_81 : decode cX6_steps 81 = .ok (.bipush 18, 2) := by decide +kernel
theorem dX6_steps_83 : decode cX6_steps 83 = .ok (.iaload, 1) := by decide +kernel
theorem dX6_steps_84 : decode cX6_steps 84 = .ok (.iastore, 1) := by decide +kernel
theorem dX6_steps_85 : decode cX6_steps 85 = .ok (.aload_n 0, 1) := by decide +kernel
theorem dX6_steps_86 : decode cX6_steps 86 = .ok (.getfield 7, 3) := by decide +kernel
theorem dX6_steps_89 : decode cX6_steps 89 = .ok (.bipush 20, 2) := by decide +kernel
theorem dX6_steps_91 : decode cX6_steps 91 = .ok (.aload_n 0, 1) := by decide +kernel
theorem dX6_steps_92 : decode cX6_steps 92 = .ok (.getfield 7, 3) := by decide +kernel
theorem dX6_steps_95 : decode cX6_steps 95 = .ok (.bipush 9, 2) := by decide +kernel
theorem dX6_steps_97 : decode cX6_steps 97 = .ok (.iaload, 1) := by decide +kernel
theorem dX6_steps_98 : decode cX6_steps 98 = .ok (.iastore, 1) := by decide +kernel
theorem dX6_steps_99 : decode cX6_steps 99 = .ok (.aload_n 0, 1) := by decide +kernel
theorem dX6_steps_100 : decode cX6_steps 100 = .ok (.getfield 7, 3) := by decide +kernel
theorem dX6_steps_103 : decode cX6_steps 103 = .ok (.bipush 18, 2) := by decide +kernel
theorem dX6_steps_105 : decode cX6_steps 105 = .ok (.aload_n 0, 1) := by decide +kernel
theorem dX6_steps_106 : decode cX6_steps 106 = .ok (.getfield 7, 3) := by decide +kernel
theorem dX6_steps_109 : decode cX6_steps 109 = .ok (.iconst 5, 1) := by decide +kernel
theorem dX6_steps_110 : decode cX6_steps 110 = .ok (.iaload, 1) := by decide +kernel
theorem dX6_steps_111 : decode cX6_steps 111 = .ok (.iastore, 1) := by decide +kernel
theorem dX6_steps_112 : decode cX6_steps 112 = .ok (.aload_n 0, 1) := by decide +kernel
theorem dX6_steps_113 : decode cX6_steps 113 = .ok (.getfield 7, 3) := by decide +kernel
theorem dX6_steps_116 : decode cX6_steps 116 = .ok (.bipush 9, 2) := by decide +kernel
theorem dX6_steps_118 : decode cX6_steps 118 = .ok (.iload_n 1, 1) := by decide +kernel
theorem dX6_steps_119 : decode cX6_steps 119 = .ok (.iastore, 1) := by decide +kernel
theorem dX6_steps_120 : decode cX6_steps 120 = .ok (.aload_n 0, 1) := by decide +kernel
theorem dX6_steps_121 : decode cX6_steps 121 = .ok (.getfield 7, 3) := by decide +kernel
theorem dX6_steps_124 : decode cX6_steps 124 = .ok (.iload_n 1, 1) := by decide +kernel
theorem dX6_steps_125 : decode cX6_steps 125 = .ok (.iconst 1, 1) := by decide +kernel
theorem dX6_steps_126 : decode cX6_steps 126 = .ok (.if_icmp .ne 8, 3) := by decide +kernel
theorem dX6_steps_129 : decode cX6_steps 129 = .ok (.bipush 10, 2) := by decide +kernel
theorem dX6_steps_131 : decode cX6_steps 131 = .ok (.goto 5, 3) := by decide +kernel
theorem dX6_steps_134 : decode cX6_steps 134 = .ok (.bipush 11, 2) := by decide +kernel
theorem dX6_steps_136 : decode cX6_steps 136 = .ok (.dup2, 1) := by decide +kernel
theorem dX6_steps_137 : decode cX6_steps 137 = .ok (.iaload, 1) := by decide +kernel
theorem dX6_steps_138 : decode cX6_steps 138 = .ok (.iconst 1, 1) := by decide +kernel
theorem dX6_steps_139 : decode cX6_steps 139 = .ok (.iadd, 1) := by decide +kernel
theorem dX6_steps_140 : decode cX6_steps 140 = .ok (.iastore, 1) := by decide +kernel
theorem dX6_steps_141 : decode cX6_steps 141 = .ok (.return_, 1) := by decide +kernel
theorem dX6_rises_0 : decode cX6_rises 0 = .ok (.aload_n 0, 1) := by decide +kernel
theorem dX6_rises_1 : decode cX6_rises 1 = .ok (.getfield 7, 3) := by decide +kernel
theorem dX6_rises_4 : decode cX6_rises 4 = .ok (.iconst 4, 1) := by decide +kernel
theorem dX6_rises_5 : decode cX6_rises 5 = .ok (.iaload, 1) := by decide +kernel
theorem dX6_rises_6 : decode cX6_rises 6 = .ok (.iconst 1, 1) := by decide +kernel
theorem dX6_rises_7 : decode cX6_rises 7 = .ok (.if_icmp .ne 39, 3) := by decide +kernel
theorem dX6_rises_10 : decode cX6_rises 10 = .ok (.aload_n 0, 1) := by decide +kernel
theorem dX6_rises_11 : decode cX6_rises 11 = .ok (.getfield 7, 3) := by decide +kernel
theorem dX6_rises_14 : decode cX6_rises 14 = .ok (.bipush 13, 2) := by decide +kernel
theorem dX6_rises_16 : decode cX6_rises 16 = .ok (.dup2, 1) := by decide +kernel
theorem dX6_rises_17 : decode cX6_rises 17 = .ok (.iaload, 1) := by decide +kernel
theorem dX6_rises_18 : decode cX6_rises 18 = .ok (.aload_n 0, 1) := by decide +kernel
theorem dX6_rises_19 : decode cX6_rises 19 = .ok (.getfield 7, 3) := by decide +kernel
theorem dX6_rises_22 : decode cX6_rises 22 = .ok (.bipush 7, 2) := by decide +kernel
theorem dX6_rises_24 : decode cX6_rises 24 = .ok (.iaload, 1) := by decide +kernel
theorem dX6_rises_25 : decode cX6_rises 25 = .ok (.ifCond .eq 7, 3) := by decide +kernel
theorem dX6_rises_28 : decode cX6_rises 28 = .ok (.iconst 1, 1) := by decide +kernel
theorem dX6_rises_29 : decode cX6_rises 29 = .ok (.goto 4, 3) := by decide +kernel
theorem dX6_rises_32 : decode cX6_rises 32 = .ok (.iconst 0, 1) := by decide +kernel
theorem dX6_rises_33 : decode cX6_rises 33 = .ok (.iadd, 1) := by decide +kernel
theorem dX6_rises_34 : decode cX6_rises 34 = .ok (.iastore, 1) := by decide +kernel
theorem dX6_rises_35 : decode cX6_rises 35 = .ok (.aload_n 0, 1) := by decide +kernel
theorem dX6_rises_36 : decode cX6_rises 36 = .ok (.getfield 7, 3) := by decide +kernel
theorem dX6_rises_39 : decode cX6_rises 39 = .ok (.bipush 7, 2) := by decide +kernel
theorem dX6_rises_41 : decode cX6_rises 41 = .ok (.iconst 0, 1) := by decide +kernel
theorem dX6_rises_42 : decode cX6_rises 42 = .ok (.iastore, 1) := by decide +kernel
theorem dX6_rises_43 : decode cX6_rises 43 = .ok (.goto 29, 3) := by decide +kernel
theorem dX6_rises_46 : decode cX6_rises 46 = .ok (.aload_n 0, 1) := by decide +kernel
theorem dX6_rises_47 : decode cX6_rises 47 = .ok (.getfield 7, 3) := by decide +kernel
theorem dX6_rises_50 : decode cX6_rises 50 = .ok (.iconst 4, 1) := by decide +kernel
theorem dX6_rises_51 : decode cX6_rises 51 = .ok (.iaload, 1) := by decide +kernel
theorem dX6_rises_52 : decode cX6_rises 52 = .ok (.iconst 2, 1) := by decide +kernel
theorem dX6_rises_53 : decode cX6_rises 53 = .ok (.if_icmp .ne 19, 3) := by decide +kernel
theorem dX6_rises_56 : decode cX6_rises 56 = .ok (.aload_n 0, 1) := by decide +kernel
theorem dX6_rises_57 : decode cX6_rises 57 = .ok (.getfield 7, 3) := by decide +kernel
theorem dX6_rises_60 : decode cX6_rises 60 = .ok (.bipush 7, 2) := by decide +kernel
theorem dX6_rises_62 : decode cX6_rises 62 = .ok (.iconst 0, 1) := by decide +kernel
theorem dX6_rises_63 : decode cX6_rises 63 = .ok (.iastore, 1) := by decide +kernel
theorem dX6_rises_64 : decode cX6_rises 64 = .ok (.aload_n 0, 1) := by decide +kernel
theorem dX6_rises_65 : decode cX6_rises 65 = .ok (.getfield 7, 3) := by decide +kernel
theorem dX6_rises_68 : decode cX6_rises 68 = .ok (.bipush 6, 2) := by decide +kernel
theorem dX6_rises_70 : decode cX6_rises 70 = .ok (.iconst 0, 1) := by decide +kernel
theorem dX6_rises_71 : decode cX6_rises 71 = .ok (.iastore, 1) := by decide +kernel
theorem dX6_rises_72 : decode cX6_rises 72 = .ok (.return_, 1) := by decide +kernel
set_option maxRecDepth 20000 in
theorem ggX6_ticks_X6_deedOf : GoodIn wsX6_ticks wsX6_deedOf := goodIn_r _ [6, 1, 7, 8, 5, 9, 18, 19, 20, 21, 22, 23, 24, 25, 26, 27, 28, 29, 30] (by decide +kernel) (by decide +kernel)
set_option maxRecDepth 20000 in
theorem gX6_ticks_X6_deedOf : GoodIn wsX6_ticks (wsV RX6 42 RX6 yX6_deedOf wsX6_deedOf) := goodIn_app (goodIn_of _ (by decide +kernel)) ggX6_ticks_X6_deedOf
set_option maxRecDepth 20000 in
theorem ggX6_ticks_X6_steps : GoodIn wsX6_ticks wsX6_steps := goodIn_r _ [13, 1, 18, 19, 20, 21, 22, 23, 24, 25, 26, 27, 28, 29, 30] (by decide +kernel) (by decide +kernel)
set_option maxRecDepth 20000 in
theorem gX6_ticks_X6_steps : GoodIn wsX6_ticks (wsV RX6 45 RX6 yX6_steps wsX6_steps) := goodIn_app (goodIn_of _ (by decide +kernel)) ggX6_ticks_X6_steps
set_option maxRecDepth 20000 in
theorem ggX6_ticks_X6_rises : GoodIn wsX6_ticks wsX6_rises := goodIn_r _ [17, 1, 18, 19, 20, 21, 22, 23, 24, 25, 26, 27, 28, 29, 30] (by decide +kernel) (by decide +kernel)
set_option maxRecDepth 20000 in
theorem gX6_ticks_X6_rises : GoodIn wsX6_ticks (wsV RX6 49 RX6 yX6_rises wsX6_rises) := goodIn_app (goodIn_of _ (by decide +kernel)) ggX6_ticks_X6_rises
theorem dX6_ticks_0 : decode cX6_ticks 0 = .ok (.aload_n 0, 1) := by decide +kernel
theorem dX6_ticks_1 : decode cX6_ticks 1 = .ok (.iload_n 1, 1) := by decide +kernel
theorem dX6_ticks_2 : decode cX6_ticks 2 = .ok (.invokevirtual 42, 3) := by decide +kernel
theorem dX6_ticks_5 : decode cX6_ticks 5 = .ok (.istore_n 3, 1) := by decide +kernel
theorem dX6_ticks_6 : decode cX6_ticks 6 = .ok (.iload_n 3, 1) := by decide +kernel
theorem dX6_ticks_7 : decode cX6_ticks 7 = .ok (.iconst 1, 1) := by decide +kernel
theorem dX6_ticks_8 : decode cX6_ticks 8 = .ok (.if_icmp .eq 8, 3) := by decide +kernel
theorem dX6_ticks_11 : decode cX6_ticks 11 = .ok (.iload_n 3, 1) := by decide +kernel
theorem dX6_ticks_12 : decode cX6_ticks 12 = .ok (.iconst 2, 1) := by decide +kernel
theorem dX6_ticks_13 : decode cX6_ticks 13 = .ok (.if_icmp .ne 8, 3) := by decide +kernel
theorem dX6_ticks_16 : decode cX6_ticks 16 = .ok (.aload_n 0, 1) := by decide +kernel
theorem dX6_ticks_17 : decode cX6_ticks 17 = .ok (.iload_n 3, 1) := by decide +kernel
theorem dX6_ticks_18 : decode cX6_ticks 18 = .ok (.invokevirtual 45, 3) := by decide +kernel
theorem dX6_ticks_21 : decode cX6_ticks 21 = .ok (.aload_n 0, 1) := by decide +kernel
theorem dX6_ticks_22 : decode cX6_ticks 22 = .ok (.getfield 7, 3) := by decide +kernel
theorem dX6_ticks_25 : decode cX6_ticks 25 = .ok (.bipush 12, 2) := by decide +kernel
theorem dX6_ticks_27 : decode cX6_ticks 27 = .ok (.dup2, 1) := by decide +kernel
theorem dX6_ticks_28 : decode cX6_ticks 28 = .ok (.iaload, 1) := by decide +kernel
theorem dX6_ticks_29 : decode cX6_ticks 29 = .ok (.iload_n 3, 1) := by decide +kernel
theorem dX6_ticks_30 : decode cX6_ticks 30 = .ok (.iconst 3, 1) := by decide +kernel
theorem dX6_ticks_31 : decode cX6_ticks 31 = .ok (.if_icmp .ne 7, 3) := by decide +kernel
theorem dX6_ticks_34 : decode cX6_ticks 34 = .ok (.iconst 1, 1) := by decide +kernel
theorem dX6_ticks_35 : decode cX6_ticks 35 = .ok (.goto 4, 3) := by decide +kernel
theorem dX6_ticks_38 : decode cX6_ticks 38 = .ok (.iconst 0, 1) := by decide +kernel
theorem dX6_ticks_39 : decode cX6_ticks 39 = .ok (.iadd, 1) := by decide +kernel
theorem dX6_ticks_40 : decode cX6_ticks 40 = .ok (.iastore, 1) := by decide +kernel
theorem dX6_ticks_41 : decode cX6_ticks 41 = .ok (.aload_n 0, 1) := by decide +kernel
theorem dX6_ticks_42 : decode cX6_ticks 42 = .ok (.getfield 7, 3) := by decide +kernel
theorem dX6_ticks_45 : decode cX6_ticks 45 = .ok (.bipush 8, 2) := by decide +kernel
theorem dX6_ticks_47 : decode cX6_ticks 47 = .ok (.iload_n 3, 1) := by decide +kernel
theorem dX6_ticks_48 : decode cX6_ticks 48 = .ok (.ifCond .le 7, 3) := by decide +kernel
theorem dX6_ticks_51 : decode cX6_ticks 51 = .ok (.iload_n 1, 1) := by decide +kernel
theorem dX6_ticks_52 : decode cX6_ticks 52 = .ok (.goto 10, 3) := by decide +kernel
theorem dX6_ticks_55 : decode cX6_ticks 55 = .ok (.aload_n 0, 1) := by decide +kernel
theorem dX6_ticks_56 : decode cX6_ticks 56 = .ok (.getfield 7, 3) := by decide +kernel
theorem dX6_ticks_59 : decode cX6_ticks 59 = .ok (.bipush 8, 2) := by decide +kernel
theorem dX6_ticks_61 : decode cX6_ticks 61 = .ok (.iaload, 1) := by decide +kernel
theorem dX6_ticks_62 : decode cX6_ticks 62 = .ok (.iastore, 1) := by decide +kernel
theorem dX6_ticks_63 : decode cX6_ticks 63 = .ok (.iload_n 2, 1) := by decide +kernel
theorem dX6_ticks_64 : decode cX6_ticks 64 = .ok (.iconst 1, 1) := by decide +kernel
theorem dX6_ticks_65 : decode cX6_ticks 65 = .ok (.if_icmp .ne 17, 3) := by decide +kernel
theorem dX6_ticks_68 : decode cX6_ticks 68 = .ok (.aload_n 0, 1) := by decide +kernel
theorem dX6_ticks_69 : decode cX6_ticks 69 = .ok (.getfield 7, 3) := by decide +kernel
theorem dX6_ticks_72 : decode cX6_ticks 72 = .ok (.bipush 17, 2) := by decide +kernel
theorem dX6_ticks_74 : decode cX6_ticks 74 = .ok (.iaload, 1) := by decide +kernel
theorem dX6_ticks_75 : decode cX6_ticks 75 = .ok (.ifCond .ne 7, 3) := by decide +kernel
theorem dX6_ticks_78 : decode cX6_ticks 78 = .ok (.aload_n 0, 1) := by decide +kernel
theorem dX6_ticks_79 : decode cX6_ticks 79 = .ok (.invokevirtual 49, 3) := by decide +kernel
theorem dX6_ticks_82 : decode cX6_ticks 82 = .ok (.aload_n 0, 1) := by decide +kernel
theorem dX6_ticks_83 : decode cX6_ticks 83 = .ok (.getfield 7, 3) := by decide +kernel
theorem dX6_ticks_86 : decode cX6_ticks 86 = .ok (.bipush 16, 2) := by decide +kernel
theorem dX6_ticks_88 : decode cX6_ticks 88 = .ok (.iload_n 1, 1) := by decide +kernel
theorem dX6_ticks_89 : decode cX6_ticks 89 = .ok (.aload_n 0, 1) := by decide +kernel
theorem dX6_ticks_90 : decode cX6_ticks 90 = .ok (.getfield 7, 3) := by decide +kernel
theorem dX6_ticks_93 : decode cX6_ticks 93 = .ok (.bipush 15, 2) := by decide +kernel
theorem dX6_ticks_95 : decode cX6_ticks 95 = .ok (.iaload, 1) := by decide +kernel
theorem dX6_ticks_96 : decode cX6_ticks 96 = .ok (.if_icmp .ne 24, 3) := by decide +kernel
theorem dX6_ticks_99 : decode cX6_ticks 99 = .ok (.aload_n 0, 1) := by decide +kernel
theorem dX6_ticks_100 : decode cX6_ticks 100 = .ok (.getfield 7, 3) := by decide +kernel
theorem dX6_ticks_103 : decode cX6_ticks 103 = .ok (.iconst 5, 1) := by decide +kernel
theorem dX6_ticks_104 : decode cX6_ticks 104 = .ok (.iaload, 1) := by decide +kernel
theorem dX6_ticks_105 : decode cX6_ticks 105 = .ok (.ifCond .le 15, 3) := by decide +kernel
theorem dX6_ticks_108 : decode cX6_ticks 108 = .ok (.aload_n 0, 1) := by decide +kernel
theorem dX6_ticks_109 : decode cX6_ticks 109 = .ok (.getfield 7, 3) := by decide +kernel
theorem dX6_ticks_112 : decode cX6_ticks 112 = .ok (.bipush 16, 2) := by decide +kernel
theorem dX6_ticks_114 : decode cX6_ticks 114 = .ok (.iaload, 1) := by decide +kernel
theorem dX6_ticks_115 : decode cX6_ticks 115 = .ok (.iconst 1, 1) := by decide +kernel
theorem dX6_ticks_116 : decode cX6_ticks 116 = .ok (.iadd, 1) := by decide +kernel
theorem dX6_ticks_117 : decode cX6_ticks 117 = .ok (.goto 4, 3) := by decide +kernel
theorem dX6_ticks_120 : decode cX6_ticks 120 = .ok (.iconst 1, 1) := by decide +kernel
theorem dX6_ticks_121 : decode cX6_ticks 121 = .ok (.iastore, 1) := by decide +kernel
theorem dX6_ticks_122 : decode cX6_ticks 122 = .ok (.aload_n 0, 1) := by decide +kernel
theorem dX6_ticks_123 : decode cX6_ticks 123 = .ok (.getfield 7, 3) := by decide +kernel
theorem dX6_ticks_126 : decode cX6_ticks 126 = .ok (.bipush 15, 2) := by decide +kernel
theorem dX6_ticks_128 : decode cX6_ticks 128 = .ok (.iload_n 1, 1) := by decide +kernel
theorem dX6_ticks_129 : decode cX6_ticks 129 = .ok (.iastore, 1) := by decide +kernel
theorem dX6_ticks_130 : decode cX6_ticks 130 = .ok (.aload_n 0, 1) := by decide +kernel
theorem dX6_ticks_131 : decode cX6_ticks 131 = .ok (.getfield 7, 3) := by decide +kernel
theorem dX6_ticks_134 : decode cX6_ticks 134 = .ok (.bipush 17, 2) := by decide +kernel
theorem dX6_ticks_136 : decode cX6_ticks 136 = .ok (.iload_n 2, 1) := by decide +kernel
theorem dX6_ticks_137 : decode cX6_ticks 137 = .ok (.iastore, 1) := by decide +kernel
theorem dX6_ticks_138 : decode cX6_ticks 138 = .ok (.aload_n 0, 1) := by decide +kernel
theorem dX6_ticks_139 : decode cX6_ticks 139 = .ok (.getfield 7, 3) := by decide +kernel
theorem dX6_ticks_142 : decode cX6_ticks 142 = .ok (.iconst 5, 1) := by decide +kernel
theorem dX6_ticks_143 : decode cX6_ticks 143 = .ok (.dup2, 1) := by decide +kernel
theorem dX6_ticks_144 : decode cX6_ticks 144 = .ok (.iaload, 1) := by decide +kernel
theorem dX6_ticks_145 : decode cX6_ticks 145 = .ok (.iconst 1, 1) := by decide +kernel
theorem dX6_ticks_146 : decode cX6_ticks 146 = .ok (.iadd, 1) := by decide +kernel
theorem dX6_ticks_147 : decode cX6_ticks 147 = .ok (.iastore, 1) := by decide +kernel
theorem dX6_ticks_148 : decode cX6_ticks 148 = .ok (.aload_n 0, 1) := by decide +kernel
theorem dX6_ticks_149 : decode cX6_ticks 149 = .ok (.getfield 7, 3) := by decide +kernel
theorem dX6_ticks_152 : decode cX6_ticks 152 = .ok (.bipush 14, 2) := by decide +kernel
theorem dX6_ticks_154 : decode cX6_ticks 154 = .ok (.dup2, 1) := by decide +kernel
theorem dX6_ticks_155 : decode cX6_ticks 155 = .ok (.iaload, 1) := by decide +kernel
theorem dX6_ticks_156 : decode cX6_ticks 156 = .ok (.aload_n 0, 1) := by decide +kernel
theorem dX6_ticks_157 : decode cX6_ticks 157 = .ok (.getfield 7, 3) := by decide +kernel
theorem dX6_ticks_160 : decode cX6_ticks 160 = .ok (.bipush 14, 2) := by decide +kernel
theorem dX6_ticks_162 : decode cX6_ticks 162 = .ok (.iaload, 1) := by decide +kernel
theorem dX6_ticks_163 : decode cX6_ticks 163 = .ok (.sipush 200, 3) := by decide +kernel
theorem dX6_ticks_166 : decode cX6_ticks 166 = .ok (.if_icmp .ge 7, 3) := by decide +kernel
theorem dX6_ticks_169 : decode cX6_ticks 169 = .ok (.iconst 1, 1) := by decide +kernel
theorem dX6_ticks_170 : decode cX6_ticks 170 = .ok (.goto 4, 3) := by decide +kernel
theorem dX6_ticks_173 : decode cX6_ticks 173 = .ok (.iconst 0, 1) := by decide +kernel
theorem dX6_ticks_174 : decode cX6_ticks 174 = .ok (.iadd, 1) := by decide +kernel
theorem dX6_ticks_175 : decode cX6_ticks 175 = .ok (.iastore, 1) := by decide +kernel
theorem dX6_ticks_176 : decode cX6_ticks 176 = .ok (.aload_n 0, 1) := by decide +kernel
theorem dX6_ticks_177 : decode cX6_ticks 177 = .ok (.getfield 7, 3) := by decide +kernel
theorem dX6_ticks_180 : decode cX6_ticks 180 = .ok (.bipush 14, 2) := by decide +kernel
theorem dX6_ticks_182 : decode cX6_ticks 182 = .ok (.iaload, 1) := by decide +kernel
theorem dX6_ticks_183 : decode cX6_ticks 183 = .ok (.iconst 1, 1) := by decide +kernel
theorem dX6_ticks_184 : decode cX6_ticks 184 = .ok (.isub, 1) := by decide +kernel
theorem dX6_ticks_185 : decode cX6_ticks 185 = .ok (.istore 4, 2) := by decide +kernel
theorem dX6_ticks_187 : decode cX6_ticks 187 = .ok (.iload 4, 2) := by decide +kernel
theorem dX6_ticks_189 : decode cX6_ticks 189 = .ok (.ifCond .le 31, 3) := by decide +kernel
theorem dX6_ticks_192 : decode cX6_ticks 192 = .ok (.aload_n 0, 1) := by decide +kernel
theorem dX6_ticks_193 : decode cX6_ticks 193 = .ok (.getfield 7, 3) := by decide +kernel
theorem dX6_ticks_196 : decode cX6_ticks 196 = .ok (.bipush 21, 2) := by decide +kernel
theorem dX6_ticks_198 : decode cX6_ticks 198 = .ok (.iload 4, 2) := by decide +kernel
theorem dX6_ticks_200 : decode cX6_ticks 200 = .ok (.iadd, 1) := by decide +kernel
theorem dX6_ticks_201 : decode cX6_ticks 201 = .ok (.aload_n 0, 1) := by decide +kernel
theorem dX6_ticks_202 : decode cX6_ticks 202 = .ok (.getfield 7, 3) := by decide +kernel
theorem dX6_ticks_205 : decode cX6_ticks 205 = .ok (.bipush 21, 2) := by decide +kernel
theorem dX6_ticks_207 : decode cX6_ticks 207 = .ok (.iload 4, 2) := by decide +kernel
theorem dX6_ticks_209 : decode cX6_ticks 209 = .ok (.iadd, 1) := by decide +kernel
theorem dX6_ticks_210 : decode cX6_ticks 210 = .ok (.iconst 1, 1) := by decide +kernel
theorem dX6_ticks_211 : decode cX6_ticks 211 = .ok (.isub, 1) := by decide +kernel
theorem dX6_ticks_212 : decode cX6_ticks 212 = .ok (.iaload, 1) := by decide +kernel
theorem dX6_ticks_213 : decode cX6_ticks 213 = .ok (.iastore, 1) := by decide +kernel
theorem dX6_ticks_214 : decode cX6_ticks 214 = .ok (.iinc 4 (-1), 3) := by decide +kernel
theorem dX6_ticks_217 : decode cX6_ticks 217 = .ok (.goto (-30), 3) := by decide +kernel
theorem dX6_ticks_220 : decode cX6_ticks 220 = .ok (.aload_n 0, 1) := by decide +kernel
theorem dX6_ticks_221 : decode cX6_ticks 221 = .ok (.getfield 7, 3) := by decide +kernel
theorem dX6_ticks_224 : decode cX6_ticks 224 = .ok (.bipush 21, 2) := by decide +kernel
theorem dX6_ticks_226 : decode cX6_ticks 226 = .ok (.bipush 8, 2) := by decide +kernel
theorem dX6_ticks_228 : decode cX6_ticks 228 = .ok (.iload_n 1, 1) := by decide +kernel
theorem dX6_ticks_229 : decode cX6_ticks 229 = .ok (.imul, 1) := by decide +kernel
theorem dX6_ticks_230 : decode cX6_ticks 230 = .ok (.iconst 4, 1) := by decide +kernel
theorem dX6_ticks_231 : decode cX6_ticks 231 = .ok (.iload_n 2, 1) := by decide +kernel
theorem dX6_ticks_232 : decode cX6_ticks 232 = .ok (.imul, 1) := by decide +kernel
theorem dX6_ticks_233 : decode cX6_ticks 233 = .ok (.iadd, 1) := by decide +kernel
theorem dX6_ticks_234 : decode cX6_ticks 234 = .ok (.iload_n 3, 1) := by decide +kernel
theorem dX6_ticks_235 : decode cX6_ticks 235 = .ok (.iadd, 1) := by decide +kernel
theorem dX6_ticks_236 : decode cX6_ticks 236 = .ok (.iastore, 1) := by decide +kernel
theorem dX6_ticks_237 : decode cX6_ticks 237 = .ok (.iload_n 3, 1) := by decide +kernel
theorem dX6_ticks_238 : decode cX6_ticks 238 = .ok (.iconst 1, 1) := by decide +kernel
theorem dX6_ticks_239 : decode cX6_ticks 239 = .ok (.if_icmp .eq 8, 3) := by decide +kernel
theorem dX6_ticks_242 : decode cX6_ticks 242 = .ok (.iload_n 3, 1) := by decide +kernel
theorem dX6_ticks_243 : decode cX6_ticks 243 = .ok (.iconst 2, 1) := by decide +kernel
theorem dX6_ticks_244 : decode cX6_ticks 244 = .ok (.if_icmp .ne 7, 3) := by decide +kernel
theorem dX6_ticks_247 : decode cX6_ticks 247 = .ok (.iconst 1, 1) := by decide +kernel
theorem dX6_ticks_248 : decode cX6_ticks 248 = .ok (.goto 4, 3) := by decide +kernel
theorem dX6_ticks_251 : decode cX6_ticks 251 = .ok (.iconst 0, 1) := by decide +kernel
theorem dX6_ticks_252 : decode cX6_ticks 252 = .ok (.ireturn, 1) := by decide +kernel
set_option maxRecDepth 20000 in
theorem ggX6_isSetting_X6_in : GoodIn wsX6_isSetting wsX6_in := goodIn_r _ [11] (by decide +kernel) (by decide +kernel)
set_option maxRecDepth 20000 in
theorem gX6_isSetting_X6_in : GoodIn wsX6_isSetting (va_wsS RX6 56 yX6_in wsX6_in) := goodIn_app (goodIn_of _ (by decide +kernel)) ggX6_isSetting_X6_in
theorem dX6_isSetting_0 : decode cX6_isSetting 0 = .ok (.iload_n 0, 1) := by decide +kernel
theorem dX6_isSetting_1 : decode cX6_isSetting 1 = .ok (.tableswitch 89 0 3 #[31, 57, 69, 79], 31) := by decide +kernel
theorem dX6_isSetting_32 : decode cX6_isSetting 32 = .ok (.iload_n 1, 1) := by decide +kernel
theorem dX6_isSetting_33 : decode cX6_isSetting 33 = .ok (.i2l, 1) := by decide +kernel
theorem dX6_isSetting_34 : decode cX6_isSetting 34 = .ok (.ldc2_w 52, 3) := by decide +kernel
theorem dX6_isSetting_37 : decode cX6_isSetting 37 = .ok (.ldc2_w 54, 3) := by decide +kernel
theorem dX6_isSetting_40 : decode cX6_isSetting 40 = .ok (.invokestatic 56, 3) := by decide +kernel
theorem dX6_isSetting_43 : decode cX6_isSetting 43 = .ok (.ifCond .eq 13, 3) := by decide +kernel
theorem dX6_isSetting_46 : decode cX6_isSetting 46 = .ok (.iload_n 1, 1) := by decide +kernel
theorem dX6_isSetting_47 : decode cX6_isSetting 47 = .ok (.iconst 4, 1) := by decide +kernel
theorem dX6_isSetting_48 : decode cX6_isSetting 48 = .ok (.irem, 1) := by decide +kernel
theorem dX6_isSetting_49 : decode cX6_isSetting 49 = .ok (.ifCond .ne 7, 3) := by decide +kernel
theorem dX6_isSetting_52 : decode cX6_isSetting 52 = .ok (.iconst 1, 1) := by decide +kernel
theorem dX6_isSetting_53 : decode cX6_isSetting 53 = .ok (.goto 4, 3) := by decide +kernel
theorem dX6_isSetting_56 : decode cX6_isSetting 56 = .ok (.iconst 0, 1) := by decide +kernel
theorem dX6_isSetting_57 : decode cX6_isSetting 57 = .ok (.ireturn, 1) := by decide +kernel
theorem dX6_isSetting_58 : decode cX6_isSetting 58 = .ok (.iload_n 1, 1) := by decide +kernel
theorem dX6_isSetting_59 : decode cX6_isSetting 59 = .ok (.i2l, 1) := by decide +kernel
theorem dX6_isSetting_60 : decode cX6_isSetting 60 = .ok (.ldc2_w 60, 3) := by decide +kernel
theorem dX6_isSetting_63 : decode cX6_isSetting 63 = .ok (.ldc2_w 62, 3) := by decide +kernel
theorem dX6_isSetting_66 : decode cX6_isSetting 66 = .ok (.invokestatic 56, 3) := by decide +kernel
theorem dX6_isSetting_69 : decode cX6_isSetting 69 = .ok (.ireturn, 1) := by decide +kernel
theorem dX6_isSetting_70 : decode cX6_isSetting 70 = .ok (.iload_n 1, 1) := by decide +kernel
theorem dX6_isSetting_71 : decode cX6_isSetting 71 = .ok (.i2l, 1) := by decide +kernel
theorem dX6_isSetting_72 : decode cX6_isSetting 72 = .ok (.lconst 1, 1) := by decide +kernel
theorem dX6_isSetting_73 : decode cX6_isSetting 73 = .ok (.ldc2_w 64, 3) := by decide +kernel
theorem dX6_isSetting_76 : decode cX6_isSetting 76 = .ok (.invokestatic 56, 3) := by decide +kernel
theorem dX6_isSetting_79 : decode cX6_isSetting 79 = .ok (.ireturn, 1) := by decide +kernel
theorem dX6_isSetting_80 : decode cX6_isSetting 80 = .ok (.iload_n 1, 1) := by decide +kernel
theorem dX6_isSetting_81 : decode cX6_isSetting 81 = .ok (.i2l, 1) := by decide +kernel
theorem dX6_isSetting_82 : decode cX6_isSetting 82 = .ok (.lconst 1, 1) := by decide +kernel
theorem dX6_isSetting_83 : decode cX6_isSetting 83 = .ok (.ldc2_w 66, 3) := by decide +kernel
theorem dX6_isSetting_86 : decode cX6_isSetting 86 = .ok (.invokestatic 56, 3) := by decide +kernel
theorem dX6_isSetting_89 : decode cX6_isSetting 89 = .ok (.ireturn, 1) := by decide +kernel
theorem dX6_isSetting_90 : decode cX6_isSetting 90 = .ok (.iload_n 0, 1) := by decide +kernel
theorem dX6_isSetting_91 : decode cX6_isSetting 91 = .ok (.iconst 4, 1) := by decide +kernel
theorem dX6_isSetting_92 : decode cX6_isSetting 92 = .ok (.if_icmp .ne 19, 3) := by decide +kernel
theorem dX6_isSetting_95 : decode cX6_isSetting 95 = .ok (.iload_n 1, 1) := by decide +kernel
theorem dX6_isSetting_96 : decode cX6_isSetting 96 = .ok (.i2l, 1) := by decide +kernel
theorem dX6_isSetting_97 : decode cX6_isSetting 97 = .ok (.lconst 0, 1) := by decide +kernel
theorem dX6_isSetting_98 : decode cX6_isSetting 98 = .ok (.ldc2_w 68, 3) := by decide +kernel
theorem dX6_isSetting_101 : decode cX6_isSetting 101 = .ok (.invokestatic 56, 3) := by decide +kernel
theorem dX6_isSetting_104 : decode cX6_isSetting 104 = .ok (.ifCond .eq 7, 3) := by decide +kernel
theorem dX6_isSetting_107 : decode cX6_isSetting 107 = .ok (.iconst 1, 1) := by decide +kernel
theorem dX6_isSetting_108 : decode cX6_isSetting 108 = .ok (.goto 4, 3) := by decide +kernel
theorem dX6_isSetting_111 : decode cX6_isSetting 111 = .ok (.iconst 0, 1) := by decide +kernel
theorem dX6_isSetting_112 : decode cX6_isSetting 112 = .ok (.ireturn, 1) := by decide +kernel
set_option maxRecDepth 20000 in
theorem ggX6_doSet_X6_isSetting : GoodIn wsX6_doSet wsX6_isSetting := goodIn_r _ [5, 6, 7, 8, 9, 10, 11, 12, 13, 14, 4, 15] (by decide +kernel) (by decide +kernel)
set_option maxRecDepth 20000 in
theorem gX6_doSet_X6_isSetting : GoodIn wsX6_doSet (va_wsS RX6 70 yX6_isSetting wsX6_isSetting) := goodIn_app (goodIn_of _ (by decide +kernel)) ggX6_doSet_X6_isSetting
theorem dX6_doSet_0 : decode cX6_doSet 0 = .ok (.iload_n 1, 1) := by decide +kernel
theorem dX6_doSet_1 : decode cX6_doSet 1 = .ok (.iload_n 2, 1) := by decide +kernel
theorem dX6_doSet_2 : decode cX6_doSet 2 = .ok (.invokestatic 70, 3) := by decide +kernel
theorem dX6_doSet_5 : decode cX6_doSet 5 = .ok (.ifCond .ne 6, 3) := by decide +kernel
theorem dX6_doSet_8 : decode cX6_doSet 8 = .ok (.bipush (-2), 2) := by decide +kernel
theorem dX6_doSet_10 : decode cX6_doSet 10 = .ok (.ireturn, 1) := by decide +kernel
theorem dX6_doSet_11 : decode cX6_doSet 11 = .ok (.aload_n 0, 1) := by decide +kernel
theorem dX6_doSet_12 : decode cX6_doSet 12 = .ok (.getfield 7, 3) := by decide +kernel
theorem dX6_doSet_15 : decode cX6_doSet 15 = .ok (.iload_n 1, 1) := by decide +kernel
theorem dX6_doSet_16 : decode cX6_doSet 16 = .ok (.iaload, 1) := by decide +kernel
theorem dX6_doSet_17 : decode cX6_doSet 17 = .ok (.istore_n 3, 1) := by decide +kernel
theorem dX6_doSet_18 : decode cX6_doSet 18 = .ok (.aload_n 0, 1) := by decide +kernel
theorem dX6_doSet_19 : decode cX6_doSet 19 = .ok (.getfield 7, 3) := by decide +kernel
theorem dX6_doSet_22 : decode cX6_doSet 22 = .ok (.iload_n 1, 1) := by decide +kernel
theorem dX6_doSet_23 : decode cX6_doSet 23 = .ok (.iload_n 2, 1) := by decide +kernel
theorem dX6_doSet_24 : decode cX6_doSet 24 = .ok (.iastore, 1) := by decide +kernel
theorem dX6_doSet_25 : decode cX6_doSet 25 = .ok (.aload_n 0, 1) := by decide +kernel
theorem dX6_doSet_26 : decode cX6_doSet 26 = .ok (.getfield 7, 3) := by decide +kernel
theorem dX6_doSet_29 : decode cX6_doSet 29 = .ok (.bipush 7, 2) := by decide +kernel
theorem dX6_doSet_31 : decode cX6_doSet 31 = .ok (.dup2, 1) := by decide +kernel
theorem dX6_doSet_32 : decode cX6_doSet 32 = .ok (.iaload, 1) := by decide +kernel
theorem dX6_doSet_33 : decode cX6_doSet 33 = .ok (.aload_n 0, 1) := by decide +kernel
theorem dX6_doSet_34 : decode cX6_doSet 34 = .ok (.getfield 7, 3) := by decide +kernel
theorem dX6_doSet_37 : decode cX6_doSet 37 = .ok (.iconst 0, 1) := by decide +kernel
theorem dX6_doSet_38 : decode cX6_doSet 38 = .ok (.iaload, 1) := by decide +kernel
theorem dX6_doSet_39 : decode cX6_doSet 39 = .ok (.irem, 1) := by decide +kernel
theorem dX6_doSet_40 : decode cX6_doSet 40 = .ok (.iastore, 1) := by decide +kernel
theorem dX6_doSet_41 : decode cX6_doSet 41 = .ok (.aload_n 0, 1) := by decide +kernel
theorem dX6_doSet_42 : decode cX6_doSet 42 = .ok (.getfield 7, 3) := by decide +kernel
theorem dX6_doSet_45 : decode cX6_doSet 45 = .ok (.bipush 6, 2) := by decide +kernel
theorem dX6_doSet_47 : decode cX6_doSet 47 = .ok (.dup2, 1) := by decide +kernel
theorem dX6_doSet_48 : decode cX6_doSet 48 = .ok (.iaload, 1) := by decide +kernel
theorem dX6_doSet_49 : decode cX6_doSet 49 = .ok (.aload_n 0, 1) := by decide +kernel
theorem dX6_doSet_50 : decode cX6_doSet 50 = .ok (.getfield 7, 3) := by decide +kernel
theorem dX6_doSet_53 : decode cX6_doSet 53 = .ok (.iconst 1, 1) := by decide +kernel
theorem dX6_doSet_54 : decode cX6_doSet 54 = .ok (.iaload, 1) := by decide +kernel
theorem dX6_doSet_55 : decode cX6_doSet 55 = .ok (.irem, 1) := by decide +kernel
theorem dX6_doSet_56 : decode cX6_doSet 56 = .ok (.iastore, 1) := by decide +kernel
theorem dX6_doSet_57 : decode cX6_doSet 57 = .ok (.iload_n 3, 1) := by decide +kernel
theorem dX6_doSet_58 : decode cX6_doSet 58 = .ok (.ireturn, 1) := by decide +kernel
set_option maxRecDepth 20000 in
theorem ggX6_doFeed_X6_in : GoodIn wsX6_doFeed wsX6_in := goodIn_r _ [8] (by decide +kernel) (by decide +kernel)
set_option maxRecDepth 20000 in
theorem gX6_doFeed_X6_in : GoodIn wsX6_doFeed (va_wsS RX6 56 yX6_in wsX6_in) := goodIn_app (goodIn_of _ (by decide +kernel)) ggX6_doFeed_X6_in
set_option maxRecDepth 20000 in
theorem ggX6_doFeed_X6_ticks : GoodIn wsX6_doFeed wsX6_ticks := goodIn_r _ [12, 3, 13, 14, 15, 7, 16, 17, 18, 19, 20, 21, 22, 23, 24, 25, 26, 27, 28, 29, 30, 31, 32, 33, 34, 35, 36, 37, 38, 39, 40] (by decide +kernel) (by decide +kernel)
set_option maxRecDepth 20000 in
theorem gX6_doFeed_X6_ticks : GoodIn wsX6_doFeed (wsV RX6 77 RX6 yX6_ticks wsX6_ticks) := goodIn_app (goodIn_of _ (by decide +kernel)) ggX6_doFeed_X6_ticks
theorem dX6_doFeed_0 : decode cX6_doFeed 0 = .ok (.iload_n 1, 1) := by decide +kernel
theorem dX6_doFeed_1 : decode cX6_doFeed 1 = .ok (.i2l, 1) := by decide +kernel
theorem dX6_doFeed_2 : decode cX6_doFeed 2 = .ok (.lconst 0, 1) := by decide +kernel
theorem dX6_doFeed_3 : decode cX6_doFeed 3 = .ok (.ldc2_w 74, 3) := by decide +kernel
theorem dX6_doFeed_6 : decode cX6_doFeed 6 = .ok (.invokestatic 56, 3) := by decide +kernel
theorem dX6_doFeed_9 : decode cX6_doFeed 9 = .ok (.ifCond .eq 25, 3) := by decide +kernel
theorem dX6_doFeed_12 : decode cX6_doFeed 12 = .ok (.iload_n 2, 1) := by decide +kernel
theorem dX6_doFeed_13 : decode cX6_doFeed 13 = .ok (.i2l, 1) := by decide +kernel
theorem dX6_doFeed_14 : decode cX6_doFeed 14 = .ok (.lconst 0, 1) := by decide +kernel
theorem dX6_doFeed_15 : decode cX6_doFeed 15 = .ok (.lconst 1, 1) := by decide +kernel
theorem dX6_doFeed_16 : decode cX6_doFeed 16 = .ok (.invokestatic 56, 3) := by decide +kernel
theorem dX6_doFeed_19 : decode cX6_doFeed 19 = .ok (.ifCond .eq 15, 3) := by decide +kernel
theorem dX6_doFeed_22 : decode cX6_doFeed 22 = .ok (.iload_n 3, 1) := by decide +kernel
theorem dX6_doFeed_23 : decode cX6_doFeed 23 = .ok (.i2l, 1) := by decide +kernel
theorem dX6_doFeed_24 : decode cX6_doFeed 24 = .ok (.lconst 1, 1) := by decide +kernel
theorem dX6_doFeed_25 : decode cX6_doFeed 25 = .ok (.ldc2_w 66, 3) := by decide +kernel
theorem dX6_doFeed_28 : decode cX6_doFeed 28 = .ok (.invokestatic 56, 3) := by decide +kernel
theorem dX6_doFeed_31 : decode cX6_doFeed 31 = .ok (.ifCond .ne 6, 3) := by decide +kernel
theorem dX6_doFeed_34 : decode cX6_doFeed 34 = .ok (.bipush (-2), 2) := by decide +kernel
theorem dX6_doFeed_36 : decode cX6_doFeed 36 = .ok (.ireturn, 1) := by decide +kernel
theorem dX6_doFeed_37 : decode cX6_doFeed 37 = .ok (.aload_n 0, 1) := by decide +kernel
theorem dX6_doFeed_38 : decode cX6_doFeed 38 = .ok (.getfield 7, 3) := by decide +kernel
theorem dX6_doFeed_41 : decode cX6_doFeed 41 = .ok (.iconst 5, 1) := by decide +kernel
theorem dX6_doFeed_42 : decode cX6_doFeed 42 = .ok (.iaload, 1) := by decide +kernel
theorem dX6_doFeed_43 : decode cX6_doFeed 43 = .ok (.iload_n 3, 1) := by decide +kernel
theorem dX6_doFeed_44 : decode cX6_doFeed 44 = .ok (.iadd, 1) := by decide +kernel
theorem dX6_doFeed_45 : decode cX6_doFeed 45 = .ok (.ldc 76, 2) := by decide +kernel
theorem dX6_doFeed_47 : decode cX6_doFeed 47 = .ok (.if_icmp .le 6, 3) := by decide +kernel
theorem dX6_doFeed_50 : decode cX6_doFeed 50 = .ok (.bipush (-5), 2) := by decide +kernel
theorem dX6_doFeed_52 : decode cX6_doFeed 52 = .ok (.ireturn, 1) := by decide +kernel
theorem dX6_doFeed_53 : decode cX6_doFeed 53 = .ok (.iconst 0, 1) := by decide +kernel
theorem dX6_doFeed_54 : decode cX6_doFeed 54 = .ok (.istore 4, 2) := by decide +kernel
theorem dX6_doFeed_56 : decode cX6_doFeed 56 = .ok (.iconst 0, 1) := by decide +kernel
theorem dX6_doFeed_57 : decode cX6_doFeed 57 = .ok (.istore 5, 2) := by decide +kernel
theorem dX6_doFeed_59 : decode cX6_doFeed 59 = .ok (.iload 5, 2) := by decide +kernel
theorem dX6_doFeed_61 : decode cX6_doFeed 61 = .ok (.iload_n 3, 1) := by decide +kernel
theorem dX6_doFeed_62 : decode cX6_doFeed 62 = .ok (.if_icmp .ge 28, 3) := by decide +kernel
theorem dX6_doFeed_65 : decode cX6_doFeed 65 = .ok (.iload 4, 2) := by decide +kernel
theorem dX6_doFeed_67 : decode cX6_doFeed 67 = .ok (.aload_n 0, 1) := by decide +kernel
theorem dX6_doFeed_68 : decode cX6_doFeed 68 = .ok (.iload_n 1, 1) := by decide +kernel
theorem dX6_doFeed_69 : decode cX6_doFeed 69 = .ok (.iload_n 2, 1) := by decide +kernel
theorem dX6_doFeed_70 : decode cX6_doFeed 70 = .ok (.invokevirtual 77, 3) := by decide +kernel
theorem dX6_doFeed_73 : decode cX6_doFeed 73 = .ok (.ifCond .eq 7, 3) := by decide +kernel
theorem dX6_doFeed_76 : decode cX6_doFeed 76 = .ok (.iconst 1, 1) := by decide +kernel
theorem dX6_doFeed_77 : decode cX6_doFeed 77 = .ok (.goto 4, 3) := by decide +kernel
theorem dX6_doFeed_80 : decode cX6_doFeed 80 = .ok (.iconst 0, 1) := by decide +kernel
theorem dX6_doFeed_81 : decode cX6_doFeed 81 = .ok (.iadd, 1) := by decide +kernel
theorem dX6_doFeed_82 : decode cX6_doFeed 82 = .ok (.istore 4, 2) := by decide +kernel
theorem dX6_doFeed_84 : decode cX6_doFeed 84 = .ok (.iinc 5 1, 3) := by decide +kernel
theorem dX6_doFeed_87 : decode cX6_doFeed 87 = .ok (.goto (-28), 3) := by decide +kernel
theorem dX6_doFeed_90 : decode cX6_doFeed 90 = .ok (.iload 4, 2) := by decide +kernel
theorem dX6_doFeed_92 : decode cX6_doFeed 92 = .ok (.ireturn, 1) := by decide +kernel
set_option maxRecDepth 20000 in
theorem ggX6_doTurn_X6_in : GoodIn wsX6_doTurn wsX6_in := goodIn_r _ [8] (by decide +kernel) (by decide +kernel)
set_option maxRecDepth 20000 in
theorem gX6_doTurn_X6_in : GoodIn wsX6_doTurn (va_wsS RX6 56 yX6_in wsX6_in) := goodIn_app (goodIn_of _ (by decide +kernel)) ggX6_doTurn_X6_in
set_option maxRecDepth 20000 in
theorem ggX6_doTurn_X6_orderOf : GoodIn wsX6_doTurn wsX6_orderOf := goodIn_r _ [11] (by decide +kernel) (by decide +kernel)
set_option maxRecDepth 20000 in
theorem gX6_doTurn_X6_orderOf : GoodIn wsX6_doTurn (va_wsS RX6 38 yX6_orderOf wsX6_orderOf) := goodIn_app (goodIn_of _ (by decide +kernel)) ggX6_doTurn_X6_orderOf
set_option maxRecDepth 20000 in
theorem ggX6_doTurn_X6_pairAt : GoodIn wsX6_doTurn wsX6_pairAt := goodIn_r _ [14] (by decide +kernel) (by decide +kernel)
set_option maxRecDepth 20000 in
theorem gX6_doTurn_X6_pairAt : GoodIn wsX6_doTurn (va_wsS RX6 82 yX6_pairAt wsX6_pairAt) := goodIn_app (goodIn_of _ (by decide +kernel)) ggX6_doTurn_X6_pairAt
set_option maxRecDepth 20000 in
theorem ggX6_doTurn_X6_ticks : GoodIn wsX6_doTurn wsX6_ticks := goodIn_r _ [18, 3, 19, 20, 21, 7, 22, 9, 10, 11, 23, 24, 25, 26, 27, 28, 29, 30, 31, 32, 33, 34, 35, 36, 37, 38, 39, 40, 41, 42, 43] (by decide +kernel) (by decide +kernel)
set_option maxRecDepth 20000 in
theorem gX6_doTurn_X6_ticks : GoodIn wsX6_doTurn (wsV RX6 77 RX6 yX6_ticks wsX6_ticks) := goodIn_app (goodIn_of _ (by decide +kernel)) ggX6_doTurn_X6_ticks
theorem dX6_doTurn_0 : decode cX6_doTurn 0 = .ok (.iload_n 1, 1) := by decide +kernel
theorem dX6_doTurn_1 : decode cX6_doTurn 1 = .ok (.i2l, 1) := by decide +kernel
theorem dX6_doTurn_2 : decode cX6_doTurn 2 = .ok (.ldc2_w 80, 3) := by decide +kernel
theorem dX6_doTurn_5 : decode cX6_doTurn 5 = .ok (.ldc2_w 66, 3) := by decide +kernel
theorem dX6_doTurn_8 : decode cX6_doTurn 8 = .ok (.invokestatic 56, 3) := by decide +kernel
theorem dX6_doTurn_11 : decode cX6_doTurn 11 = .ok (.ifCond .eq 7, 3) := by decide +kernel
theorem dX6_doTurn_14 : decode cX6_doTurn 14 = .ok (.iload_n 1, 1) := by decide +kernel
theorem dX6_doTurn_15 : decode cX6_doTurn 15 = .ok (.ifCond .ne 6, 3) := by decide +kernel
theorem dX6_doTurn_18 : decode cX6_doTurn 18 = .ok (.bipush (-2), 2) := by decide +kernel
theorem dX6_doTurn_20 : decode cX6_doTurn 20 = .ok (.ireturn, 1) := by decide +kernel
theorem dX6_doTurn_21 : decode cX6_doTurn 21 = .ok (.iload_n 1, 1) := by decide +kernel
theorem dX6_doTurn_22 : decode cX6_doTurn 22 = .ok (.ifCond .ge 8, 3) := by decide +kernel
theorem dX6_doTurn_25 : decode cX6_doTurn 25 = .ok (.iload_n 1, 1) := by decide +kernel
theorem dX6_doTurn_26 : decode cX6_doTurn 26 = .ok (.ineg, 1) := by decide +kernel
theorem dX6_doTurn_27 : decode cX6_doTurn 27 = .ok (.goto 4, 3) := by decide +kernel
theorem dX6_doTurn_30 : decode cX6_doTurn 30 = .ok (.iload_n 1, 1) := by decide +kernel
theorem dX6_doTurn_31 : decode cX6_doTurn 31 = .ok (.istore_n 2, 1) := by decide +kernel
theorem dX6_doTurn_32 : decode cX6_doTurn 32 = .ok (.aload_n 0, 1) := by decide +kernel
theorem dX6_doTurn_33 : decode cX6_doTurn 33 = .ok (.getfield 7, 3) := by decide +kernel
theorem dX6_doTurn_36 : decode cX6_doTurn 36 = .ok (.iconst 5, 1) := by decide +kernel
theorem dX6_doTurn_37 : decode cX6_doTurn 37 = .ok (.iaload, 1) := by decide +kernel
theorem dX6_doTurn_38 : decode cX6_doTurn 38 = .ok (.iload_n 2, 1) := by decide +kernel
theorem dX6_doTurn_39 : decode cX6_doTurn 39 = .ok (.aload_n 0, 1) := by decide +kernel
theorem dX6_doTurn_40 : decode cX6_doTurn 40 = .ok (.getfield 7, 3) := by decide +kernel
theorem dX6_doTurn_43 : decode cX6_doTurn 43 = .ok (.iconst 2, 1) := by decide +kernel
theorem dX6_doTurn_44 : decode cX6_doTurn 44 = .ok (.iaload, 1) := by decide +kernel
theorem dX6_doTurn_45 : decode cX6_doTurn 45 = .ok (.imul, 1) := by decide +kernel
theorem dX6_doTurn_46 : decode cX6_doTurn 46 = .ok (.iadd, 1) := by decide +kernel
theorem dX6_doTurn_47 : decode cX6_doTurn 47 = .ok (.ldc 76, 2) := by decide +kernel
theorem dX6_doTurn_49 : decode cX6_doTurn 49 = .ok (.if_icmp .le 6, 3) := by decide +kernel
theorem dX6_doTurn_52 : decode cX6_doTurn 52 = .ok (.bipush (-5), 2) := by decide +kernel
theorem dX6_doTurn_54 : decode cX6_doTurn 54 = .ok (.ireturn, 1) := by decide +kernel
theorem dX6_doTurn_55 : decode cX6_doTurn 55 = .ok (.iconst 0, 1) := by decide +kernel
theorem dX6_doTurn_56 : decode cX6_doTurn 56 = .ok (.istore_n 3, 1) := by decide +kernel
theorem dX6_doTurn_57 : decode cX6_doTurn 57 = .ok (.iload_n 3, 1) := by decide +kernel
theorem dX6_doTurn_58 : decode cX6_doTurn 58 = .ok (.iload_n 2, 1) := by decide +kernel
theorem dX6_doTurn_59 : decode cX6_doTurn 59 = .ok (.if_icmp .ge 65, 3) := by decide +kernel
theorem dX6_doTurn_62 : decode cX6_doTurn 62 = .ok (.aload_n 0, 1) := by decide +kernel
theorem dX6_doTurn_63 : decode cX6_doTurn 63 = .ok (.getfield 7, 3) := by decide +kernel
theorem dX6_doTurn_66 : decode cX6_doTurn 66 = .ok (.bipush 8, 2) := by decide +kernel
theorem dX6_doTurn_68 : decode cX6_doTurn 68 = .ok (.iaload, 1) := by decide +kernel
theorem dX6_doTurn_69 : decode cX6_doTurn 69 = .ok (.invokestatic 38, 3) := by decide +kernel
theorem dX6_doTurn_72 : decode cX6_doTurn 72 = .ok (.iload_n 1, 1) := by decide +kernel
theorem dX6_doTurn_73 : decode cX6_doTurn 73 = .ok (.ifCond .ge 7, 3) := by decide +kernel
theorem dX6_doTurn_76 : decode cX6_doTurn 76 = .ok (.iconst 3, 1) := by decide +kernel
theorem dX6_doTurn_77 : decode cX6_doTurn 77 = .ok (.goto 4, 3) := by decide +kernel
theorem dX6_doTurn_80 : decode cX6_doTurn 80 = .ok (.iconst 1, 1) := by decide +kernel
theorem dX6_doTurn_81 : decode cX6_doTurn 81 = .ok (.iadd, 1) := by decide +kernel
theorem dX6_doTurn_82 : decode cX6_doTurn 82 = .ok (.iconst 4, 1) := by decide +kernel
theorem dX6_doTurn_83 : decode cX6_doTurn 83 = .ok (.irem, 1) := by decide +kernel
theorem dX6_doTurn_84 : decode cX6_doTurn 84 = .ok (.invokestatic 82, 3) := by decide +kernel
theorem dX6_doTurn_87 : decode cX6_doTurn 87 = .ok (.istore 4, 2) := by decide +kernel
theorem dX6_doTurn_89 : decode cX6_doTurn 89 = .ok (.iconst 0, 1) := by decide +kernel
theorem dX6_doTurn_90 : decode cX6_doTurn 90 = .ok (.istore 5, 2) := by decide +kernel
theorem dX6_doTurn_92 : decode cX6_doTurn 92 = .ok (.iload 5, 2) := by decide +kernel
theorem dX6_doTurn_94 : decode cX6_doTurn 94 = .ok (.aload_n 0, 1) := by decide +kernel
theorem dX6_doTurn_95 : decode cX6_doTurn 95 = .ok (.getfield 7, 3) := by decide +kernel
theorem dX6_doTurn_98 : decode cX6_doTurn 98 = .ok (.iconst 2, 1) := by decide +kernel
theorem dX6_doTurn_99 : decode cX6_doTurn 99 = .ok (.iaload, 1) := by decide +kernel
theorem dX6_doTurn_100 : decode cX6_doTurn 100 = .ok (.if_icmp .ge 18, 3) := by decide +kernel
theorem dX6_doTurn_103 : decode cX6_doTurn 103 = .ok (.aload_n 0, 1) := by decide +kernel
theorem dX6_doTurn_104 : decode cX6_doTurn 104 = .ok (.iload 4, 2) := by decide +kernel
theorem dX6_doTurn_106 : decode cX6_doTurn 106 = .ok (.iconst 0, 1) := by decide +kernel
theorem dX6_doTurn_107 : decode cX6_doTurn 107 = .ok (.invokevirtual 77, 3) := by decide +kernel
theorem dX6_doTurn_110 : decode cX6_doTurn 110 = .ok (.istore 6, 2) := by decide +kernel
theorem dX6_doTurn_112 : decode cX6_doTurn 112 = .ok (.iinc 5 1, 3) := by decide +kernel
theorem dX6_doTurn_115 : decode cX6_doTurn 115 = .ok (.goto (-23), 3) := by decide +kernel
theorem dX6_doTurn_118 : decode cX6_doTurn 118 = .ok (.iinc 3 1, 3) := by decide +kernel
theorem dX6_doTurn_121 : decode cX6_doTurn 121 = .ok (.goto (-64), 3) := by decide +kernel
theorem dX6_doTurn_124 : decode cX6_doTurn 124 = .ok (.aload_n 0, 1) := by decide +kernel
theorem dX6_doTurn_125 : decode cX6_doTurn 125 = .ok (.getfield 7, 3) := by decide +kernel
theorem dX6_doTurn_128 : decode cX6_doTurn 128 = .ok (.bipush 6, 2) := by decide +kernel
theorem dX6_doTurn_130 : decode cX6_doTurn 130 = .ok (.iaload, 1) := by decide +kernel
theorem dX6_doTurn_131 : decode cX6_doTurn 131 = .ok (.ireturn, 1) := by decide +kernel
theorem dX6_doZero_0 : decode cX6_doZero 0 = .ok (.aload_n 0, 1) := by decide +kernel
theorem dX6_doZero_1 : decode cX6_doZero 1 = .ok (.getfield 7, 3) := by decide +kernel
theorem dX6_doZero_4 : decode cX6_doZero 4 = .ok (.bipush 6, 2) := by decide +kernel
theorem dX6_doZero_6 : decode cX6_doZero 6 = .ok (.iaload, 1) := by decide +kernel
theorem dX6_doZero_7 : decode cX6_doZero 7 = .ok (.istore_n 1, 1) := by decide +kernel
theorem dX6_doZero_8 : decode cX6_doZero 8 = .ok (.aload_n 0, 1) := by decide +kernel
theorem dX6_doZero_9 : decode cX6_doZero 9 = .ok (.getfield 7, 3) := by decide +kernel
theorem dX6_doZero_12 : decode cX6_doZero 12 = .ok (.bipush 6, 2) := by decide +kernel
theorem dX6_doZero_14 : decode cX6_doZero 14 = .ok (.iconst 0, 1) := by decide +kernel
theorem dX6_doZero_15 : decode cX6_doZero 15 = .ok (.iastore, 1) := by decide +kernel
theorem dX6_doZero_16 : decode cX6_doZero 16 = .ok (.aload_n 0, 1) := by decide +kernel
theorem dX6_doZero_17 : decode cX6_doZero 17 = .ok (.getfield 7, 3) := by decide +kernel
theorem dX6_doZero_20 : decode cX6_doZero 20 = .ok (.bipush 7, 2) := by decide +kernel
theorem dX6_doZero_22 : decode cX6_doZero 22 = .ok (.iconst 0, 1) := by decide +kernel
theorem dX6_doZero_23 : decode cX6_doZero 23 = .ok (.iastore, 1) := by decide +kernel
theorem dX6_doZero_24 : decode cX6_doZero 24 = .ok (.iload_n 1, 1) := by decide +kernel
theorem dX6_doZero_25 : decode cX6_doZero 25 = .ok (.ireturn, 1) := by decide +kernel
set_option maxRecDepth 20000 in
theorem ggX6_set_X6_copy : GoodIn wsX6_set wsX6_copy := goodIn_r _ [6] (by decide +kernel) (by decide +kernel)
set_option maxRecDepth 20000 in
theorem gX6_set_X6_copy : GoodIn wsX6_set (va_wsS RX6 85 yX6_copy wsX6_copy) := goodIn_app (goodIn_of _ (by decide +kernel)) ggX6_set_X6_copy
set_option maxRecDepth 20000 in
theorem ggX6_set_X6_doSet : GoodIn wsX6_set wsX6_doSet := goodIn_r _ [10, 1, 11, 12, 5, 13, 14, 15, 16, 17, 18, 19, 20, 21, 22, 23, 30, 31, 32, 33, 34, 35, 36, 37, 38, 39, 40, 41, 42] (by decide +kernel) (by decide +kernel)
set_option maxRecDepth 20000 in
theorem gX6_set_X6_doSet : GoodIn wsX6_set (wsV RX6 89 RX6 yX6_doSet wsX6_doSet) := goodIn_app (goodIn_of _ (by decide +kernel)) ggX6_set_X6_doSet
set_option maxRecDepth 20000 in
theorem ggX6_set_X6_changed : GoodIn wsX6_set wsX6_changed := goodIn_r _ [27, 28, 29, 2, 30, 31, 32, 33, 34, 35, 36, 37, 38, 39, 40, 41, 42] (by decide +kernel) (by decide +kernel)
set_option maxRecDepth 20000 in
theorem gX6_set_X6_changed : GoodIn wsX6_set (wsV RX6 93 RX6 yX6_changed wsX6_changed) := goodIn_app (goodIn_of _ (by decide +kernel)) ggX6_set_X6_changed
theorem dX6_set_0 : decode cX6_set 0 = .ok (.aload_n 0, 1) := by decide +kernel
theorem dX6_set_1 : decode cX6_set 1 = .ok (.getfield 7, 3) := by decide +kernel
theorem dX6_set_4 : decode cX6_set 4 = .ok (.aload_n 0, 1) := by decide +kernel
theorem dX6_set_5 : decode cX6_set 5 = .ok (.getfield 13, 3) := by decide +kernel
theorem dX6_set_8 : decode cX6_set 8 = .ok (.invokestatic 85, 3) := by decide +kernel
theorem dX6_set_11 : decode cX6_set 11 = .ok (.aload_n 0, 1) := by decide +kernel
theorem dX6_set_12 : decode cX6_set 12 = .ok (.iload_n 1, 1) := by decide +kernel
theorem dX6_set_13 : decode cX6_set 13 = .ok (.iload_n 2, 1) := by decide +kernel
theorem dX6_set_14 : decode cX6_set 14 = .ok (.invokevirtual 89, 3) := by decide +kernel
theorem dX6_set_17 : decode cX6_set 17 = .ok (.istore_n 3, 1) := by decide +kernel
theorem dX6_set_18 : decode cX6_set 18 = .ok (.iload_n 3, 1) := by decide +kernel
theorem dX6_set_19 : decode cX6_set 19 = .ok (.ifCond .ge 7, 3) := by decide +kernel
theorem dX6_set_22 : decode cX6_set 22 = .ok (.iload_n 3, 1) := by decide +kernel
theorem dX6_set_23 : decode cX6_set 23 = .ok (.goto 8, 3) := by decide +kernel
theorem dX6_set_26 : decode cX6_set 26 = .ok (.aload_n 0, 1) := by decide +kernel
theorem dX6_set_27 : decode cX6_set 27 = .ok (.iload_n 3, 1) := by decide +kernel
theorem dX6_set_28 : decode cX6_set 28 = .ok (.invokevirtual 93, 3) := by decide +kernel
theorem dX6_set_31 : decode cX6_set 31 = .ok (.ireturn, 1) := by decide +kernel
set_option maxRecDepth 20000 in
theorem ggX6_feed_X6_copy : GoodIn wsX6_feed wsX6_copy := goodIn_r _ [6] (by decide +kernel) (by decide +kernel)
set_option maxRecDepth 20000 in
theorem gX6_feed_X6_copy : GoodIn wsX6_feed (va_wsS RX6 85 yX6_copy wsX6_copy) := goodIn_app (goodIn_of _ (by decide +kernel)) ggX6_feed_X6_copy
set_option maxRecDepth 20000 in
theorem ggX6_feed_X6_doFeed : GoodIn wsX6_feed wsX6_doFeed := goodIn_r _ [10, 11, 12, 1, 13, 14, 15, 5, 16, 17, 18, 19, 20, 21, 22, 23, 24, 25, 26, 27, 28, 29, 30, 31, 32, 33, 34, 35, 42, 43, 44, 45, 46, 47, 48, 49, 50, 51, 52, 53, 54] (by decide +kernel) (by decide +kernel)
set_option maxRecDepth 20000 in
theorem gX6_feed_X6_doFeed : GoodIn wsX6_feed (wsV RX6 96 RX6 yX6_doFeed wsX6_doFeed) := goodIn_app (goodIn_of _ (by decide +kernel)) ggX6_feed_X6_doFeed
set_option maxRecDepth 20000 in
theorem ggX6_feed_X6_changed : GoodIn wsX6_feed wsX6_changed := goodIn_r _ [39, 40, 41, 2, 42, 43, 44, 45, 46, 47, 48, 49, 50, 51, 52, 53, 54] (by decide +kernel) (by decide +kernel)
set_option maxRecDepth 20000 in
theorem gX6_feed_X6_changed : GoodIn wsX6_feed (wsV RX6 93 RX6 yX6_changed wsX6_changed) := goodIn_app (goodIn_of _ (by decide +kernel)) ggX6_feed_X6_changed
theorem dX6_feed_0 : decode cX6_feed 0 = .ok (.aload_n 0, 1) := by decide +kernel
theorem dX6_feed_1 : decode cX6_feed 1 = .ok (.getfield 7, 3) := by decide +kernel
theorem dX6_feed_4 : decode cX6_feed 4 = .ok (.aload_n 0, 1) := by decide +kernel
theorem dX6_feed_5 : decode cX6_feed 5 = .ok (.getfield 13, 3) := by decide +kernel
theorem dX6_feed_8 : decode cX6_feed 8 = .ok (.invokestatic 85, 3) := by decide +kernel
theorem dX6_feed_11 : decode cX6_feed 11 = .ok (.aload_n 0, 1) := by decide +kernel
theorem dX6_feed_12 : decode cX6_feed 12 = .ok (.iload_n 1, 1) := by decide +kernel
theorem dX6_feed_13 : decode cX6_feed 13 = .ok (.iload_n 2, 1) := by decide +kernel
theorem dX6_feed_14 : decode cX6_feed 14 = .ok (.iload_n 3, 1) := by decide +kernel
theorem dX6_feed_15 : decode cX6_feed 15 = .ok (.invokevirtual 96, 3) := by decide +kernel
theorem dX6_feed_18 : decode cX6_feed 18 = .ok (.istore 4, 2) := by decide +kernel
theorem dX6_feed_20 : decode cX6_feed 20 = .ok (.iload 4, 2) := by decide +kernel
theorem dX6_feed_22 : decode cX6_feed 22 = .ok (.ifCond .ge 8, 3) := by decide +kernel
theorem dX6_feed_25 : decode cX6_feed 25 = .ok (.iload 4, 2) := by decide +kernel
theorem dX6_feed_27 : decode cX6_feed 27 = .ok (.goto 9, 3) := by decide +kernel
theorem dX6_feed_30 : decode cX6_feed 30 = .ok (.aload_n 0, 1) := by decide +kernel
theorem dX6_feed_31 : decode cX6_feed 31 = .ok (.iload 4, 2) := by decide +kernel
theorem dX6_feed_33 : decode cX6_feed 33 = .ok (.invokevirtual 93, 3) := by decide +kernel
theorem dX6_feed_36 : decode cX6_feed 36 = .ok (.ireturn, 1) := by decide +kernel
set_option maxRecDepth 20000 in
theorem ggX6_turn_X6_copy : GoodIn wsX6_turn wsX6_copy := goodIn_r _ [6] (by decide +kernel) (by decide +kernel)
set_option maxRecDepth 20000 in
theorem gX6_turn_X6_copy : GoodIn wsX6_turn (va_wsS RX6 85 yX6_copy wsX6_copy) := goodIn_app (goodIn_of _ (by decide +kernel)) ggX6_turn_X6_copy
set_option maxRecDepth 20000 in
theorem ggX6_turn_X6_doTurn : GoodIn wsX6_turn wsX6_doTurn := goodIn_r _ [10, 11, 12, 1, 13, 14, 15, 5, 16, 17, 18, 19, 20, 21, 22, 23, 24, 25, 26, 27, 28, 29, 30, 31, 32, 33, 34, 35, 36, 37, 38, 45, 46, 47, 48, 49, 50, 51, 52, 53, 54, 55, 56, 57] (by decide +kernel) (by decide +kernel)
set_option maxRecDepth 20000 in
theorem gX6_turn_X6_doTurn : GoodIn wsX6_turn (wsV RX6 100 RX6 yX6_doTurn wsX6_doTurn) := goodIn_app (goodIn_of _ (by decide +kernel)) ggX6_turn_X6_doTurn
set_option maxRecDepth 20000 in
theorem ggX6_turn_X6_changed : GoodIn wsX6_turn wsX6_changed := goodIn_r _ [42, 43, 44, 2, 45, 46, 47, 48, 49, 50, 51, 52, 53, 54, 55, 56, 57] (by decide +kernel) (by decide +kernel)
set_option maxRecDepth 20000 in
theorem gX6_turn_X6_changed : GoodIn wsX6_turn (wsV RX6 93 RX6 yX6_changed wsX6_changed) := goodIn_app (goodIn_of _ (by decide +kernel)) ggX6_turn_X6_changed
theorem dX6_turn_0 : decode cX6_turn 0 = .ok (.aload_n 0, 1) := by decide +kernel
theorem dX6_turn_1 : decode cX6_turn 1 = .ok (.getfield 7, 3) := by decide +kernel
theorem dX6_turn_4 : decode cX6_turn 4 = .ok (.aload_n 0, 1) := by decide +kernel
theorem dX6_turn_5 : decode cX6_turn 5 = .ok (.getfield 13, 3) := by decide +kernel
theorem dX6_turn_8 : decode cX6_turn 8 = .ok (.invokestatic 85, 3) := by decide +kernel
theorem dX6_turn_11 : decode cX6_turn 11 = .ok (.aload_n 0, 1) := by decide +kernel
theorem dX6_turn_12 : decode cX6_turn 12 = .ok (.iload_n 1, 1) := by decide +kernel
theorem dX6_turn_13 : decode cX6_turn 13 = .ok (.invokevirtual 100, 3) := by decide +kernel
theorem dX6_turn_16 : decode cX6_turn 16 = .ok (.istore_n 2, 1) := by decide +kernel
theorem dX6_turn_17 : decode cX6_turn 17 = .ok (.iload_n 2, 1) := by decide +kernel
theorem dX6_turn_18 : decode cX6_turn 18 = .ok (.ifCond .ge 7, 3) := by decide +kernel
theorem dX6_turn_21 : decode cX6_turn 21 = .ok (.iload_n 2, 1) := by decide +kernel
theorem dX6_turn_22 : decode cX6_turn 22 = .ok (.goto 8, 3) := by decide +kernel
theorem dX6_turn_25 : decode cX6_turn 25 = .ok (.aload_n 0, 1) := by decide +kernel
theorem dX6_turn_26 : decode cX6_turn 26 = .ok (.iload_n 2, 1) := by decide +kernel
theorem dX6_turn_27 : decode cX6_turn 27 = .ok (.invokevirtual 93, 3) := by decide +kernel
theorem dX6_turn_30 : decode cX6_turn 30 = .ok (.ireturn, 1) := by decide +kernel
set_option maxRecDepth 20000 in
theorem ggX6_zero_X6_copy : GoodIn wsX6_zero wsX6_copy := goodIn_r _ [6] (by decide +kernel) (by decide +kernel)
set_option maxRecDepth 20000 in
theorem gX6_zero_X6_copy : GoodIn wsX6_zero (va_wsS RX6 85 yX6_copy wsX6_copy) := goodIn_app (goodIn_of _ (by decide +kernel)) ggX6_zero_X6_copy
set_option maxRecDepth 20000 in
theorem ggX6_zero_X6_doZero : GoodIn wsX6_zero wsX6_doZero := goodIn_r _ [10, 1, 17, 18, 19, 20, 21, 22, 23, 24, 25, 26, 27, 28, 29] (by decide +kernel) (by decide +kernel)
set_option maxRecDepth 20000 in
theorem gX6_zero_X6_doZero : GoodIn wsX6_zero (wsV RX6 103 RX6 yX6_doZero wsX6_doZero) := goodIn_app (goodIn_of _ (by decide +kernel)) ggX6_zero_X6_doZero
set_option maxRecDepth 20000 in
theorem ggX6_zero_X6_changed : GoodIn wsX6_zero wsX6_changed := goodIn_r _ [14, 15, 16, 2, 17, 18, 19, 20, 21, 22, 23, 24, 25, 26, 27, 28, 29] (by decide +kernel) (by decide +kernel)
set_option maxRecDepth 20000 in
theorem gX6_zero_X6_changed : GoodIn wsX6_zero (wsV RX6 93 RX6 yX6_changed wsX6_changed) := goodIn_app (goodIn_of _ (by decide +kernel)) ggX6_zero_X6_changed
theorem dX6_zero_0 : decode cX6_zero 0 = .ok (.aload_n 0, 1) := by decide +kernel
theorem dX6_zero_1 : decode cX6_zero 1 = .ok (.getfield 7, 3) := by decide +kernel
theorem dX6_zero_4 : decode cX6_zero 4 = .ok (.aload_n 0, 1) := by decide +kernel
theorem dX6_zero_5 : decode cX6_zero 5 = .ok (.getfield 13, 3) := by decide +kernel
theorem dX6_zero_8 : decode cX6_zero 8 = .ok (.invokestatic 85, 3) := by decide +kernel
theorem dX6_zero_11 : decode cX6_zero 11 = .ok (.aload_n 0, 1) := by decide +kernel
theorem dX6_zero_12 : decode cX6_zero 12 = .ok (.aload_n 0, 1) := by decide +kernel
theorem dX6_zero_13 : decode cX6_zero 13 = .ok (.invokevirtual 103, 3) := by decide +kernel
theorem dX6_zero_16 : decode cX6_zero 16 = .ok (.invokevirtual 93, 3) := by decide +kernel
theorem dX6_zero_19 : decode cX6_zero 19 = .ok (.ireturn, 1) := by decide +kernel
set_option maxRecDepth 20000 in
theorem ggX6_log_X6_in : GoodIn wsX6_log wsX6_in := goodIn_r _ [5] (by decide +kernel) (by decide +kernel)
set_option maxRecDepth 20000 in
theorem gX6_log_X6_in : GoodIn wsX6_log (va_wsS RX6 56 yX6_in wsX6_in) := goodIn_app (goodIn_of _ (by decide +kernel)) ggX6_log_X6_in
theorem dX6_log_0 : decode cX6_log 0 = .ok (.iload_n 1, 1) := by decide +kernel
theorem dX6_log_1 : decode cX6_log 1 = .ok (.i2l, 1) := by decide +kernel
theorem dX6_log_2 : decode cX6_log 2 = .ok (.lconst 0, 1) := by decide +kernel
theorem dX6_log_3 : decode cX6_log 3 = .ok (.aload_n 0, 1) := by decide +kernel
theorem dX6_log_4 : decode cX6_log 4 = .ok (.getfield 7, 3) := by decide +kernel
theorem dX6_log_7 : decode cX6_log 7 = .ok (.bipush 14, 2) := by decide +kernel
theorem dX6_log_9 : decode cX6_log 9 = .ok (.iaload, 1) := by decide +kernel
theorem dX6_log_10 : decode cX6_log 10 = .ok (.i2l, 1) := by decide +kernel
theorem dX6_log_11 : decode cX6_log 11 = .ok (.lconst 1, 1) := by decide +kernel
theorem dX6_log_12 : decode cX6_log 12 = .ok (.lsub, 1) := by decide +kernel
theorem dX6_log_13 : decode cX6_log 13 = .ok (.invokestatic 56, 3) := by decide +kernel
theorem dX6_log_16 : decode cX6_log 16 = .ok (.ifCond .ne 5, 3) := by decide +kernel
theorem dX6_log_19 : decode cX6_log 19 = .ok (.iconst (-1), 1) := by decide +kernel
theorem dX6_log_20 : decode cX6_log 20 = .ok (.ireturn, 1) := by decide +kernel
theorem dX6_log_21 : decode cX6_log 21 = .ok (.aload_n 0, 1) := by decide +kernel
theorem dX6_log_22 : decode cX6_log 22 = .ok (.getfield 7, 3) := by decide +kernel
theorem dX6_log_25 : decode cX6_log 25 = .ok (.bipush 21, 2) := by decide +kernel
theorem dX6_log_27 : decode cX6_log 27 = .ok (.iload_n 1, 1) := by decide +kernel
theorem dX6_log_28 : decode cX6_log 28 = .ok (.iadd, 1) := by decide +kernel
theorem dX6_log_29 : decode cX6_log 29 = .ok (.iaload, 1) := by decide +kernel
theorem dX6_log_30 : decode cX6_log 30 = .ok (.istore_n 3, 1) := by decide +kernel
theorem dX6_log_31 : decode cX6_log 31 = .ok (.iload_n 2, 1) := by decide +kernel
theorem dX6_log_32 : decode cX6_log 32 = .ok (.ifCond .ne 10, 3) := by decide +kernel
theorem dX6_log_35 : decode cX6_log 35 = .ok (.iload_n 3, 1) := by decide +kernel
theorem dX6_log_36 : decode cX6_log 36 = .ok (.bipush 8, 2) := by decide +kernel
theorem dX6_log_38 : decode cX6_log 38 = .ok (.idiv, 1) := by decide +kernel
theorem dX6_log_39 : decode cX6_log 39 = .ok (.goto 29, 3) := by decide +kernel
theorem dX6_log_42 : decode cX6_log 42 = .ok (.iload_n 2, 1) := by decide +kernel
theorem dX6_log_43 : decode cX6_log 43 = .ok (.iconst 1, 1) := by decide +kernel
theorem dX6_log_44 : decode cX6_log 44 = .ok (.if_icmp .ne 11, 3) := by decide +kernel
theorem dX6_log_47 : decode cX6_log 47 = .ok (.iload_n 3, 1) := by decide +kernel
theorem dX6_log_48 : decode cX6_log 48 = .ok (.iconst 4, 1) := by decide +kernel
theorem dX6_log_49 : decode cX6_log 49 = .ok (.idiv, 1) := by decide +kernel
theorem dX6_log_50 : decode cX6_log 50 = .ok (.iconst 2, 1) := by decide +kernel
theorem dX6_log_51 : decode cX6_log 51 = .ok (.irem, 1) := by decide +kernel
theorem dX6_log_52 : decode cX6_log 52 = .ok (.goto 16, 3) := by decide +kernel
theorem dX6_log_55 : decode cX6_log 55 = .ok (.iload_n 2, 1) := by decide +kernel
theorem dX6_log_56 : decode cX6_log 56 = .ok (.iconst 2, 1) := by decide +kernel
theorem dX6_log_57 : decode cX6_log 57 = .ok (.if_icmp .ne 9, 3) := by decide +kernel
theorem dX6_log_60 : decode cX6_log 60 = .ok (.iload_n 3, 1) := by decide +kernel
theorem dX6_log_61 : decode cX6_log 61 = .ok (.iconst 4, 1) := by decide +kernel
theorem dX6_log_62 : decode cX6_log 62 = .ok (.irem, 1) := by decide +kernel
theorem dX6_log_63 : decode cX6_log 63 = .ok (.goto 5, 3) := by decide +kernel
theorem dX6_log_66 : decode cX6_log 66 = .ok (.bipush (-2), 2) := by decide +kernel
theorem dX6_log_68 : decode cX6_log 68 = .ok (.ireturn, 1) := by decide +kernel
set_option maxRecDepth 20000 in
theorem ggX6_count_X6_in : GoodIn wsX6_count wsX6_in := goodIn_r _ [10] (by decide +kernel) (by decide +kernel)
set_option maxRecDepth 20000 in
theorem gX6_count_X6_in : GoodIn wsX6_count (va_wsS RX6 56 yX6_in wsX6_in) := goodIn_app (goodIn_of _ (by decide +kernel)) ggX6_count_X6_in
theorem dX6_count_0 : decode cX6_count 0 = .ok (.iload_n 1, 1) := by decide +kernel
theorem dX6_count_1 : decode cX6_count 1 = .ok (.i2l, 1) := by decide +kernel
theorem dX6_count_2 : decode cX6_count 2 = .ok (.lconst 0, 1) := by decide +kernel
theorem dX6_count_3 : decode cX6_count 3 = .ok (.ldc2_w 64, 3) := by decide +kernel
theorem dX6_count_6 : decode cX6_count 6 = .ok (.invokestatic 56, 3) := by decide +kernel
theorem dX6_count_9 : decode cX6_count 9 = .ok (.ifCond .eq 12, 3) := by decide +kernel
theorem dX6_count_12 : decode cX6_count 12 = .ok (.aload_n 0, 1) := by decide +kernel
theorem dX6_count_13 : decode cX6_count 13 = .ok (.getfield 7, 3) := by decide +kernel
theorem dX6_count_16 : decode cX6_count 16 = .ok (.iconst 5, 1) := by decide +kernel
theorem dX6_count_17 : decode cX6_count 17 = .ok (.iload_n 1, 1) := by decide +kernel
theorem dX6_count_18 : decode cX6_count 18 = .ok (.iadd, 1) := by decide +kernel
theorem dX6_count_19 : decode cX6_count 19 = .ok (.iaload, 1) := by decide +kernel
theorem dX6_count_20 : decode cX6_count 20 = .ok (.ireturn, 1) := by decide +kernel
theorem dX6_count_21 : decode cX6_count 21 = .ok (.iload_n 1, 1) := by decide +kernel
theorem dX6_count_22 : decode cX6_count 22 = .ok (.i2l, 1) := by decide +kernel
theorem dX6_count_23 : decode cX6_count 23 = .ok (.ldc2_w 60, 3) := by decide +kernel
theorem dX6_count_26 : decode cX6_count 26 = .ok (.ldc2_w 107, 3) := by decide +kernel
theorem dX6_count_29 : decode cX6_count 29 = .ok (.invokestatic 56, 3) := by decide +kernel
theorem dX6_count_32 : decode cX6_count 32 = .ok (.ifCond .eq 13, 3) := by decide +kernel
theorem dX6_count_35 : decode cX6_count 35 = .ok (.aload_n 0, 1) := by decide +kernel
theorem dX6_count_36 : decode cX6_count 36 = .ok (.getfield 7, 3) := by decide +kernel
theorem dX6_count_39 : decode cX6_count 39 = .ok (.iload_n 1, 1) := by decide +kernel
theorem dX6_count_40 : decode cX6_count 40 = .ok (.bipush 10, 2) := by decide +kernel
theorem dX6_count_42 : decode cX6_count 42 = .ok (.isub, 1) := by decide +kernel
theorem dX6_count_43 : decode cX6_count 43 = .ok (.iaload, 1) := by decide +kernel
theorem dX6_count_44 : decode cX6_count 44 = .ok (.ireturn, 1) := by decide +kernel
theorem dX6_count_45 : decode cX6_count 45 = .ok (.iload_n 1, 1) := by decide +kernel
theorem dX6_count_46 : decode cX6_count 46 = .ok (.bipush 15, 2) := by decide +kernel
theorem dX6_count_48 : decode cX6_count 48 = .ok (.if_icmp .ne 10, 3) := by decide +kernel
theorem dX6_count_51 : decode cX6_count 51 = .ok (.aload_n 0, 1) := by decide +kernel
theorem dX6_count_52 : decode cX6_count 52 = .ok (.getfield 109, 3) := by decide +kernel
theorem dX6_count_55 : decode cX6_count 55 = .ok (.goto 18, 3) := by decide +kernel
theorem dX6_count_58 : decode cX6_count 58 = .ok (.iload_n 1, 1) := by decide +kernel
theorem dX6_count_59 : decode cX6_count 59 = .ok (.bipush 16, 2) := by decide +kernel
theorem dX6_count_61 : decode cX6_count 61 = .ok (.if_icmp .ne 10, 3) := by decide +kernel
theorem dX6_count_64 : decode cX6_count 64 = .ok (.aload_n 0, 1) := by decide +kernel
theorem dX6_count_65 : decode cX6_count 65 = .ok (.getfield 34, 3) := by decide +kernel
theorem dX6_count_68 : decode cX6_count 68 = .ok (.goto 5, 3) := by decide +kernel
theorem dX6_count_71 : decode cX6_count 71 = .ok (.bipush (-2), 2) := by decide +kernel
end
section
theorem dX6_count_73 : decode cX6_count 73 = .ok (.ireturn, 1) := by decide +kernel
theorem dX6_gated_0 : decode cX6_gated 0 = .ok (.iconst 0, 1) := by decide +kernel
theorem dX6_gated_1 : decode cX6_gated 1 = .ok (.istore_n 1, 1) := by decide +kernel
theorem dX6_gated_2 : decode cX6_gated 2 = .ok (.iconst 0, 1) := by decide +kernel
theorem dX6_gated_3 : decode cX6_gated 3 = .ok (.istore_n 2, 1) := by decide +kernel
theorem dX6_gated_4 : decode cX6_gated 4 = .ok (.iload_n 2, 1) := by decide +kernel
theorem dX6_gated_5 : decode cX6_gated 5 = .ok (.aload_n 0, 1) := by decide +kernel
theorem dX6_gated_6 : decode cX6_gated 6 = .ok (.getfield 7, 3) := by decide +kernel
theorem dX6_gated_9 : decode cX6_gated 9 = .ok (.iconst 3, 1) := by decide +kernel
theorem dX6_gated_10 : decode cX6_gated 10 = .ok (.iaload, 1) := by decide +kernel
theorem dX6_gated_11 : decode cX6_gated 11 = .ok (.if_icmp .ge 54, 3) := by decide +kernel
theorem dX6_gated_14 : decode cX6_gated 14 = .ok (.iload_n 2, 1) := by decide +kernel
theorem dX6_gated_15 : decode cX6_gated 15 = .ok (.aload_n 0, 1) := by decide +kernel
theorem dX6_gated_16 : decode cX6_gated 16 = .ok (.getfield 7, 3) := by decide +kernel
theorem dX6_gated_19 : decode cX6_gated 19 = .ok (.bipush 14, 2) := by decide +kernel
theorem dX6_gated_21 : decode cX6_gated 21 = .ok (.iaload, 1) := by decide +kernel
theorem dX6_gated_22 : decode cX6_gated 22 = .ok (.if_icmp .ge 43, 3) := by decide +kernel
theorem dX6_gated_25 : decode cX6_gated 25 = .ok (.aload_n 0, 1) := by decide +kernel
theorem dX6_gated_26 : decode cX6_gated 26 = .ok (.getfield 7, 3) := by decide +kernel
theorem dX6_gated_29 : decode cX6_gated 29 = .ok (.bipush 21, 2) := by decide +kernel
theorem dX6_gated_31 : decode cX6_gated 31 = .ok (.iload_n 2, 1) := by decide +kernel
theorem dX6_gated_32 : decode cX6_gated 32 = .ok (.iadd, 1) := by decide +kernel
theorem dX6_gated_33 : decode cX6_gated 33 = .ok (.iaload, 1) := by decide +kernel
theorem dX6_gated_34 : decode cX6_gated 34 = .ok (.iconst 4, 1) := by decide +kernel
theorem dX6_gated_35 : decode cX6_gated 35 = .ok (.irem, 1) := by decide +kernel
theorem dX6_gated_36 : decode cX6_gated 36 = .ok (.istore_n 3, 1) := by decide +kernel
theorem dX6_gated_37 : decode cX6_gated 37 = .ok (.iload_n 1, 1) := by decide +kernel
theorem dX6_gated_38 : decode cX6_gated 38 = .ok (.iload_n 3, 1) := by decide +kernel
theorem dX6_gated_39 : decode cX6_gated 39 = .ok (.iconst 1, 1) := by decide +kernel
theorem dX6_gated_40 : decode cX6_gated 40 = .ok (.if_icmp .ne 7, 3) := by decide +kernel
theorem dX6_gated_43 : decode cX6_gated 43 = .ok (.iconst 1, 1) := by decide +kernel
theorem dX6_gated_44 : decode cX6_gated 44 = .ok (.goto 13, 3) := by decide +kernel
theorem dX6_gated_47 : decode cX6_gated 47 = .ok (.iload_n 3, 1) := by decide +kernel
theorem dX6_gated_48 : decode cX6_gated 48 = .ok (.iconst 2, 1) := by decide +kernel
theorem dX6_gated_49 : decode cX6_gated 49 = .ok (.if_icmp .ne 7, 3) := by decide +kernel
theorem dX6_gated_52 : decode cX6_gated 52 = .ok (.iconst (-1), 1) := by decide +kernel
theorem dX6_gated_53 : decode cX6_gated 53 = .ok (.goto 4, 3) := by decide +kernel
theorem dX6_gated_56 : decode cX6_gated 56 = .ok (.iconst 0, 1) := by decide +kernel
theorem dX6_gated_57 : decode cX6_gated 57 = .ok (.iadd, 1) := by decide +kernel
theorem dX6_gated_58 : decode cX6_gated 58 = .ok (.istore_n 1, 1) := by decide +kernel
theorem dX6_gated_59 : decode cX6_gated 59 = .ok (.iinc 2 1, 3) := by decide +kernel
theorem dX6_gated_62 : decode cX6_gated 62 = .ok (.goto (-58), 3) := by decide +kernel
theorem dX6_gated_65 : decode cX6_gated 65 = .ok (.iload_n 1, 1) := by decide +kernel
theorem dX6_gated_66 : decode cX6_gated 66 = .ok (.ireturn, 1) := by decide +kernel
theorem dX6_period_0 : decode cX6_period 0 = .ok (.aload_n 0, 1) := by decide +kernel
theorem dX6_period_1 : decode cX6_period 1 = .ok (.getfield 7, 3) := by decide +kernel
theorem dX6_period_4 : decode cX6_period 4 = .ok (.bipush 19, 2) := by decide +kernel
theorem dX6_period_6 : decode cX6_period 6 = .ok (.iaload, 1) := by decide +kernel
theorem dX6_period_7 : decode cX6_period 7 = .ok (.bipush (-6), 2) := by decide +kernel
theorem dX6_period_9 : decode cX6_period 9 = .ok (.if_icmp .eq 38, 3) := by decide +kernel
theorem dX6_period_12 : decode cX6_period 12 = .ok (.aload_n 0, 1) := by decide +kernel
theorem dX6_period_13 : decode cX6_period 13 = .ok (.getfield 7, 3) := by decide +kernel
theorem dX6_period_16 : decode cX6_period 16 = .ok (.bipush 20, 2) := by decide +kernel
theorem dX6_period_18 : decode cX6_period 18 = .ok (.iaload, 1) := by decide +kernel
theorem dX6_period_19 : decode cX6_period 19 = .ok (.aload_n 0, 1) := by decide +kernel
theorem dX6_period_20 : decode cX6_period 20 = .ok (.getfield 7, 3) := by decide +kernel
theorem dX6_period_23 : decode cX6_period 23 = .ok (.bipush 9, 2) := by decide +kernel
theorem dX6_period_25 : decode cX6_period 25 = .ok (.iaload, 1) := by decide +kernel
theorem dX6_period_26 : decode cX6_period 26 = .ok (.if_icmp .ne 21, 3) := by decide +kernel
theorem dX6_period_29 : decode cX6_period 29 = .ok (.aload_n 0, 1) := by decide +kernel
theorem dX6_period_30 : decode cX6_period 30 = .ok (.getfield 7, 3) := by decide +kernel
theorem dX6_period_33 : decode cX6_period 33 = .ok (.bipush 18, 2) := by decide +kernel
theorem dX6_period_35 : decode cX6_period 35 = .ok (.iaload, 1) := by decide +kernel
theorem dX6_period_36 : decode cX6_period 36 = .ok (.aload_n 0, 1) := by decide +kernel
theorem dX6_period_37 : decode cX6_period 37 = .ok (.getfield 7, 3) := by decide +kernel
theorem dX6_period_40 : decode cX6_period 40 = .ok (.bipush 19, 2) := by decide +kernel
theorem dX6_period_42 : decode cX6_period 42 = .ok (.iaload, 1) := by decide +kernel
theorem dX6_period_43 : decode cX6_period 43 = .ok (.isub, 1) := by decide +kernel
theorem dX6_period_44 : decode cX6_period 44 = .ok (.goto 5, 3) := by decide +kernel
theorem dX6_period_47 : decode cX6_period 47 = .ok (.bipush (-6), 2) := by decide +kernel
theorem dX6_period_49 : decode cX6_period 49 = .ok (.ireturn, 1) := by decide +kernel
set_option maxRecDepth 20000 in
theorem ggX6_speed_X6_gated : GoodIn wsX6_speed wsX6_gated := goodIn_r _ [5, 6, 11, 12, 13, 14, 15, 16, 17, 18, 19, 20, 21, 22, 23] (by decide +kernel) (by decide +kernel)
set_option maxRecDepth 20000 in
theorem gX6_speed_X6_gated : GoodIn wsX6_speed (wsV RX6 112 RX6 yX6_gated wsX6_gated) := goodIn_app (goodIn_of _ (by decide +kernel)) ggX6_speed_X6_gated
set_option maxRecDepth 20000 in
theorem ggX6_speed_X6_period : GoodIn wsX6_speed wsX6_period := goodIn_r _ [10, 6, 11, 12, 13, 14, 15, 16, 17, 18, 19, 20, 21, 22, 23] (by decide +kernel) (by decide +kernel)
set_option maxRecDepth 20000 in
theorem gX6_speed_X6_period : GoodIn wsX6_speed (wsV RX6 115 RX6 yX6_period wsX6_period) := goodIn_app (goodIn_of _ (by decide +kernel)) ggX6_speed_X6_period
theorem dX6_speed_0 : decode cX6_speed 0 = .ok (.iload_n 1, 1) := by decide +kernel
theorem dX6_speed_1 : decode cX6_speed 1 = .ok (.ifCond .ne 14, 3) := by decide +kernel
theorem dX6_speed_4 : decode cX6_speed 4 = .ok (.aload_n 0, 1) := by decide +kernel
theorem dX6_speed_5 : decode cX6_speed 5 = .ok (.invokevirtual 112, 3) := by decide +kernel
theorem dX6_speed_8 : decode cX6_speed 8 = .ok (.sipush 1000, 3) := by decide +kernel
theorem dX6_speed_11 : decode cX6_speed 11 = .ok (.iadd, 1) := by decide +kernel
theorem dX6_speed_12 : decode cX6_speed 12 = .ok (.goto 17, 3) := by decide +kernel
theorem dX6_speed_15 : decode cX6_speed 15 = .ok (.iload_n 1, 1) := by decide +kernel
theorem dX6_speed_16 : decode cX6_speed 16 = .ok (.iconst 1, 1) := by decide +kernel
theorem dX6_speed_17 : decode cX6_speed 17 = .ok (.if_icmp .ne 10, 3) := by decide +kernel
theorem dX6_speed_20 : decode cX6_speed 20 = .ok (.aload_n 0, 1) := by decide +kernel
theorem dX6_speed_21 : decode cX6_speed 21 = .ok (.invokevirtual 115, 3) := by decide +kernel
theorem dX6_speed_24 : decode cX6_speed 24 = .ok (.goto 5, 3) := by decide +kernel
theorem dX6_speed_27 : decode cX6_speed 27 = .ok (.bipush (-2), 2) := by decide +kernel
theorem dX6_speed_29 : decode cX6_speed 29 = .ok (.ireturn, 1) := by decide +kernel
set_option maxRecDepth 20000 in
theorem ggX6_rate_X6_period : GoodIn wsX6_rate wsX6_period := goodIn_r _ [7, 1, 20, 21, 22, 23, 24, 25, 26, 27, 28, 29, 30, 31, 32] (by decide +kernel) (by decide +kernel)
set_option maxRecDepth 20000 in
theorem gX6_rate_X6_period : GoodIn wsX6_rate (wsV RX6 115 RX6 yX6_period wsX6_period) := goodIn_app (goodIn_of _ (by decide +kernel)) ggX6_rate_X6_period
set_option maxRecDepth 20000 in
theorem ggX6_rate_Jxe99ae_doubleToLongBits_ccdee : GoodIn wsX6_rate wsJxe99ae_doubleToLongBits_ccdee := goodIn_r _ [11, 12, 13, 14, 15, 16, 17, 18, 10, 19] (by decide +kernel) (by decide +kernel)
set_option maxRecDepth 20000 in
theorem gX6_rate_Jxe99ae_doubleToLongBits_ccdee : GoodIn wsX6_rate (va_wsS RX6 120 yJxe99ae_doubleToLongBits_ccdee wsJxe99ae_doubleToLongBits_ccdee) := goodIn_app (goodIn_of _ (by decide +kernel)) ggX6_rate_Jxe99ae_doubleToLongBits_ccdee
theorem dX6_rate_0 : decode cX6_rate 0 = .ok (.aload_n 0, 1) := by decide +kernel
theorem dX6_rate_1 : decode cX6_rate 1 = .ok (.invokevirtual 115, 3) := by decide +kernel
theorem dX6_rate_4 : decode cX6_rate 4 = .ok (.bipush (-6), 2) := by decide +kernel
theorem dX6_rate_6 : decode cX6_rate 6 = .ok (.if_icmp .ne 5, 3) := by decide +kernel
theorem dX6_rate_9 : decode cX6_rate 9 = .ok (.lconst 0, 1) := by decide +kernel
theorem dX6_rate_10 : decode cX6_rate 10 = .ok (.lreturn, 1) := by decide +kernel
theorem dX6_rate_11 : decode cX6_rate 11 = .ok (.aload_n 0, 1) := by decide +kernel
theorem dX6_rate_12 : decode cX6_rate 12 = .ok (.getfield 7, 3) := by decide +kernel
theorem dX6_rate_15 : decode cX6_rate 15 = .ok (.bipush 9, 2) := by decide +kernel
theorem dX6_rate_17 : decode cX6_rate 17 = .ok (.iaload, 1) := by decide +kernel
theorem dX6_rate_18 : decode cX6_rate 18 = .ok (.iconst 1, 1) := by decide +kernel
theorem dX6_rate_19 : decode cX6_rate 19 = .ok (.if_icmp .ne 7, 3) := by decide +kernel
theorem dX6_rate_22 : decode cX6_rate 22 = .ok (.dconst 1, 1) := by decide +kernel
theorem dX6_rate_23 : decode cX6_rate 23 = .ok (.goto 6, 3) := by decide +kernel
theorem dX6_rate_26 : decode cX6_rate 26 = .ok (.ldc2_w 118, 3) := by decide +kernel
theorem dX6_rate_29 : decode cX6_rate 29 = .ok (.dstore_n 1, 1) := by decide +kernel
theorem dX6_rate_30 : decode cX6_rate 30 = .ok (.dload_n 1, 1) := by decide +kernel
theorem dX6_rate_31 : decode cX6_rate 31 = .ok (.aload_n 0, 1) := by decide +kernel
theorem dX6_rate_32 : decode cX6_rate 32 = .ok (.invokevirtual 115, 3) := by decide +kernel
theorem dX6_rate_35 : decode cX6_rate 35 = .ok (.aload_n 0, 1) := by decide +kernel
theorem dX6_rate_36 : decode cX6_rate 36 = .ok (.getfield 7, 3) := by decide +kernel
theorem dX6_rate_39 : decode cX6_rate 39 = .ok (.iconst 0, 1) := by decide +kernel
theorem dX6_rate_40 : decode cX6_rate 40 = .ok (.iaload, 1) := by decide +kernel
theorem dX6_rate_41 : decode cX6_rate 41 = .ok (.imul, 1) := by decide +kernel
theorem dX6_rate_42 : decode cX6_rate 42 = .ok (.i2d, 1) := by decide +kernel
theorem dX6_rate_43 : decode cX6_rate 43 = .ok (.ddiv, 1) := by decide +kernel
theorem dX6_rate_44 : decode cX6_rate 44 = .ok (.invokestatic 120, 3) := by decide +kernel
theorem dX6_rate_47 : decode cX6_rate 47 = .ok (.lreturn, 1) := by decide +kernel
set_option maxRecDepth 20000 in
theorem ggX6_noise_Jxf58ca_floatToIntBits_5c35a : GoodIn wsX6_noise wsJxf58ca_floatToIntBits_5c35a := goodIn_r _ [5, 6, 7, 8, 9, 10, 11, 12, 4, 13] (by decide +kernel) (by decide +kernel)
set_option maxRecDepth 20000 in
theorem gX6_noise_Jxf58ca_floatToIntBits_5c35a : GoodIn wsX6_noise (va_wsS RX6 126 yJxf58ca_floatToIntBits_5c35a wsJxf58ca_floatToIntBits_5c35a) := goodIn_app (goodIn_of _ (by decide +kernel)) ggX6_noise_Jxf58ca_floatToIntBits_5c35a
theorem dX6_noise_0 : decode cX6_noise 0 = .ok (.aload_n 0, 1) := by decide +kernel
theorem dX6_noise_1 : decode cX6_noise 1 = .ok (.getfield 7, 3) := by decide +kernel
theorem dX6_noise_4 : decode cX6_noise 4 = .ok (.bipush 10, 2) := by decide +kernel
theorem dX6_noise_6 : decode cX6_noise 6 = .ok (.iaload, 1) := by decide +kernel
theorem dX6_noise_7 : decode cX6_noise 7 = .ok (.aload_n 0, 1) := by decide +kernel
theorem dX6_noise_8 : decode cX6_noise 8 = .ok (.getfield 7, 3) := by decide +kernel
theorem dX6_noise_11 : decode cX6_noise 11 = .ok (.bipush 11, 2) := by decide +kernel
theorem dX6_noise_13 : decode cX6_noise 13 = .ok (.iaload, 1) := by decide +kernel
theorem dX6_noise_14 : decode cX6_noise 14 = .ok (.iadd, 1) := by decide +kernel
theorem dX6_noise_15 : decode cX6_noise 15 = .ok (.aload_n 0, 1) := by decide +kernel
theorem dX6_noise_16 : decode cX6_noise 16 = .ok (.getfield 7, 3) := by decide +kernel
theorem dX6_noise_19 : decode cX6_noise 19 = .ok (.bipush 12, 2) := by decide +kernel
theorem dX6_noise_21 : decode cX6_noise 21 = .ok (.iaload, 1) := by decide +kernel
theorem dX6_noise_22 : decode cX6_noise 22 = .ok (.iadd, 1) := by decide +kernel
theorem dX6_noise_23 : decode cX6_noise 23 = .ok (.istore_n 1, 1) := by decide +kernel
theorem dX6_noise_24 : decode cX6_noise 24 = .ok (.iload_n 1, 1) := by decide +kernel
theorem dX6_noise_25 : decode cX6_noise 25 = .ok (.ifCond .ne 8, 3) := by decide +kernel
theorem dX6_noise_28 : decode cX6_noise 28 = .ok (.bipush (-6), 2) := by decide +kernel
theorem dX6_noise_30 : decode cX6_noise 30 = .ok (.goto 17, 3) := by decide +kernel
theorem dX6_noise_33 : decode cX6_noise 33 = .ok (.aload_n 0, 1) := by decide +kernel
theorem dX6_noise_34 : decode cX6_noise 34 = .ok (.getfield 7, 3) := by decide +kernel
theorem dX6_noise_37 : decode cX6_noise 37 = .ok (.bipush 12, 2) := by decide +kernel
theorem dX6_noise_39 : decode cX6_noise 39 = .ok (.iaload, 1) := by decide +kernel
theorem dX6_noise_40 : decode cX6_noise 40 = .ok (.i2f, 1) := by decide +kernel
theorem dX6_noise_41 : decode cX6_noise 41 = .ok (.iload_n 1, 1) := by decide +kernel
theorem dX6_noise_42 : decode cX6_noise 42 = .ok (.i2f, 1) := by decide +kernel
theorem dX6_noise_43 : decode cX6_noise 43 = .ok (.fdiv, 1) := by decide +kernel
theorem dX6_noise_44 : decode cX6_noise 44 = .ok (.invokestatic 126, 3) := by decide +kernel
theorem dX6_noise_47 : decode cX6_noise 47 = .ok (.ireturn, 1) := by decide +kernel
set_option maxRecDepth 20000 in
theorem ggX6_replayed_X6_copy : GoodIn wsX6_replayed wsX6_copy := goodIn_r _ [6] (by decide +kernel) (by decide +kernel)
set_option maxRecDepth 20000 in
theorem gX6_replayed_X6_copy : GoodIn wsX6_replayed (va_wsS RX6 85 yX6_copy wsX6_copy) := goodIn_app (goodIn_of _ (by decide +kernel)) ggX6_replayed_X6_copy
set_option maxRecDepth 20000 in
theorem ggX6_replayed_X6_beginsAnew : GoodIn wsX6_replayed wsX6_beginsAnew := goodIn_r _ [10, 1, 30, 31, 32, 33, 34, 35, 36, 37, 38, 39, 40, 41, 42] (by decide +kernel) (by decide +kernel)
set_option maxRecDepth 20000 in
theorem gX6_replayed_X6_beginsAnew : GoodIn wsX6_replayed (wsV RX6 31 RX6 yX6_beginsAnew wsX6_beginsAnew) := goodIn_app (goodIn_of _ (by decide +kernel)) ggX6_replayed_X6_beginsAnew
set_option maxRecDepth 20000 in
theorem ggX6_replayed_X6_ticks : GoodIn wsX6_replayed wsX6_ticks := goodIn_r _ [14, 1, 15, 16, 17, 5, 18, 19, 20, 21, 22, 23, 24, 25, 26, 27, 28, 29, 30, 31, 32, 33, 34, 35, 36, 37, 38, 39, 40, 41, 42] (by decide +kernel) (by decide +kernel)
set_option maxRecDepth 20000 in
theorem gX6_replayed_X6_ticks : GoodIn wsX6_replayed (wsV RX6 77 RX6 yX6_ticks wsX6_ticks) := goodIn_app (goodIn_of _ (by decide +kernel)) ggX6_replayed_X6_ticks
theorem dX6_replayed_0 : decode cX6_replayed 0 = .ok (.aload_n 0, 1) := by decide +kernel
theorem dX6_replayed_1 : decode cX6_replayed 1 = .ok (.getfield 7, 3) := by decide +kernel
theorem dX6_replayed_4 : decode cX6_replayed 4 = .ok (.aload_n 0, 1) := by decide +kernel
theorem dX6_replayed_5 : decode cX6_replayed 5 = .ok (.getfield 16, 3) := by decide +kernel
theorem dX6_replayed_8 : decode cX6_replayed 8 = .ok (.invokestatic 85, 3) := by decide +kernel
theorem dX6_replayed_11 : decode cX6_replayed 11 = .ok (.aload_n 0, 1) := by decide +kernel
theorem dX6_replayed_12 : decode cX6_replayed 12 = .ok (.invokevirtual 31, 3) := by decide +kernel
theorem dX6_replayed_15 : decode cX6_replayed 15 = .ok (.aload_n 0, 1) := by decide +kernel
theorem dX6_replayed_16 : decode cX6_replayed 16 = .ok (.getfield 7, 3) := by decide +kernel
theorem dX6_replayed_19 : decode cX6_replayed 19 = .ok (.iconst 2, 1) := by decide +kernel
theorem dX6_replayed_20 : decode cX6_replayed 20 = .ok (.iload_n 1, 1) := by decide +kernel
theorem dX6_replayed_21 : decode cX6_replayed 21 = .ok (.iastore, 1) := by decide +kernel
theorem dX6_replayed_22 : decode cX6_replayed 22 = .ok (.aload_n 0, 1) := by decide +kernel
theorem dX6_replayed_23 : decode cX6_replayed 23 = .ok (.getfield 16, 3) := by decide +kernel
theorem dX6_replayed_26 : decode cX6_replayed 26 = .ok (.bipush 14, 2) := by decide +kernel
theorem dX6_replayed_28 : decode cX6_replayed 28 = .ok (.iaload, 1) := by decide +kernel
theorem dX6_replayed_29 : decode cX6_replayed 29 = .ok (.iconst 1, 1) := by decide +kernel
theorem dX6_replayed_30 : decode cX6_replayed 30 = .ok (.isub, 1) := by decide +kernel
theorem dX6_replayed_31 : decode cX6_replayed 31 = .ok (.istore_n 3, 1) := by decide +kernel
theorem dX6_replayed_32 : decode cX6_replayed 32 = .ok (.iload_n 3, 1) := by decide +kernel
theorem dX6_replayed_33 : decode cX6_replayed 33 = .ok (.ifCond .lt 40, 3) := by decide +kernel
theorem dX6_replayed_36 : decode cX6_replayed 36 = .ok (.aload_n 0, 1) := by decide +kernel
theorem dX6_replayed_37 : decode cX6_replayed 37 = .ok (.aload_n 0, 1) := by decide +kernel
theorem dX6_replayed_38 : decode cX6_replayed 38 = .ok (.getfield 16, 3) := by decide +kernel
theorem dX6_replayed_41 : decode cX6_replayed 41 = .ok (.bipush 21, 2) := by decide +kernel
theorem dX6_replayed_43 : decode cX6_replayed 43 = .ok (.iload_n 3, 1) := by decide +kernel
theorem dX6_replayed_44 : decode cX6_replayed 44 = .ok (.iadd, 1) := by decide +kernel
theorem dX6_replayed_45 : decode cX6_replayed 45 = .ok (.iaload, 1) := by decide +kernel
theorem dX6_replayed_46 : decode cX6_replayed 46 = .ok (.bipush 8, 2) := by decide +kernel
theorem dX6_replayed_48 : decode cX6_replayed 48 = .ok (.idiv, 1) := by decide +kernel
theorem dX6_replayed_49 : decode cX6_replayed 49 = .ok (.aload_n 0, 1) := by decide +kernel
theorem dX6_replayed_50 : decode cX6_replayed 50 = .ok (.getfield 16, 3) := by decide +kernel
theorem dX6_replayed_53 : decode cX6_replayed 53 = .ok (.bipush 21, 2) := by decide +kernel
theorem dX6_replayed_55 : decode cX6_replayed 55 = .ok (.iload_n 3, 1) := by decide +kernel
theorem dX6_replayed_56 : decode cX6_replayed 56 = .ok (.iadd, 1) := by decide +kernel
theorem dX6_replayed_57 : decode cX6_replayed 57 = .ok (.iaload, 1) := by decide +kernel
theorem dX6_replayed_58 : decode cX6_replayed 58 = .ok (.iconst 4, 1) := by decide +kernel
theorem dX6_replayed_59 : decode cX6_replayed 59 = .ok (.idiv, 1) := by decide +kernel
theorem dX6_replayed_60 : decode cX6_replayed 60 = .ok (.iconst 2, 1) := by decide +kernel
theorem dX6_replayed_61 : decode cX6_replayed 61 = .ok (.irem, 1) := by decide +kernel
theorem dX6_replayed_62 : decode cX6_replayed 62 = .ok (.invokevirtual 77, 3) := by decide +kernel
theorem dX6_replayed_65 : decode cX6_replayed 65 = .ok (.istore 4, 2) := by decide +kernel
theorem dX6_replayed_67 : decode cX6_replayed 67 = .ok (.iinc 3 (-1), 3) := by decide +kernel
theorem dX6_replayed_70 : decode cX6_replayed 70 = .ok (.goto (-38), 3) := by decide +kernel
theorem dX6_replayed_73 : decode cX6_replayed 73 = .ok (.iload_n 2, 1) := by decide +kernel
theorem dX6_replayed_74 : decode cX6_replayed 74 = .ok (.iconst 3, 1) := by decide +kernel
theorem dX6_replayed_75 : decode cX6_replayed 75 = .ok (.if_icmp .ne 13, 3) := by decide +kernel
theorem dX6_replayed_78 : decode cX6_replayed 78 = .ok (.aload_n 0, 1) := by decide +kernel
theorem dX6_replayed_79 : decode cX6_replayed 79 = .ok (.getfield 7, 3) := by decide +kernel
theorem dX6_replayed_82 : decode cX6_replayed 82 = .ok (.bipush 6, 2) := by decide +kernel
theorem dX6_replayed_84 : decode cX6_replayed 84 = .ok (.iaload, 1) := by decide +kernel
theorem dX6_replayed_85 : decode cX6_replayed 85 = .ok (.goto 12, 3) := by decide +kernel
theorem dX6_replayed_88 : decode cX6_replayed 88 = .ok (.aload_n 0, 1) := by decide +kernel
theorem dX6_replayed_89 : decode cX6_replayed 89 = .ok (.getfield 7, 3) := by decide +kernel
theorem dX6_replayed_92 : decode cX6_replayed 92 = .ok (.bipush 10, 2) := by decide +kernel
theorem dX6_replayed_94 : decode cX6_replayed 94 = .ok (.iload_n 2, 1) := by decide +kernel
theorem dX6_replayed_95 : decode cX6_replayed 95 = .ok (.iadd, 1) := by decide +kernel
theorem dX6_replayed_96 : decode cX6_replayed 96 = .ok (.iaload, 1) := by decide +kernel
theorem dX6_replayed_97 : decode cX6_replayed 97 = .ok (.istore_n 3, 1) := by decide +kernel
theorem dX6_replayed_98 : decode cX6_replayed 98 = .ok (.aload_n 0, 1) := by decide +kernel
theorem dX6_replayed_99 : decode cX6_replayed 99 = .ok (.getfield 16, 3) := by decide +kernel
theorem dX6_replayed_102 : decode cX6_replayed 102 = .ok (.aload_n 0, 1) := by decide +kernel
theorem dX6_replayed_103 : decode cX6_replayed 103 = .ok (.getfield 7, 3) := by decide +kernel
theorem dX6_replayed_106 : decode cX6_replayed 106 = .ok (.invokestatic 85, 3) := by decide +kernel
theorem dX6_replayed_109 : decode cX6_replayed 109 = .ok (.iload_n 3, 1) := by decide +kernel
theorem dX6_replayed_110 : decode cX6_replayed 110 = .ok (.ireturn, 1) := by decide +kernel
set_option maxRecDepth 20000 in
theorem ggX6_replay_X6_in : GoodIn wsX6_replay wsX6_in := goodIn_r _ [6] (by decide +kernel) (by decide +kernel)
set_option maxRecDepth 20000 in
theorem gX6_replay_X6_in : GoodIn wsX6_replay (va_wsS RX6 56 yX6_in wsX6_in) := goodIn_app (goodIn_of _ (by decide +kernel)) ggX6_replay_X6_in
set_option maxRecDepth 20000 in
theorem ggX6_replay_X6_replayed : GoodIn wsX6_replay wsX6_replayed := goodIn_r _ [10, 11, 12, 13, 14, 5, 15, 16, 17, 18, 19, 20, 21, 22, 23, 24, 25, 26, 27, 28, 29, 30, 31, 32, 33, 34, 35, 36, 37, 38, 39, 40, 41, 42, 43, 44, 45, 46, 47, 48, 49, 50, 51] (by decide +kernel) (by decide +kernel)
set_option maxRecDepth 20000 in
theorem gX6_replay_X6_replayed : GoodIn wsX6_replay (wsV RX6 132 RX6 yX6_replayed wsX6_replayed) := goodIn_app (goodIn_of _ (by decide +kernel)) ggX6_replay_X6_replayed
theorem dX6_replay_0 : decode cX6_replay 0 = .ok (.iload_n 1, 1) := by decide +kernel
theorem dX6_replay_1 : decode cX6_replay 1 = .ok (.i2l, 1) := by decide +kernel
theorem dX6_replay_2 : decode cX6_replay 2 = .ok (.lconst 1, 1) := by decide +kernel
theorem dX6_replay_3 : decode cX6_replay 3 = .ok (.ldc2_w 64, 3) := by decide +kernel
theorem dX6_replay_6 : decode cX6_replay 6 = .ok (.invokestatic 56, 3) := by decide +kernel
theorem dX6_replay_9 : decode cX6_replay 9 = .ok (.ifCond .eq 24, 3) := by decide +kernel
theorem dX6_replay_12 : decode cX6_replay 12 = .ok (.iload_n 2, 1) := by decide +kernel
theorem dX6_replay_13 : decode cX6_replay 13 = .ok (.i2l, 1) := by decide +kernel
theorem dX6_replay_14 : decode cX6_replay 14 = .ok (.lconst 0, 1) := by decide +kernel
theorem dX6_replay_15 : decode cX6_replay 15 = .ok (.ldc2_w 74, 3) := by decide +kernel
theorem dX6_replay_18 : decode cX6_replay 18 = .ok (.invokestatic 56, 3) := by decide +kernel
theorem dX6_replay_21 : decode cX6_replay 21 = .ok (.ifCond .eq 12, 3) := by decide +kernel
theorem dX6_replay_24 : decode cX6_replay 24 = .ok (.aload_n 0, 1) := by decide +kernel
theorem dX6_replay_25 : decode cX6_replay 25 = .ok (.iload_n 1, 1) := by decide +kernel
theorem dX6_replay_26 : decode cX6_replay 26 = .ok (.iload_n 2, 1) := by decide +kernel
theorem dX6_replay_27 : decode cX6_replay 27 = .ok (.invokevirtual 132, 3) := by decide +kernel
theorem dX6_replay_30 : decode cX6_replay 30 = .ok (.goto 5, 3) := by decide +kernel
theorem dX6_replay_33 : decode cX6_replay 33 = .ok (.bipush (-2), 2) := by decide +kernel
theorem dX6_replay_35 : decode cX6_replay 35 = .ok (.ireturn, 1) := by decide +kernel
set_option maxRecDepth 20000 in
theorem ggX6_bestFilter_X6_in : GoodIn wsX6_bestFilter wsX6_in := goodIn_r _ [4] (by decide +kernel) (by decide +kernel)
set_option maxRecDepth 20000 in
theorem gX6_bestFilter_X6_in : GoodIn wsX6_bestFilter (va_wsS RX6 56 yX6_in wsX6_in) := goodIn_app (goodIn_of _ (by decide +kernel)) ggX6_bestFilter_X6_in
set_option maxRecDepth 20000 in
theorem ggX6_bestFilter_X6_replayed : GoodIn wsX6_bestFilter wsX6_replayed := goodIn_r _ [8, 9, 10, 11, 12, 3, 13, 14, 15, 16, 17, 18, 19, 20, 21, 22, 23, 24, 25, 26, 27, 28, 29, 30, 31, 32, 33, 34, 35, 36, 37, 38, 39, 40, 41, 42, 43, 44, 45, 46, 47, 48, 49] (by decide +kernel) (by decide +kernel)
set_option maxRecDepth 20000 in
theorem gX6_bestFilter_X6_replayed : GoodIn wsX6_bestFilter (wsV RX6 132 RX6 yX6_replayed wsX6_replayed) := goodIn_app (goodIn_of _ (by decide +kernel)) ggX6_bestFilter_X6_replayed
theorem dX6_bestFilter_0 : decode cX6_bestFilter 0 = .ok (.iload_n 1, 1) := by decide +kernel
theorem dX6_bestFilter_1 : decode cX6_bestFilter 1 = .ok (.i2l, 1) := by decide +kernel
theorem dX6_bestFilter_2 : decode cX6_bestFilter 2 = .ok (.lconst 0, 1) := by decide +kernel
theorem dX6_bestFilter_3 : decode cX6_bestFilter 3 = .ok (.lconst 1, 1) := by decide +kernel
theorem dX6_bestFilter_4 : decode cX6_bestFilter 4 = .ok (.invokestatic 56, 3) := by decide +kernel
theorem dX6_bestFilter_7 : decode cX6_bestFilter 7 = .ok (.ifCond .ne 6, 3) := by decide +kernel
theorem dX6_bestFilter_10 : decode cX6_bestFilter 10 = .ok (.bipush (-2), 2) := by decide +kernel
theorem dX6_bestFilter_12 : decode cX6_bestFilter 12 = .ok (.ireturn, 1) := by decide +kernel
theorem dX6_bestFilter_13 : decode cX6_bestFilter 13 = .ok (.iconst 1, 1) := by decide +kernel
theorem dX6_bestFilter_14 : decode cX6_bestFilter 14 = .ok (.istore_n 2, 1) := by decide +kernel
theorem dX6_bestFilter_15 : decode cX6_bestFilter 15 = .ok (.aload_n 0, 1) := by decide +kernel
theorem dX6_bestFilter_16 : decode cX6_bestFilter 16 = .ok (.iconst 1, 1) := by decide +kernel
theorem dX6_bestFilter_17 : decode cX6_bestFilter 17 = .ok (.iconst 2, 1) := by decide +kernel
theorem dX6_bestFilter_18 : decode cX6_bestFilter 18 = .ok (.invokevirtual 132, 3) := by decide +kernel
theorem dX6_bestFilter_21 : decode cX6_bestFilter 21 = .ok (.istore_n 3, 1) := by decide +kernel
theorem dX6_bestFilter_22 : decode cX6_bestFilter 22 = .ok (.iconst 2, 1) := by decide +kernel
theorem dX6_bestFilter_23 : decode cX6_bestFilter 23 = .ok (.istore 4, 2) := by decide +kernel
theorem dX6_bestFilter_25 : decode cX6_bestFilter 25 = .ok (.iload 4, 2) := by decide +kernel
theorem dX6_bestFilter_27 : decode cX6_bestFilter 27 = .ok (.bipush 10, 2) := by decide +kernel
theorem dX6_bestFilter_29 : decode cX6_bestFilter 29 = .ok (.if_icmp .ge 44, 3) := by decide +kernel
theorem dX6_bestFilter_32 : decode cX6_bestFilter 32 = .ok (.aload_n 0, 1) := by decide +kernel
theorem dX6_bestFilter_33 : decode cX6_bestFilter 33 = .ok (.iload 4, 2) := by decide +kernel
theorem dX6_bestFilter_35 : decode cX6_bestFilter 35 = .ok (.iconst 2, 1) := by decide +kernel
theorem dX6_bestFilter_36 : decode cX6_bestFilter 36 = .ok (.invokevirtual 132, 3) := by decide +kernel
theorem dX6_bestFilter_39 : decode cX6_bestFilter 39 = .ok (.istore 5, 2) := by decide +kernel
theorem dX6_bestFilter_41 : decode cX6_bestFilter 41 = .ok (.iload 5, 2) := by decide +kernel
theorem dX6_bestFilter_43 : decode cX6_bestFilter 43 = .ok (.iload_n 3, 1) := by decide +kernel
theorem dX6_bestFilter_44 : decode cX6_bestFilter 44 = .ok (.if_icmp .ge 8, 3) := by decide +kernel
theorem dX6_bestFilter_47 : decode cX6_bestFilter 47 = .ok (.iload 4, 2) := by decide +kernel
theorem dX6_bestFilter_49 : decode cX6_bestFilter 49 = .ok (.goto 4, 3) := by decide +kernel
theorem dX6_bestFilter_52 : decode cX6_bestFilter 52 = .ok (.iload_n 2, 1) := by decide +kernel
theorem dX6_bestFilter_53 : decode cX6_bestFilter 53 = .ok (.istore_n 2, 1) := by decide +kernel
theorem dX6_bestFilter_54 : decode cX6_bestFilter 54 = .ok (.iload 5, 2) := by decide +kernel
theorem dX6_bestFilter_56 : decode cX6_bestFilter 56 = .ok (.iload_n 3, 1) := by decide +kernel
theorem dX6_bestFilter_57 : decode cX6_bestFilter 57 = .ok (.if_icmp .ge 8, 3) := by decide +kernel
theorem dX6_bestFilter_60 : decode cX6_bestFilter 60 = .ok (.iload 5, 2) := by decide +kernel
theorem dX6_bestFilter_62 : decode cX6_bestFilter 62 = .ok (.goto 4, 3) := by decide +kernel
theorem dX6_bestFilter_65 : decode cX6_bestFilter 65 = .ok (.iload_n 3, 1) := by decide +kernel
theorem dX6_bestFilter_66 : decode cX6_bestFilter 66 = .ok (.istore_n 3, 1) := by decide +kernel
theorem dX6_bestFilter_67 : decode cX6_bestFilter 67 = .ok (.iinc 4 1, 3) := by decide +kernel
theorem dX6_bestFilter_70 : decode cX6_bestFilter 70 = .ok (.goto (-45), 3) := by decide +kernel
theorem dX6_bestFilter_73 : decode cX6_bestFilter 73 = .ok (.iload_n 1, 1) := by decide +kernel
theorem dX6_bestFilter_74 : decode cX6_bestFilter 74 = .ok (.ifCond .ne 7, 3) := by decide +kernel
theorem dX6_bestFilter_77 : decode cX6_bestFilter 77 = .ok (.iload_n 2, 1) := by decide +kernel
theorem dX6_bestFilter_78 : decode cX6_bestFilter 78 = .ok (.goto 4, 3) := by decide +kernel
theorem dX6_bestFilter_81 : decode cX6_bestFilter 81 = .ok (.iload_n 3, 1) := by decide +kernel
theorem dX6_bestFilter_82 : decode cX6_bestFilter 82 = .ok (.ireturn, 1) := by decide +kernel
set_option maxRecDepth 20000 in
theorem ggX6_would_X6_in : GoodIn wsX6_would wsX6_in := goodIn_r _ [5] (by decide +kernel) (by decide +kernel)
set_option maxRecDepth 20000 in
theorem gX6_would_X6_in : GoodIn wsX6_would (va_wsS RX6 56 yX6_in wsX6_in) := goodIn_app (goodIn_of _ (by decide +kernel)) ggX6_would_X6_in
set_option maxRecDepth 20000 in
theorem ggX6_would_X6_deedOf : GoodIn wsX6_would wsX6_deedOf := goodIn_r _ [9, 10, 11, 12, 4, 13, 14, 15, 16, 17, 18, 19, 20, 21, 22, 23, 24, 25, 26] (by decide +kernel) (by decide +kernel)
set_option maxRecDepth 20000 in
theorem gX6_would_X6_deedOf : GoodIn wsX6_would (wsV RX6 42 RX6 yX6_deedOf wsX6_deedOf) := goodIn_app (goodIn_of _ (by decide +kernel)) ggX6_would_X6_deedOf
theorem dX6_would_0 : decode cX6_would 0 = .ok (.iload_n 1, 1) := by decide +kernel
theorem dX6_would_1 : decode cX6_would 1 = .ok (.i2l, 1) := by decide +kernel
theorem dX6_would_2 : decode cX6_would 2 = .ok (.lconst 0, 1) := by decide +kernel
theorem dX6_would_3 : decode cX6_would 3 = .ok (.ldc2_w 74, 3) := by decide +kernel
theorem dX6_would_6 : decode cX6_would 6 = .ok (.invokestatic 56, 3) := by decide +kernel
theorem dX6_would_9 : decode cX6_would 9 = .ok (.ifCond .eq 11, 3) := by decide +kernel
theorem dX6_would_12 : decode cX6_would 12 = .ok (.aload_n 0, 1) := by decide +kernel
theorem dX6_would_13 : decode cX6_would 13 = .ok (.iload_n 1, 1) := by decide +kernel
theorem dX6_would_14 : decode cX6_would 14 = .ok (.invokevirtual 42, 3) := by decide +kernel
theorem dX6_would_17 : decode cX6_would 17 = .ok (.goto 5, 3) := by decide +kernel
theorem dX6_would_20 : decode cX6_would 20 = .ok (.bipush (-2), 2) := by decide +kernel
theorem dX6_would_22 : decode cX6_would 22 = .ok (.ireturn, 1) := by decide +kernel
set_option maxRecDepth 20000 in
theorem ggX6_deeds_X6_in : GoodIn wsX6_deeds wsX6_in := goodIn_r _ [6] (by decide +kernel) (by decide +kernel)
set_option maxRecDepth 20000 in
theorem gX6_deeds_X6_in : GoodIn wsX6_deeds (va_wsS RX6 56 yX6_in wsX6_in) := goodIn_app (goodIn_of _ (by decide +kernel)) ggX6_deeds_X6_in
theorem dX6_deeds_0 : decode cX6_deeds 0 = .ok (.iload_n 1, 1) := by decide +kernel
theorem dX6_deeds_1 : decode cX6_deeds 1 = .ok (.i2l, 1) := by decide +kernel
theorem dX6_deeds_2 : decode cX6_deeds 2 = .ok (.lconst 0, 1) := by decide +kernel
theorem dX6_deeds_3 : decode cX6_deeds 3 = .ok (.ldc2_w 74, 3) := by decide +kernel
theorem dX6_deeds_6 : decode cX6_deeds 6 = .ok (.invokestatic 56, 3) := by decide +kernel
theorem dX6_deeds_9 : decode cX6_deeds 9 = .ok (.ifCond .ne 6, 3) := by decide +kernel
theorem dX6_deeds_12 : decode cX6_deeds 12 = .ok (.bipush (-2), 2) := by decide +kernel
theorem dX6_deeds_14 : decode cX6_deeds 14 = .ok (.ireturn, 1) := by decide +kernel
theorem dX6_deeds_15 : decode cX6_deeds 15 = .ok (.iconst 0, 1) := by decide +kernel
theorem dX6_deeds_16 : decode cX6_deeds 16 = .ok (.istore_n 2, 1) := by decide +kernel
theorem dX6_deeds_17 : decode cX6_deeds 17 = .ok (.iconst 0, 1) := by decide +kernel
theorem dX6_deeds_18 : decode cX6_deeds 18 = .ok (.istore_n 3, 1) := by decide +kernel
theorem dX6_deeds_19 : decode cX6_deeds 19 = .ok (.iload_n 3, 1) := by decide +kernel
theorem dX6_deeds_20 : decode cX6_deeds 20 = .ok (.aload_n 0, 1) := by decide +kernel
theorem dX6_deeds_21 : decode cX6_deeds 21 = .ok (.getfield 7, 3) := by decide +kernel
theorem dX6_deeds_24 : decode cX6_deeds 24 = .ok (.bipush 14, 2) := by decide +kernel
theorem dX6_deeds_26 : decode cX6_deeds 26 = .ok (.iaload, 1) := by decide +kernel
theorem dX6_deeds_27 : decode cX6_deeds 27 = .ok (.if_icmp .ge 32, 3) := by decide +kernel
theorem dX6_deeds_30 : decode cX6_deeds 30 = .ok (.iload_n 2, 1) := by decide +kernel
theorem dX6_deeds_31 : decode cX6_deeds 31 = .ok (.aload_n 0, 1) := by decide +kernel
theorem dX6_deeds_32 : decode cX6_deeds 32 = .ok (.getfield 7, 3) := by decide +kernel
theorem dX6_deeds_35 : decode cX6_deeds 35 = .ok (.bipush 21, 2) := by decide +kernel
theorem dX6_deeds_37 : decode cX6_deeds 37 = .ok (.iload_n 3, 1) := by decide +kernel
theorem dX6_deeds_38 : decode cX6_deeds 38 = .ok (.iadd, 1) := by decide +kernel
theorem dX6_deeds_39 : decode cX6_deeds 39 = .ok (.iaload, 1) := by decide +kernel
theorem dX6_deeds_40 : decode cX6_deeds 40 = .ok (.iconst 4, 1) := by decide +kernel
theorem dX6_deeds_41 : decode cX6_deeds 41 = .ok (.irem, 1) := by decide +kernel
theorem dX6_deeds_42 : decode cX6_deeds 42 = .ok (.iload_n 1, 1) := by decide +kernel
theorem dX6_deeds_43 : decode cX6_deeds 43 = .ok (.if_icmp .ne 7, 3) := by decide +kernel
theorem dX6_deeds_46 : decode cX6_deeds 46 = .ok (.iconst 1, 1) := by decide +kernel
theorem dX6_deeds_47 : decode cX6_deeds 47 = .ok (.goto 4, 3) := by decide +kernel
theorem dX6_deeds_50 : decode cX6_deeds 50 = .ok (.iconst 0, 1) := by decide +kernel
theorem dX6_deeds_51 : decode cX6_deeds 51 = .ok (.iadd, 1) := by decide +kernel
theorem dX6_deeds_52 : decode cX6_deeds 52 = .ok (.istore_n 2, 1) := by decide +kernel
theorem dX6_deeds_53 : decode cX6_deeds 53 = .ok (.iinc 3 1, 3) := by decide +kernel
theorem dX6_deeds_56 : decode cX6_deeds 56 = .ok (.goto (-37), 3) := by decide +kernel
theorem dX6_deeds_59 : decode cX6_deeds 59 = .ok (.iload_n 2, 1) := by decide +kernel
theorem dX6_deeds_60 : decode cX6_deeds 60 = .ok (.ireturn, 1) := by decide +kernel
set_option maxRecDepth 20000 in
theorem ggX6_put_X6_in : GoodIn wsX6_put wsX6_in := goodIn_r _ [9] (by decide +kernel) (by decide +kernel)
set_option maxRecDepth 20000 in
theorem gX6_put_X6_in : GoodIn wsX6_put (va_wsS RX6 56 yX6_in wsX6_in) := goodIn_app (goodIn_of _ (by decide +kernel)) ggX6_put_X6_in
theorem dX6_put_0 : decode cX6_put 0 = .ok (.iconst 0, 1) := by decide +kernel
theorem dX6_put_1 : decode cX6_put 1 = .ok (.istore_n 3, 1) := by decide +kernel
theorem dX6_put_2 : decode cX6_put 2 = .ok (.iconst 1, 1) := by decide +kernel
theorem dX6_put_3 : decode cX6_put 3 = .ok (.istore 4, 2) := by decide +kernel
theorem dX6_put_5 : decode cX6_put 5 = .ok (.lload_n 1, 1) := by decide +kernel
theorem dX6_put_6 : decode cX6_put 6 = .ok (.lstore 5, 2) := by decide +kernel
theorem dX6_put_8 : decode cX6_put 8 = .ok (.iload_n 3, 1) := by decide +kernel
theorem dX6_put_9 : decode cX6_put 9 = .ok (.bipush 8, 2) := by decide +kernel
theorem dX6_put_11 : decode cX6_put 11 = .ok (.if_icmp .ge 57, 3) := by decide +kernel
theorem dX6_put_14 : decode cX6_put 14 = .ok (.lload 5, 2) := by decide +kernel
theorem dX6_put_16 : decode cX6_put 16 = .ok (.ldc2_w 135, 3) := by decide +kernel
theorem dX6_put_19 : decode cX6_put 19 = .ok (.land, 1) := by decide +kernel
theorem dX6_put_20 : decode cX6_put 20 = .ok (.lconst 0, 1) := by decide +kernel
theorem dX6_put_21 : decode cX6_put 21 = .ok (.lcmp, 1) := by decide +kernel
theorem dX6_put_22 : decode cX6_put 22 = .ok (.ifCond .eq 46, 3) := by decide +kernel
theorem dX6_put_25 : decode cX6_put 25 = .ok (.iload 4, 2) := by decide +kernel
theorem dX6_put_27 : decode cX6_put 27 = .ok (.ifCond .eq 25, 3) := by decide +kernel
theorem dX6_put_30 : decode cX6_put 30 = .ok (.lload 5, 2) := by decide +kernel
theorem dX6_put_32 : decode cX6_put 32 = .ok (.ldc2_w 135, 3) := by decide +kernel
theorem dX6_put_35 : decode cX6_put 35 = .ok (.land, 1) := by decide +kernel
theorem dX6_put_36 : decode cX6_put 36 = .ok (.ldc2_w 137, 3) := by decide +kernel
theorem dX6_put_39 : decode cX6_put 39 = .ok (.ldc2_w 139, 3) := by decide +kernel
theorem dX6_put_42 : decode cX6_put 42 = .ok (.invokestatic 56, 3) := by decide +kernel
theorem dX6_put_45 : decode cX6_put 45 = .ok (.ifCond .eq 7, 3) := by decide +kernel
theorem dX6_put_48 : decode cX6_put 48 = .ok (.iconst 1, 1) := by decide +kernel
theorem dX6_put_49 : decode cX6_put 49 = .ok (.goto 4, 3) := by decide +kernel
theorem dX6_put_52 : decode cX6_put 52 = .ok (.iconst 0, 1) := by decide +kernel
theorem dX6_put_53 : decode cX6_put 53 = .ok (.istore 4, 2) := by decide +kernel
theorem dX6_put_55 : decode cX6_put 55 = .ok (.lload 5, 2) := by decide +kernel
theorem dX6_put_57 : decode cX6_put 57 = .ok (.bipush 8, 2) := by decide +kernel
theorem dX6_put_59 : decode cX6_put 59 = .ok (.lushr, 1) := by decide +kernel
theorem dX6_put_60 : decode cX6_put 60 = .ok (.lstore 5, 2) := by decide +kernel
theorem dX6_put_62 : decode cX6_put 62 = .ok (.iinc 3 1, 3) := by decide +kernel
theorem dX6_put_65 : decode cX6_put 65 = .ok (.goto (-57), 3) := by decide +kernel
theorem dX6_put_68 : decode cX6_put 68 = .ok (.iload_n 3, 1) := by decide +kernel
theorem dX6_put_69 : decode cX6_put 69 = .ok (.ifCond .eq 15, 3) := by decide +kernel
theorem dX6_put_72 : decode cX6_put 72 = .ok (.lload 5, 2) := by decide +kernel
theorem dX6_put_74 : decode cX6_put 74 = .ok (.lconst 0, 1) := by decide +kernel
theorem dX6_put_75 : decode cX6_put 75 = .ok (.lcmp, 1) := by decide +kernel
theorem dX6_put_76 : decode cX6_put 76 = .ok (.ifCond .ne 8, 3) := by decide +kernel
theorem dX6_put_79 : decode cX6_put 79 = .ok (.iload 4, 2) := by decide +kernel
theorem dX6_put_81 : decode cX6_put 81 = .ok (.ifCond .ne 6, 3) := by decide +kernel
theorem dX6_put_84 : decode cX6_put 84 = .ok (.bipush (-2), 2) := by decide +kernel
theorem dX6_put_86 : decode cX6_put 86 = .ok (.ireturn, 1) := by decide +kernel
theorem dX6_put_87 : decode cX6_put 87 = .ok (.aload_n 0, 1) := by decide +kernel
theorem dX6_put_88 : decode cX6_put 88 = .ok (.getfield 109, 3) := by decide +kernel
theorem dX6_put_91 : decode cX6_put 91 = .ok (.iload_n 3, 1) := by decide +kernel
theorem dX6_put_92 : decode cX6_put 92 = .ok (.iadd, 1) := by decide +kernel
theorem dX6_put_93 : decode cX6_put 93 = .ok (.bipush 80, 2) := by decide +kernel
theorem dX6_put_95 : decode cX6_put 95 = .ok (.if_icmp .le 6, 3) := by decide +kernel
theorem dX6_put_98 : decode cX6_put 98 = .ok (.bipush (-4), 2) := by decide +kernel
theorem dX6_put_100 : decode cX6_put 100 = .ok (.ireturn, 1) := by decide +kernel
theorem dX6_put_101 : decode cX6_put 101 = .ok (.iload_n 3, 1) := by decide +kernel
theorem dX6_put_102 : decode cX6_put 102 = .ok (.iconst 1, 1) := by decide +kernel
theorem dX6_put_103 : decode cX6_put 103 = .ok (.isub, 1) := by decide +kernel
theorem dX6_put_104 : decode cX6_put 104 = .ok (.istore 7, 2) := by decide +kernel
theorem dX6_put_106 : decode cX6_put 106 = .ok (.iload 7, 2) := by decide +kernel
theorem dX6_put_108 : decode cX6_put 108 = .ok (.ifCond .lt 40, 3) := by decide +kernel
theorem dX6_put_111 : decode cX6_put 111 = .ok (.aload_n 0, 1) := by decide +kernel
theorem dX6_put_112 : decode cX6_put 112 = .ok (.getfield 28, 3) := by decide +kernel
theorem dX6_put_115 : decode cX6_put 115 = .ok (.aload_n 0, 1) := by decide +kernel
theorem dX6_put_116 : decode cX6_put 116 = .ok (.getfield 109, 3) := by decide +kernel
theorem dX6_put_119 : decode cX6_put 119 = .ok (.lload_n 1, 1) := by decide +kernel
theorem dX6_put_120 : decode cX6_put 120 = .ok (.bipush 8, 2) := by decide +kernel
theorem dX6_put_122 : decode cX6_put 122 = .ok (.iload 7, 2) := by decide +kernel
theorem dX6_put_124 : decode cX6_put 124 = .ok (.imul, 1) := by decide +kernel
theorem dX6_put_125 : decode cX6_put 125 = .ok (.lushr, 1) := by decide +kernel
theorem dX6_put_126 : decode cX6_put 126 = .ok (.ldc2_w 135, 3) := by decide +kernel
theorem dX6_put_129 : decode cX6_put 129 = .ok (.land, 1) := by decide +kernel
theorem dX6_put_130 : decode cX6_put 130 = .ok (.l2i, 1) := by decide +kernel
theorem dX6_put_131 : decode cX6_put 131 = .ok (.iastore, 1) := by decide +kernel
theorem dX6_put_132 : decode cX6_put 132 = .ok (.aload_n 0, 1) := by decide +kernel
theorem dX6_put_133 : decode cX6_put 133 = .ok (.dup, 1) := by decide +kernel
theorem dX6_put_134 : decode cX6_put 134 = .ok (.getfield 109, 3) := by decide +kernel
theorem dX6_put_137 : decode cX6_put 137 = .ok (.iconst 1, 1) := by decide +kernel
theorem dX6_put_138 : decode cX6_put 138 = .ok (.iadd, 1) := by decide +kernel
theorem dX6_put_139 : decode cX6_put 139 = .ok (.putfield 109, 3) := by decide +kernel
theorem dX6_put_142 : decode cX6_put 142 = .ok (.iinc 7 (-1), 3) := by decide +kernel
theorem dX6_put_145 : decode cX6_put 145 = .ok (.goto (-39), 3) := by decide +kernel
theorem dX6_put_148 : decode cX6_put 148 = .ok (.aload_n 0, 1) := by decide +kernel
theorem dX6_put_149 : decode cX6_put 149 = .ok (.getfield 109, 3) := by decide +kernel
theorem dX6_put_152 : decode cX6_put 152 = .ok (.ireturn, 1) := by decide +kernel
theorem dX6_wipe_0 : decode cX6_wipe 0 = .ok (.aload_n 0, 1) := by decide +kernel
theorem dX6_wipe_1 : decode cX6_wipe 1 = .ok (.getfield 109, 3) := by decide +kernel
theorem dX6_wipe_4 : decode cX6_wipe 4 = .ok (.istore_n 1, 1) := by decide +kernel
theorem dX6_wipe_5 : decode cX6_wipe 5 = .ok (.aload_n 0, 1) := by decide +kernel
theorem dX6_wipe_6 : decode cX6_wipe 6 = .ok (.iconst 0, 1) := by decide +kernel
theorem dX6_wipe_7 : decode cX6_wipe 7 = .ok (.putfield 109, 3) := by decide +kernel
theorem dX6_wipe_10 : decode cX6_wipe 10 = .ok (.iload_n 1, 1) := by decide +kernel
theorem dX6_wipe_11 : decode cX6_wipe 11 = .ok (.ireturn, 1) := by decide +kernel
set_option maxRecDepth 20000 in
theorem ggX6_isHere_X6_in : GoodIn wsX6_isHere wsX6_in := goodIn_r _ [7] (by decide +kernel) (by decide +kernel)
set_option maxRecDepth 20000 in
theorem gX6_isHere_X6_in : GoodIn wsX6_isHere (va_wsS RX6 56 yX6_in wsX6_in) := goodIn_app (goodIn_of _ (by decide +kernel)) ggX6_isHere_X6_in
theorem dX6_isHere_0 : decode cX6_isHere 0 = .ok (.aload_n 0, 1) := by decide +kernel
theorem dX6_isHere_1 : decode cX6_isHere 1 = .ok (.getfield 141, 3) := by decide +kernel
theorem dX6_isHere_4 : decode cX6_isHere 4 = .ok (.aload_n 0, 1) := by decide +kernel
theorem dX6_isHere_5 : decode cX6_isHere 5 = .ok (.getfield 109, 3) := by decide +kernel
theorem dX6_isHere_8 : decode cX6_isHere 8 = .ok (.if_icmp .ge 27, 3) := by decide +kernel
theorem dX6_isHere_11 : decode cX6_isHere 11 = .ok (.aload_n 0, 1) := by decide +kernel
theorem dX6_isHere_12 : decode cX6_isHere 12 = .ok (.getfield 28, 3) := by decide +kernel
theorem dX6_isHere_15 : decode cX6_isHere 15 = .ok (.aload_n 0, 1) := by decide +kernel
theorem dX6_isHere_16 : decode cX6_isHere 16 = .ok (.getfield 141, 3) := by decide +kernel
theorem dX6_isHere_19 : decode cX6_isHere 19 = .ok (.iaload, 1) := by decide +kernel
theorem dX6_isHere_20 : decode cX6_isHere 20 = .ok (.i2l, 1) := by decide +kernel
theorem dX6_isHere_21 : decode cX6_isHere 21 = .ok (.iload_n 1, 1) := by decide +kernel
theorem dX6_isHere_22 : decode cX6_isHere 22 = .ok (.i2l, 1) := by decide +kernel
theorem dX6_isHere_23 : decode cX6_isHere 23 = .ok (.iload_n 2, 1) := by decide +kernel
theorem dX6_isHere_24 : decode cX6_isHere 24 = .ok (.i2l, 1) := by decide +kernel
theorem dX6_isHere_25 : decode cX6_isHere 25 = .ok (.invokestatic 56, 3) := by decide +kernel
theorem dX6_isHere_28 : decode cX6_isHere 28 = .ok (.ifCond .eq 7, 3) := by decide +kernel
theorem dX6_isHere_31 : decode cX6_isHere 31 = .ok (.iconst 1, 1) := by decide +kernel
theorem dX6_isHere_32 : decode cX6_isHere 32 = .ok (.goto 4, 3) := by decide +kernel
theorem dX6_isHere_35 : decode cX6_isHere 35 = .ok (.iconst 0, 1) := by decide +kernel
theorem dX6_isHere_36 : decode cX6_isHere 36 = .ok (.ireturn, 1) := by decide +kernel
set_option maxRecDepth 20000 in
theorem ggX6_takes_X6_isHere : GoodIn wsX6_takes wsX6_isHere := goodIn_r _ [6, 1, 7, 8, 9, 10, 5, 11, 12, 13, 14, 15, 16, 17, 18, 19, 20, 21, 22, 23, 24] (by decide +kernel) (by decide +kernel)
set_option maxRecDepth 20000 in
theorem gX6_takes_X6_isHere : GoodIn wsX6_takes (wsV RX6 144 RX6 yX6_isHere wsX6_isHere) := goodIn_app (goodIn_of _ (by decide +kernel)) ggX6_takes_X6_isHere
theorem dX6_takes_0 : decode cX6_takes 0 = .ok (.aload_n 0, 1) := by decide +kernel
theorem dX6_takes_1 : decode cX6_takes 1 = .ok (.iload_n 1, 1) := by decide +kernel
theorem dX6_takes_2 : decode cX6_takes 2 = .ok (.iload_n 1, 1) := by decide +kernel
theorem dX6_takes_3 : decode cX6_takes 3 = .ok (.invokevirtual 144, 3) := by decide +kernel
theorem dX6_takes_6 : decode cX6_takes 6 = .ok (.istore_n 2, 1) := by decide +kernel
theorem dX6_takes_7 : decode cX6_takes 7 = .ok (.aload_n 0, 1) := by decide +kernel
theorem dX6_takes_8 : decode cX6_takes 8 = .ok (.dup, 1) := by decide +kernel
theorem dX6_takes_9 : decode cX6_takes 9 = .ok (.getfield 141, 3) := by decide +kernel
theorem dX6_takes_12 : decode cX6_takes 12 = .ok (.iload_n 2, 1) := by decide +kernel
theorem dX6_takes_13 : decode cX6_takes 13 = .ok (.ifCond .eq 7, 3) := by decide +kernel
theorem dX6_takes_16 : decode cX6_takes 16 = .ok (.iconst 1, 1) := by decide +kernel
theorem dX6_takes_17 : decode cX6_takes 17 = .ok (.goto 4, 3) := by decide +kernel
theorem dX6_takes_20 : decode cX6_takes 20 = .ok (.iconst 0, 1) := by decide +kernel
theorem dX6_takes_21 : decode cX6_takes 21 = .ok (.iadd, 1) := by decide +kernel
theorem dX6_takes_22 : decode cX6_takes 22 = .ok (.putfield 141, 3) := by decide +kernel
theorem dX6_takes_25 : decode cX6_takes 25 = .ok (.iload_n 2, 1) := by decide +kernel
theorem dX6_takes_26 : decode cX6_takes 26 = .ok (.ireturn, 1) := by decide +kernel
set_option maxRecDepth 20000 in
theorem ggX6_readsNumber_X6_isHere : GoodIn wsX6_readsNumber wsX6_isHere := goodIn_r _ [8, 2, 9, 1, 10, 11, 7, 12, 13, 14, 15, 16, 17, 18, 19, 20, 21, 22, 23, 24, 25] (by decide +kernel) (by decide +kernel)
set_option maxRecDepth 20000 in
theorem gX6_readsNumber_X6_isHere : GoodIn wsX6_readsNumber (wsV RX6 144 RX6 yX6_isHere wsX6_isHere) := goodIn_app (goodIn_of _ (by decide +kernel)) ggX6_readsNumber_X6_isHere
theorem dX6_readsNumber_0 : decode cX6_readsNumber 0 = .ok (.aload_n 0, 1) := by decide +kernel
theorem dX6_readsNumber_1 : decode cX6_readsNumber 1 = .ok (.bipush 48, 2) := by decide +kernel
theorem dX6_readsNumber_3 : decode cX6_readsNumber 3 = .ok (.bipush 57, 2) := by decide +kernel
theorem dX6_readsNumber_5 : decode cX6_readsNumber 5 = .ok (.invokevirtual 144, 3) := by decide +kernel
theorem dX6_readsNumber_8 : decode cX6_readsNumber 8 = .ok (.ifCond .ne 5, 3) := by decide +kernel
theorem dX6_readsNumber_11 : decode cX6_readsNumber 11 = .ok (.iconst 0, 1) := by decide +kernel
theorem dX6_readsNumber_12 : decode cX6_readsNumber 12 = .ok (.ireturn, 1) := by decide +kernel
theorem dX6_readsNumber_13 : decode cX6_readsNumber 13 = .ok (.aload_n 0, 1) := by decide +kernel
theorem dX6_readsNumber_14 : decode cX6_readsNumber 14 = .ok (.aload_n 0, 1) := by decide +kernel
theorem dX6_readsNumber_15 : decode cX6_readsNumber 15 = .ok (.getfield 28, 3) := by decide +kernel
theorem dX6_readsNumber_18 : decode cX6_readsNumber 18 = .ok (.aload_n 0, 1) := by decide +kernel
theorem dX6_readsNumber_19 : decode cX6_readsNumber 19 = .ok (.getfield 141, 3) := by decide +kernel
theorem dX6_readsNumber_22 : decode cX6_readsNumber 22 = .ok (.iaload, 1) := by decide +kernel
theorem dX6_readsNumber_23 : decode cX6_readsNumber 23 = .ok (.bipush 48, 2) := by decide +kernel
theorem dX6_readsNumber_25 : decode cX6_readsNumber 25 = .ok (.isub, 1) := by decide +kernel
theorem dX6_readsNumber_26 : decode cX6_readsNumber 26 = .ok (.putfield 147, 3) := by decide +kernel
theorem dX6_readsNumber_29 : decode cX6_readsNumber 29 = .ok (.aload_n 0, 1) := by decide +kernel
theorem dX6_readsNumber_30 : decode cX6_readsNumber 30 = .ok (.dup, 1) := by decide +kernel
theorem dX6_readsNumber_31 : decode cX6_readsNumber 31 = .ok (.getfield 141, 3) := by decide +kernel
theorem dX6_readsNumber_34 : decode cX6_readsNumber 34 = .ok (.iconst 1, 1) := by decide +kernel
theorem dX6_readsNumber_35 : decode cX6_readsNumber 35 = .ok (.iadd, 1) := by decide +kernel
theorem dX6_readsNumber_36 : decode cX6_readsNumber 36 = .ok (.putfield 141, 3) := by decide +kernel
theorem dX6_readsNumber_39 : decode cX6_readsNumber 39 = .ok (.aload_n 0, 1) := by decide +kernel
theorem dX6_readsNumber_40 : decode cX6_readsNumber 40 = .ok (.getfield 147, 3) := by decide +kernel
theorem dX6_readsNumber_43 : decode cX6_readsNumber 43 = .ok (.ifCond .le 77, 3) := by decide +kernel
theorem dX6_readsNumber_46 : decode cX6_readsNumber 46 = .ok (.aload_n 0, 1) := by decide +kernel
theorem dX6_readsNumber_47 : decode cX6_readsNumber 47 = .ok (.bipush 48, 2) := by decide +kernel
theorem dX6_readsNumber_49 : decode cX6_readsNumber 49 = .ok (.bipush 57, 2) := by decide +kernel
theorem dX6_readsNumber_51 : decode cX6_readsNumber 51 = .ok (.invokevirtual 144, 3) := by decide +kernel
theorem dX6_readsNumber_54 : decode cX6_readsNumber 54 = .ok (.ifCond .eq 66, 3) := by decide +kernel
theorem dX6_readsNumber_57 : decode cX6_readsNumber 57 = .ok (.bipush 10, 2) := by decide +kernel
theorem dX6_readsNumber_59 : decode cX6_readsNumber 59 = .ok (.aload_n 0, 1) := by decide +kernel
theorem dX6_readsNumber_60 : decode cX6_readsNumber 60 = .ok (.getfield 147, 3) := by decide +kernel
theorem dX6_readsNumber_63 : decode cX6_readsNumber 63 = .ok (.imul, 1) := by decide +kernel
theorem dX6_readsNumber_64 : decode cX6_readsNumber 64 = .ok (.aload_n 0, 1) := by decide +kernel
theorem dX6_readsNumber_65 : decode cX6_readsNumber 65 = .ok (.getfield 28, 3) := by decide +kernel
theorem dX6_readsNumber_68 : decode cX6_readsNumber 68 = .ok (.aload_n 0, 1) := by decide +kernel
theorem dX6_readsNumber_69 : decode cX6_readsNumber 69 = .ok (.getfield 141, 3) := by decide +kernel
theorem dX6_readsNumber_72 : decode cX6_readsNumber 72 = .ok (.iaload, 1) := by decide +kernel
theorem dX6_readsNumber_73 : decode cX6_readsNumber 73 = .ok (.iadd, 1) := by decide +kernel
theorem dX6_readsNumber_74 : decode cX6_readsNumber 74 = .ok (.bipush 48, 2) := by decide +kernel
theorem dX6_readsNumber_76 : decode cX6_readsNumber 76 = .ok (.isub, 1) := by decide +kernel
theorem dX6_readsNumber_77 : decode cX6_readsNumber 77 = .ok (.sipush 999, 3) := by decide +kernel
theorem dX6_readsNumber_80 : decode cX6_readsNumber 80 = .ok (.if_icmp .gt 40, 3) := by decide +kernel
theorem dX6_readsNumber_83 : decode cX6_readsNumber 83 = .ok (.aload_n 0, 1) := by decide +kernel
theorem dX6_readsNumber_84 : decode cX6_readsNumber 84 = .ok (.bipush 10, 2) := by decide +kernel
theorem dX6_readsNumber_86 : decode cX6_readsNumber 86 = .ok (.aload_n 0, 1) := by decide +kernel
theorem dX6_readsNumber_87 : decode cX6_readsNumber 87 = .ok (.getfield 147, 3) := by decide +kernel
theorem dX6_readsNumber_90 : decode cX6_readsNumber 90 = .ok (.imul, 1) := by decide +kernel
theorem dX6_readsNumber_91 : decode cX6_readsNumber 91 = .ok (.aload_n 0, 1) := by decide +kernel
theorem dX6_readsNumber_92 : decode cX6_readsNumber 92 = .ok (.getfield 28, 3) := by decide +kernel
theorem dX6_readsNumber_95 : decode cX6_readsNumber 95 = .ok (.aload_n 0, 1) := by decide +kernel
theorem dX6_readsNumber_96 : decode cX6_readsNumber 96 = .ok (.getfield 141, 3) := by decide +kernel
theorem dX6_readsNumber_99 : decode cX6_readsNumber 99 = .ok (.iaload, 1) := by decide +kernel
theorem dX6_readsNumber_100 : decode cX6_readsNumber 100 = .ok (.iadd, 1) := by decide +kernel
theorem dX6_readsNumber_101 : decode cX6_readsNumber 101 = .ok (.bipush 48, 2) := by decide +kernel
theorem dX6_readsNumber_103 : decode cX6_readsNumber 103 = .ok (.isub, 1) := by decide +kernel
theorem dX6_readsNumber_104 : decode cX6_readsNumber 104 = .ok (.putfield 147, 3) := by decide +kernel
theorem dX6_readsNumber_107 : decode cX6_readsNumber 107 = .ok (.aload_n 0, 1) := by decide +kernel
theorem dX6_readsNumber_108 : decode cX6_readsNumber 108 = .ok (.dup, 1) := by decide +kernel
theorem dX6_readsNumber_109 : decode cX6_readsNumber 109 = .ok (.getfield 141, 3) := by decide +kernel
theorem dX6_readsNumber_112 : decode cX6_readsNumber 112 = .ok (.iconst 1, 1) := by decide +kernel
theorem dX6_readsNumber_113 : decode cX6_readsNumber 113 = .ok (.iadd, 1) := by decide +kernel
theorem dX6_readsNumber_114 : decode cX6_readsNumber 114 = .ok (.putfield 141, 3) := by decide +kernel
theorem dX6_readsNumber_117 : decode cX6_readsNumber 117 = .ok (.goto (-78), 3) := by decide +kernel
theorem dX6_readsNumber_120 : decode cX6_readsNumber 120 = .ok (.iconst 1, 1) := by decide +kernel
theorem dX6_readsNumber_121 : decode cX6_readsNumber 121 = .ok (.ireturn, 1) := by decide +kernel
theorem dX6_does_0 : decode cX6_does 0 = .ok (.aload_n 0, 1) := by decide +kernel
theorem dX6_does_1 : decode cX6_does 1 = .ok (.iload_n 1, 1) := by decide +kernel
theorem dX6_does_2 : decode cX6_does 2 = .ok (.ifCond .ge 7, 3) := by decide +kernel
theorem dX6_does_5 : decode cX6_does 5 = .ok (.iload_n 1, 1) := by decide +kernel
theorem dX6_does_6 : decode cX6_does 6 = .ok (.goto 4, 3) := by decide +kernel
theorem dX6_does_9 : decode cX6_does 9 = .ok (.iconst 0, 1) := by decide +kernel
theorem dX6_does_10 : decode cX6_does 10 = .ok (.putfield 150, 3) := by decide +kernel
theorem dX6_does_13 : decode cX6_does 13 = .ok (.return_, 1) := by decide +kernel
set_option maxRecDepth 20000 in
theorem ggX6_readsRuns_X6_isHere : GoodIn wsX6_readsRuns wsX6_isHere := goodIn_r _ [10, 2, 11, 1, 12, 13, 9, 14, 54, 55, 56, 57, 58, 59, 60, 61, 62, 63, 64, 65, 66] (by decide +kernel) (by decide +kernel)
set_option maxRecDepth 20000 in
theorem gX6_readsRuns_X6_isHere : GoodIn wsX6_readsRuns (wsV RX6 144 RX6 yX6_isHere wsX6_isHere) := goodIn_app (goodIn_of _ (by decide +kernel)) ggX6_readsRuns_X6_isHere
set_option maxRecDepth 20000 in
theorem ggX6_readsRuns_X6_takes : GoodIn wsX6_readsRuns wsX6_takes := goodIn_r _ [18, 2, 6, 7, 8, 9, 10, 11, 1, 12, 13, 14, 54, 55, 56, 57, 58, 59, 60, 61, 62, 63, 64, 65, 66] (by decide +kernel) (by decide +kernel)
set_option maxRecDepth 20000 in
theorem gX6_readsRuns_X6_takes : GoodIn wsX6_readsRuns (wsV RX6 153 RX6 yX6_takes wsX6_takes) := goodIn_app (goodIn_of _ (by decide +kernel)) ggX6_readsRuns_X6_takes
set_option maxRecDepth 20000 in
theorem ggX6_readsRuns_X6_readsNumber : GoodIn wsX6_readsRuns wsX6_readsNumber := goodIn_r _ [22, 1, 2, 3, 6, 7, 8, 9, 10, 11, 12, 13, 14, 54, 55, 56, 57, 58, 59, 60, 61, 62, 63, 64, 65, 66] (by decide +kernel) (by decide +kernel)
set_option maxRecDepth 20000 in
theorem gX6_readsRuns_X6_readsNumber : GoodIn wsX6_readsRuns (wsV RX6 157 RX6 yX6_readsNumber wsX6_readsNumber) := goodIn_app (goodIn_of _ (by decide +kernel)) ggX6_readsRuns_X6_readsNumber
set_option maxRecDepth 20000 in
theorem ggX6_readsRuns_X6_doFeed : GoodIn wsX6_readsRuns wsX6_doFeed := goodIn_r _ [26, 27, 28, 29, 30, 12, 13, 9, 14, 31, 32, 33, 34, 35, 36, 37, 38, 39, 40, 41, 42, 43, 44, 45, 46, 47, 48, 49, 54, 55, 56, 57, 58, 59, 60, 61, 62, 63, 64, 65, 66] (by decide +kernel) (by decide +kernel)
set_option maxRecDepth 20000 in
theorem gX6_readsRuns_X6_doFeed : GoodIn wsX6_readsRuns (wsV RX6 96 RX6 yX6_doFeed wsX6_doFeed) := goodIn_app (goodIn_of _ (by decide +kernel)) ggX6_readsRuns_X6_doFeed
set_option maxRecDepth 20000 in
theorem ggX6_readsRuns_X6_does : GoodIn wsX6_readsRuns wsX6_does := goodIn_r _ [53, 5, 54, 55, 56, 57, 58, 59, 60, 61, 62, 63, 64, 65, 66] (by decide +kernel) (by decide +kernel)
set_option maxRecDepth 20000 in
theorem gX6_readsRuns_X6_does : GoodIn wsX6_readsRuns (wsV RX6 165 RX6 yX6_does wsX6_does) := goodIn_app (goodIn_of _ (by decide +kernel)) ggX6_readsRuns_X6_does
theorem dX6_readsRuns_0 : decode cX6_readsRuns 0 = .ok (.iconst 1, 1) := by decide +kernel
theorem dX6_readsRuns_1 : decode cX6_readsRuns 1 = .ok (.istore_n 1, 1) := by decide +kernel
theorem dX6_readsRuns_2 : decode cX6_readsRuns 2 = .ok (.iload_n 1, 1) := by decide +kernel
theorem dX6_readsRuns_3 : decode cX6_readsRuns 3 = .ok (.ifCond .eq 115, 3) := by decide +kernel
theorem dX6_readsRuns_6 : decode cX6_readsRuns 6 = .ok (.aload_n 0, 1) := by decide +kernel
theorem dX6_readsRuns_7 : decode cX6_readsRuns 7 = .ok (.bipush 48, 2) := by decide +kernel
theorem dX6_readsRuns_9 : decode cX6_readsRuns 9 = .ok (.bipush 51, 2) := by decide +kernel
theorem dX6_readsRuns_11 : decode cX6_readsRuns 11 = .ok (.invokevirtual 144, 3) := by decide +kernel
theorem dX6_readsRuns_14 : decode cX6_readsRuns 14 = .ok (.ifCond .ne 5, 3) := by decide +kernel
theorem dX6_readsRuns_17 : decode cX6_readsRuns 17 = .ok (.iconst 0, 1) := by decide +kernel
theorem dX6_readsRuns_18 : decode cX6_readsRuns 18 = .ok (.ireturn, 1) := by decide +kernel
theorem dX6_readsRuns_19 : decode cX6_readsRuns 19 = .ok (.aload_n 0, 1) := by decide +kernel
theorem dX6_readsRuns_20 : decode cX6_readsRuns 20 = .ok (.getfield 28, 3) := by decide +kernel
theorem dX6_readsRuns_23 : decode cX6_readsRuns 23 = .ok (.aload_n 0, 1) := by decide +kernel
theorem dX6_readsRuns_24 : decode cX6_readsRuns 24 = .ok (.getfield 141, 3) := by decide +kernel
theorem dX6_readsRuns_27 : decode cX6_readsRuns 27 = .ok (.iaload, 1) := by decide +kernel
theorem dX6_readsRuns_28 : decode cX6_readsRuns 28 = .ok (.bipush 48, 2) := by decide +kernel
theorem dX6_readsRuns_30 : decode cX6_readsRuns 30 = .ok (.isub, 1) := by decide +kernel
theorem dX6_readsRuns_31 : decode cX6_readsRuns 31 = .ok (.istore_n 2, 1) := by decide +kernel
theorem dX6_readsRuns_32 : decode cX6_readsRuns 32 = .ok (.aload_n 0, 1) := by decide +kernel
theorem dX6_readsRuns_33 : decode cX6_readsRuns 33 = .ok (.dup, 1) := by decide +kernel
theorem dX6_readsRuns_34 : decode cX6_readsRuns 34 = .ok (.getfield 141, 3) := by decide +kernel
theorem dX6_readsRuns_37 : decode cX6_readsRuns 37 = .ok (.iconst 1, 1) := by decide +kernel
theorem dX6_readsRuns_38 : decode cX6_readsRuns 38 = .ok (.iadd, 1) := by decide +kernel
theorem dX6_readsRuns_39 : decode cX6_readsRuns 39 = .ok (.putfield 141, 3) := by decide +kernel
theorem dX6_readsRuns_42 : decode cX6_readsRuns 42 = .ok (.aload_n 0, 1) := by decide +kernel
theorem dX6_readsRuns_43 : decode cX6_readsRuns 43 = .ok (.bipush 105, 2) := by decide +kernel
theorem dX6_readsRuns_45 : decode cX6_readsRuns 45 = .ok (.invokevirtual 153, 3) := by decide +kernel
theorem dX6_readsRuns_48 : decode cX6_readsRuns 48 = .ok (.ifCond .eq 7, 3) := by decide +kernel
theorem dX6_readsRuns_51 : decode cX6_readsRuns 51 = .ok (.iconst 1, 1) := by decide +kernel
theorem dX6_readsRuns_52 : decode cX6_readsRuns 52 = .ok (.goto 4, 3) := by decide +kernel
theorem dX6_readsRuns_55 : decode cX6_readsRuns 55 = .ok (.iconst 0, 1) := by decide +kernel
theorem dX6_readsRuns_56 : decode cX6_readsRuns 56 = .ok (.istore_n 3, 1) := by decide +kernel
theorem dX6_readsRuns_57 : decode cX6_readsRuns 57 = .ok (.aload_n 0, 1) := by decide +kernel
theorem dX6_readsRuns_58 : decode cX6_readsRuns 58 = .ok (.iconst 1, 1) := by decide +kernel
theorem dX6_readsRuns_59 : decode cX6_readsRuns 59 = .ok (.putfield 147, 3) := by decide +kernel
theorem dX6_readsRuns_62 : decode cX6_readsRuns 62 = .ok (.aload_n 0, 1) := by decide +kernel
theorem dX6_readsRuns_63 : decode cX6_readsRuns 63 = .ok (.bipush 42, 2) := by decide +kernel
theorem dX6_readsRuns_65 : decode cX6_readsRuns 65 = .ok (.invokevirtual 153, 3) := by decide +kernel
theorem dX6_readsRuns_68 : decode cX6_readsRuns 68 = .ok (.ifCond .eq 12, 3) := by decide +kernel
theorem dX6_readsRuns_71 : decode cX6_readsRuns 71 = .ok (.aload_n 0, 1) := by decide +kernel
theorem dX6_readsRuns_72 : decode cX6_readsRuns 72 = .ok (.invokevirtual 157, 3) := by decide +kernel
theorem dX6_readsRuns_75 : decode cX6_readsRuns 75 = .ok (.ifCond .ne 5, 3) := by decide +kernel
theorem dX6_readsRuns_78 : decode cX6_readsRuns 78 = .ok (.iconst 0, 1) := by decide +kernel
theorem dX6_readsRuns_79 : decode cX6_readsRuns 79 = .ok (.ireturn, 1) := by decide +kernel
theorem dX6_readsRuns_80 : decode cX6_readsRuns 80 = .ok (.aload_n 0, 1) := by decide +kernel
theorem dX6_readsRuns_81 : decode cX6_readsRuns 81 = .ok (.getfield 161, 3) := by decide +kernel
theorem dX6_readsRuns_84 : decode cX6_readsRuns 84 = .ok (.ifCond .eq 24, 3) := by decide +kernel
theorem dX6_readsRuns_87 : decode cX6_readsRuns 87 = .ok (.aload_n 0, 1) := by decide +kernel
theorem dX6_readsRuns_88 : decode cX6_readsRuns 88 = .ok (.getfield 150, 3) := by decide +kernel
theorem dX6_readsRuns_91 : decode cX6_readsRuns 91 = .ok (.ifCond .ne 17, 3) := by decide +kernel
theorem dX6_readsRuns_94 : decode cX6_readsRuns 94 = .ok (.aload_n 0, 1) := by decide +kernel
theorem dX6_readsRuns_95 : decode cX6_readsRuns 95 = .ok (.aload_n 0, 1) := by decide +kernel
theorem dX6_readsRuns_96 : decode cX6_readsRuns 96 = .ok (.iload_n 2, 1) := by decide +kernel
theorem dX6_readsRuns_97 : decode cX6_readsRuns 97 = .ok (.iload_n 3, 1) := by decide +kernel
theorem dX6_readsRuns_98 : decode cX6_readsRuns 98 = .ok (.aload_n 0, 1) := by decide +kernel
theorem dX6_readsRuns_99 : decode cX6_readsRuns 99 = .ok (.getfield 147, 3) := by decide +kernel
theorem dX6_readsRuns_102 : decode cX6_readsRuns 102 = .ok (.invokevirtual 96, 3) := by decide +kernel
theorem dX6_readsRuns_105 : decode cX6_readsRuns 105 = .ok (.invokevirtual 165, 3) := by decide +kernel
theorem dX6_readsRuns_108 : decode cX6_readsRuns 108 = .ok (.aload_n 0, 1) := by decide +kernel
theorem dX6_readsRuns_109 : decode cX6_readsRuns 109 = .ok (.bipush 44, 2) := by decide +kernel
theorem dX6_readsRuns_111 : decode cX6_readsRuns 111 = .ok (.invokevirtual 153, 3) := by decide +kernel
theorem dX6_readsRuns_114 : decode cX6_readsRuns 114 = .ok (.istore_n 1, 1) := by decide +kernel
theorem dX6_readsRuns_115 : decode cX6_readsRuns 115 = .ok (.goto (-113), 3) := by decide +kernel
theorem dX6_readsRuns_118 : decode cX6_readsRuns 118 = .ok (.iconst 1, 1) := by decide +kernel
theorem dX6_readsRuns_119 : decode cX6_readsRuns 119 = .ok (.ireturn, 1) := by decide +kernel
set_option maxRecDepth 20000 in
theorem ggX6_readsOrder_X6_takes : GoodIn wsX6_readsOrder wsX6_takes := goodIn_r _ [9, 3, 10, 11, 12, 8, 13, 14, 2, 15, 16, 17, 83, 84, 85, 86, 87, 88, 89, 90, 91, 92, 93, 94, 95] (by decide +kernel) (by decide +kernel)
set_option maxRecDepth 20000 in
theorem gX6_readsOrder_X6_takes : GoodIn wsX6_readsOrder (wsV RX6 153 RX6 yX6_takes wsX6_takes) := goodIn_app (goodIn_of _ (by decide +kernel)) ggX6_readsOrder_X6_takes
set_option maxRecDepth 20000 in
theorem ggX6_readsOrder_X6_doZero : GoodIn wsX6_readsOrder wsX6_doZero := goodIn_r _ [21, 22, 83, 84, 85, 86, 87, 88, 89, 90, 91, 92, 93, 94, 95] (by decide +kernel) (by decide +kernel)
set_option maxRecDepth 20000 in
theorem gX6_readsOrder_X6_doZero : GoodIn wsX6_readsOrder (wsV RX6 103 RX6 yX6_doZero wsX6_doZero) := goodIn_app (goodIn_of _ (by decide +kernel)) ggX6_readsOrder_X6_doZero
set_option maxRecDepth 20000 in
theorem ggX6_readsOrder_X6_does : GoodIn wsX6_readsOrder wsX6_does := goodIn_r _ [26, 27, 83, 84, 85, 86, 87, 88, 89, 90, 91, 92, 93, 94, 95] (by decide +kernel) (by decide +kernel)
set_option maxRecDepth 20000 in
theorem gX6_readsOrder_X6_does : GoodIn wsX6_readsOrder (wsV RX6 165 RX6 yX6_does wsX6_does) := goodIn_app (goodIn_of _ (by decide +kernel)) ggX6_readsOrder_X6_does
set_option maxRecDepth 20000 in
theorem ggX6_readsOrder_X6_isHere : GoodIn wsX6_readsOrder wsX6_isHere := goodIn_r _ [13, 3, 14, 2, 15, 16, 8, 17, 83, 84, 85, 86, 87, 88, 89, 90, 91, 92, 93, 94, 95] (by decide +kernel) (by decide +kernel)
set_option maxRecDepth 20000 in
theorem gX6_readsOrder_X6_isHere : GoodIn wsX6_readsOrder (wsV RX6 144 RX6 yX6_isHere wsX6_isHere) := goodIn_app (goodIn_of _ (by decide +kernel)) ggX6_readsOrder_X6_isHere
set_option maxRecDepth 20000 in
theorem ggX6_readsOrder_X6_doSet : GoodIn wsX6_readsOrder wsX6_doSet := goodIn_r _ [31, 22, 32, 33, 8, 34, 35, 36, 37, 38, 39, 40, 41, 15, 16, 17, 83, 84, 85, 86, 87, 88, 89, 90, 91, 92, 93, 94, 95] (by decide +kernel) (by decide +kernel)
set_option maxRecDepth 20000 in
theorem gX6_readsOrder_X6_doSet : GoodIn wsX6_readsOrder (wsV RX6 89 RX6 yX6_doSet wsX6_doSet) := goodIn_app (goodIn_of _ (by decide +kernel)) ggX6_readsOrder_X6_doSet
set_option maxRecDepth 20000 in
theorem ggX6_readsOrder_X6_readsNumber : GoodIn wsX6_readsOrder wsX6_readsNumber := goodIn_r _ [45, 2, 3, 4, 10, 11, 12, 8, 13, 14, 15, 16, 17, 83, 84, 85, 86, 87, 88, 89, 90, 91, 92, 93, 94, 95] (by decide +kernel) (by decide +kernel)
set_option maxRecDepth 20000 in
theorem gX6_readsOrder_X6_readsNumber : GoodIn wsX6_readsOrder (wsV RX6 157 RX6 yX6_readsNumber wsX6_readsNumber) := goodIn_app (goodIn_of _ (by decide +kernel)) ggX6_readsOrder_X6_readsNumber
set_option maxRecDepth 20000 in
theorem ggX6_readsOrder_X6_doTurn : GoodIn wsX6_readsOrder wsX6_doTurn := goodIn_r _ [49, 50, 40, 22, 51, 15, 16, 8, 17, 52, 53, 54, 55, 56, 57, 58, 59, 60, 61, 62, 63, 64, 65, 66, 67, 68, 69, 70, 71, 72, 73, 83, 84, 85, 86, 87, 88, 89, 90, 91, 92, 93, 94, 95] (by decide +kernel) (by decide +kernel)
set_option maxRecDepth 20000 in
theorem gX6_readsOrder_X6_doTurn : GoodIn wsX6_readsOrder (wsV RX6 100 RX6 yX6_doTurn wsX6_doTurn) := goodIn_app (goodIn_of _ (by decide +kernel)) ggX6_readsOrder_X6_doTurn
set_option maxRecDepth 20000 in
theorem ggX6_readsOrder_X6_readsRuns : GoodIn wsX6_readsOrder wsX6_readsRuns := goodIn_r _ [77, 2, 3, 4, 1, 27, 10, 11, 12, 8, 13, 14, 15, 16, 17, 5, 6, 7, 9, 42, 43, 44, 45, 78, 79, 80, 81, 82, 40, 22, 51, 58, 59, 60, 61, 62, 63, 64, 65, 52, 53, 54, 66, 67, 68, 69, 70, 71, 72, 73, 23, 24, 25, 26, 83, 84, 85, 86, 87, 88, 89, 90, 91, 92, 93, 94, 95] (by decide +kernel) (by decide +kernel)
set_option maxRecDepth 20000 in
theorem gX6_readsOrder_X6_readsRuns : GoodIn wsX6_readsOrder (wsV RX6 168 RX6 yX6_readsRuns wsX6_readsRuns) := goodIn_app (goodIn_of _ (by decide +kernel)) ggX6_readsOrder_X6_readsRuns
theorem dX6_readsOrder_0 : decode cX6_readsOrder 0 = .ok (.aload_n 0, 1) := by decide +kernel
theorem dX6_readsOrder_1 : decode cX6_readsOrder 1 = .ok (.bipush 122, 2) := by decide +kernel
theorem dX6_readsOrder_3 : decode cX6_readsOrder 3 = .ok (.invokevirtual 153, 3) := by decide +kernel
theorem dX6_readsOrder_6 : decode cX6_readsOrder 6 = .ok (.ifCond .eq 20, 3) := by decide +kernel
theorem dX6_readsOrder_9 : decode cX6_readsOrder 9 = .ok (.aload_n 0, 1) := by decide +kernel
theorem dX6_readsOrder_10 : decode cX6_readsOrder 10 = .ok (.getfield 161, 3) := by decide +kernel
theorem dX6_readsOrder_13 : decode cX6_readsOrder 13 = .ok (.ifCond .eq 11, 3) := by decide +kernel
theorem dX6_readsOrder_16 : decode cX6_readsOrder 16 = .ok (.aload_n 0, 1) := by decide +kernel
theorem dX6_readsOrder_17 : decode cX6_readsOrder 17 = .ok (.aload_n 0, 1) := by decide +kernel
theorem dX6_readsOrder_18 : decode cX6_readsOrder 18 = .ok (.invokevirtual 103, 3) := by decide +kernel
theorem dX6_readsOrder_21 : decode cX6_readsOrder 21 = .ok (.invokevirtual 165, 3) := by decide +kernel
theorem dX6_readsOrder_24 : decode cX6_readsOrder 24 = .ok (.iconst 1, 1) := by decide +kernel
theorem dX6_readsOrder_25 : decode cX6_readsOrder 25 = .ok (.ireturn, 1) := by decide +kernel
theorem dX6_readsOrder_26 : decode cX6_readsOrder 26 = .ok (.aload_n 0, 1) := by decide +kernel
theorem dX6_readsOrder_27 : decode cX6_readsOrder 27 = .ok (.bipush 110, 2) := by decide +kernel
theorem dX6_readsOrder_29 : decode cX6_readsOrder 29 = .ok (.invokevirtual 153, 3) := by decide +kernel
theorem dX6_readsOrder_32 : decode cX6_readsOrder 32 = .ok (.ifCond .eq 56, 3) := by decide +kernel
theorem dX6_readsOrder_35 : decode cX6_readsOrder 35 = .ok (.aload_n 0, 1) := by decide +kernel
theorem dX6_readsOrder_36 : decode cX6_readsOrder 36 = .ok (.bipush 49, 2) := by decide +kernel
theorem dX6_readsOrder_38 : decode cX6_readsOrder 38 = .ok (.bipush 57, 2) := by decide +kernel
theorem dX6_readsOrder_40 : decode cX6_readsOrder 40 = .ok (.invokevirtual 144, 3) := by decide +kernel
theorem dX6_readsOrder_43 : decode cX6_readsOrder 43 = .ok (.ifCond .ne 5, 3) := by decide +kernel
theorem dX6_readsOrder_46 : decode cX6_readsOrder 46 = .ok (.iconst 0, 1) := by decide +kernel
theorem dX6_readsOrder_47 : decode cX6_readsOrder 47 = .ok (.ireturn, 1) := by decide +kernel
theorem dX6_readsOrder_48 : decode cX6_readsOrder 48 = .ok (.aload_n 0, 1) := by decide +kernel
theorem dX6_readsOrder_49 : decode cX6_readsOrder 49 = .ok (.getfield 161, 3) := by decide +kernel
theorem dX6_readsOrder_52 : decode cX6_readsOrder 52 = .ok (.ifCond .eq 24, 3) := by decide +kernel
theorem dX6_readsOrder_55 : decode cX6_readsOrder 55 = .ok (.aload_n 0, 1) := by decide +kernel
theorem dX6_readsOrder_56 : decode cX6_readsOrder 56 = .ok (.aload_n 0, 1) := by decide +kernel
theorem dX6_readsOrder_57 : decode cX6_readsOrder 57 = .ok (.iconst 2, 1) := by decide +kernel
theorem dX6_readsOrder_58 : decode cX6_readsOrder 58 = .ok (.aload_n 0, 1) := by decide +kernel
theorem dX6_readsOrder_59 : decode cX6_readsOrder 59 = .ok (.getfield 28, 3) := by decide +kernel
theorem dX6_readsOrder_62 : decode cX6_readsOrder 62 = .ok (.aload_n 0, 1) := by decide +kernel
theorem dX6_readsOrder_63 : decode cX6_readsOrder 63 = .ok (.getfield 141, 3) := by decide +kernel
theorem dX6_readsOrder_66 : decode cX6_readsOrder 66 = .ok (.iaload, 1) := by decide +kernel
theorem dX6_readsOrder_67 : decode cX6_readsOrder 67 = .ok (.bipush 48, 2) := by decide +kernel
theorem dX6_readsOrder_69 : decode cX6_readsOrder 69 = .ok (.isub, 1) := by decide +kernel
theorem dX6_readsOrder_70 : decode cX6_readsOrder 70 = .ok (.invokevirtual 89, 3) := by decide +kernel
theorem dX6_readsOrder_73 : decode cX6_readsOrder 73 = .ok (.invokevirtual 165, 3) := by decide +kernel
theorem dX6_readsOrder_76 : decode cX6_readsOrder 76 = .ok (.aload_n 0, 1) := by decide +kernel
theorem dX6_readsOrder_77 : decode cX6_readsOrder 77 = .ok (.dup, 1) := by decide +kernel
theorem dX6_readsOrder_78 : decode cX6_readsOrder 78 = .ok (.getfield 141, 3) := by decide +kernel
theorem dX6_readsOrder_81 : decode cX6_readsOrder 81 = .ok (.iconst 1, 1) := by decide +kernel
theorem dX6_readsOrder_82 : decode cX6_readsOrder 82 = .ok (.iadd, 1) := by decide +kernel
theorem dX6_readsOrder_83 : decode cX6_readsOrder 83 = .ok (.putfield 141, 3) := by decide +kernel
theorem dX6_readsOrder_86 : decode cX6_readsOrder 86 = .ok (.iconst 1, 1) := by decide +kernel
theorem dX6_readsOrder_87 : decode cX6_readsOrder 87 = .ok (.ireturn, 1) := by decide +kernel
theorem dX6_readsOrder_88 : decode cX6_readsOrder 88 = .ok (.aload_n 0, 1) := by decide +kernel
theorem dX6_readsOrder_89 : decode cX6_readsOrder 89 = .ok (.bipush 102, 2) := by decide +kernel
theorem dX6_readsOrder_91 : decode cX6_readsOrder 91 = .ok (.invokevirtual 153, 3) := by decide +kernel
theorem dX6_readsOrder_94 : decode cX6_readsOrder 94 = .ok (.istore_n 1, 1) := by decide +kernel
theorem dX6_readsOrder_95 : decode cX6_readsOrder 95 = .ok (.iload_n 1, 1) := by decide +kernel
theorem dX6_readsOrder_96 : decode cX6_readsOrder 96 = .ok (.ifCond .ne 12, 3) := by decide +kernel
theorem dX6_readsOrder_99 : decode cX6_readsOrder 99 = .ok (.aload_n 0, 1) := by decide +kernel
theorem dX6_readsOrder_100 : decode cX6_readsOrder 100 = .ok (.bipush 98, 2) := by decide +kernel
theorem dX6_readsOrder_102 : decode cX6_readsOrder 102 = .ok (.invokevirtual 153, 3) := by decide +kernel
theorem dX6_readsOrder_105 : decode cX6_readsOrder 105 = .ok (.ifCond .eq 45, 3) := by decide +kernel
theorem dX6_readsOrder_108 : decode cX6_readsOrder 108 = .ok (.aload_n 0, 1) := by decide +kernel
theorem dX6_readsOrder_109 : decode cX6_readsOrder 109 = .ok (.invokevirtual 157, 3) := by decide +kernel
theorem dX6_readsOrder_112 : decode cX6_readsOrder 112 = .ok (.ifCond .ne 5, 3) := by decide +kernel
theorem dX6_readsOrder_115 : decode cX6_readsOrder 115 = .ok (.iconst 0, 1) := by decide +kernel
theorem dX6_readsOrder_116 : decode cX6_readsOrder 116 = .ok (.ireturn, 1) := by decide +kernel
theorem dX6_readsOrder_117 : decode cX6_readsOrder 117 = .ok (.aload_n 0, 1) := by decide +kernel
theorem dX6_readsOrder_118 : decode cX6_readsOrder 118 = .ok (.getfield 161, 3) := by decide +kernel
theorem dX6_readsOrder_121 : decode cX6_readsOrder 121 = .ok (.ifCond .eq 27, 3) := by decide +kernel
theorem dX6_readsOrder_124 : decode cX6_readsOrder 124 = .ok (.aload_n 0, 1) := by decide +kernel
theorem dX6_readsOrder_125 : decode cX6_readsOrder 125 = .ok (.aload_n 0, 1) := by decide +kernel
theorem dX6_readsOrder_126 : decode cX6_readsOrder 126 = .ok (.iload_n 1, 1) := by decide +kernel
theorem dX6_readsOrder_127 : decode cX6_readsOrder 127 = .ok (.ifCond .eq 10, 3) := by decide +kernel
theorem dX6_readsOrder_130 : decode cX6_readsOrder 130 = .ok (.aload_n 0, 1) := by decide +kernel
theorem dX6_readsOrder_131 : decode cX6_readsOrder 131 = .ok (.getfield 147, 3) := by decide +kernel
theorem dX6_readsOrder_134 : decode cX6_readsOrder 134 = .ok (.goto 8, 3) := by decide +kernel
theorem dX6_readsOrder_137 : decode cX6_readsOrder 137 = .ok (.aload_n 0, 1) := by decide +kernel
theorem dX6_readsOrder_138 : decode cX6_readsOrder 138 = .ok (.getfield 147, 3) := by decide +kernel
theorem dX6_readsOrder_141 : decode cX6_readsOrder 141 = .ok (.ineg, 1) := by decide +kernel
theorem dX6_readsOrder_142 : decode cX6_readsOrder 142 = .ok (.invokevirtual 100, 3) := by decide +kernel
theorem dX6_readsOrder_145 : decode cX6_readsOrder 145 = .ok (.invokevirtual 165, 3) := by decide +kernel
theorem dX6_readsOrder_148 : decode cX6_readsOrder 148 = .ok (.iconst 1, 1) := by decide +kernel
theorem dX6_readsOrder_149 : decode cX6_readsOrder 149 = .ok (.ireturn, 1) := by decide +kernel
theorem dX6_readsOrder_150 : decode cX6_readsOrder 150 = .ok (.aload_n 0, 1) := by decide +kernel
theorem dX6_readsOrder_151 : decode cX6_readsOrder 151 = .ok (.invokevirtual 168, 3) := by decide +kernel
theorem dX6_readsOrder_154 : decode cX6_readsOrder 154 = .ok (.ireturn, 1) := by decide +kernel
set_option maxRecDepth 20000 in
theorem ggX6_fault_X6_readsOrder : GoodIn wsX6_fault wsX6_readsOrder := goodIn_r _ [8, 2, 9, 1, 10, 11, 12, 13, 7, 14, 15, 16, 17, 18, 3, 19, 20, 21, 22, 23, 24, 25, 26, 27, 28, 29, 30, 31, 32, 33, 34, 35, 36, 37, 38, 39, 40, 41, 42, 43, 44, 45, 46, 47, 48, 49, 50, 51, 52, 53, 54, 55, 56, 57, 58, 59, 60, 61, 62, 63, 64, 65, 66, 67, 68, 69, 70, 71, 72, 73, 74, 75, 76, 77, 78, 79, 80, 81, 82, 83, 84, 85, 86, 87, 88, 89, 90, 91, 92, 93, 94, 95, 96, 97, 98, 99] (by decide +kernel) (by decide +kernel)
set_option maxRecDepth 20000 in
theorem gX6_fault_X6_readsOrder : GoodIn wsX6_fault (wsV RX6 171 RX6 yX6_readsOrder wsX6_readsOrder) := goodIn_app (goodIn_of _ (by decide +kernel)) ggX6_fault_X6_readsOrder
set_option maxRecDepth 20000 in
theorem ggX6_fault_X6_takes : GoodIn wsX6_fault wsX6_takes := goodIn_r _ [14, 1, 15, 16, 17, 7, 18, 3, 9, 19, 20, 21, 87, 88, 89, 90, 91, 92, 93, 94, 95, 96, 97, 98, 99] (by decide +kernel) (by decide +kernel)
set_option maxRecDepth 20000 in
theorem gX6_fault_X6_takes : GoodIn wsX6_fault (wsV RX6 153 RX6 yX6_takes wsX6_takes) := goodIn_app (goodIn_of _ (by decide +kernel)) ggX6_fault_X6_takes
theorem dX6_fault_0 : decode cX6_fault 0 = .ok (.aload_n 0, 1) := by decide +kernel
theorem dX6_fault_1 : decode cX6_fault 1 = .ok (.iconst 0, 1) := by decide +kernel
theorem dX6_fault_2 : decode cX6_fault 2 = .ok (.putfield 141, 3) := by decide +kernel
theorem dX6_fault_5 : decode cX6_fault 5 = .ok (.aload_n 0, 1) := by decide +kernel
theorem dX6_fault_6 : decode cX6_fault 6 = .ok (.iconst 0, 1) := by decide +kernel
theorem dX6_fault_7 : decode cX6_fault 7 = .ok (.putfield 161, 3) := by decide +kernel
theorem dX6_fault_10 : decode cX6_fault 10 = .ok (.iconst 1, 1) := by decide +kernel
theorem dX6_fault_11 : decode cX6_fault 11 = .ok (.istore_n 1, 1) := by decide +kernel
theorem dX6_fault_12 : decode cX6_fault 12 = .ok (.iload_n 1, 1) := by decide +kernel
theorem dX6_fault_13 : decode cX6_fault 13 = .ok (.ifCond .eq 25, 3) := by decide +kernel
theorem dX6_fault_16 : decode cX6_fault 16 = .ok (.aload_n 0, 1) := by decide +kernel
theorem dX6_fault_17 : decode cX6_fault 17 = .ok (.invokevirtual 171, 3) := by decide +kernel
theorem dX6_fault_20 : decode cX6_fault 20 = .ok (.ifCond .ne 8, 3) := by decide +kernel
theorem dX6_fault_23 : decode cX6_fault 23 = .ok (.aload_n 0, 1) := by decide +kernel
theorem dX6_fault_24 : decode cX6_fault 24 = .ok (.getfield 141, 3) := by decide +kernel
theorem dX6_fault_27 : decode cX6_fault 27 = .ok (.ireturn, 1) := by decide +kernel
theorem dX6_fault_28 : decode cX6_fault 28 = .ok (.aload_n 0, 1) := by decide +kernel
theorem dX6_fault_29 : decode cX6_fault 29 = .ok (.bipush 59, 2) := by decide +kernel
theorem dX6_fault_31 : decode cX6_fault 31 = .ok (.invokevirtual 153, 3) := by decide +kernel
theorem dX6_fault_34 : decode cX6_fault 34 = .ok (.istore_n 1, 1) := by decide +kernel
theorem dX6_fault_35 : decode cX6_fault 35 = .ok (.goto (-23), 3) := by decide +kernel
theorem dX6_fault_38 : decode cX6_fault 38 = .ok (.aload_n 0, 1) := by decide +kernel
theorem dX6_fault_39 : decode cX6_fault 39 = .ok (.getfield 141, 3) := by decide +kernel
theorem dX6_fault_42 : decode cX6_fault 42 = .ok (.aload_n 0, 1) := by decide +kernel
theorem dX6_fault_43 : decode cX6_fault 43 = .ok (.getfield 109, 3) := by decide +kernel
theorem dX6_fault_46 : decode cX6_fault 46 = .ok (.if_icmp .ne 8, 3) := by decide +kernel
theorem dX6_fault_49 : decode cX6_fault 49 = .ok (.bipush (-6), 2) := by decide +kernel
theorem dX6_fault_51 : decode cX6_fault 51 = .ok (.goto 7, 3) := by decide +kernel
theorem dX6_fault_54 : decode cX6_fault 54 = .ok (.aload_n 0, 1) := by decide +kernel
theorem dX6_fault_55 : decode cX6_fault 55 = .ok (.getfield 141, 3) := by decide +kernel
theorem dX6_fault_58 : decode cX6_fault 58 = .ok (.ireturn, 1) := by decide +kernel
set_option maxRecDepth 20000 in
theorem ggX6_carryOut_X6_fault : GoodIn wsX6_carryOut wsX6_fault := goodIn_r _ [11, 3, 4, 6, 12, 13, 14, 10, 15, 16, 17, 18, 19, 20, 21, 22, 23, 24, 25, 26, 27, 28, 29, 30, 31, 32, 1, 33, 34, 35, 36, 5, 37, 38, 39, 40, 41, 42, 43, 44, 45, 46, 47, 48, 49, 50, 51, 52, 53, 54, 55, 56, 57, 58, 59, 60, 61, 62, 63, 64, 65, 66, 67, 68, 69, 70, 71, 72, 73, 74, 75, 76, 77, 78, 79, 80, 81, 82, 83, 84, 85, 86, 87, 88, 89, 90, 91, 101, 102, 103, 104, 105, 106, 107, 108, 109, 110, 111, 112, 113] (by decide +kernel) (by decide +kernel)
set_option maxRecDepth 20000 in
theorem gX6_carryOut_X6_fault : GoodIn wsX6_carryOut (wsV RX6 174 RX6 yX6_fault wsX6_fault) := goodIn_app (goodIn_of _ (by decide +kernel)) ggX6_carryOut_X6_fault
set_option maxRecDepth 20000 in
theorem ggX6_carryOut_X6_copy : GoodIn wsX6_carryOut wsX6_copy := goodIn_r _ [94] (by decide +kernel) (by decide +kernel)
set_option maxRecDepth 20000 in
theorem gX6_carryOut_X6_copy : GoodIn wsX6_carryOut (va_wsS RX6 85 yX6_copy wsX6_copy) := goodIn_app (goodIn_of _ (by decide +kernel)) ggX6_carryOut_X6_copy
set_option maxRecDepth 20000 in
theorem ggX6_carryOut_X6_readsOrder : GoodIn wsX6_carryOut wsX6_readsOrder := goodIn_r _ [15, 4, 16, 3, 17, 18, 19, 20, 10, 21, 22, 23, 24, 25, 6, 26, 27, 28, 29, 30, 31, 32, 1, 33, 34, 35, 36, 5, 37, 38, 39, 40, 41, 42, 43, 44, 45, 46, 47, 48, 49, 50, 51, 52, 53, 54, 55, 56, 57, 58, 59, 60, 61, 62, 63, 64, 65, 66, 67, 68, 69, 70, 71, 72, 73, 74, 75, 76, 77, 78, 79, 80, 81, 82, 83, 84, 85, 86, 87, 88, 89, 90, 91, 101, 102, 103, 104, 105, 106, 107, 108, 109, 110, 111, 112, 113] (by decide +kernel) (by decide +kernel)
set_option maxRecDepth 20000 in
theorem gX6_carryOut_X6_readsOrder : GoodIn wsX6_carryOut (wsV RX6 171 RX6 yX6_readsOrder wsX6_readsOrder) := goodIn_app (goodIn_of _ (by decide +kernel)) ggX6_carryOut_X6_readsOrder
set_option maxRecDepth 20000 in
theorem ggX6_carryOut_X6_takes : GoodIn wsX6_carryOut wsX6_takes := goodIn_r _ [21, 3, 22, 23, 24, 10, 25, 6, 16, 26, 27, 28, 101, 102, 103, 104, 105, 106, 107, 108, 109, 110, 111, 112, 113] (by decide +kernel) (by decide +kernel)
set_option maxRecDepth 20000 in
theorem gX6_carryOut_X6_takes : GoodIn wsX6_carryOut (wsV RX6 153 RX6 yX6_takes wsX6_takes) := goodIn_app (goodIn_of _ (by decide +kernel)) ggX6_carryOut_X6_takes
set_option maxRecDepth 20000 in
theorem ggX6_carryOut_X6_changed : GoodIn wsX6_carryOut wsX6_changed := goodIn_r _ [98, 99, 100, 2, 101, 102, 103, 104, 105, 106, 107, 108, 109, 110, 111, 112, 113] (by decide +kernel) (by decide +kernel)
set_option maxRecDepth 20000 in
theorem gX6_carryOut_X6_changed : GoodIn wsX6_carryOut (wsV RX6 93 RX6 yX6_changed wsX6_changed) := goodIn_app (goodIn_of _ (by decide +kernel)) ggX6_carryOut_X6_changed
theorem dX6_carryOut_0 : decode cX6_carryOut 0 = .ok (.aload_n 0, 1) := by decide +kernel
theorem dX6_carryOut_1 : decode cX6_carryOut 1 = .ok (.invokevirtual 174, 3) := by decide +kernel
theorem dX6_carryOut_4 : decode cX6_carryOut 4 = .ok (.bipush (-6), 2) := by decide +kernel
theorem dX6_carryOut_6 : decode cX6_carryOut 6 = .ok (.if_icmp .eq 6, 3) := by decide +kernel
theorem dX6_carryOut_9 : decode cX6_carryOut 9 = .ok (.bipush (-3), 2) := by decide +kernel
theorem dX6_carryOut_11 : decode cX6_carryOut 11 = .ok (.ireturn, 1) := by decide +kernel
theorem dX6_carryOut_12 : decode cX6_carryOut 12 = .ok (.aload_n 0, 1) := by decide +kernel
theorem dX6_carryOut_13 : decode cX6_carryOut 13 = .ok (.getfield 7, 3) := by decide +kernel
theorem dX6_carryOut_16 : decode cX6_carryOut 16 = .ok (.aload_n 0, 1) := by decide +kernel
theorem dX6_carryOut_17 : decode cX6_carryOut 17 = .ok (.getfield 13, 3) := by decide +kernel
theorem dX6_carryOut_20 : decode cX6_carryOut 20 = .ok (.invokestatic 85, 3) := by decide +kernel
theorem dX6_carryOut_23 : decode cX6_carryOut 23 = .ok (.aload_n 0, 1) := by decide +kernel
theorem dX6_carryOut_24 : decode cX6_carryOut 24 = .ok (.iconst 0, 1) := by decide +kernel
theorem dX6_carryOut_25 : decode cX6_carryOut 25 = .ok (.putfield 141, 3) := by decide +kernel
theorem dX6_carryOut_28 : decode cX6_carryOut 28 = .ok (.aload_n 0, 1) := by decide +kernel
theorem dX6_carryOut_29 : decode cX6_carryOut 29 = .ok (.iconst 1, 1) := by decide +kernel
theorem dX6_carryOut_30 : decode cX6_carryOut 30 = .ok (.putfield 161, 3) := by decide +kernel
theorem dX6_carryOut_33 : decode cX6_carryOut 33 = .ok (.aload_n 0, 1) := by decide +kernel
theorem dX6_carryOut_34 : decode cX6_carryOut 34 = .ok (.iconst 0, 1) := by decide +kernel
theorem dX6_carryOut_35 : decode cX6_carryOut 35 = .ok (.putfield 150, 3) := by decide +kernel
theorem dX6_carryOut_38 : decode cX6_carryOut 38 = .ok (.iconst 0, 1) := by decide +kernel
theorem dX6_carryOut_39 : decode cX6_carryOut 39 = .ok (.istore_n 1, 1) := by decide +kernel
theorem dX6_carryOut_40 : decode cX6_carryOut 40 = .ok (.iconst 1, 1) := by decide +kernel
theorem dX6_carryOut_41 : decode cX6_carryOut 41 = .ok (.istore_n 2, 1) := by decide +kernel
theorem dX6_carryOut_42 : decode cX6_carryOut 42 = .ok (.iload_n 2, 1) := by decide +kernel
theorem dX6_carryOut_43 : decode cX6_carryOut 43 = .ok (.ifCond .eq 48, 3) := by decide +kernel
theorem dX6_carryOut_46 : decode cX6_carryOut 46 = .ok (.aload_n 0, 1) := by decide +kernel
theorem dX6_carryOut_47 : decode cX6_carryOut 47 = .ok (.invokevirtual 171, 3) := by decide +kernel
theorem dX6_carryOut_50 : decode cX6_carryOut 50 = .ok (.istore_n 3, 1) := by decide +kernel
theorem dX6_carryOut_51 : decode cX6_carryOut 51 = .ok (.iload_n 1, 1) := by decide +kernel
theorem dX6_carryOut_52 : decode cX6_carryOut 52 = .ok (.aload_n 0, 1) := by decide +kernel
theorem dX6_carryOut_53 : decode cX6_carryOut 53 = .ok (.getfield 150, 3) := by decide +kernel
theorem dX6_carryOut_56 : decode cX6_carryOut 56 = .ok (.ifCond .ne 7, 3) := by decide +kernel
theorem dX6_carryOut_59 : decode cX6_carryOut 59 = .ok (.iconst 1, 1) := by decide +kernel
theorem dX6_carryOut_60 : decode cX6_carryOut 60 = .ok (.goto 4, 3) := by decide +kernel
theorem dX6_carryOut_63 : decode cX6_carryOut 63 = .ok (.iconst 0, 1) := by decide +kernel
theorem dX6_carryOut_64 : decode cX6_carryOut 64 = .ok (.iadd, 1) := by decide +kernel
theorem dX6_carryOut_65 : decode cX6_carryOut 65 = .ok (.istore_n 1, 1) := by decide +kernel
theorem dX6_carryOut_66 : decode cX6_carryOut 66 = .ok (.aload_n 0, 1) := by decide +kernel
theorem dX6_carryOut_67 : decode cX6_carryOut 67 = .ok (.getfield 150, 3) := by decide +kernel
theorem dX6_carryOut_70 : decode cX6_carryOut 70 = .ok (.ifCond .ne 16, 3) := by decide +kernel
theorem dX6_carryOut_73 : decode cX6_carryOut 73 = .ok (.aload_n 0, 1) := by decide +kernel
theorem dX6_carryOut_74 : decode cX6_carryOut 74 = .ok (.bipush 59, 2) := by decide +kernel
theorem dX6_carryOut_76 : decode cX6_carryOut 76 = .ok (.invokevirtual 153, 3) := by decide +kernel
theorem dX6_carryOut_79 : decode cX6_carryOut 79 = .ok (.ifCond .eq 7, 3) := by decide +kernel
theorem dX6_carryOut_82 : decode cX6_carryOut 82 = .ok (.iconst 1, 1) := by decide +kernel
theorem dX6_carryOut_83 : decode cX6_carryOut 83 = .ok (.goto 4, 3) := by decide +kernel
theorem dX6_carryOut_86 : decode cX6_carryOut 86 = .ok (.iconst 0, 1) := by decide +kernel
theorem dX6_carryOut_87 : decode cX6_carryOut 87 = .ok (.istore_n 2, 1) := by decide +kernel
theorem dX6_carryOut_88 : decode cX6_carryOut 88 = .ok (.goto (-46), 3) := by decide +kernel
theorem dX6_carryOut_91 : decode cX6_carryOut 91 = .ok (.aload_n 0, 1) := by decide +kernel
theorem dX6_carryOut_92 : decode cX6_carryOut 92 = .ok (.iconst 0, 1) := by decide +kernel
theorem dX6_carryOut_93 : decode cX6_carryOut 93 = .ok (.putfield 109, 3) := by decide +kernel
theorem dX6_carryOut_96 : decode cX6_carryOut 96 = .ok (.aload_n 0, 1) := by decide +kernel
theorem dX6_carryOut_97 : decode cX6_carryOut 97 = .ok (.iload_n 1, 1) := by decide +kernel
theorem dX6_carryOut_98 : decode cX6_carryOut 98 = .ok (.invokevirtual 93, 3) := by decide +kernel
theorem dX6_carryOut_101 : decode cX6_carryOut 101 = .ok (.ireturn, 1) := by decide +kernel
theorem dX6_undo_0 : decode cX6_undo 0 = .ok (.aload_n 0, 1) := by decide +kernel
theorem dX6_undo_1 : decode cX6_undo 1 = .ok (.getfield 34, 3) := by decide +kernel
theorem dX6_undo_4 : decode cX6_undo 4 = .ok (.ifCond .ne 6, 3) := by decide +kernel
theorem dX6_undo_7 : decode cX6_undo 7 = .ok (.bipush (-5), 2) := by decide +kernel
theorem dX6_undo_9 : decode cX6_undo 9 = .ok (.ireturn, 1) := by decide +kernel
theorem dX6_undo_10 : decode cX6_undo 10 = .ok (.aload_n 0, 1) := by decide +kernel
theorem dX6_undo_11 : decode cX6_undo 11 = .ok (.dup, 1) := by decide +kernel
theorem dX6_undo_12 : decode cX6_undo 12 = .ok (.getfield 34, 3) := by decide +kernel
theorem dX6_undo_15 : decode cX6_undo 15 = .ok (.iconst 1, 1) := by decide +kernel
theorem dX6_undo_16 : decode cX6_undo 16 = .ok (.isub, 1) := by decide +kernel
theorem dX6_undo_17 : decode cX6_undo 17 = .ok (.putfield 34, 3) := by decide +kernel
theorem dX6_undo_20 : decode cX6_undo 20 = .ok (.iconst 0, 1) := by decide +kernel
theorem dX6_undo_21 : decode cX6_undo 21 = .ok (.istore_n 1, 1) := by decide +kernel
theorem dX6_undo_22 : decode cX6_undo 22 = .ok (.iload_n 1, 1) := by decide +kernel
theorem dX6_undo_23 : decode cX6_undo 23 = .ok (.sipush 222, 3) := by decide +kernel
theorem dX6_undo_26 : decode cX6_undo 26 = .ok (.if_icmp .ge 30, 3) := by decide +kernel
theorem dX6_undo_29 : decode cX6_undo 29 = .ok (.aload_n 0, 1) := by decide +kernel
theorem dX6_undo_30 : decode cX6_undo 30 = .ok (.getfield 7, 3) := by decide +kernel
theorem dX6_undo_33 : decode cX6_undo 33 = .ok (.iload_n 1, 1) := by decide +kernel
theorem dX6_undo_34 : decode cX6_undo 34 = .ok (.aload_n 0, 1) := by decide +kernel
theorem dX6_undo_35 : decode cX6_undo 35 = .ok (.getfield 19, 3) := by decide +kernel
theorem dX6_undo_38 : decode cX6_undo 38 = .ok (.sipush 222, 3) := by decide +kernel
theorem dX6_undo_41 : decode cX6_undo 41 = .ok (.aload_n 0, 1) := by decide +kernel
theorem dX6_undo_42 : decode cX6_undo 42 = .ok (.getfield 34, 3) := by decide +kernel
theorem dX6_undo_45 : decode cX6_undo 45 = .ok (.imul, 1) := by decide +kernel
theorem dX6_undo_46 : decode cX6_undo 46 = .ok (.iload_n 1, 1) := by decide +kernel
theorem dX6_undo_47 : decode cX6_undo 47 = .ok (.iadd, 1) := by decide +kernel
theorem dX6_undo_48 : decode cX6_undo 48 = .ok (.iaload, 1) := by decide +kernel
theorem dX6_undo_49 : decode cX6_undo 49 = .ok (.iastore, 1) := by decide +kernel
theorem dX6_undo_50 : decode cX6_undo 50 = .ok (.iinc 1 1, 3) := by decide +kernel
theorem dX6_undo_53 : decode cX6_undo 53 = .ok (.goto (-31), 3) := by decide +kernel
theorem dX6_undo_56 : decode cX6_undo 56 = .ok (.aload_n 0, 1) := by decide +kernel
theorem dX6_undo_57 : decode cX6_undo 57 = .ok (.getfield 34, 3) := by decide +kernel
theorem dX6_undo_60 : decode cX6_undo 60 = .ok (.ireturn, 1) := by decide +kernel
set_option maxRecDepth 20000 in
theorem ggX6_save_X6_in : GoodIn wsX6_save wsX6_in := goodIn_r _ [7] (by decide +kernel) (by decide +kernel)
set_option maxRecDepth 20000 in
theorem gX6_save_X6_in : GoodIn wsX6_save (va_wsS RX6 56 yX6_in wsX6_in) := goodIn_app (goodIn_of _ (by decide +kernel)) ggX6_save_X6_in
theorem dX6_save_0 : decode cX6_save 0 = .ok (.iload_n 1, 1) := by decide +kernel
theorem dX6_save_1 : decode cX6_save 1 = .ok (.i2l, 1) := by decide +kernel
theorem dX6_save_2 : decode cX6_save 2 = .ok (.lconst 0, 1) := by decide +kernel
theorem dX6_save_3 : decode cX6_save 3 = .ok (.lconst 1, 1) := by decide +kernel
theorem dX6_save_4 : decode cX6_save 4 = .ok (.invokestatic 56, 3) := by decide +kernel
theorem dX6_save_7 : decode cX6_save 7 = .ok (.ifCond .ne 6, 3) := by decide +kernel
theorem dX6_save_10 : decode cX6_save 10 = .ok (.bipush (-2), 2) := by decide +kernel
theorem dX6_save_12 : decode cX6_save 12 = .ok (.ireturn, 1) := by decide +kernel
theorem dX6_save_13 : decode cX6_save 13 = .ok (.iconst 0, 1) := by decide +kernel
theorem dX6_save_14 : decode cX6_save 14 = .ok (.istore_n 2, 1) := by decide +kernel
theorem dX6_save_15 : decode cX6_save 15 = .ok (.iload_n 2, 1) := by decide +kernel
theorem dX6_save_16 : decode cX6_save 16 = .ok (.sipush 222, 3) := by decide +kernel
theorem dX6_save_19 : decode cX6_save 19 = .ok (.if_icmp .ge 27, 3) := by decide +kernel
theorem dX6_save_22 : decode cX6_save 22 = .ok (.aload_n 0, 1) := by decide +kernel
theorem dX6_save_23 : decode cX6_save 23 = .ok (.getfield 22, 3) := by decide +kernel
theorem dX6_save_26 : decode cX6_save 26 = .ok (.sipush 222, 3) := by decide +kernel
theorem dX6_save_29 : decode cX6_save 29 = .ok (.iload_n 1, 1) := by decide +kernel
theorem dX6_save_30 : decode cX6_save 30 = .ok (.imul, 1) := by decide +kernel
theorem dX6_save_31 : decode cX6_save 31 = .ok (.iload_n 2, 1) := by decide +kernel
theorem dX6_save_32 : decode cX6_save 32 = .ok (.iadd, 1) := by decide +kernel
theorem dX6_save_33 : decode cX6_save 33 = .ok (.aload_n 0, 1) := by decide +kernel
theorem dX6_save_34 : decode cX6_save 34 = .ok (.getfield 7, 3) := by decide +kernel
theorem dX6_save_37 : decode cX6_save 37 = .ok (.iload_n 2, 1) := by decide +kernel
theorem dX6_save_38 : decode cX6_save 38 = .ok (.iaload, 1) := by decide +kernel
theorem dX6_save_39 : decode cX6_save 39 = .ok (.iastore, 1) := by decide +kernel
theorem dX6_save_40 : decode cX6_save 40 = .ok (.iinc 2 1, 3) := by decide +kernel
theorem dX6_save_43 : decode cX6_save 43 = .ok (.goto (-28), 3) := by decide +kernel
theorem dX6_save_46 : decode cX6_save 46 = .ok (.aload_n 0, 1) := by decide +kernel
theorem dX6_save_47 : decode cX6_save 47 = .ok (.getfield 25, 3) := by decide +kernel
theorem dX6_save_50 : decode cX6_save 50 = .ok (.iload_n 1, 1) := by decide +kernel
theorem dX6_save_51 : decode cX6_save 51 = .ok (.iconst 1, 1) := by decide +kernel
theorem dX6_save_52 : decode cX6_save 52 = .ok (.iastore, 1) := by decide +kernel
theorem dX6_save_53 : decode cX6_save 53 = .ok (.aload_n 0, 1) := by decide +kernel
theorem dX6_save_54 : decode cX6_save 54 = .ok (.getfield 7, 3) := by decide +kernel
theorem dX6_save_57 : decode cX6_save 57 = .ok (.bipush 6, 2) := by decide +kernel
theorem dX6_save_59 : decode cX6_save 59 = .ok (.iaload, 1) := by decide +kernel
theorem dX6_save_60 : decode cX6_save 60 = .ok (.ireturn, 1) := by decide +kernel
set_option maxRecDepth 20000 in
theorem ggX6_restore_X6_in : GoodIn wsX6_restore wsX6_in := goodIn_r _ [8] (by decide +kernel) (by decide +kernel)
set_option maxRecDepth 20000 in
theorem gX6_restore_X6_in : GoodIn wsX6_restore (va_wsS RX6 56 yX6_in wsX6_in) := goodIn_app (goodIn_of _ (by decide +kernel)) ggX6_restore_X6_in
set_option maxRecDepth 20000 in
theorem ggX6_restore_X6_copy : GoodIn wsX6_restore wsX6_copy := goodIn_r _ [11] (by decide +kernel) (by decide +kernel)
set_option maxRecDepth 20000 in
theorem gX6_restore_X6_copy : GoodIn wsX6_restore (va_wsS RX6 85 yX6_copy wsX6_copy) := goodIn_app (goodIn_of _ (by decide +kernel)) ggX6_restore_X6_copy
set_option maxRecDepth 20000 in
theorem ggX6_restore_X6_changed : GoodIn wsX6_restore wsX6_changed := goodIn_r _ [15, 16, 17, 3, 18, 19, 20, 21, 22, 23, 24, 25, 26, 27, 28, 29, 30] (by decide +kernel) (by decide +kernel)
set_option maxRecDepth 20000 in
theorem gX6_restore_X6_changed : GoodIn wsX6_restore (wsV RX6 93 RX6 yX6_changed wsX6_changed) := goodIn_app (goodIn_of _ (by decide +kernel)) ggX6_restore_X6_changed
theorem dX6_restore_0 : decode cX6_restore 0 = .ok (.iload_n 1, 1) := by decide +kernel
theorem dX6_restore_1 : decode cX6_restore 1 = .ok (.i2l, 1) := by decide +kernel
theorem dX6_restore_2 : decode cX6_restore 2 = .ok (.lconst 0, 1) := by decide +kernel
theorem dX6_restore_3 : decode cX6_restore 3 = .ok (.lconst 1, 1) := by decide +kernel
theorem dX6_restore_4 : decode cX6_restore 4 = .ok (.invokestatic 56, 3) := by decide +kernel
theorem dX6_restore_7 : decode cX6_restore 7 = .ok (.ifCond .ne 6, 3) := by decide +kernel
theorem dX6_restore_10 : decode cX6_restore 10 = .ok (.bipush (-2), 2) := by decide +kernel
theorem dX6_restore_12 : decode cX6_restore 12 = .ok (.ireturn, 1) := by decide +kernel
theorem dX6_restore_13 : decode cX6_restore 13 = .ok (.aload_n 0, 1) := by decide +kernel
theorem dX6_restore_14 : decode cX6_restore 14 = .ok (.getfield 25, 3) := by decide +kernel
theorem dX6_restore_17 : decode cX6_restore 17 = .ok (.iload_n 1, 1) := by decide +kernel
theorem dX6_restore_18 : decode cX6_restore 18 = .ok (.iaload, 1) := by decide +kernel
theorem dX6_restore_19 : decode cX6_restore 19 = .ok (.ifCond .ne 6, 3) := by decide +kernel
theorem dX6_restore_22 : decode cX6_restore 22 = .ok (.bipush (-5), 2) := by decide +kernel
theorem dX6_restore_24 : decode cX6_restore 24 = .ok (.ireturn, 1) := by decide +kernel
theorem dX6_restore_25 : decode cX6_restore 25 = .ok (.aload_n 0, 1) := by decide +kernel
theorem dX6_restore_26 : decode cX6_restore 26 = .ok (.getfield 7, 3) := by decide +kernel
theorem dX6_restore_29 : decode cX6_restore 29 = .ok (.aload_n 0, 1) := by decide +kernel
theorem dX6_restore_30 : decode cX6_restore 30 = .ok (.getfield 13, 3) := by decide +kernel
theorem dX6_restore_33 : decode cX6_restore 33 = .ok (.invokestatic 85, 3) := by decide +kernel
theorem dX6_restore_36 : decode cX6_restore 36 = .ok (.iconst 0, 1) := by decide +kernel
theorem dX6_restore_37 : decode cX6_restore 37 = .ok (.istore_n 2, 1) := by decide +kernel
theorem dX6_restore_38 : decode cX6_restore 38 = .ok (.iload_n 2, 1) := by decide +kernel
theorem dX6_restore_39 : decode cX6_restore 39 = .ok (.sipush 222, 3) := by decide +kernel
theorem dX6_restore_42 : decode cX6_restore 42 = .ok (.if_icmp .ge 27, 3) := by decide +kernel
theorem dX6_restore_45 : decode cX6_restore 45 = .ok (.aload_n 0, 1) := by decide +kernel
theorem dX6_restore_46 : decode cX6_restore 46 = .ok (.getfield 7, 3) := by decide +kernel
theorem dX6_restore_49 : decode cX6_restore 49 = .ok (.iload_n 2, 1) := by decide +kernel
theorem dX6_restore_50 : decode cX6_restore 50 = .ok (.aload_n 0, 1) := by decide +kernel
theorem dX6_restore_51 : decode cX6_restore 51 = .ok (.getfield 22, 3) := by decide +kernel
theorem dX6_restore_54 : decode cX6_restore 54 = .ok (.sipush 222, 3) := by decide +kernel
theorem dX6_restore_57 : decode cX6_restore 57 = .ok (.iload_n 1, 1) := by decide +kernel
theorem dX6_restore_58 : decode cX6_restore 58 = .ok (.imul, 1) := by decide +kernel
theorem dX6_restore_59 : decode cX6_restore 59 = .ok (.iload_n 2, 1) := by decide +kernel
theorem dX6_restore_60 : decode cX6_restore 60 = .ok (.iadd, 1) := by decide +kernel
theorem dX6_restore_61 : decode cX6_restore 61 = .ok (.iaload, 1) := by decide +kernel
theorem dX6_restore_62 : decode cX6_restore 62 = .ok (.iastore, 1) := by decide +kernel
theorem dX6_restore_63 : decode cX6_restore 63 = .ok (.iinc 2 1, 3) := by decide +kernel
theorem dX6_restore_66 : decode cX6_restore 66 = .ok (.goto (-28), 3) := by decide +kernel
theorem dX6_restore_69 : decode cX6_restore 69 = .ok (.aload_n 0, 1) := by decide +kernel
theorem dX6_restore_70 : decode cX6_restore 70 = .ok (.aload_n 0, 1) := by decide +kernel
theorem dX6_restore_71 : decode cX6_restore 71 = .ok (.getfield 7, 3) := by decide +kernel
theorem dX6_restore_74 : decode cX6_restore 74 = .ok (.bipush 6, 2) := by decide +kernel
theorem dX6_restore_76 : decode cX6_restore 76 = .ok (.iaload, 1) := by decide +kernel
theorem dX6_restore_77 : decode cX6_restore 77 = .ok (.invokevirtual 93, 3) := by decide +kernel
theorem dX6_restore_80 : decode cX6_restore 80 = .ok (.ireturn, 1) := by decide +kernel
end
section
theorem dJxe99ae_isNaN_b9ae7_0 : decode cJxe99ae_isNaN_b9ae7 0 = .ok (.dload_n 0, 1) := by decide +kernel
theorem dJxe99ae_isNaN_b9ae7_1 : decode cJxe99ae_isNaN_b9ae7 1 = .ok (.dload_n 0, 1) := by decide +kernel
theorem dJxe99ae_isNaN_b9ae7_2 : decode cJxe99ae_isNaN_b9ae7 2 = .ok (.dcmp .l, 1) := by decide +kernel
theorem dJxe99ae_isNaN_b9ae7_3 : decode cJxe99ae_isNaN_b9ae7 3 = .ok (.ifCond .eq 7, 3) := by decide +kernel
theorem dJxe99ae_isNaN_b9ae7_6 : decode cJxe99ae_isNaN_b9ae7 6 = .ok (.iconst 1, 1) := by decide +kernel
theorem dJxe99ae_isNaN_b9ae7_7 : decode cJxe99ae_isNaN_b9ae7 7 = .ok (.goto 4, 3) := by decide +kernel
theorem dJxe99ae_isNaN_b9ae7_10 : decode cJxe99ae_isNaN_b9ae7 10 = .ok (.iconst 0, 1) := by decide +kernel
theorem dJxe99ae_isNaN_b9ae7_11 : decode cJxe99ae_isNaN_b9ae7 11 = .ok (.ireturn, 1) := by decide +kernel
set_option maxRecDepth 20000 in
theorem ggJxe99ae_doubleToLongBits_ccdee_Jxe99ae_isNaN_b9ae7 : GoodIn wsJxe99ae_doubleToLongBits_ccdee wsJxe99ae_isNaN_b9ae7 := goodIn_r _ [9] (by decide +kernel) (by decide +kernel)
set_option maxRecDepth 20000 in
theorem gJxe99ae_doubleToLongBits_ccdee_Jxe99ae_isNaN_b9ae7 : GoodIn wsJxe99ae_doubleToLongBits_ccdee (va_wsS RJxe99ae 122 yJxe99ae_isNaN_b9ae7 wsJxe99ae_isNaN_b9ae7) := goodIn_app (goodIn_of _ (by decide +kernel)) ggJxe99ae_doubleToLongBits_ccdee_Jxe99ae_isNaN_b9ae7
theorem dJxe99ae_doubleToLongBits_ccdee_0 : decode cJxe99ae_doubleToLongBits_ccdee 0 = .ok (.dload_n 0, 1) := by decide +kernel
theorem dJxe99ae_doubleToLongBits_ccdee_1 : decode cJxe99ae_doubleToLongBits_ccdee 1 = .ok (.invokestatic 122, 3) := by decide +kernel
theorem dJxe99ae_doubleToLongBits_ccdee_4 : decode cJxe99ae_doubleToLongBits_ccdee 4 = .ok (.ifCond .ne 8, 3) := by decide +kernel
theorem dJxe99ae_doubleToLongBits_ccdee_7 : decode cJxe99ae_doubleToLongBits_ccdee 7 = .ok (.dload_n 0, 1) := by decide +kernel
theorem dJxe99ae_doubleToLongBits_ccdee_8 : decode cJxe99ae_doubleToLongBits_ccdee 8 = .ok (.invokestatic 134, 3) := by decide +kernel
theorem dJxe99ae_doubleToLongBits_ccdee_11 : decode cJxe99ae_doubleToLongBits_ccdee 11 = .ok (.lreturn, 1) := by decide +kernel
theorem dJxe99ae_doubleToLongBits_ccdee_12 : decode cJxe99ae_doubleToLongBits_ccdee 12 = .ok (.ldc2_w 137, 3) := by decide +kernel
theorem dJxe99ae_doubleToLongBits_ccdee_15 : decode cJxe99ae_doubleToLongBits_ccdee 15 = .ok (.lreturn, 1) := by decide +kernel
theorem dJxf58ca_isNaN_12338_0 : decode cJxf58ca_isNaN_12338 0 = .ok (.fload_n 0, 1) := by decide +kernel
theorem dJxf58ca_isNaN_12338_1 : decode cJxf58ca_isNaN_12338 1 = .ok (.fload_n 0, 1) := by decide +kernel
theorem dJxf58ca_isNaN_12338_2 : decode cJxf58ca_isNaN_12338 2 = .ok (.fcmp .l, 1) := by decide +kernel
theorem dJxf58ca_isNaN_12338_3 : decode cJxf58ca_isNaN_12338 3 = .ok (.ifCond .eq 7, 3) := by decide +kernel
theorem dJxf58ca_isNaN_12338_6 : decode cJxf58ca_isNaN_12338 6 = .ok (.iconst 1, 1) := by decide +kernel
theorem dJxf58ca_isNaN_12338_7 : decode cJxf58ca_isNaN_12338 7 = .ok (.goto 4, 3) := by decide +kernel
theorem dJxf58ca_isNaN_12338_10 : decode cJxf58ca_isNaN_12338 10 = .ok (.iconst 0, 1) := by decide +kernel
theorem dJxf58ca_isNaN_12338_11 : decode cJxf58ca_isNaN_12338 11 = .ok (.ireturn, 1) := by decide +kernel
set_option maxRecDepth 20000 in
theorem ggJxf58ca_floatToIntBits_5c35a_Jxf58ca_isNaN_12338 : GoodIn wsJxf58ca_floatToIntBits_5c35a wsJxf58ca_isNaN_12338 := goodIn_r _ [9] (by decide +kernel) (by decide +kernel)
set_option maxRecDepth 20000 in
theorem gJxf58ca_floatToIntBits_5c35a_Jxf58ca_isNaN_12338 : GoodIn wsJxf58ca_floatToIntBits_5c35a (va_wsS RJxf58ca 59 yJxf58ca_isNaN_12338 wsJxf58ca_isNaN_12338) := goodIn_app (goodIn_of _ (by decide +kernel)) ggJxf58ca_floatToIntBits_5c35a_Jxf58ca_isNaN_12338
theorem dJxf58ca_floatToIntBits_5c35a_0 : decode cJxf58ca_floatToIntBits_5c35a 0 = .ok (.fload_n 0, 1) := by decide +kernel
theorem dJxf58ca_floatToIntBits_5c35a_1 : decode cJxf58ca_floatToIntBits_5c35a 1 = .ok (.invokestatic 59, 3) := by decide +kernel
theorem dJxf58ca_floatToIntBits_5c35a_4 : decode cJxf58ca_floatToIntBits_5c35a 4 = .ok (.ifCond .ne 8, 3) := by decide +kernel
theorem dJxf58ca_floatToIntBits_5c35a_7 : decode cJxf58ca_floatToIntBits_5c35a 7 = .ok (.fload_n 0, 1) := by decide +kernel
theorem dJxf58ca_floatToIntBits_5c35a_8 : decode cJxf58ca_floatToIntBits_5c35a 8 = .ok (.invokestatic 74, 3) := by decide +kernel
theorem dJxf58ca_floatToIntBits_5c35a_11 : decode cJxf58ca_floatToIntBits_5c35a 11 = .ok (.ireturn, 1) := by decide +kernel
theorem dJxf58ca_floatToIntBits_5c35a_12 : decode cJxf58ca_floatToIntBits_5c35a 12 = .ok (.ldc 77, 2) := by decide +kernel
theorem dJxf58ca_floatToIntBits_5c35a_14 : decode cJxf58ca_floatToIntBits_5c35a 14 = .ok (.ireturn, 1) := by decide +kernel
theorem dJ9_abs_0f7a4_0 : decode cJ9_abs_0f7a4 0 = .ok (.iload_n 0, 1) := by decide +kernel
theorem dJ9_abs_0f7a4_1 : decode cJ9_abs_0f7a4 1 = .ok (.ifCond .ge 8, 3) := by decide +kernel
theorem dJ9_abs_0f7a4_4 : decode cJ9_abs_0f7a4 4 = .ok (.iload_n 0, 1) := by decide +kernel
theorem dJ9_abs_0f7a4_5 : decode cJ9_abs_0f7a4 5 = .ok (.ineg, 1) := by decide +kernel
theorem dJ9_abs_0f7a4_6 : decode cJ9_abs_0f7a4 6 = .ok (.goto 4, 3) := by decide +kernel
theorem dJ9_abs_0f7a4_9 : decode cJ9_abs_0f7a4 9 = .ok (.iload_n 0, 1) := by decide +kernel
theorem dJ9_abs_0f7a4_10 : decode cJ9_abs_0f7a4 10 = .ok (.ireturn, 1) := by decide +kernel
theorem dJ9_min_7cf53_0 : decode cJ9_min_7cf53 0 = .ok (.iload_n 0, 1) := by decide +kernel
theorem dJ9_min_7cf53_1 : decode cJ9_min_7cf53 1 = .ok (.iload_n 1, 1) := by decide +kernel
theorem dJ9_min_7cf53_2 : decode cJ9_min_7cf53 2 = .ok (.if_icmp .gt 7, 3) := by decide +kernel
theorem dJ9_min_7cf53_5 : decode cJ9_min_7cf53 5 = .ok (.iload_n 0, 1) := by decide +kernel
theorem dJ9_min_7cf53_6 : decode cJ9_min_7cf53 6 = .ok (.goto 4, 3) := by decide +kernel
theorem dJ9_min_7cf53_9 : decode cJ9_min_7cf53 9 = .ok (.iload_n 1, 1) := by decide +kernel
theorem dJ9_min_7cf53_10 : decode cJ9_min_7cf53 10 = .ok (.ireturn, 1) := by decide +kernel
set_option maxRecDepth 20000 in
theorem ggL_law_X5_init : GoodIn wsL_law wsX5_init := goodIn_r _ [9, 10, 11, 12, 13, 14, 15, 16, 17, 18, 19, 20, 21, 22, 23, 24, 25, 26, 27, 28, 29, 30, 31, 32, 33, 34, 35, 36, 37, 38, 39, 40, 41, 42, 43, 44, 45, 46, 47, 48, 49, 50, 51, 52, 53, 54, 55, 56, 57, 58, 59, 60, 61, 62, 629, 630, 631, 632, 633, 634, 635, 636, 637, 638, 639, 640, 641, 642, 643, 644, 611, 612, 613, 614, 615, 645, 646, 647, 648, 649, 650, 651, 652, 653, 654, 655] (by decide +kernel) (by decide +kernel)
set_option maxRecDepth 20000 in
theorem gL_law_X5_init : GoodIn wsL_law (wsX5_init) := ggL_law_X5_init
set_option maxRecDepth 20000 in
theorem ggL_law_X6_init : GoodIn wsL_law wsX6_init := goodIn_r _ [65, 66, 11, 12, 34, 67, 68, 69, 70, 71, 72, 73, 74, 75, 76, 5, 77, 616, 617, 618, 619, 620, 621, 622, 623, 624, 625, 626, 627, 628] (by decide +kernel) (by decide +kernel)
set_option maxRecDepth 20000 in
theorem gL_law_X6_init : GoodIn wsL_law (wsX6_init) := ggL_law_X6_init
set_option maxRecDepth 20000 in
theorem ggL_law_X5_set : GoodIn wsL_law wsX5_set := goodIn_r _ [81, 21, 16, 82, 83, 84, 20, 85, 86, 87, 88, 89, 90, 46, 91, 92, 15, 93, 35, 37, 38, 39, 40, 36, 94, 95, 96, 97, 98, 99, 100, 101, 102, 103, 104, 105, 106, 107, 108, 109, 110, 111, 112, 113, 114, 115, 116, 117, 118, 119, 120, 121, 122, 123, 611, 612, 613, 614, 615, 645, 646, 647, 629, 630, 631, 632, 633, 634, 635, 636, 637, 638, 639, 640, 641, 642, 643, 644] (by decide +kernel) (by decide +kernel)
set_option maxRecDepth 20000 in
theorem gL_law_X5_set : GoodIn wsL_law (wsV RL 13 RX5 yX5_set wsX5_set) := goodIn_app (goodIn_of _ (by decide +kernel)) ggL_law_X5_set
set_option maxRecDepth 20000 in
theorem ggL_law_X6_set : GoodIn wsL_law wsX6_set := goodIn_r _ [127, 67, 68, 128, 129, 5, 130, 131, 132, 133, 134, 135, 136, 137, 138, 139, 140, 141, 142, 143, 144, 145, 146, 147, 148, 149, 150, 151, 152, 70, 616, 617, 618, 619, 620, 621, 622, 623, 624, 625, 626, 627, 628] (by decide +kernel) (by decide +kernel)
set_option maxRecDepth 20000 in
theorem gL_law_X6_set : GoodIn wsL_law (wsV RL 17 RX6 yX6_set wsX6_set) := goodIn_app (goodIn_of _ (by decide +kernel)) ggL_law_X6_set
set_option maxRecDepth 20000 in
theorem ggL_law_X5_feed : GoodIn wsL_law wsX5_feed := goodIn_r _ [156, 21, 16, 82, 83, 84, 20, 85, 86, 87, 88, 89, 90, 46, 91, 92, 15, 93, 35, 37, 38, 39, 40, 36, 94, 95, 96, 97, 98, 99, 100, 101, 102, 103, 104, 105, 106, 107, 157, 158, 159, 160, 161, 162, 163, 164, 165, 166, 167, 168, 169, 170, 171, 172, 173, 174, 175, 176, 177, 178, 179, 180, 181, 182, 183, 184, 112, 113, 114, 185, 186, 187, 188, 115, 116, 117, 118, 119, 120, 121, 122, 123, 611, 612, 613, 614, 615, 645, 646, 647, 629, 630, 631, 632, 633, 634, 635, 636, 637, 638, 639, 640, 641, 642, 643, 644] (by decide +kernel) (by decide +kernel)
set_option maxRecDepth 20000 in
theorem gL_law_X5_feed : GoodIn wsL_law (wsV RL 18 RX5 yX5_feed wsX5_feed) := goodIn_app (goodIn_of _ (by decide +kernel)) ggL_law_X5_feed
set_option maxRecDepth 20000 in
theorem ggL_law_X6_feed : GoodIn wsL_law wsX6_feed := goodIn_r _ [192, 67, 68, 128, 129, 5, 130, 193, 194, 195, 196, 197, 143, 198, 145, 146, 147, 199, 200, 201, 202, 203, 204, 205, 206, 207, 208, 209, 210, 211, 212, 213, 214, 215, 216, 217, 148, 149, 150, 151, 152, 70, 616, 617, 618, 619, 620, 621, 622, 623, 624, 625, 626, 627, 628] (by decide +kernel) (by decide +kernel)
set_option maxRecDepth 20000 in
theorem gL_law_X6_feed : GoodIn wsL_law (wsV RL 22 RX6 yX6_feed wsX6_feed) := goodIn_app (goodIn_of _ (by decide +kernel)) ggL_law_X6_feed
set_option maxRecDepth 20000 in
theorem ggL_law_X5_turn : GoodIn wsL_law wsX5_turn := goodIn_r _ [221, 21, 16, 82, 83, 84, 20, 85, 86, 87, 88, 89, 90, 46, 91, 92, 15, 93, 35, 37, 38, 39, 40, 36, 94, 95, 96, 97, 98, 99, 100, 101, 102, 103, 104, 105, 106, 107, 222, 223, 224, 225, 226, 227, 122, 228, 161, 174, 175, 176, 177, 178, 179, 180, 229, 230, 231, 162, 163, 164, 165, 166, 167, 168, 169, 170, 171, 172, 173, 181, 182, 183, 184, 112, 113, 114, 185, 186, 187, 188, 115, 116, 117, 118, 119, 120, 121, 123, 611, 612, 613, 614, 615, 645, 646, 647, 629, 630, 631, 632, 633, 634, 635, 636, 637, 638, 639, 640, 641, 642, 643, 644] (by decide +kernel) (by decide +kernel)
set_option maxRecDepth 20000 in
theorem gL_law_X5_turn : GoodIn wsL_law (wsV RL 23 RX5 yX5_turn wsX5_turn) := goodIn_app (goodIn_of _ (by decide +kernel)) ggL_law_X5_turn
set_option maxRecDepth 20000 in
theorem ggL_law_X6_turn : GoodIn wsL_law wsX6_turn := goodIn_r _ [235, 67, 68, 128, 129, 5, 130, 236, 237, 238, 239, 240, 143, 198, 145, 146, 147, 207, 208, 209, 241, 242, 243, 199, 200, 201, 202, 203, 204, 205, 206, 210, 211, 212, 213, 214, 215, 216, 217, 148, 149, 150, 151, 152, 70, 616, 617, 618, 619, 620, 621, 622, 623, 624, 625, 626, 627, 628] (by decide +kernel) (by decide +kernel)
set_option maxRecDepth 20000 in
theorem gL_law_X6_turn : GoodIn wsL_law (wsV RL 27 RX6 yX6_turn wsX6_turn) := goodIn_app (goodIn_of _ (by decide +kernel)) ggL_law_X6_turn
set_option maxRecDepth 20000 in
theorem ggL_law_X5_zero : GoodIn wsL_law wsX5_zero := goodIn_r _ [247, 21, 16, 82, 83, 84, 20, 85, 86, 87, 88, 89, 90, 46, 91, 92, 15, 93, 35, 37, 38, 39, 40, 36, 94, 95, 96, 97, 98, 99, 100, 101, 102, 103, 104, 105, 106, 107, 248, 249, 250, 251, 115, 116, 117, 118, 119, 120, 121, 122, 123, 611, 612, 613, 614, 615, 645, 646, 647, 629, 630, 631, 632, 633, 634, 635, 636, 637, 638, 639, 640, 641, 642, 643, 644] (by decide +kernel) (by decide +kernel)
set_option maxRecDepth 20000 in
theorem gL_law_X5_zero : GoodIn wsL_law (wsV RL 28 RX5 yX5_zero wsX5_zero) := goodIn_app (goodIn_of _ (by decide +kernel)) ggL_law_X5_zero
set_option maxRecDepth 20000 in
theorem ggL_law_X6_zero : GoodIn wsL_law wsX6_zero := goodIn_r _ [255, 67, 68, 128, 129, 5, 130, 256, 257, 258, 259, 148, 149, 150, 151, 152, 70, 616, 617, 618, 619, 620, 621, 622, 623, 624, 625, 626, 627, 628] (by decide +kernel) (by decide +kernel)
set_option maxRecDepth 20000 in
theorem gL_law_X6_zero : GoodIn wsL_law (wsV RL 32 RX6 yX6_zero wsX6_zero) := goodIn_app (goodIn_of _ (by decide +kernel)) ggL_law_X6_zero
set_option maxRecDepth 20000 in
theorem ggL_law_X5_log : GoodIn wsL_law wsX5_log := goodIn_r _ [263, 16, 264, 265, 266, 15, 267, 268, 269, 270, 271, 94, 272, 121, 122, 123, 273, 274, 275, 276, 277, 278, 279, 280, 36, 281, 282, 283, 284, 285, 286, 287, 288, 289, 611, 612, 613, 614, 615, 629, 630, 631, 632, 633, 634, 635, 636, 637, 638, 639, 640, 641, 642, 643, 644] (by decide +kernel) (by decide +kernel)
set_option maxRecDepth 20000 in
theorem gL_law_X5_log : GoodIn wsL_law (wsV RL 33 RX5 yX5_log wsX5_log) := goodIn_app (goodIn_of _ (by decide +kernel)) ggL_law_X5_log
set_option maxRecDepth 20000 in
theorem ggL_law_X6_log : GoodIn wsL_law wsX6_log := goodIn_r _ [293, 67, 145, 146, 5, 147, 616, 617, 618, 619, 620, 621, 622, 623, 624, 625, 626, 627, 628] (by decide +kernel) (by decide +kernel)
set_option maxRecDepth 20000 in
theorem gL_law_X6_log : GoodIn wsL_law (wsV RL 36 RX6 yX6_log wsX6_log) := goodIn_app (goodIn_of _ (by decide +kernel)) ggL_law_X6_log
set_option maxRecDepth 20000 in
theorem ggL_law_X5_count : GoodIn wsL_law wsX5_count := goodIn_r _ [297, 16, 298, 299, 300, 301, 302, 303, 304, 305, 306, 29, 307, 21, 308, 309, 269, 270, 15, 271, 94, 272, 121, 122, 123, 310, 175, 176, 177, 35, 611, 612, 613, 614, 615, 629, 630, 631, 632, 633, 634, 635, 636, 637, 638, 639, 640, 641, 642, 643, 644, 650, 651, 652, 653, 654, 655, 645, 646, 647] (by decide +kernel) (by decide +kernel)
set_option maxRecDepth 20000 in
theorem gL_law_X5_count : GoodIn wsL_law (wsV RL 37 RX5 yX5_count wsX5_count) := goodIn_app (goodIn_of _ (by decide +kernel)) ggL_law_X5_count
set_option maxRecDepth 20000 in
theorem ggL_law_X6_count : GoodIn wsL_law wsX6_count := goodIn_r _ [314, 142, 67, 140, 315, 316, 152, 145, 146, 5, 147, 616, 617, 618, 619, 620, 621, 622, 623, 624, 625, 626, 627, 628] (by decide +kernel) (by decide +kernel)
set_option maxRecDepth 20000 in
theorem gL_law_X6_count : GoodIn wsL_law (wsV RL 40 RX6 yX6_count wsX6_count) := goodIn_app (goodIn_of _ (by decide +kernel)) ggL_law_X6_count
set_option maxRecDepth 20000 in
theorem ggL_law_X5_speed : GoodIn wsL_law wsX5_speed := goodIn_r _ [320, 16, 321, 322, 323, 324, 15, 325, 272, 121, 122, 123, 174, 175, 176, 177, 35, 268, 269, 270, 271, 94, 326, 287, 288, 289, 277, 278, 279, 280, 36, 281, 265, 266, 267, 611, 612, 613, 614, 615, 629, 630, 631, 632, 633, 634, 635, 636, 637, 638, 639, 640, 641, 642, 643, 644] (by decide +kernel) (by decide +kernel)
set_option maxRecDepth 20000 in
theorem gL_law_X5_speed : GoodIn wsL_law (wsV RL 41 RX5 yX5_speed wsX5_speed) := goodIn_app (goodIn_of _ (by decide +kernel)) ggL_law_X5_speed
set_option maxRecDepth 20000 in
theorem ggL_law_X6_speed : GoodIn wsL_law wsX6_speed := goodIn_r _ [330, 331, 332, 333, 5, 334, 67, 335, 336, 337, 338, 616, 617, 618, 619, 620, 621, 622, 623, 624, 625, 626, 627, 628] (by decide +kernel) (by decide +kernel)
set_option maxRecDepth 20000 in
theorem gL_law_X6_speed : GoodIn wsL_law (wsV RL 44 RX6 yX6_speed wsX6_speed) := goodIn_app (goodIn_of _ (by decide +kernel)) ggL_law_X6_speed
set_option maxRecDepth 20000 in
theorem ggL_law_X5_rate : GoodIn wsL_law wsX5_rate := goodIn_r _ [342, 16, 321, 302, 343, 310, 175, 176, 15, 177, 35, 344, 345, 346, 347, 348, 349, 350, 611, 612, 613, 614, 615, 629, 630, 631, 632, 633, 634, 635, 636, 637, 638, 639, 640, 641, 642, 643, 644] (by decide +kernel) (by decide +kernel)
set_option maxRecDepth 20000 in
theorem gL_law_X5_rate : GoodIn wsL_law (wsV RL 45 RX5 yX5_rate wsX5_rate) := goodIn_app (goodIn_of _ (by decide +kernel)) ggL_law_X5_rate
set_option maxRecDepth 20000 in
theorem ggL_law_X6_rate : GoodIn wsL_law wsX6_rate := goodIn_r _ [354, 67, 355, 335, 336, 337, 5, 338, 356, 357, 358, 359, 360, 361, 362, 363, 364, 365, 366, 367, 616, 617, 618, 619, 620, 621, 622, 623, 624, 625, 626, 627, 628] (by decide +kernel) (by decide +kernel)
set_option maxRecDepth 20000 in
theorem gL_law_X6_rate : GoodIn wsL_law (wsV RL 49 RX6 yX6_rate wsX6_rate) := goodIn_app (goodIn_of _ (by decide +kernel)) ggL_law_X6_rate
set_option maxRecDepth 20000 in
theorem ggL_law_X5_noise : GoodIn wsL_law wsX5_noise := goodIn_r _ [371, 16, 303, 304, 305, 372, 373, 346, 374, 375, 611, 612, 613, 614, 615, 629, 630, 631, 632, 633, 634, 635, 636, 637, 638, 639, 640, 641, 642, 643, 644] (by decide +kernel) (by decide +kernel)
set_option maxRecDepth 20000 in
theorem gL_law_X5_noise : GoodIn wsL_law (wsV RL 50 RX5 yX5_noise wsX5_noise) := goodIn_app (goodIn_of _ (by decide +kernel)) ggL_law_X5_noise
set_option maxRecDepth 20000 in
theorem ggL_law_X6_noise : GoodIn wsL_law wsX6_noise := goodIn_r _ [379, 67, 380, 381, 382, 383, 384, 385, 386, 387, 388, 389, 390, 391, 616, 617, 618, 619, 620, 621, 622, 623, 624, 625, 626, 627, 628] (by decide +kernel) (by decide +kernel)
set_option maxRecDepth 20000 in
theorem gL_law_X6_noise : GoodIn wsL_law (wsV RL 53 RX6 yX6_noise wsX6_noise) := goodIn_app (goodIn_of _ (by decide +kernel)) ggL_law_X6_noise
set_option maxRecDepth 20000 in
theorem ggL_law_X5_replay : GoodIn wsL_law wsX5_replay := goodIn_r _ [395, 396, 397, 17, 16, 303, 304, 305, 299, 398, 399, 400, 15, 401, 35, 37, 38, 39, 40, 402, 403, 404, 405, 94, 95, 96, 97, 98, 99, 100, 101, 102, 103, 104, 105, 106, 107, 268, 269, 270, 271, 272, 121, 122, 123, 406, 274, 275, 276, 277, 278, 279, 280, 36, 281, 265, 266, 267, 407, 283, 284, 285, 162, 163, 164, 165, 166, 167, 168, 169, 170, 171, 172, 173, 174, 175, 176, 177, 178, 179, 180, 181, 182, 183, 184, 112, 113, 114, 185, 186, 187, 188, 611, 612, 613, 614, 615, 629, 630, 631, 632, 633, 634, 635, 636, 637, 638, 639, 640, 641, 642, 643, 644] (by decide +kernel) (by decide +kernel)
set_option maxRecDepth 20000 in
theorem gL_law_X5_replay : GoodIn wsL_law (wsV RL 54 RX5 yX5_replay wsX5_replay) := goodIn_app (goodIn_of _ (by decide +kernel)) ggL_law_X5_replay
set_option maxRecDepth 20000 in
theorem ggL_law_X6_replay : GoodIn wsL_law wsX6_replay := goodIn_r _ [411, 142, 197, 145, 146, 5, 147, 412, 413, 414, 415, 67, 69, 128, 129, 130, 74, 75, 76, 77, 199, 200, 201, 202, 203, 204, 205, 206, 207, 208, 209, 210, 211, 212, 213, 214, 215, 216, 217, 616, 617, 618, 619, 620, 621, 622, 623, 624, 625, 626, 627, 628] (by decide +kernel) (by decide +kernel)
set_option maxRecDepth 20000 in
theorem gL_law_X6_replay : GoodIn wsL_law (wsV RL 57 RX6 yX6_replay wsX6_replay) := goodIn_app (goodIn_of _ (by decide +kernel)) ggL_law_X6_replay
set_option maxRecDepth 20000 in
theorem ggL_law_X5_bestFilter : GoodIn wsL_law wsX5_bestFilter := goodIn_r _ [419, 396, 397, 17, 16, 305, 398, 399, 400, 15, 401, 35, 37, 38, 39, 40, 402, 403, 404, 405, 94, 95, 96, 97, 98, 99, 100, 101, 102, 103, 104, 105, 106, 107, 268, 269, 270, 271, 272, 121, 122, 123, 406, 274, 275, 276, 277, 278, 279, 280, 36, 281, 265, 266, 267, 407, 283, 284, 285, 162, 163, 164, 165, 166, 167, 168, 169, 170, 171, 172, 173, 174, 175, 176, 177, 178, 179, 180, 181, 182, 183, 184, 112, 113, 114, 185, 186, 187, 188, 611, 612, 613, 614, 615, 629, 630, 631, 632, 633, 634, 635, 636, 637, 638, 639, 640, 641, 642, 643, 644] (by decide +kernel) (by decide +kernel)
set_option maxRecDepth 20000 in
theorem gL_law_X5_bestFilter : GoodIn wsL_law (wsV RL 58 RX5 yX5_bestFilter wsX5_bestFilter) := goodIn_app (goodIn_of _ (by decide +kernel)) ggL_law_X5_bestFilter
set_option maxRecDepth 20000 in
theorem ggL_law_X6_bestFilter : GoodIn wsL_law wsX6_bestFilter := goodIn_r _ [423, 145, 146, 5, 147, 412, 413, 414, 415, 67, 69, 128, 129, 130, 74, 75, 76, 77, 199, 200, 201, 202, 203, 204, 205, 206, 207, 208, 209, 210, 211, 212, 213, 214, 215, 216, 217, 616, 617, 618, 619, 620, 621, 622, 623, 624, 625, 626, 627, 628] (by decide +kernel) (by decide +kernel)
set_option maxRecDepth 20000 in
theorem gL_law_X6_bestFilter : GoodIn wsL_law (wsV RL 61 RX6 yX6_bestFilter wsX6_bestFilter) := goodIn_app (goodIn_of _ (by decide +kernel)) ggL_law_X6_bestFilter
set_option maxRecDepth 20000 in
theorem ggL_law_X5_would : GoodIn wsL_law wsX5_would := goodIn_r _ [427, 16, 428, 167, 168, 15, 169, 97, 170, 171, 172, 173, 98, 100, 174, 175, 176, 177, 35, 178, 179, 180, 611, 612, 613, 614, 615, 629, 630, 631, 632, 633, 634, 635, 636, 637, 638, 639, 640, 641, 642, 643, 644] (by decide +kernel) (by decide +kernel)
set_option maxRecDepth 20000 in
theorem gL_law_X5_would : GoodIn wsL_law (wsV RL 62 RX5 yX5_would wsX5_would) := goodIn_app (goodIn_of _ (by decide +kernel)) ggL_law_X5_would
set_option maxRecDepth 20000 in
theorem ggL_law_X6_would : GoodIn wsL_law wsX6_would := goodIn_r _ [432, 197, 145, 146, 5, 147, 203, 204, 205, 206, 67, 207, 208, 209, 616, 617, 618, 619, 620, 621, 622, 623, 624, 625, 626, 627, 628] (by decide +kernel) (by decide +kernel)
set_option maxRecDepth 20000 in
theorem gL_law_X6_would : GoodIn wsL_law (wsV RL 65 RX6 yX6_would wsX6_would) := goodIn_app (goodIn_of _ (by decide +kernel)) ggL_law_X6_would
set_option maxRecDepth 20000 in
theorem ggL_law_X5_deeds : GoodIn wsL_law wsX5_deeds := goodIn_r _ [436, 16, 309, 269, 270, 15, 271, 94, 272, 121, 122, 123, 286, 287, 288, 289, 277, 278, 279, 280, 36, 281, 265, 266, 267, 268, 611, 612, 613, 614, 615, 629, 630, 631, 632, 633, 634, 635, 636, 637, 638, 639, 640, 641, 642, 643, 644] (by decide +kernel) (by decide +kernel)
set_option maxRecDepth 20000 in
theorem gL_law_X5_deeds : GoodIn wsL_law (wsV RL 66 RX5 yX5_deeds wsX5_deeds) := goodIn_app (goodIn_of _ (by decide +kernel)) ggL_law_X5_deeds
set_option maxRecDepth 20000 in
theorem ggL_law_X6_deeds : GoodIn wsL_law wsX6_deeds := goodIn_r _ [440, 197, 67, 145, 146, 5, 147, 616, 617, 618, 619, 620, 621, 622, 623, 624, 625, 626, 627, 628] (by decide +kernel) (by decide +kernel)
set_option maxRecDepth 20000 in
theorem gL_law_X6_deeds : GoodIn wsL_law (wsV RL 69 RX6 yX6_deeds wsX6_deeds) := goodIn_app (goodIn_of _ (by decide +kernel)) ggL_law_X6_deeds
set_option maxRecDepth 20000 in
theorem ggL_law_X5_put : GoodIn wsL_law wsX5_put := goodIn_r _ [444, 29, 445, 446, 447, 28, 448, 449, 450, 451, 452, 62, 611, 612, 613, 614, 615, 650, 651, 652, 653, 654, 655] (by decide +kernel) (by decide +kernel)
set_option maxRecDepth 20000 in
theorem gL_law_X5_put : GoodIn wsL_law (wsV RL 72 RX5 yX5_put wsX5_put) := goodIn_app (goodIn_of _ (by decide +kernel)) ggL_law_X5_put
set_option maxRecDepth 20000 in
theorem ggL_law_X6_put : GoodIn wsL_law wsX6_put := goodIn_r _ [456, 457, 458, 459, 316, 73, 145, 146, 5, 147, 616, 617, 618, 619, 620, 621, 622, 623, 624, 625, 626, 627, 628] (by decide +kernel) (by decide +kernel)
set_option maxRecDepth 20000 in
theorem gL_law_X6_put : GoodIn wsL_law (wsV RL 76 RX6 yX6_put wsX6_put) := goodIn_app (goodIn_of _ (by decide +kernel)) ggL_law_X6_put
set_option maxRecDepth 20000 in
theorem ggL_law_X5_wipe : GoodIn wsL_law wsX5_wipe := goodIn_r _ [463, 29, 464, 465, 466, 28, 467, 452, 611, 612, 613, 614, 615, 650, 651, 652, 653, 654, 655] (by decide +kernel) (by decide +kernel)
set_option maxRecDepth 20000 in
theorem gL_law_X5_wipe : GoodIn wsL_law (wsV RL 77 RX5 yX5_wipe wsX5_wipe) := goodIn_app (goodIn_of _ (by decide +kernel)) ggL_law_X5_wipe
set_option maxRecDepth 20000 in
theorem ggL_law_X6_wipe : GoodIn wsL_law wsX6_wipe := goodIn_r _ [471, 316, 616, 617, 618, 619, 620, 621, 622, 623, 624, 625, 626, 627, 628] (by decide +kernel) (by decide +kernel)
set_option maxRecDepth 20000 in
theorem gL_law_X6_wipe : GoodIn wsL_law (wsV RL 80 RX6 yX6_wipe wsX6_wipe) := goodIn_app (goodIn_of _ (by decide +kernel)) ggL_law_X6_wipe
set_option maxRecDepth 20000 in
theorem ggL_law_X5_fault : GoodIn wsL_law wsX5_fault := goodIn_r _ [475, 29, 476, 477, 478, 28, 479, 480, 452, 481, 482, 483, 484, 485, 486, 487, 488, 489, 490, 491, 492, 493, 494, 495, 496, 62, 497, 498, 499, 500, 501, 502, 503, 504, 505, 506, 507, 508, 509, 510, 511, 512, 513, 514, 515, 611, 612, 613, 614, 615, 650, 651, 652, 653, 654, 655] (by decide +kernel) (by decide +kernel)
set_option maxRecDepth 20000 in
theorem gL_law_X5_fault : GoodIn wsL_law (wsV RL 81 RX5 yX5_fault wsX5_fault) := goodIn_app (goodIn_of _ (by decide +kernel)) ggL_law_X5_fault
set_option maxRecDepth 20000 in
theorem ggL_law_X6_fault : GoodIn wsL_law wsX6_fault := goodIn_r _ [519, 520, 521, 316, 522, 523, 524, 5, 525, 73, 526, 527, 528, 529, 530, 531, 532, 533, 534, 145, 146, 147, 256, 257, 258, 259, 67, 535, 536, 537, 538, 539, 131, 132, 133, 134, 135, 136, 137, 138, 139, 140, 141, 142, 143, 144, 540, 541, 542, 543, 236, 237, 238, 239, 240, 198, 207, 208, 209, 241, 242, 243, 199, 200, 201, 202, 203, 204, 205, 206, 210, 211, 212, 213, 214, 215, 216, 217, 544, 545, 546, 547, 193, 194, 195, 196, 197, 616, 617, 618, 619, 620, 621, 622, 623, 624, 625, 626, 627, 628] (by decide +kernel) (by decide +kernel)
set_option maxRecDepth 20000 in
theorem gL_law_X6_fault : GoodIn wsL_law (wsV RL 84 RX6 yX6_fault wsX6_fault) := goodIn_app (goodIn_of _ (by decide +kernel)) ggL_law_X6_fault
set_option maxRecDepth 20000 in
theorem ggL_law_X5_carryOut : GoodIn wsL_law wsX5_carryOut := goodIn_r _ [551, 29, 21, 16, 476, 477, 478, 28, 479, 480, 452, 481, 482, 483, 484, 485, 486, 487, 488, 489, 490, 491, 492, 493, 494, 495, 496, 62, 497, 498, 499, 500, 501, 502, 503, 504, 505, 506, 507, 508, 509, 510, 511, 512, 513, 514, 515, 82, 83, 84, 20, 85, 86, 87, 88, 89, 90, 46, 91, 92, 15, 93, 35, 37, 38, 39, 40, 36, 94, 95, 96, 97, 98, 99, 100, 101, 102, 103, 104, 105, 106, 107, 552, 553, 554, 555, 2, 556, 557, 558, 248, 249, 250, 251, 559, 108, 109, 110, 111, 112, 113, 114, 560, 222, 223, 224, 225, 226, 227, 122, 228, 161, 174, 175, 176, 177, 178, 179, 180, 229, 230, 231, 162, 163, 164, 165, 166, 167, 168, 169, 170, 171, 172, 173, 181, 182, 183, 184, 185, 186, 187, 188, 561, 562, 563, 564, 565, 566, 567, 157, 158, 159, 160, 464, 465, 466, 467, 115, 116, 117, 118, 119, 120, 121, 123, 611, 612, 613, 614, 615, 650, 651, 652, 653, 654, 655, 645, 646, 647, 629, 630, 631, 632, 633, 634, 635, 636, 637, 638, 639, 640, 641, 642, 643, 644] (by decide +kernel) (by decide +kernel)
set_option maxRecDepth 20000 in
theorem gL_law_X5_carryOut : GoodIn wsL_law (wsV RL 85 RX5 yX5_carryOut wsX5_carryOut) := goodIn_app (goodIn_of _ (by decide +kernel)) ggL_law_X5_carryOut
set_option maxRecDepth 20000 in
theorem ggL_law_X6_carryOut : GoodIn wsL_law wsX6_carryOut := goodIn_r _ [571, 67, 68, 520, 521, 539, 316, 572, 517, 518, 5, 519, 522, 523, 524, 525, 73, 526, 527, 528, 529, 530, 531, 532, 533, 534, 145, 146, 147, 256, 257, 258, 259, 535, 536, 537, 538, 131, 132, 133, 134, 135, 136, 137, 138, 139, 140, 141, 142, 143, 144, 540, 541, 542, 543, 236, 237, 238, 239, 240, 198, 207, 208, 209, 241, 242, 243, 199, 200, 201, 202, 203, 204, 205, 206, 210, 211, 212, 213, 214, 215, 216, 217, 544, 545, 546, 547, 193, 194, 195, 196, 197, 128, 129, 130, 148, 149, 150, 151, 152, 70, 616, 617, 618, 619, 620, 621, 622, 623, 624, 625, 626, 627, 628] (by decide +kernel) (by decide +kernel)
set_option maxRecDepth 20000 in
theorem gL_law_X6_carryOut : GoodIn wsL_law (wsV RL 88 RX6 yX6_carryOut wsX6_carryOut) := goodIn_app (goodIn_of _ (by decide +kernel)) ggL_law_X6_carryOut
set_option maxRecDepth 20000 in
theorem ggL_law_X5_undo : GoodIn wsL_law wsX5_undo := goodIn_r _ [576, 21, 16, 577, 578, 579, 20, 580, 119, 90, 86, 87, 88, 89, 46, 91, 92, 15, 93, 35, 37, 38, 39, 40, 36, 94, 95, 96, 97, 98, 99, 100, 101, 102, 103, 104, 105, 106, 107, 611, 612, 613, 614, 615, 645, 646, 647, 629, 630, 631, 632, 633, 634, 635, 636, 637, 638, 639, 640, 641, 642, 643, 644] (by decide +kernel) (by decide +kernel)
set_option maxRecDepth 20000 in
theorem gL_law_X5_undo : GoodIn wsL_law (wsV RL 89 RX5 yX5_undo wsX5_undo) := goodIn_app (goodIn_of _ (by decide +kernel)) ggL_law_X5_undo
set_option maxRecDepth 20000 in
theorem ggL_law_X6_undo : GoodIn wsL_law wsX6_undo := goodIn_r _ [584, 152, 67, 70, 616, 617, 618, 619, 620, 621, 622, 623, 624, 625, 626, 627, 628] (by decide +kernel) (by decide +kernel)
set_option maxRecDepth 20000 in
theorem gL_law_X6_undo : GoodIn wsL_law (wsV RL 92 RX6 yX6_undo wsX6_undo) := goodIn_app (goodIn_of _ (by decide +kernel)) ggL_law_X6_undo
set_option maxRecDepth 20000 in
theorem ggL_law_X5_save : GoodIn wsL_law wsX5_save := goodIn_r _ [588, 25, 16, 589, 590, 591, 24, 592, 53, 55, 593, 594, 92, 15, 93, 35, 37, 38, 39, 40, 36, 94, 95, 96, 97, 98, 99, 100, 101, 102, 103, 104, 105, 106, 107, 611, 612, 613, 614, 615, 648, 649, 629, 630, 631, 632, 633, 634, 635, 636, 637, 638, 639, 640, 641, 642, 643, 644] (by decide +kernel) (by decide +kernel)
set_option maxRecDepth 20000 in
theorem gL_law_X5_save : GoodIn wsL_law (wsV RL 93 RX5 yX5_save wsX5_save) := goodIn_app (goodIn_of _ (by decide +kernel)) ggL_law_X5_save
set_option maxRecDepth 20000 in
theorem ggL_law_X6_save : GoodIn wsL_law wsX6_save := goodIn_r _ [598, 71, 67, 72, 145, 146, 5, 147, 616, 617, 618, 619, 620, 621, 622, 623, 624, 625, 626, 627, 628] (by decide +kernel) (by decide +kernel)
set_option maxRecDepth 20000 in
theorem gL_law_X6_save : GoodIn wsL_law (wsV RL 96 RX6 yX6_save wsX6_save) := goodIn_app (goodIn_of _ (by decide +kernel)) ggL_law_X6_save
set_option maxRecDepth 20000 in
theorem ggL_law_X5_restore : GoodIn wsL_law wsX5_restore := goodIn_r _ [602, 21, 16, 25, 82, 83, 84, 20, 85, 86, 87, 88, 89, 90, 46, 91, 92, 15, 93, 35, 37, 38, 39, 40, 36, 94, 95, 96, 97, 98, 99, 100, 101, 102, 103, 104, 105, 106, 107, 603, 604, 605, 24, 606, 55, 53, 593, 594, 115, 116, 117, 118, 119, 120, 121, 122, 123, 611, 612, 613, 614, 615, 645, 646, 647, 629, 630, 631, 632, 633, 634, 635, 636, 637, 638, 639, 640, 641, 642, 643, 644, 648, 649] (by decide +kernel) (by decide +kernel)
set_option maxRecDepth 20000 in
theorem gL_law_X5_restore : GoodIn wsL_law (wsV RL 97 RX5 yX5_restore wsX5_restore) := goodIn_app (goodIn_of _ (by decide +kernel)) ggL_law_X5_restore
set_option maxRecDepth 20000 in
theorem ggL_law_X6_restore : GoodIn wsL_law wsX6_restore := goodIn_r _ [610, 72, 67, 68, 71, 145, 146, 5, 147, 128, 129, 130, 148, 149, 150, 151, 152, 70, 616, 617, 618, 619, 620, 621, 622, 623, 624, 625, 626, 627, 628] (by decide +kernel) (by decide +kernel)
set_option maxRecDepth 20000 in
theorem gL_law_X6_restore : GoodIn wsL_law (wsV RL 100 RX6 yX6_restore wsX6_restore) := goodIn_app (goodIn_of _ (by decide +kernel)) ggL_law_X6_restore
theorem dL_law_0 : decode cL_law 0 = .ok (.new 7, 3) := by decide +kernel
theorem dL_law_3 : decode cL_law 3 = .ok (.dup, 1) := by decide +kernel
theorem dL_law_4 : decode cL_law 4 = .ok (.invokespecial 9, 3) := by decide +kernel
theorem dL_law_7 : decode cL_law 7 = .ok (.astore_n 1, 1) := by decide +kernel
theorem dL_law_8 : decode cL_law 8 = .ok (.new 10, 3) := by decide +kernel
theorem dL_law_11 : decode cL_law 11 = .ok (.dup, 1) := by decide +kernel
theorem dL_law_12 : decode cL_law 12 = .ok (.invokespecial 12, 3) := by decide +kernel
theorem dL_law_15 : decode cL_law 15 = .ok (.astore_n 2, 1) := by decide +kernel
theorem dL_law_16 : decode cL_law 16 = .ok (.iconst 0, 1) := by decide +kernel
theorem dL_law_17 : decode cL_law 17 = .ok (.istore_n 3, 1) := by decide +kernel
theorem dL_law_18 : decode cL_law 18 = .ok (.iload_n 3, 1) := by decide +kernel
theorem dL_law_19 : decode cL_law 19 = .ok (.aload_n 0, 1) := by decide +kernel
theorem dL_law_20 : decode cL_law 20 = .ok (.arraylength, 1) := by decide +kernel
theorem dL_law_21 : decode cL_law 21 = .ok (.iconst 4, 1) := by decide +kernel
theorem dL_law_22 : decode cL_law 22 = .ok (.isub, 1) := by decide +kernel
theorem dL_law_23 : decode cL_law 23 = .ok (.if_icmp .gt 582, 3) := by decide +kernel
theorem dL_law_26 : decode cL_law 26 = .ok (.aload_n 0, 1) := by decide +kernel
theorem dL_law_27 : decode cL_law 27 = .ok (.iload_n 3, 1) := by decide +kernel
theorem dL_law_28 : decode cL_law 28 = .ok (.iaload, 1) := by decide +kernel
theorem dL_law_29 : decode cL_law 29 = .ok (.bipush 31, 2) := by decide +kernel
theorem dL_law_31 : decode cL_law 31 = .ok (.iand, 1) := by decide +kernel
theorem dL_law_32 : decode cL_law 32 = .ok (.tableswitch 567 0 19 #[96, 129, 172, 195, 208, 241, 264, 287, 301, 314, 347, 370, 393, 416, 469, 482, 495, 508, 521, 544], 96) := by decide +kernel
theorem dL_law_128 : decode cL_law 128 = .ok (.aload_n 1, 1) := by decide +kernel
theorem dL_law_129 : decode cL_law 129 = .ok (.aload_n 0, 1) := by decide +kernel
theorem dL_law_130 : decode cL_law 130 = .ok (.iload_n 3, 1) := by decide +kernel
theorem dL_law_131 : decode cL_law 131 = .ok (.iconst 1, 1) := by decide +kernel
theorem dL_law_132 : decode cL_law 132 = .ok (.iadd, 1) := by decide +kernel
theorem dL_law_133 : decode cL_law 133 = .ok (.iaload, 1) := by decide +kernel
theorem dL_law_134 : decode cL_law 134 = .ok (.aload_n 0, 1) := by decide +kernel
theorem dL_law_135 : decode cL_law 135 = .ok (.iload_n 3, 1) := by decide +kernel
theorem dL_law_136 : decode cL_law 136 = .ok (.iconst 2, 1) := by decide +kernel
theorem dL_law_137 : decode cL_law 137 = .ok (.iadd, 1) := by decide +kernel
theorem dL_law_138 : decode cL_law 138 = .ok (.iaload, 1) := by decide +kernel
theorem dL_law_139 : decode cL_law 139 = .ok (.invokevirtual 13, 3) := by decide +kernel
theorem dL_law_142 : decode cL_law 142 = .ok (.aload_n 2, 1) := by decide +kernel
theorem dL_law_143 : decode cL_law 143 = .ok (.aload_n 0, 1) := by decide +kernel
theorem dL_law_144 : decode cL_law 144 = .ok (.iload_n 3, 1) := by decide +kernel
theorem dL_law_145 : decode cL_law 145 = .ok (.iconst 1, 1) := by decide +kernel
theorem dL_law_146 : decode cL_law 146 = .ok (.iadd, 1) := by decide +kernel
theorem dL_law_147 : decode cL_law 147 = .ok (.iaload, 1) := by decide +kernel
theorem dL_law_148 : decode cL_law 148 = .ok (.aload_n 0, 1) := by decide +kernel
theorem dL_law_149 : decode cL_law 149 = .ok (.iload_n 3, 1) := by decide +kernel
theorem dL_law_150 : decode cL_law 150 = .ok (.iconst 2, 1) := by decide +kernel
theorem dL_law_151 : decode cL_law 151 = .ok (.iadd, 1) := by decide +kernel
theorem dL_law_152 : decode cL_law 152 = .ok (.iaload, 1) := by decide +kernel
theorem dL_law_153 : decode cL_law 153 = .ok (.invokevirtual 17, 3) := by decide +kernel
theorem dL_law_156 : decode cL_law 156 = .ok (.if_icmp .eq 443, 3) := by decide +kernel
theorem dL_law_159 : decode cL_law 159 = .ok (.iconst 0, 1) := by decide +kernel
theorem dL_law_160 : decode cL_law 160 = .ok (.ireturn, 1) := by decide +kernel
theorem dL_law_161 : decode cL_law 161 = .ok (.aload_n 1, 1) := by decide +kernel
theorem dL_law_162 : decode cL_law 162 = .ok (.aload_n 0, 1) := by decide +kernel
theorem dL_law_163 : decode cL_law 163 = .ok (.iload_n 3, 1) := by decide +kernel
theorem dL_law_164 : decode cL_law 164 = .ok (.iconst 1, 1) := by decide +kernel
theorem dL_law_165 : decode cL_law 165 = .ok (.iadd, 1) := by decide +kernel
theorem dL_law_166 : decode cL_law 166 = .ok (.iaload, 1) := by decide +kernel
theorem dL_law_167 : decode cL_law 167 = .ok (.aload_n 0, 1) := by decide +kernel
theorem dL_law_168 : decode cL_law 168 = .ok (.iload_n 3, 1) := by decide +kernel
theorem dL_law_169 : decode cL_law 169 = .ok (.iconst 2, 1) := by decide +kernel
theorem dL_law_170 : decode cL_law 170 = .ok (.iadd, 1) := by decide +kernel
theorem dL_law_171 : decode cL_law 171 = .ok (.iaload, 1) := by decide +kernel
theorem dL_law_172 : decode cL_law 172 = .ok (.aload_n 0, 1) := by decide +kernel
theorem dL_law_173 : decode cL_law 173 = .ok (.iload_n 3, 1) := by decide +kernel
theorem dL_law_174 : decode cL_law 174 = .ok (.iconst 3, 1) := by decide +kernel
theorem dL_law_175 : decode cL_law 175 = .ok (.iadd, 1) := by decide +kernel
theorem dL_law_176 : decode cL_law 176 = .ok (.iaload, 1) := by decide +kernel
theorem dL_law_177 : decode cL_law 177 = .ok (.invokevirtual 18, 3) := by decide +kernel
theorem dL_law_180 : decode cL_law 180 = .ok (.aload_n 2, 1) := by decide +kernel
theorem dL_law_181 : decode cL_law 181 = .ok (.aload_n 0, 1) := by decide +kernel
theorem dL_law_182 : decode cL_law 182 = .ok (.iload_n 3, 1) := by decide +kernel
theorem dL_law_183 : decode cL_law 183 = .ok (.iconst 1, 1) := by decide +kernel
theorem dL_law_184 : decode cL_law 184 = .ok (.iadd, 1) := by decide +kernel
theorem dL_law_185 : decode cL_law 185 = .ok (.iaload, 1) := by decide +kernel
theorem dL_law_186 : decode cL_law 186 = .ok (.aload_n 0, 1) := by decide +kernel
theorem dL_law_187 : decode cL_law 187 = .ok (.iload_n 3, 1) := by decide +kernel
theorem dL_law_188 : decode cL_law 188 = .ok (.iconst 2, 1) := by decide +kernel
theorem dL_law_189 : decode cL_law 189 = .ok (.iadd, 1) := by decide +kernel
theorem dL_law_190 : decode cL_law 190 = .ok (.iaload, 1) := by decide +kernel
theorem dL_law_191 : decode cL_law 191 = .ok (.aload_n 0, 1) := by decide +kernel
theorem dL_law_192 : decode cL_law 192 = .ok (.iload_n 3, 1) := by decide +kernel
theorem dL_law_193 : decode cL_law 193 = .ok (.iconst 3, 1) := by decide +kernel
theorem dL_law_194 : decode cL_law 194 = .ok (.iadd, 1) := by decide +kernel
theorem dL_law_195 : decode cL_law 195 = .ok (.iaload, 1) := by decide +kernel
theorem dL_law_196 : decode cL_law 196 = .ok (.invokevirtual 22, 3) := by decide +kernel
theorem dL_law_199 : decode cL_law 199 = .ok (.if_icmp .eq 400, 3) := by decide +kernel
theorem dL_law_202 : decode cL_law 202 = .ok (.iconst 0, 1) := by decide +kernel
theorem dL_law_203 : decode cL_law 203 = .ok (.ireturn, 1) := by decide +kernel
theorem dL_law_204 : decode cL_law 204 = .ok (.aload_n 1, 1) := by decide +kernel
theorem dL_law_205 : decode cL_law 205 = .ok (.aload_n 0, 1) := by decide +kernel
theorem dL_law_206 : decode cL_law 206 = .ok (.iload_n 3, 1) := by decide +kernel
theorem dL_law_207 : decode cL_law 207 = .ok (.iconst 1, 1) := by decide +kernel
theorem dL_law_208 : decode cL_law 208 = .ok (.iadd, 1) := by decide +kernel
theorem dL_law_209 : decode cL_law 209 = .ok (.iaload, 1) := by decide +kernel
theorem dL_law_210 : decode cL_law 210 = .ok (.invokevirtual 23, 3) := by decide +kernel
theorem dL_law_213 : decode cL_law 213 = .ok (.aload_n 2, 1) := by decide +kernel
theorem dL_law_214 : decode cL_law 214 = .ok (.aload_n 0, 1) := by decide +kernel
theorem dL_law_215 : decode cL_law 215 = .ok (.iload_n 3, 1) := by decide +kernel
theorem dL_law_216 : decode cL_law 216 = .ok (.iconst 1, 1) := by decide +kernel
theorem dL_law_217 : decode cL_law 217 = .ok (.iadd, 1) := by decide +kernel
theorem dL_law_218 : decode cL_law 218 = .ok (.iaload, 1) := by decide +kernel
theorem dL_law_219 : decode cL_law 219 = .ok (.invokevirtual 27, 3) := by decide +kernel
theorem dL_law_222 : decode cL_law 222 = .ok (.if_icmp .eq 377, 3) := by decide +kernel
theorem dL_law_225 : decode cL_law 225 = .ok (.iconst 0, 1) := by decide +kernel
theorem dL_law_226 : decode cL_law 226 = .ok (.ireturn, 1) := by decide +kernel
theorem dL_law_227 : decode cL_law 227 = .ok (.aload_n 1, 1) := by decide +kernel
theorem dL_law_228 : decode cL_law 228 = .ok (.invokevirtual 28, 3) := by decide +kernel
theorem dL_law_231 : decode cL_law 231 = .ok (.aload_n 2, 1) := by decide +kernel
theorem dL_law_232 : decode cL_law 232 = .ok (.invokevirtual 32, 3) := by decide +kernel
theorem dL_law_235 : decode cL_law 235 = .ok (.if_icmp .eq 364, 3) := by decide +kernel
theorem dL_law_238 : decode cL_law 238 = .ok (.iconst 0, 1) := by decide +kernel
theorem dL_law_239 : decode cL_law 239 = .ok (.ireturn, 1) := by decide +kernel
theorem dL_law_240 : decode cL_law 240 = .ok (.aload_n 1, 1) := by decide +kernel
theorem dL_law_241 : decode cL_law 241 = .ok (.aload_n 0, 1) := by decide +kernel
theorem dL_law_242 : decode cL_law 242 = .ok (.iload_n 3, 1) := by decide +kernel
theorem dL_law_243 : decode cL_law 243 = .ok (.iconst 1, 1) := by decide +kernel
theorem dL_law_244 : decode cL_law 244 = .ok (.iadd, 1) := by decide +kernel
theorem dL_law_245 : decode cL_law 245 = .ok (.iaload, 1) := by decide +kernel
theorem dL_law_246 : decode cL_law 246 = .ok (.aload_n 0, 1) := by decide +kernel
theorem dL_law_247 : decode cL_law 247 = .ok (.iload_n 3, 1) := by decide +kernel
theorem dL_law_248 : decode cL_law 248 = .ok (.iconst 2, 1) := by decide +kernel
theorem dL_law_249 : decode cL_law 249 = .ok (.iadd, 1) := by decide +kernel
theorem dL_law_250 : decode cL_law 250 = .ok (.iaload, 1) := by decide +kernel
theorem dL_law_251 : decode cL_law 251 = .ok (.invokevirtual 33, 3) := by decide +kernel
theorem dL_law_254 : decode cL_law 254 = .ok (.aload_n 2, 1) := by decide +kernel
theorem dL_law_255 : decode cL_law 255 = .ok (.aload_n 0, 1) := by decide +kernel
theorem dL_law_256 : decode cL_law 256 = .ok (.iload_n 3, 1) := by decide +kernel
theorem dL_law_257 : decode cL_law 257 = .ok (.iconst 1, 1) := by decide +kernel
theorem dL_law_258 : decode cL_law 258 = .ok (.iadd, 1) := by decide +kernel
theorem dL_law_259 : decode cL_law 259 = .ok (.iaload, 1) := by decide +kernel
theorem dL_law_260 : decode cL_law 260 = .ok (.aload_n 0, 1) := by decide +kernel
theorem dL_law_261 : decode cL_law 261 = .ok (.iload_n 3, 1) := by decide +kernel
theorem dL_law_262 : decode cL_law 262 = .ok (.iconst 2, 1) := by decide +kernel
theorem dL_law_263 : decode cL_law 263 = .ok (.iadd, 1) := by decide +kernel
theorem dL_law_264 : decode cL_law 264 = .ok (.iaload, 1) := by decide +kernel
theorem dL_law_265 : decode cL_law 265 = .ok (.invokevirtual 36, 3) := by decide +kernel
theorem dL_law_268 : decode cL_law 268 = .ok (.if_icmp .eq 331, 3) := by decide +kernel
theorem dL_law_271 : decode cL_law 271 = .ok (.iconst 0, 1) := by decide +kernel
theorem dL_law_272 : decode cL_law 272 = .ok (.ireturn, 1) := by decide +kernel
theorem dL_law_273 : decode cL_law 273 = .ok (.aload_n 1, 1) := by decide +kernel
theorem dL_law_274 : decode cL_law 274 = .ok (.aload_n 0, 1) := by decide +kernel
theorem dL_law_275 : decode cL_law 275 = .ok (.iload_n 3, 1) := by decide +kernel
theorem dL_law_276 : decode cL_law 276 = .ok (.iconst 1, 1) := by decide +kernel
theorem dL_law_277 : decode cL_law 277 = .ok (.iadd, 1) := by decide +kernel
theorem dL_law_278 : decode cL_law 278 = .ok (.iaload, 1) := by decide +kernel
theorem dL_law_279 : decode cL_law 279 = .ok (.invokevirtual 37, 3) := by decide +kernel
theorem dL_law_282 : decode cL_law 282 = .ok (.aload_n 2, 1) := by decide +kernel
theorem dL_law_283 : decode cL_law 283 = .ok (.aload_n 0, 1) := by decide +kernel
theorem dL_law_284 : decode cL_law 284 = .ok (.iload_n 3, 1) := by decide +kernel
theorem dL_law_285 : decode cL_law 285 = .ok (.iconst 1, 1) := by decide +kernel
theorem dL_law_286 : decode cL_law 286 = .ok (.iadd, 1) := by decide +kernel
theorem dL_law_287 : decode cL_law 287 = .ok (.iaload, 1) := by decide +kernel
theorem dL_law_288 : decode cL_law 288 = .ok (.invokevirtual 40, 3) := by decide +kernel
theorem dL_law_291 : decode cL_law 291 = .ok (.if_icmp .eq 308, 3) := by decide +kernel
theorem dL_law_294 : decode cL_law 294 = .ok (.iconst 0, 1) := by decide +kernel
theorem dL_law_295 : decode cL_law 295 = .ok (.ireturn, 1) := by decide +kernel
theorem dL_law_296 : decode cL_law 296 = .ok (.aload_n 1, 1) := by decide +kernel
theorem dL_law_297 : decode cL_law 297 = .ok (.aload_n 0, 1) := by decide +kernel
theorem dL_law_298 : decode cL_law 298 = .ok (.iload_n 3, 1) := by decide +kernel
theorem dL_law_299 : decode cL_law 299 = .ok (.iconst 1, 1) := by decide +kernel
theorem dL_law_300 : decode cL_law 300 = .ok (.iadd, 1) := by decide +kernel
theorem dL_law_301 : decode cL_law 301 = .ok (.iaload, 1) := by decide +kernel
theorem dL_law_302 : decode cL_law 302 = .ok (.invokevirtual 41, 3) := by decide +kernel
theorem dL_law_305 : decode cL_law 305 = .ok (.aload_n 2, 1) := by decide +kernel
theorem dL_law_306 : decode cL_law 306 = .ok (.aload_n 0, 1) := by decide +kernel
theorem dL_law_307 : decode cL_law 307 = .ok (.iload_n 3, 1) := by decide +kernel
theorem dL_law_308 : decode cL_law 308 = .ok (.iconst 1, 1) := by decide +kernel
theorem dL_law_309 : decode cL_law 309 = .ok (.iadd, 1) := by decide +kernel
theorem dL_law_310 : decode cL_law 310 = .ok (.iaload, 1) := by decide +kernel
theorem dL_law_311 : decode cL_law 311 = .ok (.invokevirtual 44, 3) := by decide +kernel
theorem dL_law_314 : decode cL_law 314 = .ok (.if_icmp .eq 285, 3) := by decide +kernel
theorem dL_law_317 : decode cL_law 317 = .ok (.iconst 0, 1) := by decide +kernel
theorem dL_law_318 : decode cL_law 318 = .ok (.ireturn, 1) := by decide +kernel
theorem dL_law_319 : decode cL_law 319 = .ok (.aload_n 1, 1) := by decide +kernel
theorem dL_law_320 : decode cL_law 320 = .ok (.invokevirtual 45, 3) := by decide +kernel
theorem dL_law_323 : decode cL_law 323 = .ok (.aload_n 2, 1) := by decide +kernel
theorem dL_law_324 : decode cL_law 324 = .ok (.invokevirtual 49, 3) := by decide +kernel
theorem dL_law_327 : decode cL_law 327 = .ok (.lcmp, 1) := by decide +kernel
theorem dL_law_328 : decode cL_law 328 = .ok (.ifCond .eq 271, 3) := by decide +kernel
theorem dL_law_331 : decode cL_law 331 = .ok (.iconst 0, 1) := by decide +kernel
theorem dL_law_332 : decode cL_law 332 = .ok (.ireturn, 1) := by decide +kernel
theorem dL_law_333 : decode cL_law 333 = .ok (.aload_n 1, 1) := by decide +kernel
theorem dL_law_334 : decode cL_law 334 = .ok (.invokevirtual 50, 3) := by decide +kernel
theorem dL_law_337 : decode cL_law 337 = .ok (.aload_n 2, 1) := by decide +kernel
theorem dL_law_338 : decode cL_law 338 = .ok (.invokevirtual 53, 3) := by decide +kernel
theorem dL_law_341 : decode cL_law 341 = .ok (.if_icmp .eq 258, 3) := by decide +kernel
theorem dL_law_344 : decode cL_law 344 = .ok (.iconst 0, 1) := by decide +kernel
theorem dL_law_345 : decode cL_law 345 = .ok (.ireturn, 1) := by decide +kernel
theorem dL_law_346 : decode cL_law 346 = .ok (.aload_n 1, 1) := by decide +kernel
theorem dL_law_347 : decode cL_law 347 = .ok (.aload_n 0, 1) := by decide +kernel
theorem dL_law_348 : decode cL_law 348 = .ok (.iload_n 3, 1) := by decide +kernel
theorem dL_law_349 : decode cL_law 349 = .ok (.iconst 1, 1) := by decide +kernel
theorem dL_law_350 : decode cL_law 350 = .ok (.iadd, 1) := by decide +kernel
theorem dL_law_351 : decode cL_law 351 = .ok (.iaload, 1) := by decide +kernel
theorem dL_law_352 : decode cL_law 352 = .ok (.aload_n 0, 1) := by decide +kernel
theorem dL_law_353 : decode cL_law 353 = .ok (.iload_n 3, 1) := by decide +kernel
theorem dL_law_354 : decode cL_law 354 = .ok (.iconst 2, 1) := by decide +kernel
theorem dL_law_355 : decode cL_law 355 = .ok (.iadd, 1) := by decide +kernel
theorem dL_law_356 : decode cL_law 356 = .ok (.iaload, 1) := by decide +kernel
theorem dL_law_357 : decode cL_law 357 = .ok (.invokevirtual 54, 3) := by decide +kernel
theorem dL_law_360 : decode cL_law 360 = .ok (.aload_n 2, 1) := by decide +kernel
theorem dL_law_361 : decode cL_law 361 = .ok (.aload_n 0, 1) := by decide +kernel
theorem dL_law_362 : decode cL_law 362 = .ok (.iload_n 3, 1) := by decide +kernel
theorem dL_law_363 : decode cL_law 363 = .ok (.iconst 1, 1) := by decide +kernel
theorem dL_law_364 : decode cL_law 364 = .ok (.iadd, 1) := by decide +kernel
theorem dL_law_365 : decode cL_law 365 = .ok (.iaload, 1) := by decide +kernel
theorem dL_law_366 : decode cL_law 366 = .ok (.aload_n 0, 1) := by decide +kernel
theorem dL_law_367 : decode cL_law 367 = .ok (.iload_n 3, 1) := by decide +kernel
theorem dL_law_368 : decode cL_law 368 = .ok (.iconst 2, 1) := by decide +kernel
theorem dL_law_369 : decode cL_law 369 = .ok (.iadd, 1) := by decide +kernel
theorem dL_law_370 : decode cL_law 370 = .ok (.iaload, 1) := by decide +kernel
theorem dL_law_371 : decode cL_law 371 = .ok (.invokevirtual 57, 3) := by decide +kernel
theorem dL_law_374 : decode cL_law 374 = .ok (.if_icmp .eq 225, 3) := by decide +kernel
theorem dL_law_377 : decode cL_law 377 = .ok (.iconst 0, 1) := by decide +kernel
theorem dL_law_378 : decode cL_law 378 = .ok (.ireturn, 1) := by decide +kernel
theorem dL_law_379 : decode cL_law 379 = .ok (.aload_n 1, 1) := by decide +kernel
theorem dL_law_380 : decode cL_law 380 = .ok (.aload_n 0, 1) := by decide +kernel
theorem dL_law_381 : decode cL_law 381 = .ok (.iload_n 3, 1) := by decide +kernel
theorem dL_law_382 : decode cL_law 382 = .ok (.iconst 1, 1) := by decide +kernel
theorem dL_law_383 : decode cL_law 383 = .ok (.iadd, 1) := by decide +kernel
theorem dL_law_384 : decode cL_law 384 = .ok (.iaload, 1) := by decide +kernel
theorem dL_law_385 : decode cL_law 385 = .ok (.invokevirtual 58, 3) := by decide +kernel
theorem dL_law_388 : decode cL_law 388 = .ok (.aload_n 2, 1) := by decide +kernel
theorem dL_law_389 : decode cL_law 389 = .ok (.aload_n 0, 1) := by decide +kernel
theorem dL_law_390 : decode cL_law 390 = .ok (.iload_n 3, 1) := by decide +kernel
theorem dL_law_391 : decode cL_law 391 = .ok (.iconst 1, 1) := by decide +kernel
theorem dL_law_392 : decode cL_law 392 = .ok (.iadd, 1) := by decide +kernel
theorem dL_law_393 : decode cL_law 393 = .ok (.iaload, 1) := by decide +kernel
theorem dL_law_394 : decode cL_law 394 = .ok (.invokevirtual 61, 3) := by decide +kernel
theorem dL_law_397 : decode cL_law 397 = .ok (.if_icmp .eq 202, 3) := by decide +kernel
theorem dL_law_400 : decode cL_law 400 = .ok (.iconst 0, 1) := by decide +kernel
theorem dL_law_401 : decode cL_law 401 = .ok (.ireturn, 1) := by decide +kernel
theorem dL_law_402 : decode cL_law 402 = .ok (.aload_n 1, 1) := by decide +kernel
theorem dL_law_403 : decode cL_law 403 = .ok (.aload_n 0, 1) := by decide +kernel
theorem dL_law_404 : decode cL_law 404 = .ok (.iload_n 3, 1) := by decide +kernel
theorem dL_law_405 : decode cL_law 405 = .ok (.iconst 1, 1) := by decide +kernel
theorem dL_law_406 : decode cL_law 406 = .ok (.iadd, 1) := by decide +kernel
theorem dL_law_407 : decode cL_law 407 = .ok (.iaload, 1) := by decide +kernel
theorem dL_law_408 : decode cL_law 408 = .ok (.invokevirtual 62, 3) := by decide +kernel
theorem dL_law_411 : decode cL_law 411 = .ok (.aload_n 2, 1) := by decide +kernel
theorem dL_law_412 : decode cL_law 412 = .ok (.aload_n 0, 1) := by decide +kernel
theorem dL_law_413 : decode cL_law 413 = .ok (.iload_n 3, 1) := by decide +kernel
theorem dL_law_414 : decode cL_law 414 = .ok (.iconst 1, 1) := by decide +kernel
theorem dL_law_415 : decode cL_law 415 = .ok (.iadd, 1) := by decide +kernel
theorem dL_law_416 : decode cL_law 416 = .ok (.iaload, 1) := by decide +kernel
theorem dL_law_417 : decode cL_law 417 = .ok (.invokevirtual 65, 3) := by decide +kernel
theorem dL_law_420 : decode cL_law 420 = .ok (.if_icmp .eq 179, 3) := by decide +kernel
theorem dL_law_423 : decode cL_law 423 = .ok (.iconst 0, 1) := by decide +kernel
theorem dL_law_424 : decode cL_law 424 = .ok (.ireturn, 1) := by decide +kernel
theorem dL_law_425 : decode cL_law 425 = .ok (.aload_n 1, 1) := by decide +kernel
theorem dL_law_426 : decode cL_law 426 = .ok (.aload_n 0, 1) := by decide +kernel
theorem dL_law_427 : decode cL_law 427 = .ok (.iload_n 3, 1) := by decide +kernel
theorem dL_law_428 : decode cL_law 428 = .ok (.iconst 1, 1) := by decide +kernel
theorem dL_law_429 : decode cL_law 429 = .ok (.iadd, 1) := by decide +kernel
theorem dL_law_430 : decode cL_law 430 = .ok (.iaload, 1) := by decide +kernel
theorem dL_law_431 : decode cL_law 431 = .ok (.invokevirtual 66, 3) := by decide +kernel
theorem dL_law_434 : decode cL_law 434 = .ok (.aload_n 2, 1) := by decide +kernel
theorem dL_law_435 : decode cL_law 435 = .ok (.aload_n 0, 1) := by decide +kernel
theorem dL_law_436 : decode cL_law 436 = .ok (.iload_n 3, 1) := by decide +kernel
theorem dL_law_437 : decode cL_law 437 = .ok (.iconst 1, 1) := by decide +kernel
theorem dL_law_438 : decode cL_law 438 = .ok (.iadd, 1) := by decide +kernel
theorem dL_law_439 : decode cL_law 439 = .ok (.iaload, 1) := by decide +kernel
theorem dL_law_440 : decode cL_law 440 = .ok (.invokevirtual 69, 3) := by decide +kernel
theorem dL_law_443 : decode cL_law 443 = .ok (.if_icmp .eq 156, 3) := by decide +kernel
theorem dL_law_446 : decode cL_law 446 = .ok (.iconst 0, 1) := by decide +kernel
theorem dL_law_447 : decode cL_law 447 = .ok (.ireturn, 1) := by decide +kernel
theorem dL_law_448 : decode cL_law 448 = .ok (.aload_n 1, 1) := by decide +kernel
theorem dL_law_449 : decode cL_law 449 = .ok (.aload_n 0, 1) := by decide +kernel
theorem dL_law_450 : decode cL_law 450 = .ok (.iload_n 3, 1) := by decide +kernel
theorem dL_law_451 : decode cL_law 451 = .ok (.iconst 1, 1) := by decide +kernel
theorem dL_law_452 : decode cL_law 452 = .ok (.iadd, 1) := by decide +kernel
theorem dL_law_453 : decode cL_law 453 = .ok (.iaload, 1) := by decide +kernel
theorem dL_law_454 : decode cL_law 454 = .ok (.i2l, 1) := by decide +kernel
theorem dL_law_455 : decode cL_law 455 = .ok (.bipush 32, 2) := by decide +kernel
theorem dL_law_457 : decode cL_law 457 = .ok (.lshl, 1) := by decide +kernel
theorem dL_law_458 : decode cL_law 458 = .ok (.aload_n 0, 1) := by decide +kernel
theorem dL_law_459 : decode cL_law 459 = .ok (.iload_n 3, 1) := by decide +kernel
theorem dL_law_460 : decode cL_law 460 = .ok (.iconst 2, 1) := by decide +kernel
theorem dL_law_461 : decode cL_law 461 = .ok (.iadd, 1) := by decide +kernel
theorem dL_law_462 : decode cL_law 462 = .ok (.iaload, 1) := by decide +kernel
theorem dL_law_463 : decode cL_law 463 = .ok (.i2l, 1) := by decide +kernel
theorem dL_law_464 : decode cL_law 464 = .ok (.ldc2_w 70, 3) := by decide +kernel
theorem dL_law_467 : decode cL_law 467 = .ok (.land, 1) := by decide +kernel
theorem dL_law_468 : decode cL_law 468 = .ok (.lor, 1) := by decide +kernel
theorem dL_law_469 : decode cL_law 469 = .ok (.invokevirtual 72, 3) := by decide +kernel
theorem dL_law_472 : decode cL_law 472 = .ok (.aload_n 2, 1) := by decide +kernel
theorem dL_law_473 : decode cL_law 473 = .ok (.aload_n 0, 1) := by decide +kernel
theorem dL_law_474 : decode cL_law 474 = .ok (.iload_n 3, 1) := by decide +kernel
theorem dL_law_475 : decode cL_law 475 = .ok (.iconst 1, 1) := by decide +kernel
theorem dL_law_476 : decode cL_law 476 = .ok (.iadd, 1) := by decide +kernel
theorem dL_law_477 : decode cL_law 477 = .ok (.iaload, 1) := by decide +kernel
theorem dL_law_478 : decode cL_law 478 = .ok (.i2l, 1) := by decide +kernel
theorem dL_law_479 : decode cL_law 479 = .ok (.bipush 32, 2) := by decide +kernel
theorem dL_law_481 : decode cL_law 481 = .ok (.lshl, 1) := by decide +kernel
theorem dL_law_482 : decode cL_law 482 = .ok (.aload_n 0, 1) := by decide +kernel
theorem dL_law_483 : decode cL_law 483 = .ok (.iload_n 3, 1) := by decide +kernel
theorem dL_law_484 : decode cL_law 484 = .ok (.iconst 2, 1) := by decide +kernel
theorem dL_law_485 : decode cL_law 485 = .ok (.iadd, 1) := by decide +kernel
theorem dL_law_486 : decode cL_law 486 = .ok (.iaload, 1) := by decide +kernel
theorem dL_law_487 : decode cL_law 487 = .ok (.i2l, 1) := by decide +kernel
theorem dL_law_488 : decode cL_law 488 = .ok (.ldc2_w 70, 3) := by decide +kernel
theorem dL_law_491 : decode cL_law 491 = .ok (.land, 1) := by decide +kernel
theorem dL_law_492 : decode cL_law 492 = .ok (.lor, 1) := by decide +kernel
theorem dL_law_493 : decode cL_law 493 = .ok (.invokevirtual 76, 3) := by decide +kernel
theorem dL_law_496 : decode cL_law 496 = .ok (.if_icmp .eq 103, 3) := by decide +kernel
theorem dL_law_499 : decode cL_law 499 = .ok (.iconst 0, 1) := by decide +kernel
theorem dL_law_500 : decode cL_law 500 = .ok (.ireturn, 1) := by decide +kernel
theorem dL_law_501 : decode cL_law 501 = .ok (.aload_n 1, 1) := by decide +kernel
theorem dL_law_502 : decode cL_law 502 = .ok (.invokevirtual 77, 3) := by decide +kernel
theorem dL_law_505 : decode cL_law 505 = .ok (.aload_n 2, 1) := by decide +kernel
theorem dL_law_506 : decode cL_law 506 = .ok (.invokevirtual 80, 3) := by decide +kernel
theorem dL_law_509 : decode cL_law 509 = .ok (.if_icmp .eq 90, 3) := by decide +kernel
theorem dL_law_512 : decode cL_law 512 = .ok (.iconst 0, 1) := by decide +kernel
theorem dL_law_513 : decode cL_law 513 = .ok (.ireturn, 1) := by decide +kernel
theorem dL_law_514 : decode cL_law 514 = .ok (.aload_n 1, 1) := by decide +kernel
theorem dL_law_515 : decode cL_law 515 = .ok (.invokevirtual 81, 3) := by decide +kernel
theorem dL_law_518 : decode cL_law 518 = .ok (.aload_n 2, 1) := by decide +kernel
theorem dL_law_519 : decode cL_law 519 = .ok (.invokevirtual 84, 3) := by decide +kernel
theorem dL_law_522 : decode cL_law 522 = .ok (.if_icmp .eq 77, 3) := by decide +kernel
theorem dL_law_525 : decode cL_law 525 = .ok (.iconst 0, 1) := by decide +kernel
theorem dL_law_526 : decode cL_law 526 = .ok (.ireturn, 1) := by decide +kernel
theorem dL_law_527 : decode cL_law 527 = .ok (.aload_n 1, 1) := by decide +kernel
theorem dL_law_528 : decode cL_law 528 = .ok (.invokevirtual 85, 3) := by decide +kernel
theorem dL_law_531 : decode cL_law 531 = .ok (.aload_n 2, 1) := by decide +kernel
theorem dL_law_532 : decode cL_law 532 = .ok (.invokevirtual 88, 3) := by decide +kernel
theorem dL_law_535 : decode cL_law 535 = .ok (.if_icmp .eq 64, 3) := by decide +kernel
theorem dL_law_538 : decode cL_law 538 = .ok (.iconst 0, 1) := by decide +kernel
theorem dL_law_539 : decode cL_law 539 = .ok (.ireturn, 1) := by decide +kernel
theorem dL_law_540 : decode cL_law 540 = .ok (.aload_n 1, 1) := by decide +kernel
theorem dL_law_541 : decode cL_law 541 = .ok (.invokevirtual 89, 3) := by decide +kernel
theorem dL_law_544 : decode cL_law 544 = .ok (.aload_n 2, 1) := by decide +kernel
theorem dL_law_545 : decode cL_law 545 = .ok (.invokevirtual 92, 3) := by decide +kernel
theorem dL_law_548 : decode cL_law 548 = .ok (.if_icmp .eq 51, 3) := by decide +kernel
theorem dL_law_551 : decode cL_law 551 = .ok (.iconst 0, 1) := by decide +kernel
theorem dL_law_552 : decode cL_law 552 = .ok (.ireturn, 1) := by decide +kernel
theorem dL_law_553 : decode cL_law 553 = .ok (.aload_n 1, 1) := by decide +kernel
theorem dL_law_554 : decode cL_law 554 = .ok (.aload_n 0, 1) := by decide +kernel
theorem dL_law_555 : decode cL_law 555 = .ok (.iload_n 3, 1) := by decide +kernel
theorem dL_law_556 : decode cL_law 556 = .ok (.iconst 1, 1) := by decide +kernel
theorem dL_law_557 : decode cL_law 557 = .ok (.iadd, 1) := by decide +kernel
theorem dL_law_558 : decode cL_law 558 = .ok (.iaload, 1) := by decide +kernel
theorem dL_law_559 : decode cL_law 559 = .ok (.invokevirtual 93, 3) := by decide +kernel
theorem dL_law_562 : decode cL_law 562 = .ok (.aload_n 2, 1) := by decide +kernel
theorem dL_law_563 : decode cL_law 563 = .ok (.aload_n 0, 1) := by decide +kernel
theorem dL_law_564 : decode cL_law 564 = .ok (.iload_n 3, 1) := by decide +kernel
theorem dL_law_565 : decode cL_law 565 = .ok (.iconst 1, 1) := by decide +kernel
theorem dL_law_566 : decode cL_law 566 = .ok (.iadd, 1) := by decide +kernel
theorem dL_law_567 : decode cL_law 567 = .ok (.iaload, 1) := by decide +kernel
theorem dL_law_568 : decode cL_law 568 = .ok (.invokevirtual 96, 3) := by decide +kernel
theorem dL_law_571 : decode cL_law 571 = .ok (.if_icmp .eq 28, 3) := by decide +kernel
theorem dL_law_574 : decode cL_law 574 = .ok (.iconst 0, 1) := by decide +kernel
theorem dL_law_575 : decode cL_law 575 = .ok (.ireturn, 1) := by decide +kernel
theorem dL_law_576 : decode cL_law 576 = .ok (.aload_n 1, 1) := by decide +kernel
theorem dL_law_577 : decode cL_law 577 = .ok (.aload_n 0, 1) := by decide +kernel
theorem dL_law_578 : decode cL_law 578 = .ok (.iload_n 3, 1) := by decide +kernel
theorem dL_law_579 : decode cL_law 579 = .ok (.iconst 1, 1) := by decide +kernel
theorem dL_law_580 : decode cL_law 580 = .ok (.iadd, 1) := by decide +kernel
theorem dL_law_581 : decode cL_law 581 = .ok (.iaload, 1) := by decide +kernel
theorem dL_law_582 : decode cL_law 582 = .ok (.invokevirtual 97, 3) := by decide +kernel
theorem dL_law_585 : decode cL_law 585 = .ok (.aload_n 2, 1) := by decide +kernel
theorem dL_law_586 : decode cL_law 586 = .ok (.aload_n 0, 1) := by decide +kernel
theorem dL_law_587 : decode cL_law 587 = .ok (.iload_n 3, 1) := by decide +kernel
theorem dL_law_588 : decode cL_law 588 = .ok (.iconst 1, 1) := by decide +kernel
theorem dL_law_589 : decode cL_law 589 = .ok (.iadd, 1) := by decide +kernel
theorem dL_law_590 : decode cL_law 590 = .ok (.iaload, 1) := by decide +kernel
theorem dL_law_591 : decode cL_law 591 = .ok (.invokevirtual 100, 3) := by decide +kernel
theorem dL_law_594 : decode cL_law 594 = .ok (.if_icmp .eq 5, 3) := by decide +kernel
theorem dL_law_597 : decode cL_law 597 = .ok (.iconst 0, 1) := by decide +kernel
theorem dL_law_598 : decode cL_law 598 = .ok (.ireturn, 1) := by decide +kernel
theorem dL_law_599 : decode cL_law 599 = .ok (.iinc 3 4, 3) := by decide +kernel
theorem dL_law_602 : decode cL_law 602 = .ok (.goto (-584), 3) := by decide +kernel
theorem dL_law_605 : decode cL_law 605 = .ok (.iconst 1, 1) := by decide +kernel
theorem dL_law_606 : decode cL_law 606 = .ok (.ireturn, 1) := by decide +kernel
abbrev vwCl : List vw_C := [(RX1, TX1, 16), (RX2, TX2, 3), (RX3, TX3, 6), (RX4, TX4, 2), (RX5, TX5, 5), (RX6, TX6, 13)]
end
section
/-! ===== MY BASE: whole numbers, worlds, one judgement Z over a world, the locals and the stack ===== -/
def iI (z : Int) : Int32 := Int32.ofInt z
def lI (z : Int) : Int64 := Int64.ofInt z
def inR (z : Int) : Prop := -2147483648 ≤ z ∧ z < 2147483648
def inL (z : Int) : Prop := -9223372036854775808 ≤ z ∧ z < 9223372036854775808
theorem iI_toInt {z : Int} (h : inR z) : (iI z).toInt = z := Int32.toInt_ofInt_of_le (by have := h.1; omega) (by have := h.2; omega)
theorem lI_toInt {z : Int} (h : inL z) : (lI z).toInt = z := Int64.toInt_ofInt_of_le (by have := h.1; omega) (by have := h.2; omega)
theorem iI_add (a b : Int) : iI a + iI b = iI (a + b) := (Int32.ofInt_add a b).symm
theorem iI_sub (a b : Int) : iI a - iI b = iI (a - b) := (Int32.ofInt_sub a b).symm
theorem iI_mul (a b : Int) : iI a * iI b = iI (a * b) := (Int32.ofInt_mul a b).symm
theorem iI_neg (a : Int) : -iI a = iI (-a) := (Int32.ofInt_neg a).symm
theorem iI_lt {a b : Int} (ha : inR a) (hb : inR b) : iI a < iI b ↔ a < b := by rw [Int32.lt_iff_toInt_lt, iI_toInt ha, iI_toInt hb]
theorem iI_le {a b : Int} (ha : inR a) (hb : inR b) : iI a ≤ iI b ↔ a ≤ b := by rw [Int32.le_iff_toInt_le, iI_toInt ha, iI_toInt hb]
theorem iI_eq {a b : Int} (ha : inR a) (hb : inR b) : iI a = iI b ↔ a = b := ⟨fun h => by rw [← iI_toInt ha, ← iI_toInt hb, h], fun h => by rw [h]⟩
theorem iI_0 : (0 : Int32) = iI 0 := rfl
theorem inR_0 : inR 0 := ⟨by decide, by decide⟩
theorem iI_of (x : Int32) : x = iI x.toInt := (Int32.ofInt_toInt x).symm
theorem inR_of (x : Int32) : inR x.toInt := ⟨by have := Int32.le_toInt x; omega, by have := Int32.toInt_lt x; omega⟩
theorem iI_cl {z : Int} (h : inR z) : (iI z).toNatClampNeg = z.toNat := by
  show (iI z).toInt.toNat = _
  rw [iI_toInt h]
theorem iI_in {z : Int} {k n : Nat} (hk : z = (k : Int)) (hn : k < n) (hb : n < 2147483648) : vp_in (iI z) n ∧ (iI z).toNatClampNeg = k := by
  have h : inR z := ⟨by omega, by omega⟩
  refine ⟨vp_in_iff.mpr ?_, ?_⟩
  · rw [iI_toInt h]; omega
  · rw [iI_cl h]; omega
theorem iI_minV : Int32.minValue.toInt = -2147483648 := by decide
theorem iI_maxV : Int32.maxValue.toInt = 2147483647 := by decide
theorem iI_rem {a b : Int} (h0 : 0 ≤ a) (ha : a < 2147483648) (h1 : 0 < b) (hb : b < 2147483648) : iI a - iI a / iI b * iI b = iI (a % b) := by
  have e : iI a / iI b = iI (a.tdiv b) := by
    exact (Int32.ofInt_tdiv (a := a) (b := b) (by rw [iI_minV]; omega) (by rw [iI_maxV]; omega) (by rw [iI_minV]; omega) (by rw [iI_maxV]; omega)).symm
  rw [e, iI_mul, iI_sub, Int.tdiv_eq_ediv_of_nonneg h0]
  congr 1
  have := Int.emod_add_mul_ediv a b
  rw [Int.mul_comm] at this
  omega
theorem iI_div {a b : Int} (h0 : 0 ≤ a) (ha : a < 2147483648) (h1 : 0 < b) (hb : b < 2147483648) : iI a / iI b = iI (a / b) := by
  have e : iI a / iI b = iI (a.tdiv b) := by
    exact (Int32.ofInt_tdiv (a := a) (b := b) (by rw [iI_minV]; omega) (by rw [iI_maxV]; omega) (by rw [iI_minV]; omega) (by rw [iI_maxV]; omega)).symm
  rw [e, Int.tdiv_eq_ediv_of_nonneg h0]
theorem iI_l {z : Int} (h : inR z) : (iI z).toInt64 = lI z := Int32.toInt64_ofInt (by rw [iI_minV]; exact h.1) (by rw [iI_maxV]; have := h.2; omega)
theorem iI_pos0 {b : Int} (h1 : 0 < b) (hb : b < 2147483648) : ¬ iI b = 0 := fun h => by
  have q := (iI_eq (b := 0) ⟨by omega, by omega⟩ inR_0).mp h
  omega
theorem iI_negZ (a : Int) : 0 - iI a = iI (-a) := by
  rw [iI_0, iI_sub, Int.zero_sub]
theorem iI_and3 (a : Int) : iI a &&& iI 3 = iI (a % 4) := by
  have h : (iI 3).toBitVec.toNat = 2 ^ 2 - 1 := by decide
  rw [pk_and (iI a) 2 h]
  have e : (iI a).toBitVec = BitVec.ofInt 32 a := rfl
  rw [e, BitVec.toNat_ofInt]
  show Int32.ofNat _ = Int32.ofInt _
  rw [← Int32.ofInt_eq_ofNat]
  congr 1
  omega
theorem iI_and1 (a : Int) : iI a &&& iI 1 = iI (a % 2) := by
  have h : (iI 1).toBitVec.toNat = 2 ^ 1 - 1 := by decide
  rw [pk_and (iI a) 1 h]
  have e : (iI a).toBitVec = BitVec.ofInt 32 a := rfl
  rw [e, BitVec.toNat_ofInt]
  show Int32.ofNat _ = Int32.ofInt _
  rw [← Int32.ofInt_eq_ofNat]
  congr 1
  omega
theorem iI_nat (n : Nat) : nI n = iI (n : Int) := Int32.ofInt_eq_ofNat.symm
theorem iI_shr {a : Int} (k : Nat) (hk : k < 32) (h0 : 0 ≤ a) (ha : a < 2147483648) : iI a >>> (iI k &&& 31) = iI (a / 2 ^ k) := by
  obtain ⟨n, rfl⟩ := Int.eq_ofNat_of_zero_le h0
  have hs : (((iI k) &&& 31).toBitVec.smod 32).toNat = k := by
    have : ∀ k : Nat, k < 32 → (((iI (k : Int)) &&& 31).toBitVec.smod 32).toNat = k := by decide
    exact this k hk
  rw [← iI_nat, pk_shrN (by omega) _ k hs, iI_nat]
  congr 1
def updZ (f : Nat → Int) (k : Nat) (x : Int) : Nat → Int := fun j => if j = k then x else f j
theorem updZ_eq (f : Nat → Int) (k : Nat) (x : Int) : updZ f k x k = x := if_pos rfl
theorem updZ_ne (f : Nat → Int) {k j : Nat} (x : Int) (h : j ≠ k) : updZ f k x j = f j := if_neg h
theorem updZ_iI (f : Nat → Int) (k : Nat) (x : Int) : upd (fun j => iI (f j)) k (iI x) = fun j => iI (updZ f k x j) := by
  funext j
  unfold upd updZ
  by_cases h : j = k
  · rw [if_pos h, if_pos h]
  · rw [if_neg h, if_neg h]
/-- an object's fields: references at the places that say so, whole numbers else -/
def vFa (e : Nat → Int) : Nat → List (Option Nat) → List Value
  | _, [] => []
  | i, none :: t => .int (iI (e i)) :: vFa e (i + 1) t
  | i, some q :: t => .ref q :: vFa e (i + 1) t
def vF (ks : List (Option Nat)) (e : Nat → Int) : List Value := vFa e 0 ks
theorem vFa_congr {e e' : Nat → Int} : ∀ (ks : List (Option Nat)) (i : Nat), (∀ j, i ≤ j → e j = e' j) → vFa e i ks = vFa e' i ks
  | [], _, _ => rfl
  | none :: t, i, h => by
    show Value.int (iI (e i)) :: vFa e (i + 1) t = Value.int (iI (e' i)) :: vFa e' (i + 1) t
    rw [h i (Nat.le_refl i), vFa_congr t (i + 1) (fun j hj => h j (by omega))]
  | some q :: t, i, h => by
    show Value.ref q :: vFa e (i + 1) t = Value.ref q :: vFa e' (i + 1) t
    rw [vFa_congr t (i + 1) (fun j hj => h j (by omega))]
theorem vFa_set (e : Nat → Int) (v : Int) : ∀ (ks : List (Option Nat)) (i k : Nat), ks[k]? = some none → (vFa e i ks).set k (.int (iI v)) = vFa (updZ e (i + k) v) i ks
  | [], _, _, h => by simp at h
  | none :: t, i, 0, _ => by
    show Value.int (iI v) :: vFa e (i + 1) t = Value.int (iI (updZ e (i + 0) v i)) :: vFa (updZ e (i + 0) v) (i + 1) t
    rw [show updZ e (i + 0) v i = v from if_pos rfl, vFa_congr t (i + 1) (fun j hj => (updZ_ne e (k := i + 0) v (by omega)).symm)]
  | some q :: t, i, 0, h => by simp at h
  | none :: t, i, k + 1, h => by
    show Value.int (iI (e i)) :: (vFa e (i + 1) t).set k (.int (iI v)) = Value.int (iI (updZ e (i + (k + 1)) v i)) :: vFa (updZ e (i + (k + 1)) v) (i + 1) t
    rw [vFa_set e v t (i + 1) k (by simpa using h), updZ_ne e v (by omega : i ≠ i + (k + 1)), show i + 1 + k = i + (k + 1) by omega]
  | some q :: t, i, k + 1, h => by
    show Value.ref q :: (vFa e (i + 1) t).set k (.int (iI v)) = Value.ref q :: vFa (updZ e (i + (k + 1)) v) (i + 1) t
    rw [vFa_set e v t (i + 1) k (by simpa using h), show i + 1 + k = i + (k + 1) by omega]
theorem vFa_get (e : Nat → Int) : ∀ (ks : List (Option Nat)) (i k : Nat), ks[k]? = some none → (vFa e i ks)[k]? = some (.int (iI (e (i + k))))
  | [], _, _, h => by simp at h
  | none :: t, i, 0, _ => rfl
  | some q :: t, i, 0, h => by simp at h
  | none :: t, i, k + 1, h => by
    show (vFa e (i + 1) t)[k]? = _
    rw [vFa_get e t (i + 1) k (by simpa using h), show i + 1 + k = i + (k + 1) by omega]
  | some q :: t, i, k + 1, h => by
    show (vFa e (i + 1) t)[k]? = _
    rw [vFa_get e t (i + 1) k (by simpa using h), show i + 1 + k = i + (k + 1) by omega]
theorem vFa_ref (e : Nat → Int) (q : Nat) : ∀ (ks : List (Option Nat)) (i k : Nat), ks[k]? = some (some q) → (vFa e i ks)[k]? = some (.ref q)
  | [], _, _, h => by simp at h
  | none :: t, i, 0, h => by simp at h
  | some q' :: t, i, 0, h => by
    have : q' = q := by simpa using h
    subst this
    rfl
  | none :: t, i, k + 1, h => by
    show (vFa e (i + 1) t)[k]? = _
    exact vFa_ref e q t (i + 1) k (by simpa using h)
  | some q' :: t, i, k + 1, h => by
    show (vFa e (i + 1) t)[k]? = _
    exact vFa_ref e q t (i + 1) k (by simpa using h)
theorem vFa_len (e : Nat → Int) : ∀ (ks : List (Option Nat)) (i : Nat), (vFa e i ks).length = ks.length
  | [], _ => rfl
  | none :: t, i => by show (vFa e (i + 1) t).length + 1 = _; rw [vFa_len e t (i + 1)]; rfl
  | some q :: t, i => by show (vFa e (i + 1) t).length + 1 = _; rw [vFa_len e t (i + 1)]; rfl
theorem vF_set {e : Nat → Int} {ks : List (Option Nat)} {k : Nat} (v : Int) (h : ks[k]? = some none) : (vF ks e).set k (.int (iI v)) = vF ks (updZ e k v) := by
  have := vFa_set e v ks 0 k h
  rw [Nat.zero_add] at this
  exact this
theorem vF_get {e : Nat → Int} {ks : List (Option Nat)} {k : Nat} (h : ks[k]? = some none) : (vF ks e)[k]? = some (.int (iI (e k))) := by
  have := vFa_get e ks 0 k h
  rw [Nat.zero_add] at this
  exact this
theorem vF_ref {e : Nat → Int} {ks : List (Option Nat)} {k q : Nat} (h : ks[k]? = some (some q)) : (vF ks e)[k]? = some (.ref q) := vFa_ref e q ks 0 k h
theorem vF_lt {e : Nat → Int} {ks : List (Option Nat)} {k : Nat} {x : Option Nat} (h : ks[k]? = some x) : k < (vF ks e).length := by
  rw [vF, vFa_len]
  exact (List.getElem?_eq_some_iff.mp h).1
abbrev cO (ci h : Nat) (ks : List (Option Nat)) (e : Nat → Int) : Nat × va_E := (h, .inr (ci, vF ks e))
abbrev cI (cA : ClassId) (h n : Nat) (f : Nat → Int) : Nat × va_E := (h, .inl (cA, n, .inl (fun j => iI (f j))))
abbrev cQ (cA : ClassId) (h n : Nat) (f : Nat → Option Nat) : Nat × va_E := (h, .inl (cA, n, .inr (.inr (.inr (.inr f)))))
/-- the classes of arrays: int, char, boolean, Encoder -/
def zJ (J : Nat → ClassId) : List (ClassId × FieldType) := [(J 0, .int), (J 1, .char), (J 2, .boolean), (J 3, .object "StepPairs$Encoder")]
/-! the three static tables -/
def leastS : Nat → Int := fun j => if j = 0 then 4 else if j = 1 then 10 else if j = 2 then 1 else if j = 3 then 1 else 0
def mostS : Nat → Int := fun j => if j = 0 then 400 else if j = 1 then 9999 else if j = 2 then 9 else if j = 3 then 99 else 2
def firstS : Nat → Int := fun j => if j = 0 then 40 else if j = 1 then 1000 else if j = 2 then 1 else if j = 3 then 10 else 1
def zT (nm : String) (f : Nat → Int) (A : Nat → Prop) (U : State) (H : Heap) : Prop := ∃ t : Nat, va_Z "StepPairs" nm "[I" (.ref t) A U H ∧ va_T .int t 5 (fun j => .int (iI (f j))) A U H
/-- the tables as a nest mate links them -/
def zN (U : State) : Prop := va_Nw (.fieldLinkNest "StepPairs$Encoder" 18 "StepPairs" "FIRST_SETTING" "[I" "StepPairs") U ∧ va_Nw (.fieldLinkNest "StepPairs$Encoder" 88 "StepPairs" "LEAST_SETTING" "[I" "StepPairs") U ∧ va_Nw (.fieldLinkNest "StepPairs$Encoder" 91 "StepPairs" "MOST_SETTING" "[I" "StepPairs") U
def zS (A : Nat → Prop) (U : State) (H : Heap) : Prop := zT "LEAST_SETTING" leastS A U H ∧ zT "MOST_SETTING" mostS A U H ∧ zT "FIRST_SETTING" firstS A U H ∧ zN U
theorem zT.call {nm : String} {f : Nat → Int} {A B : Nat → Prop} {u U : State} {H0 H : Heap} {locs : List Loc} (h : zT nm f A u H0) (hvm : u.vm.Alike U.vm) (hS : va_S A H0 H locs) (hB : ∀ q, B q → A q) : zT nm f B U H := by
  obtain ⟨t, h1, h2⟩ := h
  exact ⟨t, (((va_Z.moved hvm h1).kept (fun a h3 h4 => hS.2.1 a h3 h4)).narrow hB), (((va_T.moved hvm h2).kept (fun a h3 h4 => hS.2.1 a h3 h4)).narrow hB)⟩
theorem zS.call {A B : Nat → Prop} {u U : State} {H0 H : Heap} {locs : List Loc} (h : zS A u H0) (hW : u.WarmedH U.vm) (hS : va_S A H0 H locs) (hB : ∀ q, B q → A q) : zS B U H :=
  ⟨h.1.call hW.alike hS hB, h.2.1.call hW.alike hS hB, h.2.2.1.call hW.alike hS hB, va_Nw.warmF hW h.2.2.2.1, va_Nw.warmF hW h.2.2.2.2.1, va_Nw.warmF hW h.2.2.2.2.2⟩
/-! contracts -/
def zP (D : va_G) (J : Nat → ClassId) (wc : va_W) (sz : Nat) : State → Prop := fun U => U.heap.size = sz ∧ va_P D vwCl wc U.heap ∧ va_K D vwCl (zJ J) U ∧ va_D (fun _ => True) wc ∧ zS (va_A wc sz) U U.heap
def zQ {S : Type} (D : va_G) (J : Nat → ClassId) (sz : Nat) (wc : va_W) (P : S → Prop) (v : S → Option Value) (w1 : S → va_W) : Array Value → State → Outcome → State → Prop := fun _ st oc t => (∃ u : S, P u ∧ oc = .returned (v u) ∧ va_P D vwCl (w1 u) t.heap ∧ va_K D vwCl (zJ J) t ∧ va_D (va_A wc sz) (w1 u)) ∧ va_F (va_A wc sz) st t
def ZM {S : Type} (l : Launch) (y : MethodName) (wsY : List Cond) (rm : Room) (D : va_G) (J : Nat → ClassId) (av : List Value) (wc : va_W) (P : S → Prop) (v : S → Option Value) (w1 : S → va_W) : Prop :=
  ∀ sz : Nat, Met l y wsY rm (va_Pc av (zP D J wc sz)) (zQ D J sz wc P v w1) rm.cells rm.slots (va_A wc sz)
abbrev ZX (l : Launch) (y : MethodName) (wsY : List Cond) (rm : Room) (D : va_G) (J : Nat → ClassId) (av : List Value) (wc : va_W) (v : Option Value) (w1 : va_W) : Prop :=
  ZM (S := Unit) l y wsY rm D J av wc (fun _ => True) (fun _ => v) (fun _ => w1)
/-- what stays the same along a method's walk -/
def zC (p : Program) (s : State) (m : MethodId) (args : Array Value) (meth : Method) (c : Code) (A : Nat → Prop) (nL : Nat) (D : va_G) (J : Nat → ClassId) (cc : ByteArray) (own : String) (Ts : List Cond) : Prop :=
  CallFix p m c cc nL s args Ts own ∧ va_K D vwCl (zJ J) s ∧ (∀ q, s.heap.size ≤ q → A q) ∧ zS A s s.heap ∧ meth.locks = false
def Z (p : Program) (l : Launch) (e : Env) (R : Room) (s : State) (m : MethodId) (args : Array Value) (below : List Frame) (meth : Method) (c : Code) (A : Nat → Prop) (nL : Nat) (D : va_G) (cells slots : Nat) (Q : State → Prop) (ws : va_W) (lv : List (Nat × Value)) (pc : Nat) (st : List Value) : Prop :=
  ∀ (H : Heap) (locs : List Loc) (ls : Array Slot), va_P D vwCl ws H → va_D A ws → va_S A s.heap H locs → lv_has ls nL lv → W p l e R s m args below meth c H locs cells slots Q (F0 m pc ls st)
/-- the end of a method -/
def zE {S : Type} (below : List Frame) (args : Array Value) (s : State) (D : va_G) (J : Nat → ClassId) (wc : va_W) (P : S → Prop) (v : S → Option Value) (w1 : S → va_W) (mc ms : Nat) : State → Prop :=
  MQ below (zQ D J s.heap.size wc P v w1) args s mc ms (va_A wc s.heap.size)
theorem z_met {S : Type} {l : Launch} {y : MethodName} {wsY ws' : List Cond} {rm : Room} {D : va_G} {J : Nat → ClassId} {av : List Value} {wc : va_W} {P : S → Prop} {v : S → Option Value} {w1 : S → va_W} {cc : ByteArray} {nL : Nat} {ret : Option FieldType}
    {own : String} (hy : plainName y.cls = true) (hown : y.cls = own) (hw : wsY = Cond.code y cc nL ret :: ws') (hn : (lg_sl av).length ≤ nL)
    (body : ∀ (p : Program) (e : Env) (s : State) (m : MethodId) (args : Array Value) (below : List Frame) (meth : Method) (c : Code), zC p s m args meth c (va_A wc s.heap.size) nL D J cc own wsY → meth.sig.returnType = ret → meth.name = y.name →
      Z p l e (headSpec wsY rm).room s m args below meth c (va_A wc s.heap.size) nL D 0 0 (zE below args s D J wc P v w1 rm.cells rm.slots) wc (lv_args 0 av) 0 []) : ZM l y wsY rm D J av wc P v w1 := by
  subst hown
  intro sz
  refine Met.ofW (cc := cc) (maxL := nL) (ret := ret) hy hw ?_
  intro p e s m args below meth c s₁ B hml hv
  obtain ⟨rfl, hsz, hP, hK, hD0, hS0⟩ := hv
  subst hsz
  have hl := lv_entry av (n := nL) hn
  have hC : zC p s m av.toArray meth c (va_A wc s.heap.size) nL D J cc y.cls wsY := ⟨⟨B.exec, B.bytes, hml, findClass_of_methodNamed B.named, atoms_spec (ws := wsY) B.pre⟩, hK, fun q h => Or.inr h, hS0, B.notSynchronized⟩
  have k := body p e s m av.toArray below meth c hC B.returns (name_of_methodNamed B.named B.method).1 s.heap [] _ hP hD0.self va_S.rf hl
  rw [lg_entry_eq]
  exact k
end
section
section ZR
variable {p : Program} {l : Launch} {e : Env} {R : Room} {s : State} {m : MethodId} {args : Array Value} {below : List Frame} {meth : Method} {c : Code} {cells slots : Nat} {Q : State → Prop} {A : Nat → Prop} {nL : Nat} {D : va_G} {J : Nat → ClassId} {cc : ByteArray} {own : String} {Ts : List Cond} {ws ws' : va_W} {lv lv' : List (Nat × Value)} {pc : Nat} {st : List Value}

theorem z_iconst (hC : zC p s m args meth c A nL D J cc own Ts) {n : Int} (hdg : decode cc pc = .ok (.iconst n, 1)) (kk : Z p l e R s m args below meth c A nL D cells slots Q ws lv (pc + 1) (.int (iI n) :: st)) : Z p l e R s m args below meth c A nL D cells slots Q ws lv pc st := fun H locs ls hP hD hS hl => lv_iconst hC.1.1 hC.1.2.1 hdg rfl (kk H locs ls hP hD hS hl)
theorem z_bipush (hC : zC p s m args meth c A nL D J cc own Ts) {n : Int} (hdg : decode cc pc = .ok (.bipush n, 2)) (hv : (Int8.ofInt n).toInt32 = iI n) (kk : Z p l e R s m args below meth c A nL D cells slots Q ws lv (pc + 2) (.int (iI n) :: st)) : Z p l e R s m args below meth c A nL D cells slots Q ws lv pc st := fun H locs ls hP hD hS hl => lv_bipush hC.1.1 hC.1.2.1 hdg hv (kk H locs ls hP hD hS hl)
theorem z_sipush (hC : zC p s m args meth c A nL D J cc own Ts) {n : Int} (hdg : decode cc pc = .ok (.sipush n, 3)) (hv : (Int16.ofInt n).toInt32 = iI n) (kk : Z p l e R s m args below meth c A nL D cells slots Q ws lv (pc + 3) (.int (iI n) :: st)) : Z p l e R s m args below meth c A nL D cells slots Q ws lv pc st := fun H locs ls hP hD hS hl => lv_sipush hC.1.1 hC.1.2.1 hdg hv (kk H locs ls hP hD hS hl)
theorem z_ldc (hC : zC p s m args meth c A nL D J cc own Ts) {index : Nat} {v : Int32} (n : Int) (hc : Cond.constant own index v ∈ Ts) (hdg : decode cc pc = .ok (.ldc index, 2)) (hv : v = iI n) (kk : Z p l e R s m args below meth c A nL D cells slots Q ws lv (pc + 2) (.int (iI n) :: st)) : Z p l e R s m args below meth c A nL D cells slots Q ws lv pc st := fun H locs ls hP hD hS hl => lv_ldc hC.1.1 hC.1.2.1 hC.1.2.2.2.1 (hC.1.2.2.2.2 _ hc) hdg (hv ▸ kk H locs ls hP hD hS hl)
theorem z_ldc2 (hC : zC p s m args meth c A nL D J cc own Ts) {index : Nat} {v : Int64} (hc : Cond.constantLong own index v ∈ Ts) (hdg : decode cc pc = .ok (.ldc2_w index, 3)) (kk : Z p l e R s m args below meth c A nL D cells slots Q ws lv (pc + 3) (.long v :: st)) : Z p l e R s m args below meth c A nL D cells slots Q ws lv pc st := fun H locs ls hP hD hS hl => lv_ldc2 hC.1.1 hC.1.2.1 hC.1.2.2.2.1 (hC.1.2.2.2.2 _ hc) hdg (kk H locs ls hP hD hS hl)
theorem z_ldc2d (hC : zC p s m args meth c A nL D J cc own Ts) {index : Nat} {v : UInt64} (hc : Cond.constantDouble own index v ∈ Ts) (hdg : decode cc pc = .ok (.ldc2_w index, 3)) (kk : Z p l e R s m args below meth c A nL D cells slots Q ws lv (pc + 3) (.double v :: st)) : Z p l e R s m args below meth c A nL D cells slots Q ws lv pc st := fun H locs ls hP hD hS hl => lv_ldc2d hC.1.1 hC.1.2.1 hC.1.2.2.2.1 (hC.1.2.2.2.2 _ hc) hdg (kk H locs ls hP hD hS hl)
theorem z_ldcf (hC : zC p s m args meth c A nL D J cc own Ts) {index : Nat} {v : UInt32} (hc : Cond.constantFloat own index v ∈ Ts) (hdg : decode cc pc = .ok (.ldc index, 2)) (kk : Z p l e R s m args below meth c A nL D cells slots Q ws lv (pc + 2) (.float v :: st)) : Z p l e R s m args below meth c A nL D cells slots Q ws lv pc st := fun H locs ls hP hD hS hl => lv_ldcf hC.1.1 hC.1.2.1 hC.1.2.2.2.1 (hC.1.2.2.2.2 _ hc) hdg (kk H locs ls hP hD hS hl)
theorem z_lconst (hC : zC p s m args meth c A nL D J cc own Ts) {n : Fin 2} {v : Int64} (hdg : decode cc pc = .ok (.lconst n, 1)) (hv : Int64.ofNat (n : Nat) = v) (kk : Z p l e R s m args below meth c A nL D cells slots Q ws lv (pc + 1) (.long v :: st)) : Z p l e R s m args below meth c A nL D cells slots Q ws lv pc st := fun H locs ls hP hD hS hl => lv_lconst hC.1.1 hC.1.2.1 hdg hv (kk H locs ls hP hD hS hl)
theorem z_iload_n (hC : zC p s m args meth c A nL D J cc own Ts) {k : Fin 4} {i : Nat} {x : Int32} (hdg : decode cc pc = .ok (.iload_n k, 1)) (hi : (k : Nat) = i) (q : Nat) (hq : lv[q]? = some (i, .int x)) (kk : Z p l e R s m args below meth c A nL D cells slots Q ws lv (pc + 1) (.int x :: st)) : Z p l e R s m args below meth c A nL D cells slots Q ws lv pc st := fun H locs ls hP hD hS hl => lv_iload_n hC.1.1 hC.1.2.1 hdg hi (lv_at hl q hq) (kk H locs ls hP hD hS hl)
theorem z_iload (hC : zC p s m args meth c A nL D J cc own Ts) {i : Nat} {x : Int32} (hdg : decode cc pc = .ok (.iload i, 2)) (q : Nat) (hq : lv[q]? = some (i, .int x)) (kk : Z p l e R s m args below meth c A nL D cells slots Q ws lv (pc + 2) (.int x :: st)) : Z p l e R s m args below meth c A nL D cells slots Q ws lv pc st := fun H locs ls hP hD hS hl => lv_iload hC.1.1 hC.1.2.1 hdg (lv_at hl q hq) (kk H locs ls hP hD hS hl)
theorem z_lload_n (hC : zC p s m args meth c A nL D J cc own Ts) {k : Fin 4} {i : Nat} {x : Int64} (hdg : decode cc pc = .ok (.lload_n k, 1)) (hi : (k : Nat) = i) (q : Nat) (hq : lv[q]? = some (i, .long x)) (kk : Z p l e R s m args below meth c A nL D cells slots Q ws lv (pc + 1) (.long x :: st)) : Z p l e R s m args below meth c A nL D cells slots Q ws lv pc st := fun H locs ls hP hD hS hl => lv_lload_n hC.1.1 hC.1.2.1 hdg hi (lv_at hl q hq) (kk H locs ls hP hD hS hl)
theorem z_lload (hC : zC p s m args meth c A nL D J cc own Ts) {i : Nat} {x : Int64} (hdg : decode cc pc = .ok (.lload i, 2)) (q : Nat) (hq : lv[q]? = some (i, .long x)) (kk : Z p l e R s m args below meth c A nL D cells slots Q ws lv (pc + 2) (.long x :: st)) : Z p l e R s m args below meth c A nL D cells slots Q ws lv pc st := fun H locs ls hP hD hS hl => lv_lload hC.1.1 hC.1.2.1 hdg (lv_at hl q hq) (kk H locs ls hP hD hS hl)
theorem z_aload_n (hC : zC p s m args meth c A nL D J cc own Ts) {k : Fin 4} {i : Nat} {x : Nat} (hdg : decode cc pc = .ok (.aload_n k, 1)) (hi : (k : Nat) = i) (q : Nat) (hq : lv[q]? = some (i, .ref x)) (kk : Z p l e R s m args below meth c A nL D cells slots Q ws lv (pc + 1) (.ref x :: st)) : Z p l e R s m args below meth c A nL D cells slots Q ws lv pc st := fun H locs ls hP hD hS hl => lv_aload_n hC.1.1 hC.1.2.1 hdg hi (lv_at hl q hq) (kk H locs ls hP hD hS hl)
theorem z_aload (hC : zC p s m args meth c A nL D J cc own Ts) {i : Nat} {x : Nat} (hdg : decode cc pc = .ok (.aload i, 2)) (q : Nat) (hq : lv[q]? = some (i, .ref x)) (kk : Z p l e R s m args below meth c A nL D cells slots Q ws lv (pc + 2) (.ref x :: st)) : Z p l e R s m args below meth c A nL D cells slots Q ws lv pc st := fun H locs ls hP hD hS hl => lv_aload hC.1.1 hC.1.2.1 hdg (lv_at hl q hq) (kk H locs ls hP hD hS hl)
theorem z_dload_n (hC : zC p s m args meth c A nL D J cc own Ts) {k : Fin 4} {i : Nat} {x : UInt64} (hdg : decode cc pc = .ok (.dload_n k, 1)) (hi : (k : Nat) = i) (q : Nat) (hq : lv[q]? = some (i, .double x)) (kk : Z p l e R s m args below meth c A nL D cells slots Q ws lv (pc + 1) (.double x :: st)) : Z p l e R s m args below meth c A nL D cells slots Q ws lv pc st := fun H locs ls hP hD hS hl => lv_dload_n hC.1.1 hC.1.2.1 hdg hi (lv_at hl q hq) (kk H locs ls hP hD hS hl)
theorem z_dload (hC : zC p s m args meth c A nL D J cc own Ts) {i : Nat} {x : UInt64} (hdg : decode cc pc = .ok (.dload i, 2)) (q : Nat) (hq : lv[q]? = some (i, .double x)) (kk : Z p l e R s m args below meth c A nL D cells slots Q ws lv (pc + 2) (.double x :: st)) : Z p l e R s m args below meth c A nL D cells slots Q ws lv pc st := fun H locs ls hP hD hS hl => lv_dload hC.1.1 hC.1.2.1 hdg (lv_at hl q hq) (kk H locs ls hP hD hS hl)
theorem z_fload_n (hC : zC p s m args meth c A nL D J cc own Ts) {k : Fin 4} {i : Nat} {x : UInt32} (hdg : decode cc pc = .ok (.fload_n k, 1)) (hi : (k : Nat) = i) (q : Nat) (hq : lv[q]? = some (i, .float x)) (kk : Z p l e R s m args below meth c A nL D cells slots Q ws lv (pc + 1) (.float x :: st)) : Z p l e R s m args below meth c A nL D cells slots Q ws lv pc st := fun H locs ls hP hD hS hl => lv_fload_n hC.1.1 hC.1.2.1 hdg hi (lv_at hl q hq) (kk H locs ls hP hD hS hl)
theorem z_istore_n (hC : zC p s m args meth c A nL D J cc own Ts) {k : Fin 4} {i : Nat} {x : Int32} (hdg : decode cc pc = .ok (.istore_n k, 1)) (hi : (k : Nat) = i) (hn : i < nL) (hlv : (i, Value.int x) :: lv.filter (fun q => !(q.1 == i) && !(q.1 + 1 == i && q.2.category == 2)) = lv') (kk : Z p l e R s m args below meth c A nL D cells slots Q ws lv' (pc + 1) st) : Z p l e R s m args below meth c A nL D cells slots Q ws lv pc (.int x :: st) := fun H locs ls hP hD hS hl => lv_istore_n hC.1.1 hC.1.2.1 hdg hi hl hn hlv (fun ls1 hl1 => kk H locs ls1 hP hD hS hl1)
theorem z_istore (hC : zC p s m args meth c A nL D J cc own Ts) {i : Nat} {x : Int32} (hdg : decode cc pc = .ok (.istore i, 2)) (hn : i < nL) (hlv : (i, Value.int x) :: lv.filter (fun q => !(q.1 == i) && !(q.1 + 1 == i && q.2.category == 2)) = lv') (kk : Z p l e R s m args below meth c A nL D cells slots Q ws lv' (pc + 2) st) : Z p l e R s m args below meth c A nL D cells slots Q ws lv pc (.int x :: st) := fun H locs ls hP hD hS hl => lv_istore hC.1.1 hC.1.2.1 hdg hl hn hlv (fun ls1 hl1 => kk H locs ls1 hP hD hS hl1)
theorem z_lstore_n (hC : zC p s m args meth c A nL D J cc own Ts) {k : Fin 4} {i : Nat} {x : Int64} (hdg : decode cc pc = .ok (.lstore_n k, 1)) (hi : (k : Nat) = i) (hn : i + 1 < nL) (hlv : (i, Value.long x) :: lv.filter (fun q => !(q.1 == i) && (!(q.1 == i + 1) && !(q.1 + 1 == i && q.2.category == 2))) = lv') (kk : Z p l e R s m args below meth c A nL D cells slots Q ws lv' (pc + 1) st) : Z p l e R s m args below meth c A nL D cells slots Q ws lv pc (.long x :: st) := fun H locs ls hP hD hS hl => lv_lstore_n hC.1.1 hC.1.2.1 hdg hi hl hn hlv (fun ls1 hl1 => kk H locs ls1 hP hD hS hl1)
theorem z_lstore (hC : zC p s m args meth c A nL D J cc own Ts) {i : Nat} {x : Int64} (hdg : decode cc pc = .ok (.lstore i, 2)) (hn : i + 1 < nL) (hlv : (i, Value.long x) :: lv.filter (fun q => !(q.1 == i) && (!(q.1 == i + 1) && !(q.1 + 1 == i && q.2.category == 2))) = lv') (kk : Z p l e R s m args below meth c A nL D cells slots Q ws lv' (pc + 2) st) : Z p l e R s m args below meth c A nL D cells slots Q ws lv pc (.long x :: st) := fun H locs ls hP hD hS hl => lv_lstore hC.1.1 hC.1.2.1 hdg hl hn hlv (fun ls1 hl1 => kk H locs ls1 hP hD hS hl1)
theorem z_astore_n (hC : zC p s m args meth c A nL D J cc own Ts) {k : Fin 4} {i : Nat} {x : Nat} (hdg : decode cc pc = .ok (.astore_n k, 1)) (hi : (k : Nat) = i) (hn : i < nL) (hlv : (i, Value.ref x) :: lv.filter (fun q => !(q.1 == i) && !(q.1 + 1 == i && q.2.category == 2)) = lv') (kk : Z p l e R s m args below meth c A nL D cells slots Q ws lv' (pc + 1) st) : Z p l e R s m args below meth c A nL D cells slots Q ws lv pc (.ref x :: st) := fun H locs ls hP hD hS hl => lv_astore_n hC.1.1 hC.1.2.1 hdg hi hl hn hlv (fun ls1 hl1 => kk H locs ls1 hP hD hS hl1)
theorem z_astore (hC : zC p s m args meth c A nL D J cc own Ts) {i : Nat} {x : Nat} (hdg : decode cc pc = .ok (.astore i, 2)) (hn : i < nL) (hlv : (i, Value.ref x) :: lv.filter (fun q => !(q.1 == i) && !(q.1 + 1 == i && q.2.category == 2)) = lv') (kk : Z p l e R s m args below meth c A nL D cells slots Q ws lv' (pc + 2) st) : Z p l e R s m args below meth c A nL D cells slots Q ws lv pc (.ref x :: st) := fun H locs ls hP hD hS hl => lv_astore hC.1.1 hC.1.2.1 hdg hl hn hlv (fun ls1 hl1 => kk H locs ls1 hP hD hS hl1)
theorem z_dstore_n (hC : zC p s m args meth c A nL D J cc own Ts) {k : Fin 4} {i : Nat} {x : UInt64} (hdg : decode cc pc = .ok (.dstore_n k, 1)) (hi : (k : Nat) = i) (hn : i + 1 < nL) (hlv : (i, Value.double x) :: lv.filter (fun q => !(q.1 == i) && (!(q.1 == i + 1) && !(q.1 + 1 == i && q.2.category == 2))) = lv') (kk : Z p l e R s m args below meth c A nL D cells slots Q ws lv' (pc + 1) st) : Z p l e R s m args below meth c A nL D cells slots Q ws lv pc (.double x :: st) := fun H locs ls hP hD hS hl => lv_dstore_n hC.1.1 hC.1.2.1 hdg hi hl hn hlv (fun ls1 hl1 => kk H locs ls1 hP hD hS hl1)
theorem z_dstore (hC : zC p s m args meth c A nL D J cc own Ts) {i : Nat} {x : UInt64} (hdg : decode cc pc = .ok (.dstore i, 2)) (hn : i + 1 < nL) (hlv : (i, Value.double x) :: lv.filter (fun q => !(q.1 == i) && (!(q.1 == i + 1) && !(q.1 + 1 == i && q.2.category == 2))) = lv') (kk : Z p l e R s m args below meth c A nL D cells slots Q ws lv' (pc + 2) st) : Z p l e R s m args below meth c A nL D cells slots Q ws lv pc (.double x :: st) := fun H locs ls hP hD hS hl => lv_dstore hC.1.1 hC.1.2.1 hdg hl hn hlv (fun ls1 hl1 => kk H locs ls1 hP hD hS hl1)
theorem z_fstore_n (hC : zC p s m args meth c A nL D J cc own Ts) {k : Fin 4} {i : Nat} {x : UInt32} (hdg : decode cc pc = .ok (.fstore_n k, 1)) (hi : (k : Nat) = i) (hn : i < nL) (hlv : (i, Value.float x) :: lv.filter (fun q => !(q.1 == i) && !(q.1 + 1 == i && q.2.category == 2)) = lv') (kk : Z p l e R s m args below meth c A nL D cells slots Q ws lv' (pc + 1) st) : Z p l e R s m args below meth c A nL D cells slots Q ws lv pc (.float x :: st) := fun H locs ls hP hD hS hl => lv_fstore_n hC.1.1 hC.1.2.1 hdg hi hl hn hlv (fun ls1 hl1 => kk H locs ls1 hP hD hS hl1)
theorem z_iinc (hC : zC p s m args meth c A nL D J cc own Ts) {i : Nat} {n z : Int} (hdg : decode cc pc = .ok (.iinc i n, 3)) (q : Nat) (hq : lv[q]? = some (i, .int (iI z))) (hn : i < nL) (hlv : (i, Value.int (iI (z + n))) :: lv.filter (fun q => !(q.1 == i) && !(q.1 + 1 == i && q.2.category == 2)) = lv') (kk : Z p l e R s m args below meth c A nL D cells slots Q ws lv' (pc + 3) st) : Z p l e R s m args below meth c A nL D cells slots Q ws lv pc st := fun H locs ls hP hD hS hl => lv_iinc hC.1.1 hC.1.2.1 hdg hl hq (iI_add z n) hn hlv (fun ls1 hl1 => kk H locs ls1 hP hD hS hl1)
theorem z_iadd (hC : zC p s m args meth c A nL D J cc own Ts) {a b : Int} (hdg : decode cc pc = .ok (.iadd, 1)) (kk : Z p l e R s m args below meth c A nL D cells slots Q ws lv (pc + 1) (.int (iI (a + b)) :: st)) : Z p l e R s m args below meth c A nL D cells slots Q ws lv pc (.int (iI b) :: .int (iI a) :: st) := fun H locs ls hP hD hS hl => lv_iadd hC.1.1 hC.1.2.1 hdg (iI_add a b ▸ kk H locs ls hP hD hS hl)
theorem z_isub (hC : zC p s m args meth c A nL D J cc own Ts) {a b : Int} (hdg : decode cc pc = .ok (.isub, 1)) (kk : Z p l e R s m args below meth c A nL D cells slots Q ws lv (pc + 1) (.int (iI (a - b)) :: st)) : Z p l e R s m args below meth c A nL D cells slots Q ws lv pc (.int (iI b) :: .int (iI a) :: st) := fun H locs ls hP hD hS hl => lv_isub hC.1.1 hC.1.2.1 hdg (iI_sub a b ▸ kk H locs ls hP hD hS hl)
theorem z_imul (hC : zC p s m args meth c A nL D J cc own Ts) {a b : Int} (hdg : decode cc pc = .ok (.imul, 1)) (kk : Z p l e R s m args below meth c A nL D cells slots Q ws lv (pc + 1) (.int (iI (a * b)) :: st)) : Z p l e R s m args below meth c A nL D cells slots Q ws lv pc (.int (iI b) :: .int (iI a) :: st) := fun H locs ls hP hD hS hl => lv_imul hC.1.1 hC.1.2.1 hdg (iI_mul a b ▸ kk H locs ls hP hD hS hl)
theorem z_ineg (hC : zC p s m args meth c A nL D J cc own Ts) {a : Int} (hdg : decode cc pc = .ok (.ineg, 1)) (kk : Z p l e R s m args below meth c A nL D cells slots Q ws lv (pc + 1) (.int (iI (-a)) :: st)) : Z p l e R s m args below meth c A nL D cells slots Q ws lv pc (.int (iI a) :: st) := fun H locs ls hP hD hS hl => lv_ineg hC.1.1 hC.1.2.1 hdg (iI_neg a ▸ kk H locs ls hP hD hS hl)
theorem z_irem (hC : zC p s m args meth c A nL D J cc own Ts) {a b : Int} (hdg : decode cc pc = .ok (.irem, 1)) (h0 : 0 ≤ a) (ha : a < 2147483648) (h1 : 0 < b) (hb : b < 2147483648) (kk : Z p l e R s m args below meth c A nL D cells slots Q ws lv (pc + 1) (.int (iI (a % b)) :: st)) : Z p l e R s m args below meth c A nL D cells slots Q ws lv pc (.int (iI b) :: .int (iI a) :: st) := fun H locs ls hP hD hS hl => lv_irem hC.1.1 hC.1.2.1 hdg (iI_pos0 h1 hb) (iI_rem h0 ha h1 hb ▸ kk H locs ls hP hD hS hl)
theorem z_idiv (hC : zC p s m args meth c A nL D J cc own Ts) {a b : Int} (hdg : decode cc pc = .ok (.idiv, 1)) (h0 : 0 ≤ a) (ha : a < 2147483648) (h1 : 0 < b) (hb : b < 2147483648) (kk : Z p l e R s m args below meth c A nL D cells slots Q ws lv (pc + 1) (.int (iI (a / b)) :: st)) : Z p l e R s m args below meth c A nL D cells slots Q ws lv pc (.int (iI b) :: .int (iI a) :: st) := fun H locs ls hP hD hS hl => lv_idiv hC.1.1 hC.1.2.1 hdg (iI_pos0 h1 hb) (iI_div h0 ha h1 hb ▸ kk H locs ls hP hD hS hl)
theorem z_and3 (hC : zC p s m args meth c A nL D J cc own Ts) {a : Int} (hdg : decode cc pc = .ok (.iand, 1)) (kk : Z p l e R s m args below meth c A nL D cells slots Q ws lv (pc + 1) (.int (iI (a % 4)) :: st)) : Z p l e R s m args below meth c A nL D cells slots Q ws lv pc (.int (iI 3) :: .int (iI a) :: st) := fun H locs ls hP hD hS hl => lv_iand hC.1.1 hC.1.2.1 hdg (iI_and3 a ▸ kk H locs ls hP hD hS hl)
theorem z_and1 (hC : zC p s m args meth c A nL D J cc own Ts) {a : Int} (hdg : decode cc pc = .ok (.iand, 1)) (kk : Z p l e R s m args below meth c A nL D cells slots Q ws lv (pc + 1) (.int (iI (a % 2)) :: st)) : Z p l e R s m args below meth c A nL D cells slots Q ws lv pc (.int (iI 1) :: .int (iI a) :: st) := fun H locs ls hP hD hS hl => lv_iand hC.1.1 hC.1.2.1 hdg (iI_and1 a ▸ kk H locs ls hP hD hS hl)
theorem z_shr (hC : zC p s m args meth c A nL D J cc own Ts) {a : Int} (k : Nat) (hk : k < 32) (hdg : decode cc pc = .ok (.ishr, 1)) (h0 : 0 ≤ a) (ha : a < 2147483648) (kk : Z p l e R s m args below meth c A nL D cells slots Q ws lv (pc + 1) (.int (iI (a / 2 ^ k)) :: st)) : Z p l e R s m args below meth c A nL D cells slots Q ws lv pc (.int (iI (k : Int)) :: .int (iI a) :: st) := fun H locs ls hP hD hS hl => lv_ishr hC.1.1 hC.1.2.1 hdg (iI_shr k hk h0 ha ▸ kk H locs ls hP hD hS hl)
theorem z_int (hC : zC p s m args meth c A nL D J cc own Ts) {x y : Int32} (hxy : x = y) (kk : Z p l e R s m args below meth c A nL D cells slots Q ws lv pc (.int y :: st)) : Z p l e R s m args below meth c A nL D cells slots Q ws lv pc (.int x :: st) := fun H locs ls hP hD hS hl => hxy ▸ kk H locs ls hP hD hS hl
theorem z_long (hC : zC p s m args meth c A nL D J cc own Ts) {x y : Int64} (hxy : x = y) (kk : Z p l e R s m args below meth c A nL D cells slots Q ws lv pc (.long y :: st)) : Z p l e R s m args below meth c A nL D cells slots Q ws lv pc (.long x :: st) := fun H locs ls hP hD hS hl => hxy ▸ kk H locs ls hP hD hS hl
theorem z_ixorR (hC : zC p s m args meth c A nL D J cc own Ts) {x y v : Int32} (hdg : decode cc pc = .ok (.ixor, 1)) (hv : x ^^^ y = v) (kk : Z p l e R s m args below meth c A nL D cells slots Q ws lv (pc + 1) (.int v :: st)) : Z p l e R s m args below meth c A nL D cells slots Q ws lv pc (.int y :: .int x :: st) := fun H locs ls hP hD hS hl => lv_ixor hC.1.1 hC.1.2.1 hdg (hv ▸ kk H locs ls hP hD hS hl)
theorem z_iorR (hC : zC p s m args meth c A nL D J cc own Ts) {x y v : Int32} (hdg : decode cc pc = .ok (.ior, 1)) (hv : x ||| y = v) (kk : Z p l e R s m args below meth c A nL D cells slots Q ws lv (pc + 1) (.int v :: st)) : Z p l e R s m args below meth c A nL D cells slots Q ws lv pc (.int y :: .int x :: st) := fun H locs ls hP hD hS hl => lv_ior hC.1.1 hC.1.2.1 hdg (hv ▸ kk H locs ls hP hD hS hl)
theorem z_iandR (hC : zC p s m args meth c A nL D J cc own Ts) {x y v : Int32} (hdg : decode cc pc = .ok (.iand, 1)) (hv : x &&& y = v) (kk : Z p l e R s m args below meth c A nL D cells slots Q ws lv (pc + 1) (.int v :: st)) : Z p l e R s m args below meth c A nL D cells slots Q ws lv pc (.int y :: .int x :: st) := fun H locs ls hP hD hS hl => lv_iand hC.1.1 hC.1.2.1 hdg (hv ▸ kk H locs ls hP hD hS hl)
theorem z_ishlR (hC : zC p s m args meth c A nL D J cc own Ts) {x y v : Int32} (hdg : decode cc pc = .ok (.ishl, 1)) (hv : x <<< (y &&& 31) = v) (kk : Z p l e R s m args below meth c A nL D cells slots Q ws lv (pc + 1) (.int v :: st)) : Z p l e R s m args below meth c A nL D cells slots Q ws lv pc (.int y :: .int x :: st) := fun H locs ls hP hD hS hl => lv_ishl hC.1.1 hC.1.2.1 hdg (hv ▸ kk H locs ls hP hD hS hl)
theorem z_ishrR (hC : zC p s m args meth c A nL D J cc own Ts) {x y v : Int32} (hdg : decode cc pc = .ok (.ishr, 1)) (hv : x >>> (y &&& 31) = v) (kk : Z p l e R s m args below meth c A nL D cells slots Q ws lv (pc + 1) (.int v :: st)) : Z p l e R s m args below meth c A nL D cells slots Q ws lv pc (.int y :: .int x :: st) := fun H locs ls hP hD hS hl => lv_ishr hC.1.1 hC.1.2.1 hdg (hv ▸ kk H locs ls hP hD hS hl)
theorem z_i2l (hC : zC p s m args meth c A nL D J cc own Ts) {x : Int32} {v : Int64} (hdg : decode cc pc = .ok (.i2l, 1)) (hv : x.toInt64 = v) (kk : Z p l e R s m args below meth c A nL D cells slots Q ws lv (pc + 1) (.long v :: st)) : Z p l e R s m args below meth c A nL D cells slots Q ws lv pc (.int x :: st) := fun H locs ls hP hD hS hl => lv_i2l hC.1.1 hC.1.2.1 hdg hv (kk H locs ls hP hD hS hl)
theorem z_l2i (hC : zC p s m args meth c A nL D J cc own Ts) {x : Int64} {v : Int32} (hdg : decode cc pc = .ok (.l2i, 1)) (hv : x.toInt32 = v) (kk : Z p l e R s m args below meth c A nL D cells slots Q ws lv (pc + 1) (.int v :: st)) : Z p l e R s m args below meth c A nL D cells slots Q ws lv pc (.long x :: st) := fun H locs ls hP hD hS hl => lv_l2i hC.1.1 hC.1.2.1 hdg hv (kk H locs ls hP hD hS hl)
theorem z_i2c (hC : zC p s m args meth c A nL D J cc own Ts) {x v : Int32} (hdg : decode cc pc = .ok (.i2c, 1)) (hv : (x.toUInt32 % 65536).toInt32 = v) (kk : Z p l e R s m args below meth c A nL D cells slots Q ws lv (pc + 1) (.int v :: st)) : Z p l e R s m args below meth c A nL D cells slots Q ws lv pc (.int x :: st) := fun H locs ls hP hD hS hl => lv_i2c hC.1.1 hC.1.2.1 hdg hv (kk H locs ls hP hD hS hl)
theorem z_ladd (hC : zC p s m args meth c A nL D J cc own Ts) {x y v : Int64} (hdg : decode cc pc = .ok (.ladd, 1)) (hv : x + y = v) (kk : Z p l e R s m args below meth c A nL D cells slots Q ws lv (pc + 1) (.long v :: st)) : Z p l e R s m args below meth c A nL D cells slots Q ws lv pc (.long y :: .long x :: st) := fun H locs ls hP hD hS hl => lv_ladd hC.1.1 hC.1.2.1 hdg (hv ▸ kk H locs ls hP hD hS hl)
theorem z_lsub (hC : zC p s m args meth c A nL D J cc own Ts) {x y v : Int64} (hdg : decode cc pc = .ok (.lsub, 1)) (hv : x - y = v) (kk : Z p l e R s m args below meth c A nL D cells slots Q ws lv (pc + 1) (.long v :: st)) : Z p l e R s m args below meth c A nL D cells slots Q ws lv pc (.long y :: .long x :: st) := fun H locs ls hP hD hS hl => lv_lsub hC.1.1 hC.1.2.1 hdg (hv ▸ kk H locs ls hP hD hS hl)
theorem z_land (hC : zC p s m args meth c A nL D J cc own Ts) {x y v : Int64} (hdg : decode cc pc = .ok (.land, 1)) (hv : x &&& y = v) (kk : Z p l e R s m args below meth c A nL D cells slots Q ws lv (pc + 1) (.long v :: st)) : Z p l e R s m args below meth c A nL D cells slots Q ws lv pc (.long y :: .long x :: st) := fun H locs ls hP hD hS hl => lv_land hC.1.1 hC.1.2.1 hdg (hv ▸ kk H locs ls hP hD hS hl)
theorem z_lor (hC : zC p s m args meth c A nL D J cc own Ts) {x y v : Int64} (hdg : decode cc pc = .ok (.lor, 1)) (hv : x ||| y = v) (kk : Z p l e R s m args below meth c A nL D cells slots Q ws lv (pc + 1) (.long v :: st)) : Z p l e R s m args below meth c A nL D cells slots Q ws lv pc (.long y :: .long x :: st) := fun H locs ls hP hD hS hl => lv_lor hC.1.1 hC.1.2.1 hdg (hv ▸ kk H locs ls hP hD hS hl)
theorem z_lushr (hC : zC p s m args meth c A nL D J cc own Ts) {x v : Int64} {y : Int32} (hdg : decode cc pc = .ok (.lushr, 1)) (hv : (x.toUInt64 >>> (y.toInt64.toUInt64 &&& Int64.toUInt64 63)).toInt64 = v) (kk : Z p l e R s m args below meth c A nL D cells slots Q ws lv (pc + 1) (.long v :: st)) : Z p l e R s m args below meth c A nL D cells slots Q ws lv pc (.int y :: .long x :: st) := fun H locs ls hP hD hS hl => lv_lushr hC.1.1 hC.1.2.1 hdg hv (kk H locs ls hP hD hS hl)
theorem z_lshl (hC : zC p s m args meth c A nL D J cc own Ts) {x v : Int64} {y : Int32} (hdg : decode cc pc = .ok (.lshl, 1)) (hv : x <<< (y.toInt64 &&& 63) = v) (kk : Z p l e R s m args below meth c A nL D cells slots Q ws lv (pc + 1) (.long v :: st)) : Z p l e R s m args below meth c A nL D cells slots Q ws lv pc (.int y :: .long x :: st) := fun H locs ls hP hD hS hl => lv_lshl hC.1.1 hC.1.2.1 hdg hv (kk H locs ls hP hD hS hl)
theorem z_lcmp (hC : zC p s m args meth c A nL D J cc own Ts) {x y : Int64} {v : Int} (hdg : decode cc pc = .ok (.lcmp, 1)) (hv : lg_cmp x y = iI v) (kk : Z p l e R s m args below meth c A nL D cells slots Q ws lv (pc + 1) (.int (iI v) :: st)) : Z p l e R s m args below meth c A nL D cells slots Q ws lv pc (.long y :: .long x :: st) := fun H locs ls hP hD hS hl => W.lcmp hC.1.1 hC.1.2.1 hdg (hv ▸ kk H locs ls hP hD hS hl)
theorem z_dup (hC : zC p s m args meth c A nL D J cc own Ts) {v : Value} (hdg : decode cc pc = .ok (.dup, 1)) (hva : v.category = 1) (kk : Z p l e R s m args below meth c A nL D cells slots Q ws lv (pc + 1) (v :: v :: st)) : Z p l e R s m args below meth c A nL D cells slots Q ws lv pc (v :: st) := fun H locs ls hP hD hS hl => lv_dup hC.1.1 hC.1.2.1 hdg hva (kk H locs ls hP hD hS hl)
theorem z_pop (hC : zC p s m args meth c A nL D J cc own Ts) {v : Value} (hdg : decode cc pc = .ok (.pop, 1)) (hva : v.category = 1) (kk : Z p l e R s m args below meth c A nL D cells slots Q ws lv (pc + 1) st) : Z p l e R s m args below meth c A nL D cells slots Q ws lv pc (v :: st) := fun H locs ls hP hD hS hl => lv_pop hC.1.1 hC.1.2.1 hdg hva (kk H locs ls hP hD hS hl)
theorem z_dup2 (hC : zC p s m args meth c A nL D J cc own Ts) {v w : Value} (hdg : decode cc pc = .ok (.dup2, 1)) (hva : v.category = 1) (hvb : w.category = 1) (kk : Z p l e R s m args below meth c A nL D cells slots Q ws lv (pc + 1) (v :: w :: v :: w :: st)) : Z p l e R s m args below meth c A nL D cells slots Q ws lv pc (v :: w :: st) := fun H locs ls hP hD hS hl => lv_dup2_11 hC.1.1 hC.1.2.1 hdg hva hvb (kk H locs ls hP hD hS hl)
theorem z_icmp_eq (hC : zC p s m args meth c A nL D J cc own Ts) {a b : Int} {off : Int} {tgt : Nat} (hdg : decode cc pc = .ok (.if_icmp .eq off, 3)) (ht : (pc : Int) + off = (tgt : Int)) (ha : inR a) (hb : inR b) (kt : a = b → Z p l e R s m args below meth c A nL D cells slots Q ws lv tgt st) (kf : ¬ a = b → Z p l e R s m args below meth c A nL D cells slots Q ws lv (pc + 3) st) : Z p l e R s m args below meth c A nL D cells slots Q ws lv pc (.int (iI b) :: .int (iI a) :: st) := fun H locs ls hP hD hS hl => lv_icmp_eq hC.1.1 hC.1.2.1 hdg ht (fun h => kt ((iI_eq ha hb).mp h) H locs ls hP hD hS hl) (fun h => kf (fun q => h ((iI_eq ha hb).mpr q)) H locs ls hP hD hS hl)
theorem z_if_eq (hC : zC p s m args meth c A nL D J cc own Ts) {a : Int} {off : Int} {tgt : Nat} (hdg : decode cc pc = .ok (.ifCond .eq off, 3)) (ht : (pc : Int) + off = (tgt : Int)) (ha : inR a) (kt : a = 0 → Z p l e R s m args below meth c A nL D cells slots Q ws lv tgt st) (kf : ¬ a = 0 → Z p l e R s m args below meth c A nL D cells slots Q ws lv (pc + 3) st) : Z p l e R s m args below meth c A nL D cells slots Q ws lv pc (.int (iI a) :: st) := fun H locs ls hP hD hS hl => lv_if_eq hC.1.1 hC.1.2.1 hdg ht (fun h => kt ((iI_eq ha inR_0).mp h) H locs ls hP hD hS hl) (fun h => kf (fun q => h ((iI_eq ha inR_0).mpr q)) H locs ls hP hD hS hl)
theorem z_icmp_eq_t (hC : zC p s m args meth c A nL D J cc own Ts) {a b : Int} {off : Int} {tgt : Nat} (hdg : decode cc pc = .ok (.if_icmp .eq off, 3)) (ht : (pc : Int) + off = (tgt : Int)) (ha : inR a) (hb : inR b) (h : a = b) (kt : Z p l e R s m args below meth c A nL D cells slots Q ws lv tgt st) : Z p l e R s m args below meth c A nL D cells slots Q ws lv pc (.int (iI b) :: .int (iI a) :: st) := z_icmp_eq hC hdg ht ha hb (fun _ => kt) (fun q => by omega)
theorem z_icmp_eq_f (hC : zC p s m args meth c A nL D J cc own Ts) {a b : Int} {off : Int} {tgt : Nat} (hdg : decode cc pc = .ok (.if_icmp .eq off, 3)) (ht : (pc : Int) + off = (tgt : Int)) (ha : inR a) (hb : inR b) (h : ¬ a = b) (kf : Z p l e R s m args below meth c A nL D cells slots Q ws lv (pc + 3) st) : Z p l e R s m args below meth c A nL D cells slots Q ws lv pc (.int (iI b) :: .int (iI a) :: st) := z_icmp_eq hC hdg ht ha hb (fun q => by omega) (fun _ => kf)
theorem z_if_eq_t (hC : zC p s m args meth c A nL D J cc own Ts) {a : Int} {off : Int} {tgt : Nat} (hdg : decode cc pc = .ok (.ifCond .eq off, 3)) (ht : (pc : Int) + off = (tgt : Int)) (ha : inR a) (h : a = 0) (kt : Z p l e R s m args below meth c A nL D cells slots Q ws lv tgt st) : Z p l e R s m args below meth c A nL D cells slots Q ws lv pc (.int (iI a) :: st) := z_if_eq hC hdg ht ha (fun _ => kt) (fun q => by omega)
theorem z_if_eq_f (hC : zC p s m args meth c A nL D J cc own Ts) {a : Int} {off : Int} {tgt : Nat} (hdg : decode cc pc = .ok (.ifCond .eq off, 3)) (ht : (pc : Int) + off = (tgt : Int)) (ha : inR a) (h : ¬ a = 0) (kf : Z p l e R s m args below meth c A nL D cells slots Q ws lv (pc + 3) st) : Z p l e R s m args below meth c A nL D cells slots Q ws lv pc (.int (iI a) :: st) := z_if_eq hC hdg ht ha (fun q => by omega) (fun _ => kf)
theorem z_icmp_ne (hC : zC p s m args meth c A nL D J cc own Ts) {a b : Int} {off : Int} {tgt : Nat} (hdg : decode cc pc = .ok (.if_icmp .ne off, 3)) (ht : (pc : Int) + off = (tgt : Int)) (ha : inR a) (hb : inR b) (kt : ¬ a = b → Z p l e R s m args below meth c A nL D cells slots Q ws lv tgt st) (kf : a = b → Z p l e R s m args below meth c A nL D cells slots Q ws lv (pc + 3) st) : Z p l e R s m args below meth c A nL D cells slots Q ws lv pc (.int (iI b) :: .int (iI a) :: st) := fun H locs ls hP hD hS hl => lv_icmp_ne hC.1.1 hC.1.2.1 hdg ht (fun h => kt (fun q => h ((iI_eq ha hb).mpr q)) H locs ls hP hD hS hl) (fun h => kf ((iI_eq ha hb).mp h) H locs ls hP hD hS hl)
theorem z_if_ne (hC : zC p s m args meth c A nL D J cc own Ts) {a : Int} {off : Int} {tgt : Nat} (hdg : decode cc pc = .ok (.ifCond .ne off, 3)) (ht : (pc : Int) + off = (tgt : Int)) (ha : inR a) (kt : ¬ a = 0 → Z p l e R s m args below meth c A nL D cells slots Q ws lv tgt st) (kf : a = 0 → Z p l e R s m args below meth c A nL D cells slots Q ws lv (pc + 3) st) : Z p l e R s m args below meth c A nL D cells slots Q ws lv pc (.int (iI a) :: st) := fun H locs ls hP hD hS hl => lv_if_ne hC.1.1 hC.1.2.1 hdg ht (fun h => kt (fun q => h ((iI_eq ha inR_0).mpr q)) H locs ls hP hD hS hl) (fun h => kf ((iI_eq ha inR_0).mp h) H locs ls hP hD hS hl)
theorem z_icmp_ne_t (hC : zC p s m args meth c A nL D J cc own Ts) {a b : Int} {off : Int} {tgt : Nat} (hdg : decode cc pc = .ok (.if_icmp .ne off, 3)) (ht : (pc : Int) + off = (tgt : Int)) (ha : inR a) (hb : inR b) (h : ¬ a = b) (kt : Z p l e R s m args below meth c A nL D cells slots Q ws lv tgt st) : Z p l e R s m args below meth c A nL D cells slots Q ws lv pc (.int (iI b) :: .int (iI a) :: st) := z_icmp_ne hC hdg ht ha hb (fun _ => kt) (fun q => by omega)
theorem z_icmp_ne_f (hC : zC p s m args meth c A nL D J cc own Ts) {a b : Int} {off : Int} {tgt : Nat} (hdg : decode cc pc = .ok (.if_icmp .ne off, 3)) (ht : (pc : Int) + off = (tgt : Int)) (ha : inR a) (hb : inR b) (h : a = b) (kf : Z p l e R s m args below meth c A nL D cells slots Q ws lv (pc + 3) st) : Z p l e R s m args below meth c A nL D cells slots Q ws lv pc (.int (iI b) :: .int (iI a) :: st) := z_icmp_ne hC hdg ht ha hb (fun q => by omega) (fun _ => kf)
theorem z_if_ne_t (hC : zC p s m args meth c A nL D J cc own Ts) {a : Int} {off : Int} {tgt : Nat} (hdg : decode cc pc = .ok (.ifCond .ne off, 3)) (ht : (pc : Int) + off = (tgt : Int)) (ha : inR a) (h : ¬ a = 0) (kt : Z p l e R s m args below meth c A nL D cells slots Q ws lv tgt st) : Z p l e R s m args below meth c A nL D cells slots Q ws lv pc (.int (iI a) :: st) := z_if_ne hC hdg ht ha (fun _ => kt) (fun q => by omega)
theorem z_if_ne_f (hC : zC p s m args meth c A nL D J cc own Ts) {a : Int} {off : Int} {tgt : Nat} (hdg : decode cc pc = .ok (.ifCond .ne off, 3)) (ht : (pc : Int) + off = (tgt : Int)) (ha : inR a) (h : a = 0) (kf : Z p l e R s m args below meth c A nL D cells slots Q ws lv (pc + 3) st) : Z p l e R s m args below meth c A nL D cells slots Q ws lv pc (.int (iI a) :: st) := z_if_ne hC hdg ht ha (fun q => by omega) (fun _ => kf)
theorem z_icmp_lt (hC : zC p s m args meth c A nL D J cc own Ts) {a b : Int} {off : Int} {tgt : Nat} (hdg : decode cc pc = .ok (.if_icmp .lt off, 3)) (ht : (pc : Int) + off = (tgt : Int)) (ha : inR a) (hb : inR b) (kt : a < b → Z p l e R s m args below meth c A nL D cells slots Q ws lv tgt st) (kf : b ≤ a → Z p l e R s m args below meth c A nL D cells slots Q ws lv (pc + 3) st) : Z p l e R s m args below meth c A nL D cells slots Q ws lv pc (.int (iI b) :: .int (iI a) :: st) := fun H locs ls hP hD hS hl => lv_icmp_lt hC.1.1 hC.1.2.1 hdg ht (fun h => kt ((iI_lt ha hb).mp h) H locs ls hP hD hS hl) (fun h => kf (Int.not_lt.mp (fun z => h ((iI_lt ha hb).mpr z))) H locs ls hP hD hS hl)
theorem z_if_lt (hC : zC p s m args meth c A nL D J cc own Ts) {a : Int} {off : Int} {tgt : Nat} (hdg : decode cc pc = .ok (.ifCond .lt off, 3)) (ht : (pc : Int) + off = (tgt : Int)) (ha : inR a) (kt : a < 0 → Z p l e R s m args below meth c A nL D cells slots Q ws lv tgt st) (kf : 0 ≤ a → Z p l e R s m args below meth c A nL D cells slots Q ws lv (pc + 3) st) : Z p l e R s m args below meth c A nL D cells slots Q ws lv pc (.int (iI a) :: st) := fun H locs ls hP hD hS hl => lv_if_lt hC.1.1 hC.1.2.1 hdg ht (fun h => kt ((iI_lt ha inR_0).mp h) H locs ls hP hD hS hl) (fun h => kf (Int.not_lt.mp (fun z => h ((iI_lt ha inR_0).mpr z))) H locs ls hP hD hS hl)
theorem z_icmp_lt_t (hC : zC p s m args meth c A nL D J cc own Ts) {a b : Int} {off : Int} {tgt : Nat} (hdg : decode cc pc = .ok (.if_icmp .lt off, 3)) (ht : (pc : Int) + off = (tgt : Int)) (ha : inR a) (hb : inR b) (h : a < b) (kt : Z p l e R s m args below meth c A nL D cells slots Q ws lv tgt st) : Z p l e R s m args below meth c A nL D cells slots Q ws lv pc (.int (iI b) :: .int (iI a) :: st) := z_icmp_lt hC hdg ht ha hb (fun _ => kt) (fun q => by omega)
theorem z_icmp_lt_f (hC : zC p s m args meth c A nL D J cc own Ts) {a b : Int} {off : Int} {tgt : Nat} (hdg : decode cc pc = .ok (.if_icmp .lt off, 3)) (ht : (pc : Int) + off = (tgt : Int)) (ha : inR a) (hb : inR b) (h : b ≤ a) (kf : Z p l e R s m args below meth c A nL D cells slots Q ws lv (pc + 3) st) : Z p l e R s m args below meth c A nL D cells slots Q ws lv pc (.int (iI b) :: .int (iI a) :: st) := z_icmp_lt hC hdg ht ha hb (fun q => by omega) (fun _ => kf)
theorem z_if_lt_t (hC : zC p s m args meth c A nL D J cc own Ts) {a : Int} {off : Int} {tgt : Nat} (hdg : decode cc pc = .ok (.ifCond .lt off, 3)) (ht : (pc : Int) + off = (tgt : Int)) (ha : inR a) (h : a < 0) (kt : Z p l e R s m args below meth c A nL D cells slots Q ws lv tgt st) : Z p l e R s m args below meth c A nL D cells slots Q ws lv pc (.int (iI a) :: st) := z_if_lt hC hdg ht ha (fun _ => kt) (fun q => by omega)
theorem z_if_lt_f (hC : zC p s m args meth c A nL D J cc own Ts) {a : Int} {off : Int} {tgt : Nat} (hdg : decode cc pc = .ok (.ifCond .lt off, 3)) (ht : (pc : Int) + off = (tgt : Int)) (ha : inR a) (h : 0 ≤ a) (kf : Z p l e R s m args below meth c A nL D cells slots Q ws lv (pc + 3) st) : Z p l e R s m args below meth c A nL D cells slots Q ws lv pc (.int (iI a) :: st) := z_if_lt hC hdg ht ha (fun q => by omega) (fun _ => kf)
theorem z_icmp_ge (hC : zC p s m args meth c A nL D J cc own Ts) {a b : Int} {off : Int} {tgt : Nat} (hdg : decode cc pc = .ok (.if_icmp .ge off, 3)) (ht : (pc : Int) + off = (tgt : Int)) (ha : inR a) (hb : inR b) (kt : b ≤ a → Z p l e R s m args below meth c A nL D cells slots Q ws lv tgt st) (kf : a < b → Z p l e R s m args below meth c A nL D cells slots Q ws lv (pc + 3) st) : Z p l e R s m args below meth c A nL D cells slots Q ws lv pc (.int (iI b) :: .int (iI a) :: st) := fun H locs ls hP hD hS hl => lv_icmp_ge hC.1.1 hC.1.2.1 hdg ht (fun h => kt ((iI_le hb ha).mp h) H locs ls hP hD hS hl) (fun h => kf (Int.not_le.mp (fun z => h ((iI_le hb ha).mpr z))) H locs ls hP hD hS hl)
theorem z_if_ge (hC : zC p s m args meth c A nL D J cc own Ts) {a : Int} {off : Int} {tgt : Nat} (hdg : decode cc pc = .ok (.ifCond .ge off, 3)) (ht : (pc : Int) + off = (tgt : Int)) (ha : inR a) (kt : 0 ≤ a → Z p l e R s m args below meth c A nL D cells slots Q ws lv tgt st) (kf : a < 0 → Z p l e R s m args below meth c A nL D cells slots Q ws lv (pc + 3) st) : Z p l e R s m args below meth c A nL D cells slots Q ws lv pc (.int (iI a) :: st) := fun H locs ls hP hD hS hl => lv_if_ge hC.1.1 hC.1.2.1 hdg ht (fun h => kt ((iI_le inR_0 ha).mp h) H locs ls hP hD hS hl) (fun h => kf (Int.not_le.mp (fun z => h ((iI_le inR_0 ha).mpr z))) H locs ls hP hD hS hl)
theorem z_icmp_ge_t (hC : zC p s m args meth c A nL D J cc own Ts) {a b : Int} {off : Int} {tgt : Nat} (hdg : decode cc pc = .ok (.if_icmp .ge off, 3)) (ht : (pc : Int) + off = (tgt : Int)) (ha : inR a) (hb : inR b) (h : b ≤ a) (kt : Z p l e R s m args below meth c A nL D cells slots Q ws lv tgt st) : Z p l e R s m args below meth c A nL D cells slots Q ws lv pc (.int (iI b) :: .int (iI a) :: st) := z_icmp_ge hC hdg ht ha hb (fun _ => kt) (fun q => by omega)
theorem z_icmp_ge_f (hC : zC p s m args meth c A nL D J cc own Ts) {a b : Int} {off : Int} {tgt : Nat} (hdg : decode cc pc = .ok (.if_icmp .ge off, 3)) (ht : (pc : Int) + off = (tgt : Int)) (ha : inR a) (hb : inR b) (h : a < b) (kf : Z p l e R s m args below meth c A nL D cells slots Q ws lv (pc + 3) st) : Z p l e R s m args below meth c A nL D cells slots Q ws lv pc (.int (iI b) :: .int (iI a) :: st) := z_icmp_ge hC hdg ht ha hb (fun q => by omega) (fun _ => kf)
theorem z_if_ge_t (hC : zC p s m args meth c A nL D J cc own Ts) {a : Int} {off : Int} {tgt : Nat} (hdg : decode cc pc = .ok (.ifCond .ge off, 3)) (ht : (pc : Int) + off = (tgt : Int)) (ha : inR a) (h : 0 ≤ a) (kt : Z p l e R s m args below meth c A nL D cells slots Q ws lv tgt st) : Z p l e R s m args below meth c A nL D cells slots Q ws lv pc (.int (iI a) :: st) := z_if_ge hC hdg ht ha (fun _ => kt) (fun q => by omega)
theorem z_if_ge_f (hC : zC p s m args meth c A nL D J cc own Ts) {a : Int} {off : Int} {tgt : Nat} (hdg : decode cc pc = .ok (.ifCond .ge off, 3)) (ht : (pc : Int) + off = (tgt : Int)) (ha : inR a) (h : a < 0) (kf : Z p l e R s m args below meth c A nL D cells slots Q ws lv (pc + 3) st) : Z p l e R s m args below meth c A nL D cells slots Q ws lv pc (.int (iI a) :: st) := z_if_ge hC hdg ht ha (fun q => by omega) (fun _ => kf)
theorem z_icmp_gt (hC : zC p s m args meth c A nL D J cc own Ts) {a b : Int} {off : Int} {tgt : Nat} (hdg : decode cc pc = .ok (.if_icmp .gt off, 3)) (ht : (pc : Int) + off = (tgt : Int)) (ha : inR a) (hb : inR b) (kt : b < a → Z p l e R s m args below meth c A nL D cells slots Q ws lv tgt st) (kf : a ≤ b → Z p l e R s m args below meth c A nL D cells slots Q ws lv (pc + 3) st) : Z p l e R s m args below meth c A nL D cells slots Q ws lv pc (.int (iI b) :: .int (iI a) :: st) := fun H locs ls hP hD hS hl => lv_icmp_gt hC.1.1 hC.1.2.1 hdg ht (fun h => kt ((iI_lt hb ha).mp h) H locs ls hP hD hS hl) (fun h => kf (Int.not_lt.mp (fun z => h ((iI_lt hb ha).mpr z))) H locs ls hP hD hS hl)
theorem z_if_gt (hC : zC p s m args meth c A nL D J cc own Ts) {a : Int} {off : Int} {tgt : Nat} (hdg : decode cc pc = .ok (.ifCond .gt off, 3)) (ht : (pc : Int) + off = (tgt : Int)) (ha : inR a) (kt : 0 < a → Z p l e R s m args below meth c A nL D cells slots Q ws lv tgt st) (kf : a ≤ 0 → Z p l e R s m args below meth c A nL D cells slots Q ws lv (pc + 3) st) : Z p l e R s m args below meth c A nL D cells slots Q ws lv pc (.int (iI a) :: st) := fun H locs ls hP hD hS hl => lv_if_gt hC.1.1 hC.1.2.1 hdg ht (fun h => kt ((iI_lt inR_0 ha).mp h) H locs ls hP hD hS hl) (fun h => kf (Int.not_lt.mp (fun z => h ((iI_lt inR_0 ha).mpr z))) H locs ls hP hD hS hl)
theorem z_icmp_gt_t (hC : zC p s m args meth c A nL D J cc own Ts) {a b : Int} {off : Int} {tgt : Nat} (hdg : decode cc pc = .ok (.if_icmp .gt off, 3)) (ht : (pc : Int) + off = (tgt : Int)) (ha : inR a) (hb : inR b) (h : b < a) (kt : Z p l e R s m args below meth c A nL D cells slots Q ws lv tgt st) : Z p l e R s m args below meth c A nL D cells slots Q ws lv pc (.int (iI b) :: .int (iI a) :: st) := z_icmp_gt hC hdg ht ha hb (fun _ => kt) (fun q => by omega)
theorem z_icmp_gt_f (hC : zC p s m args meth c A nL D J cc own Ts) {a b : Int} {off : Int} {tgt : Nat} (hdg : decode cc pc = .ok (.if_icmp .gt off, 3)) (ht : (pc : Int) + off = (tgt : Int)) (ha : inR a) (hb : inR b) (h : a ≤ b) (kf : Z p l e R s m args below meth c A nL D cells slots Q ws lv (pc + 3) st) : Z p l e R s m args below meth c A nL D cells slots Q ws lv pc (.int (iI b) :: .int (iI a) :: st) := z_icmp_gt hC hdg ht ha hb (fun q => by omega) (fun _ => kf)
theorem z_if_gt_t (hC : zC p s m args meth c A nL D J cc own Ts) {a : Int} {off : Int} {tgt : Nat} (hdg : decode cc pc = .ok (.ifCond .gt off, 3)) (ht : (pc : Int) + off = (tgt : Int)) (ha : inR a) (h : 0 < a) (kt : Z p l e R s m args below meth c A nL D cells slots Q ws lv tgt st) : Z p l e R s m args below meth c A nL D cells slots Q ws lv pc (.int (iI a) :: st) := z_if_gt hC hdg ht ha (fun _ => kt) (fun q => by omega)
theorem z_if_gt_f (hC : zC p s m args meth c A nL D J cc own Ts) {a : Int} {off : Int} {tgt : Nat} (hdg : decode cc pc = .ok (.ifCond .gt off, 3)) (ht : (pc : Int) + off = (tgt : Int)) (ha : inR a) (h : a ≤ 0) (kf : Z p l e R s m args below meth c A nL D cells slots Q ws lv (pc + 3) st) : Z p l e R s m args below meth c A nL D cells slots Q ws lv pc (.int (iI a) :: st) := z_if_gt hC hdg ht ha (fun q => by omega) (fun _ => kf)
theorem z_icmp_le (hC : zC p s m args meth c A nL D J cc own Ts) {a b : Int} {off : Int} {tgt : Nat} (hdg : decode cc pc = .ok (.if_icmp .le off, 3)) (ht : (pc : Int) + off = (tgt : Int)) (ha : inR a) (hb : inR b) (kt : a ≤ b → Z p l e R s m args below meth c A nL D cells slots Q ws lv tgt st) (kf : b < a → Z p l e R s m args below meth c A nL D cells slots Q ws lv (pc + 3) st) : Z p l e R s m args below meth c A nL D cells slots Q ws lv pc (.int (iI b) :: .int (iI a) :: st) := fun H locs ls hP hD hS hl => lv_icmp_le hC.1.1 hC.1.2.1 hdg ht (fun h => kt ((iI_le ha hb).mp h) H locs ls hP hD hS hl) (fun h => kf (Int.not_le.mp (fun z => h ((iI_le ha hb).mpr z))) H locs ls hP hD hS hl)
theorem z_if_le (hC : zC p s m args meth c A nL D J cc own Ts) {a : Int} {off : Int} {tgt : Nat} (hdg : decode cc pc = .ok (.ifCond .le off, 3)) (ht : (pc : Int) + off = (tgt : Int)) (ha : inR a) (kt : a ≤ 0 → Z p l e R s m args below meth c A nL D cells slots Q ws lv tgt st) (kf : 0 < a → Z p l e R s m args below meth c A nL D cells slots Q ws lv (pc + 3) st) : Z p l e R s m args below meth c A nL D cells slots Q ws lv pc (.int (iI a) :: st) := fun H locs ls hP hD hS hl => lv_if_le hC.1.1 hC.1.2.1 hdg ht (fun h => kt ((iI_le ha inR_0).mp h) H locs ls hP hD hS hl) (fun h => kf (Int.not_le.mp (fun z => h ((iI_le ha inR_0).mpr z))) H locs ls hP hD hS hl)
theorem z_icmp_le_t (hC : zC p s m args meth c A nL D J cc own Ts) {a b : Int} {off : Int} {tgt : Nat} (hdg : decode cc pc = .ok (.if_icmp .le off, 3)) (ht : (pc : Int) + off = (tgt : Int)) (ha : inR a) (hb : inR b) (h : a ≤ b) (kt : Z p l e R s m args below meth c A nL D cells slots Q ws lv tgt st) : Z p l e R s m args below meth c A nL D cells slots Q ws lv pc (.int (iI b) :: .int (iI a) :: st) := z_icmp_le hC hdg ht ha hb (fun _ => kt) (fun q => by omega)
theorem z_icmp_le_f (hC : zC p s m args meth c A nL D J cc own Ts) {a b : Int} {off : Int} {tgt : Nat} (hdg : decode cc pc = .ok (.if_icmp .le off, 3)) (ht : (pc : Int) + off = (tgt : Int)) (ha : inR a) (hb : inR b) (h : b < a) (kf : Z p l e R s m args below meth c A nL D cells slots Q ws lv (pc + 3) st) : Z p l e R s m args below meth c A nL D cells slots Q ws lv pc (.int (iI b) :: .int (iI a) :: st) := z_icmp_le hC hdg ht ha hb (fun q => by omega) (fun _ => kf)
theorem z_if_le_t (hC : zC p s m args meth c A nL D J cc own Ts) {a : Int} {off : Int} {tgt : Nat} (hdg : decode cc pc = .ok (.ifCond .le off, 3)) (ht : (pc : Int) + off = (tgt : Int)) (ha : inR a) (h : a ≤ 0) (kt : Z p l e R s m args below meth c A nL D cells slots Q ws lv tgt st) : Z p l e R s m args below meth c A nL D cells slots Q ws lv pc (.int (iI a) :: st) := z_if_le hC hdg ht ha (fun _ => kt) (fun q => by omega)
theorem z_if_le_f (hC : zC p s m args meth c A nL D J cc own Ts) {a : Int} {off : Int} {tgt : Nat} (hdg : decode cc pc = .ok (.ifCond .le off, 3)) (ht : (pc : Int) + off = (tgt : Int)) (ha : inR a) (h : 0 < a) (kf : Z p l e R s m args below meth c A nL D cells slots Q ws lv (pc + 3) st) : Z p l e R s m args below meth c A nL D cells slots Q ws lv pc (.int (iI a) :: st) := z_if_le hC hdg ht ha (fun q => by omega) (fun _ => kf)
theorem z_goto (hC : zC p s m args meth c A nL D J cc own Ts) {off : Int} {tgt : Nat} (hdg : decode cc pc = .ok (.goto off, 3)) (ht : (pc : Int) + off = (tgt : Int)) (kk : Z p l e R s m args below meth c A nL D cells slots Q ws lv tgt st) : Z p l e R s m args below meth c A nL D cells slots Q ws lv pc st := fun H locs ls hP hD hS hl => lv_goto hC.1.1 hC.1.2.1 hdg ht (kk H locs ls hP hD hS hl)
theorem z_ifnull (hC : zC p s m args meth c A nL D J cc own Ts) {x : Nat} {off : Int} (hdg : decode cc pc = .ok (.ifnull off, 3)) (kk : Z p l e R s m args below meth c A nL D cells slots Q ws lv (pc + 3) st) : Z p l e R s m args below meth c A nL D cells slots Q ws lv pc (.ref x :: st) := fun H locs ls hP hD hS hl => lv_ifnull hC.1.1 hC.1.2.1 hdg (kk H locs ls hP hD hS hl)
theorem z_ifnonnull (hC : zC p s m args meth c A nL D J cc own Ts) {x : Nat} {off : Int} {tgt : Nat} (hdg : decode cc pc = .ok (.ifnonnull off, 3)) (ht : (pc : Int) + off = (tgt : Int)) (kk : Z p l e R s m args below meth c A nL D cells slots Q ws lv tgt st) : Z p l e R s m args below meth c A nL D cells slots Q ws lv pc (.ref x :: st) := fun H locs ls hP hD hS hl => lv_ifnonnull hC.1.1 hC.1.2.1 hdg ht (kk H locs ls hP hD hS hl)
theorem z_tableIn (hC : zC p s m args meth c A nL D J cc own Ts) {dflt lo hi : Int} {offs : Array Int} {len : Nat} {z : Int} {off : Int} {tgt : Nat} (hdg : decode cc pc = .ok (.tableswitch dflt lo hi offs, len)) (hz : inR z) (h1 : lo ≤ z) (h2 : z ≤ hi) (ho : offs[(z - lo).toNat]? = some off) (ht : (pc : Int) + off = (tgt : Int)) (kk : Z p l e R s m args below meth c A nL D cells slots Q ws lv tgt st) : Z p l e R s m args below meth c A nL D cells slots Q ws lv pc (.int (iI z) :: st) := fun H locs ls hP hD hS hl => lv_tableIn hC.1.1 hC.1.2.1 hdg (by rw [iI_toInt hz]; omega) (by rw [iI_toInt hz]; omega) (by rw [iI_toInt hz]; exact ho) ht (kk H locs ls hP hD hS hl)
theorem z_tableOut (hC : zC p s m args meth c A nL D J cc own Ts) {dflt lo hi : Int} {offs : Array Int} {len : Nat} {z : Int} {tgt : Nat} (hdg : decode cc pc = .ok (.tableswitch dflt lo hi offs, len)) (hz : inR z) (h : z < lo ∨ hi < z) (ht : (pc : Int) + dflt = (tgt : Int)) (kk : Z p l e R s m args below meth c A nL D cells slots Q ws lv tgt st) : Z p l e R s m args below meth c A nL D cells slots Q ws lv pc (.int (iI z) :: st) := fun H locs ls hP hD hS hl => lv_tableOut hC.1.1 hC.1.2.1 hdg (by rw [iI_toInt hz]; exact h) ht (kk H locs ls hP hD hS hl)
theorem z_lookup (hC : zC p s m args meth c A nL D J cc own Ts) {dflt : Int} {ps : Array (Int × Int)} {len : Nat} {z : Int} {off : Int} {tgt : Nat} (hdg : decode cc pc = .ok (.lookupswitch dflt ps, len)) (hz : inR z) (hp : (ps.toList.zip (ps.toList.drop 1)).all (fun (a, next) => a.1 < next.1) = true) (ho : Op.lookupswitch.offset ps.toList dflt z = off) (ht : (pc : Int) + off = (tgt : Int)) (kk : Z p l e R s m args below meth c A nL D cells slots Q ws lv tgt st) : Z p l e R s m args below meth c A nL D cells slots Q ws lv pc (.int (iI z) :: st) := fun H locs ls hP hD hS hl => lv_lookup hC.1.1 hC.1.2.1 hdg hp (by rw [iI_toInt hz]; exact ho) ht (kk H locs ls hP hD hS hl)
/-- a class of the worlds: its place, its fields, their types, their names -/
def zCls (ci : Nat) (C : String) (T : u_T) (N : Nat) (ty : Nat → FieldType) : Prop := vwCl[ci]? = some (C, T, N) ∧ (∀ k, k < N → parseFieldDescriptor (T k).2.2.1 = some (ty k)) ∧ (∀ a, a < N → ∀ b, b < N → a ≠ b → (T a).2.1 ≠ (T b).2.1)
theorem z_geti (hC : zC p s m args meth c A nL D J cc own Ts) {ci a : Nat} {ks : List (Option Nat)} {f : Nat → Int} {C : String} {T : u_T} {N index : Nat} {ty : Nat → FieldType} (hk0 : zCls ci C T N ty) (hin : ∀ w ∈ u_ws C T N, w ∈ Ts) (q0 : Nat) (hq : ws[q0]? = some (cO ci a ks f)) (k : Nat) (hk : k < N) (hlink : Cond.fieldLink own index C (T k).2.1 (T k).2.2.1 ∈ Ts) (hown : (T k).1 = C) (hn : ks[k]? = some none) (hdg : decode cc pc = .ok (.getfield index, 3)) (kk : Z p l e R s m args below meth c A nL D cells slots Q ws lv (pc + 3) (.int (iI (f k)) :: st)) : Z p l e R s m args below meth c A nL D cells slots Q ws lv pc (.ref a :: st) := fun H locs ls hP hD hS hl => va_get (D := D) hC.1.1 hC.1.2.1 hC.1.2.2.2.2 hin hC.1.2.2.2.1 hC.2.1 hP q0 hq hk0.1 k hk (hC.1.2.2.2.2 _ hlink) (fun x hx => hown ▸ hx) (vF_get hn) hdg (kk H locs ls hP hD hS hl)
theorem z_getr (hC : zC p s m args meth c A nL D J cc own Ts) {r : Nat} {ci a : Nat} {ks : List (Option Nat)} {f : Nat → Int} {C : String} {T : u_T} {N index : Nat} {ty : Nat → FieldType} (hk0 : zCls ci C T N ty) (hin : ∀ w ∈ u_ws C T N, w ∈ Ts) (q0 : Nat) (hq : ws[q0]? = some (cO ci a ks f)) (k : Nat) (hk : k < N) (hlink : Cond.fieldLink own index C (T k).2.1 (T k).2.2.1 ∈ Ts) (hown : (T k).1 = C) (hn : ks[k]? = some (some r)) (hdg : decode cc pc = .ok (.getfield index, 3)) (kk : Z p l e R s m args below meth c A nL D cells slots Q ws lv (pc + 3) (.ref r :: st)) : Z p l e R s m args below meth c A nL D cells slots Q ws lv pc (.ref a :: st) := fun H locs ls hP hD hS hl => va_get (D := D) hC.1.1 hC.1.2.1 hC.1.2.2.2.2 hin hC.1.2.2.2.1 hC.2.1 hP q0 hq hk0.1 k hk (hC.1.2.2.2.2 _ hlink) (fun x hx => hown ▸ hx) (vF_ref hn) hdg (kk H locs ls hP hD hS hl)
theorem z_puti (hC : zC p s m args meth c A nL D J cc own Ts) {z : Int} {ci a : Nat} {ks : List (Option Nat)} {f : Nat → Int} {C : String} {T : u_T} {N index : Nat} {ty : Nat → FieldType} (hk0 : zCls ci C T N ty) (hin : ∀ w ∈ u_ws C T N, w ∈ Ts) (q0 : Nat) (hq : ws[q0]? = some (cO ci a ks f)) (k : Nat) (hk : k < N) (hlink : Cond.fieldLink own index C (T k).2.1 (T k).2.2.1 ∈ Ts) (hown : (T k).1 = C) (hn : ks[k]? = some none) (hfin : (T k).2.2.2 = false) {fty : FieldType} (hd : parseFieldDescriptor (T k).2.2.1 = some fty) (hnar : narrow fty (.int (iI z)) = .int (iI z)) (hfit : fits fty (.int (iI z)) = true) (hdg : decode cc pc = .ok (.putfield index, 3)) (hws : ws.set q0 (cO ci a ks (updZ f k z)) = ws') (kk : Z p l e R s m args below meth c A nL D cells slots Q ws' lv (pc + 3) st) : Z p l e R s m args below meth c A nL D cells slots Q ws lv pc (.int (iI z) :: .ref a :: st) := fun H locs ls hP hD hS hl => va_put (D := D) hC.1.1 hC.1.2.1 hC.1.2.2.2.2 hin ty hk0.2.1 hk0.2.2 hC.1.2.2.2.1 hC.2.1 hP hD hS q0 hq hk0.1 k hk (hC.1.2.2.2.2 _ hlink) (fun x hx => hown ▸ hx) hfin hd hnar hfit (vF_lt hn) hdg (fun H1 l1 hP1 hD1 hS1 => kk H1 l1 ls (by have q : (vF ks f).set k (.int (iI z)) = vF ks (updZ f k z) := vF_set z hn; rw [q] at hP1; rw [← hws]; exact hP1) (by have q : (vF ks f).set k (.int (iI z)) = vF ks (updZ f k z) := vF_set z hn; rw [q] at hD1; rw [← hws]; exact hD1) hS1 hl)
theorem z_iald (hC : zC p s m args meth c A nL D J cc own Ts) {cA : ClassId} {a n : Nat} {f : Nat → Int} {z : Int} (q0 : Nat) (hq : ws[q0]? = some (cI cA a n f)) (t0 : Nat) (ht0 : (zJ J)[t0]? = some (cA, .int)) (k : Nat) (hz : z = (k : Int)) (hkn : k < n) (hnb : n < 2147483648) (hdg : decode cc pc = .ok (.iaload, 1)) (kk : Z p l e R s m args below meth c A nL D cells slots Q ws lv (pc + 1) (.int (iI (f k)) :: st)) : Z p l e R s m args below meth c A nL D cells slots Q ws lv pc (.int (iI z) :: .ref a :: st) := fun H locs ls hP hD hS hl => va_iald (D := D) hC.1.1 hC.1.2.1 hC.2.1 hP q0 t0 hq ht0 (iI_in hz hkn hnb).1 hdg ((iI_in hz hkn hnb).2.symm ▸ kk H locs ls hP hD hS hl)
theorem z_cald (hC : zC p s m args meth c A nL D J cc own Ts) {cA : ClassId} {a n : Nat} {f : Nat → Int} {z : Int} (q0 : Nat) (hq : ws[q0]? = some (cI cA a n f)) (t0 : Nat) (ht0 : (zJ J)[t0]? = some (cA, .char)) (k : Nat) (hz : z = (k : Int)) (hkn : k < n) (hnb : n < 2147483648) (hdg : decode cc pc = .ok (.caload, 1)) (kk : Z p l e R s m args below meth c A nL D cells slots Q ws lv (pc + 1) (.int (iI (f k)) :: st)) : Z p l e R s m args below meth c A nL D cells slots Q ws lv pc (.int (iI z) :: .ref a :: st) := fun H locs ls hP hD hS hl => va_cald (D := D) hC.1.1 hC.1.2.1 hC.2.1 hP q0 t0 hq ht0 (iI_in hz hkn hnb).1 hdg ((iI_in hz hkn hnb).2.symm ▸ kk H locs ls hP hD hS hl)
theorem z_zald (hC : zC p s m args meth c A nL D J cc own Ts) {cA : ClassId} {a n : Nat} {f : Nat → Int} {z : Int} (q0 : Nat) (hq : ws[q0]? = some (cI cA a n f)) (t0 : Nat) (ht0 : (zJ J)[t0]? = some (cA, .boolean)) (k : Nat) (hz : z = (k : Int)) (hkn : k < n) (hnb : n < 2147483648) (hdg : decode cc pc = .ok (.baload, 1)) (kk : Z p l e R s m args below meth c A nL D cells slots Q ws lv (pc + 1) (.int (iI (f k)) :: st)) : Z p l e R s m args below meth c A nL D cells slots Q ws lv pc (.int (iI z) :: .ref a :: st) := fun H locs ls hP hD hS hl => va_zald (D := D) hC.1.1 hC.1.2.1 hC.2.1 hP q0 t0 hq ht0 (iI_in hz hkn hnb).1 hdg ((iI_in hz hkn hnb).2.symm ▸ kk H locs ls hP hD hS hl)
theorem z_iast (hC : zC p s m args meth c A nL D J cc own Ts) {v : Int} {cA : ClassId} {a n : Nat} {f : Nat → Int} {z : Int} (q0 : Nat) (hq : ws[q0]? = some (cI cA a n f)) (t0 : Nat) (ht0 : (zJ J)[t0]? = some (cA, .int)) (k : Nat) (hz : z = (k : Int)) (hkn : k < n) (hnb : n < 2147483648) (hdg : decode cc pc = .ok (.iastore, 1)) (hws : ws.set q0 (cI cA a n (updZ f k v)) = ws') (kk : Z p l e R s m args below meth c A nL D cells slots Q ws' lv (pc + 1) st) : Z p l e R s m args below meth c A nL D cells slots Q ws lv pc (.int (iI v) :: .int (iI z) :: .ref a :: st) := fun H locs ls hP hD hS hl => va_iast (D := D) hC.1.1 hC.1.2.1 hC.2.1 hP hD hS q0 t0 hq ht0 (iI_in hz hkn hnb).1 hdg (fun H1 l1 hP1 hD1 hS1 => kk H1 l1 ls (by rw [(iI_in hz hkn hnb).2, updZ_iI f k v] at hP1; rw [← hws]; exact hP1) (by rw [(iI_in hz hkn hnb).2, updZ_iI f k v] at hD1; rw [← hws]; exact hD1) hS1 hl)
theorem z_cast (hC : zC p s m args meth c A nL D J cc own Ts) {v : Int} {cA : ClassId} {a n : Nat} {f : Nat → Int} {z : Int} (q0 : Nat) (hq : ws[q0]? = some (cI cA a n f)) (t0 : Nat) (ht0 : (zJ J)[t0]? = some (cA, .char)) (k : Nat) (hz : z = (k : Int)) (hkn : k < n) (hnb : n < 2147483648) (hnar : vp_nar .char (iI v) = iI v) (hdg : decode cc pc = .ok (.castore, 1)) (hws : ws.set q0 (cI cA a n (updZ f k v)) = ws') (kk : Z p l e R s m args below meth c A nL D cells slots Q ws' lv (pc + 1) st) : Z p l e R s m args below meth c A nL D cells slots Q ws lv pc (.int (iI v) :: .int (iI z) :: .ref a :: st) := fun H locs ls hP hD hS hl => va_cast (D := D) hC.1.1 hC.1.2.1 hC.2.1 hP hD hS q0 t0 hq ht0 (iI_in hz hkn hnb).1 hdg (fun H1 l1 hP1 hD1 hS1 => kk H1 l1 ls (by rw [(iI_in hz hkn hnb).2, hnar, updZ_iI f k v] at hP1; rw [← hws]; exact hP1) (by rw [(iI_in hz hkn hnb).2, hnar, updZ_iI f k v] at hD1; rw [← hws]; exact hD1) hS1 hl)
theorem z_zast (hC : zC p s m args meth c A nL D J cc own Ts) {v : Int} {cA : ClassId} {a n : Nat} {f : Nat → Int} {z : Int} (q0 : Nat) (hq : ws[q0]? = some (cI cA a n f)) (t0 : Nat) (ht0 : (zJ J)[t0]? = some (cA, .boolean)) (k : Nat) (hz : z = (k : Int)) (hkn : k < n) (hnb : n < 2147483648) (hnar : vp_nar .boolean (iI v) = iI v) (hdg : decode cc pc = .ok (.bastore, 1)) (hws : ws.set q0 (cI cA a n (updZ f k v)) = ws') (kk : Z p l e R s m args below meth c A nL D cells slots Q ws' lv (pc + 1) st) : Z p l e R s m args below meth c A nL D cells slots Q ws lv pc (.int (iI v) :: .int (iI z) :: .ref a :: st) := fun H locs ls hP hD hS hl => va_zast (D := D) hC.1.1 hC.1.2.1 hC.2.1 hP hD hS q0 t0 hq ht0 (iI_in hz hkn hnb).1 hdg (fun H1 l1 hP1 hD1 hS1 => kk H1 l1 ls (by rw [(iI_in hz hkn hnb).2, hnar, updZ_iI f k v] at hP1; rw [← hws]; exact hP1) (by rw [(iI_in hz hkn hnb).2, hnar, updZ_iI f k v] at hD1; rw [← hws]; exact hD1) hS1 hl)
theorem z_aald (hC : zC p s m args meth c A nL D J cc own Ts) {cA : ClassId} {a n : Nat} {f : Nat → Option Nat} {z : Int} (q0 : Nat) (hq : ws[q0]? = some (cQ cA a n f)) (ht0 : (zJ J)[3]? = some (cA, .object "StepPairs$Encoder")) (k : Nat) (hz : z = (k : Int)) (hkn : k < n) (hnb : n < 2147483648) {r : Nat} (hr : f k = some r) (hdg : decode cc pc = .ok (.aaload, 1)) (kk : Z p l e R s m args below meth c A nL D cells slots Q ws lv (pc + 1) (.ref r :: st)) : Z p l e R s m args below meth c A nL D cells slots Q ws lv pc (.int (iI z) :: .ref a :: st) := fun H locs ls hP hD hS hl => va_aldq (D := D) hC.1.1 hC.1.2.1 hC.2.1 hP q0 3 hq ht0 (iI_in hz hkn hnb).1 hdg ((iI_in hz hkn hnb).2.symm ▸ hr.symm ▸ kk H locs ls hP hD hS hl)
end ZR
end
section
theorem zm_fm {α β : Type} (f : α → Option β) : ∀ (is : List α) (l : List β), is.map f = l.map some → is.filterMap f = l
  | [], [], _ => rfl
  | [], _ :: _, h => by simp at h
  | _ :: _, [], h => by simp at h
  | i :: is, b :: l, h => by
    simp only [List.map_cons, List.cons.injEq] at h
    rw [List.filterMap_cons, h.1, zm_fm f is l h.2]
theorem zT.moved {nm : String} {f : Nat → Int} {A : Nat → Prop} {u U : State} {H : Heap} (h : zT nm f A u H) (hvm : u.vm.Alike U.vm) : zT nm f A U H := by
  obtain ⟨t, h1, h2⟩ := h
  exact ⟨t, va_Z.moved hvm h1, va_T.moved hvm h2⟩
theorem zS.moved {A : Nat → Prop} {u U : State} {H : Heap} (h : zS A u H) (hvm : u.vm = U.vm) : zS A U H :=
  have a : u.vm.Alike U.vm := hvm ▸ Vm.Alike.refl u.vm
  ⟨h.1.moved a, h.2.1.moved a, h.2.2.1.moved a, va_Nw.same rfl hvm h.2.2.2.1, va_Nw.same rfl hvm h.2.2.2.2.1, va_Nw.same rfl hvm h.2.2.2.2.2⟩
theorem zP_blind {D : va_G} {J : Nat → ClassId} {wc : va_W} {sz : Nat} {av : List Value} : FrameBlind (va_Pc av (zP D J wc sz)) := by
  intro a U g mk q
  obtain ⟨q0, q1, q2, q3, q4, q5⟩ := q
  exact ⟨q0, q1, q2, va_K.moved (u := U) (U := U.calling g mk a) (Vm.Alike.refl U.vm) q3, q4, zS.moved (u := U) (U := U.calling g mk a) q5 rfl⟩
section ZR2
variable {p : Program} {l : Launch} {e : Env} {R : Room} {s : State} {m : MethodId} {args : Array Value} {below : List Frame} {meth : Method} {c : Code} {cells slots : Nat} {Q : State → Prop} {A : Nat → Prop} {nL : Nat} {D : va_G} {J : Nat → ClassId} {cc : ByteArray} {own : String} {Ts : List Cond} {ws ws' : va_W} {lv lv' : List (Nat × Value)} {pc : Nat} {st : List Value}
theorem z_widen {k n : Nat} (h1 : cells ≤ k) (h2 : slots ≤ n) (kk : Z p l e R s m args below meth c A nL D k n Q ws lv pc st) : Z p l e R s m args below meth c A nL D cells slots Q ws lv pc st :=
  fun H locs ls hP hD hS hl => W.widen h1 h2 (kk H locs ls hP hD hS hl)
/-- a part of the world, in any order -/
theorem z_perm (is : List Nat) (hn : va_nd is = true) (h : is.map (fun i => ws[i]?) = ws'.map some) (kk : Z p l e R s m args below meth c A nL D cells slots Q ws' lv pc st) : Z p l e R s m args below meth c A nL D cells slots Q ws lv pc st :=
  fun H locs ls hP hD hS hl => kk H locs ls (hP.sub is (zm_fm _ is ws' h)) (hD.sub is hn h) hS hl
theorem z_ws (h : ws = ws') (kk : Z p l e R s m args below meth c A nL D cells slots Q ws' lv pc st) : Z p l e R s m args below meth c A nL D cells slots Q ws lv pc st := h ▸ kk
theorem z_lv (ks : List Nat) (h : lv_pick lv ks = lv') (kk : Z p l e R s m args below meth c A nL D cells slots Q ws lv' pc st) : Z p l e R s m args below meth c A nL D cells slots Q ws lv pc st :=
  fun H locs ls hP hD hS hl => kk H locs ls hP hD hS (lv_sub hl ks h)
theorem z_st {st' : List Value} (h : st = st') (kk : Z p l e R s m args below meth c A nL D cells slots Q ws lv pc st') : Z p l e R s m args below meth c A nL D cells slots Q ws lv pc st := h ▸ kk
theorem z_lv0 (h : lv = lv') (kk : Z p l e R s m args below meth c A nL D cells slots Q ws lv' pc st) : Z p l e R s m args below meth c A nL D cells slots Q ws lv pc st := h ▸ kk
theorem z_to {st' : List Value} (hw : ws = ws') (ks : List Nat) (h : lv_pick lv ks = lv') (hs : st = st') (kk : Z p l e R s m args below meth c A nL D cells slots Q ws' lv' pc st') : Z p l e R s m args below meth c A nL D cells slots Q ws lv pc st := by
  subst hw hs
  exact z_lv ks h kk
/-- a place where walks meet -/
theorem z_join {α : Type} (P : α → Prop) (ws1 : α → va_W) (lv1 : α → List (Nat × Value)) (pc1 : Nat) (st1 : α → List Value) (k : ∀ a, P a → Z p l e R s m args below meth c A nL D cells slots Q (ws1 a) (lv1 a) pc1 (st1 a))
    (kk : (∀ a, P a → Z p l e R s m args below meth c A nL D cells slots Q (ws1 a) (lv1 a) pc1 (st1 a)) → Z p l e R s m args below meth c A nL D cells slots Q ws lv pc st) : Z p l e R s m args below meth c A nL D cells slots Q ws lv pc st := kk k
/-- a loop: its head at pc, a measure that says how many turns are left -/
theorem z_loop {α : Type} (P : Nat → α → Prop) (ws1 : Nat → α → va_W) (lv1 : Nat → α → List (Nat × Value)) (pc1 : Nat) (st1 : List Value)
    (k : ∀ n a, (∀ b, P n b → Z p l e R s m args below meth c A nL D cells slots Q (ws1 n b) (lv1 n b) pc1 st1) → P (n + 1) a → Z p l e R s m args below meth c A nL D cells slots Q (ws1 (n + 1) a) (lv1 (n + 1) a) pc1 st1)
    (k0 : ∀ a, P 0 a → Z p l e R s m args below meth c A nL D cells slots Q (ws1 0 a) (lv1 0 a) pc1 st1) : ∀ n a, P n a → Z p l e R s m args below meth c A nL D cells slots Q (ws1 n a) (lv1 n a) pc1 st1
  | 0, a, h => k0 a h
  | n + 1, a, h => k n a (fun b hb => z_loop P ws1 lv1 pc1 st1 k k0 n b hb) h
/-! ends -/
theorem z_iret {S : Type} {wc : va_W} {P : S → Prop} {v : S → Option Value} {w1 : S → va_W} {ty : FieldType} {x : Int32} (hC : zC p s m args meth c (va_A wc s.heap.size) nL D J cc own Ts) (hr : meth.sig.returnType = some ty) (hn : narrow ty (.int x) = .int x) (u : S) (hp : P u) (hv : v u = some (.int x)) (hw : ws = w1 u) (hdg : decode cc pc = .ok (.ireturn, 1)) :
    Z p l e R s m args below meth c (va_A wc s.heap.size) nL D cells slots (zE below args s D J wc P v w1 cells slots) ws lv pc [.int x] :=
  fun H locs ls hP hD hS hl => W.zret hC.1.1 hC.1.2.1 hr hn (fun t ht hW => ⟨⟨u, hp, by rw [hv], by rw [ht, ← hw]; exact hP, va_K.moved hW.alike hC.2.1, hw ▸ hD⟩, hS.F ht⟩) hS.2.2 hdg hC.2.2.2.2
theorem z_vret {S : Type} {wc : va_W} {P : S → Prop} {v : S → Option Value} {w1 : S → va_W} (hC : zC p s m args meth c (va_A wc s.heap.size) nL D J cc own Ts) (hr : meth.sig.returnType = none) (u : S) (hp : P u) (hv : v u = none) (hw : ws = w1 u) (hdg : decode cc pc = .ok (.return_, 1)) :
    Z p l e R s m args below meth c (va_A wc s.heap.size) nL D cells slots (zE below args s D J wc P v w1 cells slots) ws lv pc [] :=
  fun H locs ls hP hD hS hl => W.vret hC.1.1 hC.1.2.1 hr (fun t ht hW => ⟨⟨u, hp, by rw [hv], by rw [ht, ← hw]; exact hP, va_K.moved hW.alike hC.2.1, hw ▸ hD⟩, hS.F ht⟩) hS.2.2 hdg hC.2.2.2.2
theorem z_aret {S : Type} {wc : va_W} {P : S → Prop} {v : S → Option Value} {w1 : S → va_W} {ty : FieldType} {x : Nat} (hC : zC p s m args meth c (va_A wc s.heap.size) nL D J cc own Ts) (hr : meth.sig.returnType = some ty) (hrt : (∃ n, ty = .object n) ∨ ∃ t, ty = .array t) (u : S) (hp : P u) (hv : v u = some (.ref x)) (hw : ws = w1 u) (hdg : decode cc pc = .ok (.areturn, 1)) :
    Z p l e R s m args below meth c (va_A wc s.heap.size) nL D cells slots (zE below args s D J wc P v w1 cells slots) ws lv pc [.ref x] :=
  fun H locs ls hP hD hS hl => W.aret hC.1.1 hC.1.2.1 hr hrt (Or.inr ⟨x, rfl⟩) (fun t ht hW => ⟨⟨u, hp, by rw [hv], by rw [ht, ← hw]; exact hP, va_K.moved hW.alike hC.2.1, hw ▸ hD⟩, hS.F ht⟩) hS.2.2 hdg hC.2.2.2.2
theorem z_lret {S : Type} {wc : va_W} {P : S → Prop} {v : S → Option Value} {w1 : S → va_W} {x : Int64} (hC : zC p s m args meth c (va_A wc s.heap.size) nL D J cc own Ts) (hr : meth.sig.returnType = some .long) (u : S) (hp : P u) (hv : v u = some (.long x)) (hw : ws = w1 u) (hdg : decode cc pc = .ok (.lreturn, 1)) :
    Z p l e R s m args below meth c (va_A wc s.heap.size) nL D cells slots (zE below args s D J wc P v w1 cells slots) ws lv pc [.long x] :=
  fun H locs ls hP hD hS hl => W.lret hC.1.1 hC.1.2.1 hr (fun t ht hW => ⟨⟨u, hp, by rw [hv], by rw [ht, ← hw]; exact hP, va_K.moved hW.alike hC.2.1, hw ▸ hD⟩, hS.F ht⟩) hS.2.2 hdg hC.2.2.2.2
/-! calls -/
theorem z_callCore {S : Type} {rm : Room} {wc wr : va_W} {P : S → Prop} {v : S → Option Value} {w1 : S → va_W} {st0 : List Value} {a : Array Value} (hC : zC p s m args meth c A nL D J cc own Ts)
    (hrun : ∀ (H : Heap) (locs : List Loc) (ls : Array Slot), ls.size = nL → va_P D vwCl wc H → va_D A wc → va_S A s.heap H locs → (∀ q, va_A wc H.size q → A q) →
      va_Run p l e R s m args below meth c H locs cells slots rm.cells rm.slots (F0 m pc ls st0) st (zQ D J H.size wc P v w1 a) (va_A wc H.size))
    (isC isR : List Nat) (h1 : isC.map (fun i => ws[i]?) = wc.map some) (h2 : isR.map (fun i => ws[i]?) = wr.map some) (h3 : va_nd isR = true) (h4 : ∀ i ∈ isR, i ∉ isC) (h5 : va_nd isC = true)
    (kk : ∀ u : S, P u → Z p l e R s m args below meth c A nL D (cells + rm.cells) (slots + rm.slots) Q (wr ++ w1 u) lv (pc + 3) ((v u).toList ++ st)) : Z p l e R s m args below meth c A nL D cells slots Q ws lv pc st0 := by
  intro H locs ls hP hD hS hl
  have hF := va_free hD hS hC.2.2.1 isC h1
  have hrun := hrun H locs ls hl.1 (hP.sub isC (zm_fm _ isC wc h1)) (hD.sub isC h5 h1) hS hF
  intro T hT X
  obtain ⟨v', st₀, t, T', L, h0, X', hL, e1, e2, ⟨⟨u, hp, hv, hP1, hK1, hD1⟩, hz, hk⟩, stp⟩ := hrun T hT X
  have hv' : v' = v u := by injection hv
  subst hv'
  rw [h0] at hz hk
  obtain ⟨hPj, hDj⟩ := va_join (H1 := T'.heap) hP hD isC isR h1 h2 h3 h4 (fun q z1 z2 => by rw [e1]; exact hk q z1 z2) hF (by rw [e1]; exact hP1) hD1
  obtain ⟨t2, a1, b1⟩ := kk u hp T'.heap (locs ++ L) ls hPj hDj ⟨Nat.le_trans hS.1 (by rw [e1]; exact hz), fun q z1 z2 => by rw [e1, hk q (Nat.lt_of_lt_of_le z1 hS.1) (fun z => z2 (hF q z))]; exact hS.2.1 q z1 z2, fun q hq => by
      rcases List.mem_append.mp hq with z | z
      · exact hS.2.2 q z
      · exact hF _ (hL q z)⟩ hl T' rfl X'
  exact ⟨t2, stp t2 a1, b1⟩
theorem z_pre {D : va_G} {J : Nat → ClassId} {wc : va_W} {av : List Value} {H : Heap} {locs : List Loc} (hC : zC p s m args meth c A nL D J cc own Ts) (hPc : va_P D vwCl wc H) (hDc : va_D A wc) (hS : va_S A s.heap H locs) (hF : ∀ q, va_A wc H.size q → A q) :
    ∀ U : State, U.heap = H → s.WarmedH U.vm → va_Pc av (zP D J wc H.size) av.toArray U :=
  fun U hU hW => ⟨rfl, by rw [hU], by rw [hU]; exact hPc, va_K.moved hW.alike hC.2.1, hDc.weaken (fun _ _ _ _ => trivial), by rw [hU]; exact hC.2.2.2.1.call hW hS hF⟩
theorem z_callV {S : Type} {y : MethodName} {wsY ws0 : List Cond} {rm : Room} {bytes : ByteArray} {maxL index : Nat} {ret : Option FieldType} {C : String} {av : List Value} {b ci : Nat} {r : vw_C} {fs : List Value} {wc wr : va_W} {P : S → Prop} {v : S → Option Value} {w1 : S → va_W} {st0 : List Value} (hC : zC p s m args meth c A nL D J cc own Ts)
    (hM : ZM l y wsY rm D J (.ref b :: av) wc P v w1) (hT : GoodIn Ts (wsV own index C y wsY)) (hw : wsY = .code y bytes maxL ret :: ws0) (n : Nat)
    (hd : y.cls = C ∧ y.cls ≠ "java/lang/invoke/MethodHandle" ∧ y.cls ≠ "java/lang/invoke/VarHandle" ∧ (parseMethodDescriptor y.desc).map (fun d => d.parameters.length) = some n)
    (hR : rm.frames + 1 ≤ R.frames ∧ 8 + (maxL + 11) + rm.locals ≤ R.locals) (hcap : cells + rm.cells ≤ R.cells ∧ slots + rm.slots ≤ R.slots)
    (isC isR : List Nat) (h1 : isC.map (fun i => ws[i]?) = wc.map some) (h2 : isR.map (fun i => ws[i]?) = wr.map some) (h3 : va_nd isR = true) (h4 : ∀ i ∈ isR, i ∉ isC) (h5 : va_nd isC = true)
    (q0 : Nat) (hq : wc[q0]? = some (b, .inr (ci, fs))) (hci : vwCl[ci]? = some r) (hrC : r.1 = C) (hlen : av.length = n) (hst : st0 = av.reverse ++ .ref b :: st) (hcat : (st.map fun v => v.category).sum ≤ 8) (hdg : decode cc pc = .ok (.invokevirtual index, 3))
    (kk : ∀ u : S, P u → Z p l e R s m args below meth c A nL D (cells + rm.cells) (slots + rm.slots) Q (wr ++ w1 u) lv (pc + 3) ((v u).toList ++ st)) : Z p l e R s m args below meth c A nL D cells slots Q ws lv pc st0 := by
  refine z_callCore (wc := wc) (P := P) (v := v) (w1 := w1) (a := (Value.ref b :: av).toArray) hC (fun H locs ls hls hPc hDc hS hF => ?_) isC isR h1 h2 h3 h4 h5 kk
  subst hrC
  exact va_runV (As := av) (rest := st) hC.1 (hM H.size) (cwV n hC.1.2.2.2.2 hT hw rfl rfl hd hR) ⟨zP_blind, va_recv hC.2.1 hPc hci hq, z_pre hC hPc hDc hS hF⟩ rfl hlen hls hst (lv_room hcat) hdg hcap
theorem z_callS {S : Type} {y : MethodName} {wsY ws0 : List Cond} {rm : Room} {bytes : ByteArray} {maxL index : Nat} {ret : Option FieldType} {av : List Value} {wc wr : va_W} {P : S → Prop} {v : S → Option Value} {w1 : S → va_W} {st0 : List Value} (hC : zC p s m args meth c A nL D J cc own Ts)
    (hM : ZM l y wsY rm D J av wc P v w1) (hT : GoodIn Ts (va_wsS own index y wsY)) (hw : wsY = .code y bytes maxL ret :: ws0) (n : Nat)
    (hd : y.cls ≠ "java/lang/invoke/MethodHandle" ∧ y.cls ≠ "java/lang/invoke/VarHandle" ∧ (parseMethodDescriptor y.desc).map (fun d => d.parameters.length) = some n)
    (hR : rm.frames + 1 ≤ R.frames ∧ 8 + (maxL + 11) + rm.locals ≤ R.locals) (hcap : cells + rm.cells ≤ R.cells ∧ slots + rm.slots ≤ R.slots)
    (isC isR : List Nat) (h1 : isC.map (fun i => ws[i]?) = wc.map some) (h2 : isR.map (fun i => ws[i]?) = wr.map some) (h3 : va_nd isR = true) (h4 : ∀ i ∈ isR, i ∉ isC) (h5 : va_nd isC = true)
    (hlen : av.length = n) (hst : st0 = av.reverse ++ st) (hcat : (st.map fun v => v.category).sum ≤ 8) (hdg : decode cc pc = .ok (.invokestatic index, 3))
    (kk : ∀ u : S, P u → Z p l e R s m args below meth c A nL D (cells + rm.cells) (slots + rm.slots) Q (wr ++ w1 u) lv (pc + 3) ((v u).toList ++ st)) : Z p l e R s m args below meth c A nL D cells slots Q ws lv pc st0 := by
  refine z_callCore (wc := wc) (P := P) (v := v) (w1 := w1) (a := av.toArray) hC (fun H locs ls hls hPc hDc hS hF => ?_) isC isR h1 h2 h3 h4 h5 kk
  exact va_runS (As := av) (rest := st) hC.1 (hM H.size) (va_cwS n hC.1.2.2.2.2 hT hw rfl rfl hd hR) ⟨zP_blind, z_pre hC hPc hDc hS hF⟩ rfl hlen hls hst (lv_room hcat) hdg hcap
theorem z_callI {S : Type} {y : MethodName} {wsY ws0 : List Cond} {rm : Room} {bytes : ByteArray} {maxL index : Nat} {av : List Value} {b : Nat} {wc wr : va_W} {P : S → Prop} {v : S → Option Value} {w1 : S → va_W} {st0 : List Value} (hC : zC p s m args meth c A nL D J cc own Ts)
    (hM : ZM l y wsY rm D J (.ref b :: av) wc P v w1) (hT : GoodIn Ts wsY) (hw : wsY = .code y bytes maxL none :: ws0) (n : Nat) (hini : Cond.initialized y.cls ∈ Ts) (hlk : Cond.methodLink own index y ∈ Ts) (hins : Cond.instanceMethod y ∈ Ts) (hy1 : y.name = "<init>")
    (hd : y.cls ≠ "java/lang/invoke/MethodHandle" ∧ y.cls ≠ "java/lang/invoke/VarHandle" ∧ (parseMethodDescriptor y.desc).map (fun d => d.parameters.length) = some n)
    (hR : rm.frames + 1 ≤ R.frames ∧ 8 + (maxL + 11) + rm.locals ≤ R.locals) (hcap : cells + rm.cells ≤ R.cells ∧ slots + rm.slots ≤ R.slots)
    (isC isR : List Nat) (h1 : isC.map (fun i => ws[i]?) = wc.map some) (h2 : isR.map (fun i => ws[i]?) = wr.map some) (h3 : va_nd isR = true) (h4 : ∀ i ∈ isR, i ∉ isC) (h5 : va_nd isC = true)
    (hlen : av.length = n) (hst : st0 = av.reverse ++ .ref b :: st) (hcat : (st.map fun v => v.category).sum ≤ 8) (hdg : decode cc pc = .ok (.invokespecial index, 3))
    (kk : ∀ u : S, P u → Z p l e R s m args below meth c A nL D (cells + rm.cells) (slots + rm.slots) Q (wr ++ w1 u) lv (pc + 3) ((v u).toList ++ st)) : Z p l e R s m args below meth c A nL D cells slots Q ws lv pc st0 := by
  refine z_callCore (wc := wc) (P := P) (v := v) (w1 := w1) (a := (Value.ref b :: av).toArray) hC (fun H locs ls hls hPc hDc hS hF => ?_) isC isR h1 h2 h3 h4 h5 kk
  exact va_runI (As := av) (rest := st) hC.1 (hM H.size) (cwI n hC.1.2.2.2.2 hT hw rfl rfl (hC.1.2.2.2.2 _ hini) (hC.1.2.2.2.2 _ hlk) (hC.1.2.2.2.2 _ hins) hy1 hd hR) ⟨zP_blind, z_pre hC hPc hDc hS hF⟩ rfl hlen hls hst (lv_room hcat) hdg hcap
/-! the JDK's own -/
theorem z_min {index : Nat} {a b : Int} (hC : zC p s m args meth c A nL D J cc own Ts) (hlk : Cond.methodLink own index Lib.Math.min.name ∈ Ts) (hst : Cond.static Lib.Math.min.name ∈ Ts) (hini : Cond.initialized "java/lang/Math" ∈ Ts) (hcd : Cond.code Lib.Math.min.name Lib.Math.min.code 2 (some .int) ∈ Ts)
    (hR : 1 ≤ R.frames) (hlo : (st.map fun v => v.category).sum + 13 ≤ R.locals) (hcap : cells ≤ R.cells ∧ slots ≤ R.slots) (ha : inR a) (hb : inR b) (hdg : decode cc pc = .ok (.invokestatic index, 3))
    (kk : Z p l e R s m args below meth c A nL D cells slots Q ws lv (pc + 3) (.int (iI (min a b)) :: st)) : Z p l e R s m args below meth c A nL D cells slots Q ws lv pc (.int (iI b) :: .int (iI a) :: st) := by
  intro H locs ls hP hD hS hl
  refine va_mmin hC.1.1 hC.1.2.1 (hC.1.2.2.1.trans hl.1.symm) hC.1.2.2.2.1 (hC.1.2.2.2.2 _ hlk) (hC.1.2.2.2.2 _ hst) (hC.1.2.2.2.2 _ hini) (hC.1.2.2.2.2 _ hcd) hR hlo hcap.1 hcap.2 hdg ?_
  have q : (if iI b < iI a then iI b else iI a) = iI (min a b) := by
    by_cases h : b < a
    · rw [if_pos ((iI_lt hb ha).mpr h), Int.min_eq_right (by omega)]
    · rw [if_neg (fun z => h ((iI_lt hb ha).mp z)), Int.min_eq_left (by omega)]
  rw [q]
  exact kk H locs ls hP hD hS hl
theorem z_abs {index : Nat} {a : Int} (hC : zC p s m args meth c A nL D J cc own Ts) (hlk : Cond.methodLink own index Lib.Math.abs.name ∈ Ts) (hst : Cond.static Lib.Math.abs.name ∈ Ts) (hini : Cond.initialized "java/lang/Math" ∈ Ts) (hcd : Cond.code Lib.Math.abs.name Lib.Math.abs.code 1 (some .int) ∈ Ts)
    (hR : 1 ≤ R.frames) (hlo : (st.map fun v => v.category).sum + 13 ≤ R.locals) (hcap : cells ≤ R.cells ∧ slots ≤ R.slots) (ha : inR a) (hdg : decode cc pc = .ok (.invokestatic index, 3))
    (kk : Z p l e R s m args below meth c A nL D cells slots Q ws lv (pc + 3) (.int (iI (if 0 ≤ a then a else -a)) :: st)) : Z p l e R s m args below meth c A nL D cells slots Q ws lv pc (.int (iI a) :: st) := by
  intro H locs ls hP hD hS hl
  refine va_mabs hC.1.1 hC.1.2.1 (hC.1.2.2.1.trans hl.1.symm) hC.1.2.2.2.1 (hC.1.2.2.2.2 _ hlk) (hC.1.2.2.2.2 _ hst) (hC.1.2.2.2.2 _ hini) (hC.1.2.2.2.2 _ hcd) hR hlo hcap.1 hcap.2 hdg ?_
  have q : (if 0 ≤ iI a then iI a else 0 - iI a) = iI (if 0 ≤ a then a else -a) := by
    by_cases h : 0 ≤ a
    · rw [if_pos h, if_pos (show (0 : Int32) ≤ iI a from (iI_le inR_0 ha).mpr h)]
    · rw [if_neg h, if_neg (show ¬ (0 : Int32) ≤ iI a from fun z => h ((iI_le inR_0 ha).mp z)), iI_negZ]
  rw [q]
  exact kk H locs ls hP hD hS hl
def cpyZ (f g : Nat → Int) (sp dp n : Nat) : Nat → Int := fun k => if dp ≤ k ∧ k < dp + n then f (sp + (k - dp)) else g k
theorem cpyZ_iI (f g : Nat → Int) (sp dp n : Nat) : va_cpy (fun j => iI (f j)) (fun j => iI (g j)) sp dp n = fun j => iI (cpyZ f g sp dp n j) := by
  funext j
  unfold va_cpy cpyZ
  by_cases h : dp ≤ j ∧ j < dp + n
  · rw [if_pos h, if_pos h]
  · rw [if_neg h, if_neg h]
theorem z_copy {index : Nat} {a0 a n0 n1 : Nat} {c0 c1 : ClassId} {f g : Nat → Int} {ty : FieldType} {sp dp n : Int} (hC : zC p s m args meth c A nL D J cc own Ts) (hlk : Cond.methodLink own index arraycopyName ∈ Ts) (hnat : Cond.native arraycopyName ∈ Ts) (hst : Cond.static arraycopyName ∈ Ts) (hini : Cond.initialized "java/lang/System" ∈ Ts)
    (q0 q1 : Nat) (hq0 : ws[q0]? = some (cI c0 a0 n0 f)) (hq1 : ws[q1]? = some (cI c1 a n1 g)) (ht0 : (zJ J)[0]? = some (c0, .int)) (ht1 : (zJ J)[0]? = some (c1, .int)) (sn dn nn : Nat) (h1 : sp = (sn : Int)) (h2 : dp = (dn : Int)) (h3 : n = (nn : Int)) (h4 : sn + nn ≤ n0) (h5 : dn + nn ≤ n1) (h6 : n0 < 2147483648) (h7 : n1 < 2147483648)
    (hR : 1 ≤ R.frames) (hlo : (st.map fun v => v.category).sum + (nativeFrameWords "java/lang/System" "arraycopy" 5 + 11) ≤ R.locals) (hdg : decode cc pc = .ok (.invokestatic index, 3)) (hws : ws.set q1 (cI c1 a n1 (cpyZ f g sn dn nn)) = ws')
    (kk : Z p l e R s m args below meth c A nL D cells slots Q ws' lv (pc + 3) st) : Z p l e R s m args below meth c A nL D cells slots Q ws lv pc (.int (iI n) :: .int (iI dp) :: .ref a :: .int (iI sp) :: .ref a0 :: st) := by
  intro H locs ls hP hD hS hl
  have r1 : inR sp := ⟨by omega, by omega⟩
  have r2 : inR dp := ⟨by omega, by omega⟩
  have r3 : inR n := ⟨by omega, by omega⟩
  have e1 : (iI sp).toNatClampNeg = sn := by rw [iI_cl r1]; omega
  have e2 : (iI dp).toNatClampNeg = dn := by rw [iI_cl r2]; omega
  have e3 : (iI n).toNatClampNeg = nn := by rw [iI_cl r3]; omega
  refine va_copyi (D := D) hC.1.1 hC.1.2.1 (hC.1.2.2.1.trans hl.1.symm) hC.1.2.2.2.1 (hC.1.2.2.2.2 _ hlk) (hC.1.2.2.2.2 _ hnat) (hC.1.2.2.2.2 _ hst) (hC.1.2.2.2.2 _ hini) hC.2.1 hP hD hS q0 q1 0 0 hq0 hq1 ht0 ht1 rfl
    (fun h => by have := (iI_lt r1 inR_0).mp h; omega) (fun h => by have := (iI_lt r2 inR_0).mp h; omega) (fun h => by have := (iI_lt r3 inR_0).mp h; omega) (by rw [e1, e3]; exact h4) (by rw [e2, e3]; exact h5) (fun i _ => rfl) hR hlo hdg (fun H1 l1 hP1 hD1 hS1 => ?_)
  rw [e1, e2, e3, cpyZ_iI] at hP1 hD1
  rw [hws] at hP1 hD1
  exact kk H1 l1 ls hP1 hD1 hS1 hl
/-! the three tables -/
theorem z_getT {nm : String} {f : Nat → Int} {index : Nat} (hC : zC p s m args meth c A nL D J cc own Ts) (hT : zT nm f A s s.heap) (hlk : Cond.fieldLink own index "StepPairs" nm "[I" ∈ Ts) (hdg : decode cc pc = .ok (.getstatic index, 3))
    (kk : ∀ t : Nat, va_T .int t 5 (fun j => .int (iI (f j))) A s s.heap → Z p l e R s m args below meth c A nL D cells slots Q ws lv (pc + 3) (.ref t :: st)) : Z p l e R s m args below meth c A nL D cells slots Q ws lv pc st := by
  intro H locs ls hP hD hS hl
  obtain ⟨t, h1, h2⟩ := hT
  exact va_gets hC.1.1 hC.1.2.1 h1 hS hC.1.2.2.2.1 (hC.1.2.2.2.2 _ hlk) (fun _ h => h) hdg (kk t h2 H locs ls hP hD hS hl)
theorem z_getTN {nm : String} {f : Nat → Int} {index : Nat} (hC : zC p s m args meth c A nL D J cc own Ts) (hT : zT nm f A s s.heap) (hlk : va_Nw (.fieldLinkNest own index "StepPairs" nm "[I" "StepPairs") s) (hdg : decode cc pc = .ok (.getstatic index, 3))
    (kk : ∀ t : Nat, va_T .int t 5 (fun j => .int (iI (f j))) A s s.heap → Z p l e R s m args below meth c A nL D cells slots Q ws lv (pc + 3) (.ref t :: st)) : Z p l e R s m args below meth c A nL D cells slots Q ws lv pc st := by
  intro H locs ls hP hD hS hl
  obtain ⟨t, h1, h2⟩ := hT
  exact va_getsN hC.1.1 hC.1.2.1 h1 hS hC.1.2.2.2.1 (va_Nw.use rfl hlk) (fun _ h => h) hdg (kk t h2 H locs ls hP hD hS hl)
theorem z_ldT {f : Nat → Int} {t : Nat} {z : Int} (hC : zC p s m args meth c A nL D J cc own Ts) (hT : va_T .int t 5 (fun j => .int (iI (f j))) A s s.heap) (k : Nat) (hz : z = (k : Int)) (hk : k < 5) (hdg : decode cc pc = .ok (.iaload, 1))
    (kk : Z p l e R s m args below meth c A nL D cells slots Q ws lv (pc + 1) (.int (iI (f k)) :: st)) : Z p l e R s m args below meth c A nL D cells slots Q ws lv pc (.int (iI z) :: .ref t :: st) := by
  intro H locs ls hP hD hS hl
  exact va_ti hC.1.1 hC.1.2.1 hT hS (iI_in hz hk (by decide)).1 (v := .int (iI (f k))) (by rw [(iI_in hz hk (by decide)).2]) hdg (kk H locs ls hP hD hS hl)
end ZR2
end
section
/-! ===== what an encoder of the class is: its numbers (by the places of its fields), its settings, its log; and what its methods do with them ===== -/
abbrev Enc : Type := (Nat → Int) × (Nat → Int) × (Nat → Int)
abbrev kE (b c : Nat) : List (Option Nat) := [some b, some c, none, none, none, none, none, none, none, none, none, none, none, none, none, none]
abbrev wE (J : Nat → ClassId) (a b c : Nat) (E : Enc) : va_W := [cO 0 a (kE b c) E.1, cI (J 0) b 5 E.2.1, cI (J 0) c 200 E.2.2]
theorem hvi {a b : Int} (h : a = b) : some (Value.int (iI a)) = some (Value.int (iI b)) := by rw [h]
theorem zkX1 : zCls 0 RX1 TX1 16 tyX1 := ⟨rfl, tyX1_ok, nmX1⟩
theorem zkX2 : zCls 1 RX2 TX2 3 tyX2 := ⟨rfl, tyX2_ok, nmX2⟩
theorem zkX3 : zCls 2 RX3 TX3 6 tyX3 := ⟨rfl, tyX3_ok, nmX3⟩
theorem zkX4 : zCls 3 RX4 TX4 2 tyX4 := ⟨rfl, tyX4_ok, nmX4⟩
theorem zkX5 : zCls 4 RX5 TX5 5 tyX5 := ⟨rfl, tyX5_ok, nmX5⟩
def ordP (p : Int) : Int := if p = 2 then 3 else if p = 3 then 2 else p
theorem ordP_in {p : Int} (h : 0 ≤ p ∧ p ≤ 3) : 0 ≤ ordP p ∧ ordP p ≤ 3 := by unfold ordP; repeat' split <;> omega
theorem ordP_xor {p : Int} (h : 0 ≤ p ∧ p ≤ 3) : iI p ^^^ iI (p / 2 ^ 1) = iI (ordP p) := by
  obtain rfl | rfl | rfl | rfl : p = 0 ∨ p = 1 ∨ p = 2 ∨ p = 3 := by omega
  all_goals decide
def cRun (f : Nat → Int) (p : Int) : Int := if p = f 6 then f 8 + 1 else 1
def cDeed (f s : Nat → Int) (p : Int) : Int :=
  if p = f 5 then 0 else if cRun f p < s 2 then 0 else if (ordP p - ordP (f 5)) % 4 = 1 then 1 else if (ordP p - ordP (f 5)) % 4 = 3 then 2 else 3
def leftO (x b : Int) : Int := (x + b) % b
def cStep (f s : Nat → Int) (w : Int) : Nat → Int :=
  updZ (updZ (updZ (updZ (updZ (if w = 1 then updZ f 10 (f 10 + 1) else updZ f 11 (f 11 + 1)) 3 (leftO (f 3 + (if w = 1 then 1 else -1)) (s 1))) 4 (leftO (f 4 + (if w = 1 then 1 else -1)) (s 0))) 15 (if w = f 9 then f 2 - f 14 else 0)) 9 w) 14 (f 2)
def cMeet (f s : Nat → Int) : Nat → Int :=
  if s 4 = 1 then (if f 4 = 0 then f else updZ (updZ f 13 (f 13 + 1)) 4 0) else if s 4 = 2 then updZ (updZ f 4 0) 3 0 else f
def cTick0 (f s : Nat → Int) (p i : Int) : Nat → Int :=
  if cDeed f s p = 0 then updZ (updZ (updZ f 8 (cRun f p)) 6 p) 7 i else if cDeed f s p = 3 then updZ (updZ (updZ (updZ (updZ f 8 (cRun f p)) 6 p) 7 i) 5 p) 12 (f 12 + 1) else updZ (updZ (updZ (updZ f 8 (cRun f p)) 6 p) 7 i) 5 p
def cTick1 (f s : Nat → Int) (p i : Int) : Nat → Int :=
  if cDeed f s p = 1 then cStep (cTick0 f s p i) s (cDeed f s p) else if cDeed f s p = 2 then cStep (cTick0 f s p i) s (cDeed f s p) else cTick0 f s p i
def cTick2 (f s : Nat → Int) (p i : Int) : Nat → Int :=
  if i = 1 then (if f 7 = 0 then cMeet (cTick1 f s p i) s else cTick1 f s p i) else cTick1 f s p i
def cTick (E : Enc) (p i : Int) : Enc :=
  (updZ (cTick2 E.1 E.2.1 p i) 2 (E.1 2 + 1), E.2.1, updZ E.2.2 (Int.toNat (E.1 2 % 200)) (p + 4 * i + 8 * cDeed E.1 E.2.1 p))
def cClear (E : Enc) : Enc := (updZ (updZ E.1 3 0) 4 0, E.2.1, E.2.2)
/-- what is true of every encoder -/
def InvE (E : Enc) : Prop :=
  (0 ≤ E.1 2 ∧ E.1 2 ≤ 99999) ∧ (0 ≤ E.1 3 ∧ E.1 3 < E.2.1 1) ∧ (0 ≤ E.1 4 ∧ E.1 4 < E.2.1 0) ∧ (0 ≤ E.1 5 ∧ E.1 5 ≤ 3) ∧ (0 ≤ E.1 6 ∧ E.1 6 ≤ 3) ∧ (0 ≤ E.1 7 ∧ E.1 7 ≤ 1) ∧ (0 ≤ E.1 8 ∧ E.1 8 ≤ E.1 2) ∧ (0 ≤ E.1 9 ∧ E.1 9 ≤ 2) ∧
  (0 ≤ E.1 10 ∧ 0 ≤ E.1 11 ∧ 0 ≤ E.1 12 ∧ E.1 10 + E.1 11 + E.1 12 ≤ E.1 2) ∧ (0 ≤ E.1 13 ∧ E.1 13 ≤ E.1 2) ∧ (0 ≤ E.1 14 ∧ E.1 14 ≤ E.1 2 ∧ (E.1 9 = 0 ∨ E.1 14 < E.1 2)) ∧ (0 ≤ E.1 15 ∧ E.1 15 ≤ E.1 2) ∧
  (4 ≤ E.2.1 0 ∧ E.2.1 0 ≤ 400) ∧ (10 ≤ E.2.1 1 ∧ E.2.1 1 ≤ 9999) ∧ (1 ≤ E.2.1 2 ∧ E.2.1 2 ≤ 9) ∧ (1 ≤ E.2.1 3 ∧ E.2.1 3 ≤ 99) ∧ (0 ≤ E.2.1 4 ∧ E.2.1 4 ≤ 2) ∧ ∀ j, 0 ≤ E.2.2 j ∧ E.2.2 j ≤ 31
theorem cStep_2 (f s : Nat → Int) (w : Int) : cStep f s w 2 = f 2 := by
  unfold cStep
  split <;> rfl
theorem cMeet_2 (f s : Nat → Int) : cMeet f s 2 = f 2 := by
  unfold cMeet
  repeat' split
  all_goals rfl
theorem leftO_in {x b : Int} (h : 0 < b) : 0 ≤ leftO x b ∧ leftO x b < b := ⟨Int.emod_nonneg _ (by omega), Int.emod_lt_of_pos _ h⟩
theorem cStep_4 (f s : Nat → Int) (w : Int) (h : 0 < s 0) : 0 ≤ cStep f s w 4 ∧ cStep f s w 4 < s 0 := by
  have : cStep f s w 4 = leftO (f 4 + (if w = 1 then 1 else -1)) (s 0) := by
    unfold cStep
    split <;> rfl
  rw [this]
  exact leftO_in h
theorem cStep_13 (f s : Nat → Int) (w : Int) : cStep f s w 13 = f 13 := by
  unfold cStep
  split <;> rfl
theorem cRun_in {f : Nat → Int} {p : Int} (h : 0 ≤ f 8 ∧ f 8 ≤ 99999) : inR (cRun f p) := by
  unfold cRun inR
  split <;> omega
theorem cDeed_in (f s : Nat → Int) (p : Int) : 0 ≤ cDeed f s p ∧ cDeed f s p ≤ 3 := by
  unfold cDeed
  repeat' split
  all_goals omega
theorem cTick0_2 (f s : Nat → Int) (p i : Int) : cTick0 f s p i 2 = f 2 := by
  unfold cTick0
  repeat' split
  all_goals rfl
theorem cTick1_2 (f s : Nat → Int) (p i : Int) : cTick1 f s p i 2 = f 2 := by
  unfold cTick1
  repeat' split
  all_goals first | exact (cStep_2 _ _ _).trans (cTick0_2 _ _ _ _) | exact cTick0_2 _ _ _ _
theorem cTick0_4 (f s : Nat → Int) (p i : Int) : cTick0 f s p i 4 = f 4 := by
  unfold cTick0
  repeat' split
  all_goals rfl
theorem cTick1_4 (f s : Nat → Int) (p i : Int) (h : 0 ≤ f 4 ∧ f 4 < s 0) : 0 ≤ cTick1 f s p i 4 ∧ cTick1 f s p i 4 < s 0 := by
  unfold cTick1
  repeat' split
  all_goals first | exact cStep_4 _ _ _ (by omega) | (rw [cTick0_4]; exact h)
def cHas (f : Nat → Int) (a : Int) : Int := if 0 ≤ a then (if a < min (f 2) 200 then 1 else 0) else 0
def cEnt (f g : Nat → Int) (a : Int) : Int := g (Int.toNat ((f 2 - 1 - a) % 200))
def cDat (f g : Nat → Int) (a : Int) : Int := cEnt f g a / 2 ^ 3
theorem cHas_1 {f : Nat → Int} {a : Int} (h : 0 ≤ a ∧ a < min (f 2) 200) : cHas f a = 1 := by
  unfold cHas
  rw [if_pos h.1, if_pos h.2]
theorem cHas_01 (f : Nat → Int) (a : Int) : cHas f a = 0 ∨ cHas f a = 1 := by
  unfold cHas
  repeat' split
  all_goals omega
def cGate (E : Enc) : Nat → Int
  | 0 => 0
  | n + 1 => if cDat E.1 E.2.2 n = 1 then cGate E n + 1 else if cDat E.1 E.2.2 n = 2 then cGate E n + (-1) else cGate E n
def cTicks (E : Enc) (p i : Int) : Nat → Enc
  | 0 => E
  | n + 1 => cTick (cTicks E p i n) p i
def cSteps (E : Enc) (p i : Int) : Nat → Int
  | 0 => 0
  | n + 1 => if cDeed (cTicks E p i n).1 (cTicks E p i n).2.1 p = 1 then cSteps E p i n + 1 else if cDeed (cTicks E p i n).1 (cTicks E p i n).2.1 p = 2 then cSteps E p i n + 1 else cSteps E p i n
def cPassOk (E : Enc) (p i n : Int) : Int := if 0 ≤ p ∧ p ≤ 3 ∧ 0 ≤ i ∧ i ≤ 1 ∧ 1 ≤ n ∧ n ≤ 99 then (if n ≤ 99999 - E.1 2 then 0 else -5) else -2
def cPassR (E : Enc) (p i n : Int) : Int := if cPassOk E p i n = 0 then cSteps E p i n.toNat else cPassOk E p i n
def cPassE (E : Enc) (p i n : Int) : Enc := if cPassOk E p i n = 0 then cTicks E p i n.toNat else E
def cPair (E : Enc) (w : Int) : Int := ordP ((ordP (E.1 5) + w) % 4)
def cTurn (F : Nat) (w : Int) (E : Enc) : Enc := cTicks E (cPair E w) 0 F
def cTurns (F : Nat) (w : Int) (E : Enc) : Nat → Enc
  | 0 => E
  | n + 1 => cTurn F w (cTurns F w E n)
def absZ (x : Int) : Int := if 0 ≤ x then x else -x
def cRevOk (E : Enc) (x : Int) : Int := if x = 0 ∨ x < -99 ∨ 99 < x then -2 else if absZ x * E.2.1 2 ≤ 99999 - E.1 2 then 0 else -5
def cRevE (E : Enc) (x : Int) : Enc := if cRevOk E x = 0 then cTurns (E.2.1 2).toNat (if 0 < x then 1 else -1) E (absZ x).toNat else E
def cRevR (E : Enc) (x : Int) : Int := if cRevOk E x = 0 then (cRevE E x).1 3 else cRevOk E x
def cAdjOk (x y : Int) : Int := if 0 ≤ x ∧ x < 5 then (if leastS x.toNat ≤ y ∧ y ≤ mostS x.toNat then (if x = 0 then (if y % 4 = 0 then 0 else -2) else 0) else -2) else -2
def cAdjR (E : Enc) (x y : Int) : Int := if cAdjOk x y = 0 then E.2.1 x.toNat else -2
def cAdjE (E : Enc) (x y : Int) : Enc := if cAdjOk x y = 0 then (if x = 0 then updZ E.1 4 (leftO (E.1 4) y) else if x = 1 then updZ E.1 3 (leftO (E.1 3) y) else E.1, updZ E.2.1 x.toNat y, E.2.2) else E
theorem leastS_in (j : Nat) : 0 ≤ leastS j ∧ leastS j ≤ 10 := by
  unfold leastS
  repeat' split
  all_goals omega
theorem mostS_in (j : Nat) : 2 ≤ mostS j ∧ mostS j ≤ 9999 := by
  unfold mostS
  repeat' split
  all_goals omega
def cRep (E : Enc) (T : Enc) : Nat → Enc
  | 0 => T
  | n + 1 => cTick (cRep E T n) (cEnt E.1 E.2.2 (min (E.1 2) 200 - 1 - n) % 4) (cEnt E.1 E.2.2 (min (E.1 2) 200 - 1 - n) / 2 ^ 2 % 2)
def cFollow (E T : Enc) (F : Int) : Enc := cRep E ((fun _ => 0), updZ E.2.1 2 F, T.2.2) (min (E.1 2) 200).toNat
theorem mul_in {a b : Int} (ha : 0 ≤ a ∧ a ≤ 999) (hb : 0 ≤ b ∧ b ≤ 999) : 0 ≤ a * b ∧ a * b ≤ 998001 := by
  refine ⟨Int.mul_nonneg ha.1 hb.1, ?_⟩
  calc a * b ≤ 999 * b := Int.mul_le_mul_of_nonneg_right ha.2 hb.1
    _ ≤ 999 * 999 := Int.mul_le_mul_of_nonneg_left hb.2 (by decide)
    _ = 998001 := by decide
theorem turn_room {k : Nat} {n F B : Int} (hF : 0 ≤ F) (hk : (k : Int) + 1 ≤ n) (h : n * F ≤ B) : (k : Int) * F + F ≤ B := by
  have q := Int.mul_le_mul_of_nonneg_right hk hF
  rw [Int.add_mul, Int.one_mul] at q
  omega
theorem cDat_in {f g : Nat → Int} (hg : ∀ j, 0 ≤ g j ∧ g j ≤ 31) (a : Int) : 0 ≤ cDat f g a ∧ cDat f g a ≤ 3 := by
  have q := hg (Int.toNat ((f 2 - 1 - a) % 200))
  unfold cDat cEnt
  omega
end
section
abbrev rmX1_orderOf : Room := { frames := 0, cells := 0, slots := 0, locals := 0 }
set_option maxHeartbeats 4000000 in
set_option maxRecDepth 100000 in
theorem t_X1_orderOf (l : Launch) (D : va_G) (J : Nat → ClassId) (q : Int) (hq : 0 ≤ q ∧ q ≤ 3) : ZX l yX1_orderOf wsX1_orderOf rmX1_orderOf D J [.int (iI q)] ([]) (some (.int (iI (ordP q)))) ([] : va_W) := by
  refine z_met (cc := cX1_orderOf) (nL := 1) (ret := (some .int)) (own := RX1) (by decide) rfl rfl (Nat.le_of_ble_eq_true rfl) (fun p e s m args below meth c hC hr hin => ?_)
  refine z_lv0 (lv' := [(0, .int (iI q))]) rfl ?_
  refine z_iload_n hC dX1_orderOf_0 rfl 0 rfl ?_
  refine z_iload_n hC dX1_orderOf_1 rfl 0 rfl ?_
  refine z_iconst hC dX1_orderOf_2 ?_
  refine z_shr hC 1 (by decide) dX1_orderOf_3 (by omega) (by omega) ?_
  refine z_ixorR (v := iI (ordP q)) hC dX1_orderOf_4 (ordP_xor (by omega)) ?_
  exact z_iret hC hr rfl () trivial (by rfl) (by rfl) dX1_orderOf_5
abbrev rmX1_pairAlong : Room := { frames := 0, cells := 0, slots := 0, locals := 0 }
set_option maxHeartbeats 4000000 in
set_option maxRecDepth 100000 in
theorem t_X1_pairAlong (l : Launch) (D : va_G) (J : Nat → ClassId) (q : Int) : ZX l yX1_pairAlong wsX1_pairAlong rmX1_pairAlong D J [.int (iI q)] ([]) (some (.int (iI (ordP (q % 4))))) ([] : va_W) := by
  refine z_met (cc := cX1_pairAlong) (nL := 2) (ret := (some .int)) (own := RX1) (by decide) rfl rfl (Nat.le_of_ble_eq_true rfl) (fun p e s m args below meth c hC hr hin => ?_)
  refine z_lv0 (lv' := [(0, .int (iI q))]) rfl ?_
  refine z_iload_n hC dX1_pairAlong_0 rfl 0 rfl ?_
  refine z_iconst hC dX1_pairAlong_1 ?_
  refine z_and3 hC dX1_pairAlong_2 ?_
  refine z_istore_n (lv' := [(1, .int (iI (q % 4))), (0, .int (iI q))]) hC dX1_pairAlong_3 rfl (by decide) rfl ?_
  refine z_iload_n hC dX1_pairAlong_4 rfl 0 rfl ?_
  refine z_iload_n hC dX1_pairAlong_5 rfl 0 rfl ?_
  refine z_iconst hC dX1_pairAlong_6 ?_
  refine z_shr hC 1 (by decide) dX1_pairAlong_7 (by omega) (by omega) ?_
  refine z_ixorR (v := iI (ordP (q % 4))) hC dX1_pairAlong_8 (ordP_xor (by omega)) ?_
  exact z_iret hC hr rfl () trivial (by rfl) (by rfl) dX1_pairAlong_9
abbrev rmX1_leftOver : Room := { frames := 0, cells := 0, slots := 0, locals := 0 }
set_option maxHeartbeats 4000000 in
set_option maxRecDepth 100000 in
theorem t_X1_leftOver (l : Launch) (D : va_G) (J : Nat → ClassId) (x b : Int) (hx : -1 ≤ x ∧ x ≤ 20000) (hb : 0 < b ∧ b ≤ 9999) : ZX l yX1_leftOver wsX1_leftOver rmX1_leftOver D J [.int (iI x), .int (iI b)] ([]) (some (.int (iI (leftO x b)))) ([] : va_W) := by
  refine z_met (cc := cX1_leftOver) (nL := 2) (ret := (some .int)) (own := RX1) (by decide) rfl rfl (Nat.le_of_ble_eq_true rfl) (fun p e s m args below meth c hC hr hin => ?_)
  refine z_lv0 (lv' := [(0, .int (iI x)), (1, .int (iI b))]) rfl ?_
  refine z_iload_n hC dX1_leftOver_0 rfl 1 rfl ?_
  refine z_if_le_f (tgt := 12) hC dX1_leftOver_1 (by decide) (by unfold inR; omega) (by omega) ?_
  refine z_iload_n hC dX1_leftOver_4 rfl 0 rfl ?_
  refine z_iload_n hC dX1_leftOver_5 rfl 1 rfl ?_
  refine z_iadd hC dX1_leftOver_6 ?_
  refine z_iload_n hC dX1_leftOver_7 rfl 1 rfl ?_
  refine z_irem hC dX1_leftOver_8 (by omega) (by omega) (by omega) (by omega) ?_
  refine z_goto (tgt := 13) hC dX1_leftOver_9 (by decide) ?_
  exact z_iret hC hr rfl () trivial (by rfl) (by rfl) dX1_leftOver_13
set_option maxRecDepth 20000 in
theorem iX1_setting_X1 : ∀ w ∈ u_ws RX1 TX1 16, w ∈ wsX1_setting := zm_places _ [2, 3, 4, 5, 6, 7, 8, 9, 10, 11, 12, 13, 14, 15, 16, 17] (by decide +kernel)
theorem kX1_setting_1 : Cond.fieldLink RX1 9 "StepPairs$Encoder" "settings" "[I" ∈ wsX1_setting := List.mem_of_getElem? (i := 1) rfl
abbrev rmX1_setting : Room := { frames := 0, cells := 0, slots := 0, locals := 0 }
set_option maxHeartbeats 4000000 in
set_option maxRecDepth 100000 in
theorem t_X1_setting (l : Launch) (D : va_G) (J : Nat → ClassId) (h0 h1 h2 : Nat) (E : Enc) (k : Nat) (hk : k < 5) : ZX l yX1_setting wsX1_setting rmX1_setting D J [.ref h0, .int (iI (k : Int))] (wE J h0 h1 h2 E) (some (.int (iI (E.2.1 k)))) (wE J h0 h1 h2 E) := by
  refine z_met (cc := cX1_setting) (nL := 2) (ret := (some .int)) (own := RX1) (by decide) rfl rfl (Nat.le_of_ble_eq_true rfl) (fun p e s m args below meth c hC hr hin => ?_)
  refine z_lv0 (lv' := [(0, .ref h0), (1, .int (iI (k : Int)))]) rfl ?_
  refine z_iload_n hC dX1_setting_0 rfl 1 rfl ?_
  refine z_if_lt_f (tgt := 18) hC dX1_setting_1 (by decide) (by unfold inR; omega) (by omega) ?_
  refine z_iload_n hC dX1_setting_4 rfl 1 rfl ?_
  refine z_iconst hC dX1_setting_5 ?_
  refine z_icmp_ge_f (tgt := 18) hC dX1_setting_6 (by decide) (by unfold inR; omega) ⟨by decide, by decide⟩ (by omega) ?_
  refine z_aload_n hC dX1_setting_9 rfl 0 rfl ?_
  refine z_getr hC zkX1 iX1_setting_X1 0 rfl 0 (by decide) kX1_setting_1 rfl rfl dX1_setting_10 ?_
  refine z_iload_n hC dX1_setting_13 rfl 1 rfl ?_
  refine z_iald hC 1 rfl 0 rfl k rfl hk (by decide) dX1_setting_14 ?_
  refine z_goto (tgt := 19) hC dX1_setting_15 (by decide) ?_
  exact z_iret hC hr rfl () trivial (by rfl) (by rfl) dX1_setting_19
set_option maxRecDepth 20000 in
theorem iX1_runWith_X1 : ∀ w ∈ u_ws RX1 TX1 16, w ∈ wsX1_runWith := zm_places _ [3, 4, 5, 6, 7, 8, 9, 10, 11, 12, 13, 14, 15, 16, 17, 18] (by decide +kernel)
theorem kX1_runWith_1 : Cond.fieldLink RX1 40 "StepPairs$Encoder" "latestPair" "I" ∈ wsX1_runWith := List.mem_of_getElem? (i := 1) rfl
theorem kX1_runWith_2 : Cond.fieldLink RX1 46 "StepPairs$Encoder" "run" "I" ∈ wsX1_runWith := List.mem_of_getElem? (i := 2) rfl
abbrev rmX1_runWith : Room := { frames := 0, cells := 0, slots := 0, locals := 0 }
set_option maxHeartbeats 4000000 in
set_option maxRecDepth 100000 in
theorem t_X1_runWith (l : Launch) (D : va_G) (J : Nat → ClassId) (h0 h1 h2 : Nat) (E : Enc) (q : Int) (hq : 0 ≤ q ∧ q ≤ 3) (hE6 : 0 ≤ E.1 6 ∧ E.1 6 ≤ 3) : ZX l yX1_runWith wsX1_runWith rmX1_runWith D J [.ref h0, .int (iI q)] (wE J h0 h1 h2 E) (some (.int (iI (cRun E.1 q)))) (wE J h0 h1 h2 E) := by
  refine z_met (cc := cX1_runWith) (nL := 2) (ret := (some .int)) (own := RX1) (by decide) rfl rfl (Nat.le_of_ble_eq_true rfl) (fun p e s m args below meth c hC hr hin => ?_)
  refine z_lv0 (lv' := [(0, .ref h0), (1, .int (iI q))]) rfl ?_
  refine z_iload_n hC dX1_runWith_0 rfl 1 rfl ?_
  refine z_aload_n hC dX1_runWith_1 rfl 0 rfl ?_
  refine z_geti hC zkX1 iX1_runWith_X1 0 rfl 6 (by decide) kX1_runWith_1 rfl rfl dX1_runWith_2 ?_
  refine z_icmp_ne (tgt := 17) hC dX1_runWith_5 (by decide) (by unfold inR; omega) (by unfold inR; omega) (fun c_5_1 => ?_) (fun c_5_1 => ?_)
  · refine z_iconst hC dX1_runWith_17 ?_
    exact z_iret hC hr rfl () trivial (hvi (by unfold cRun; (repeat' split) <;> first | rfl | omega)) (by rfl) dX1_runWith_18
  · refine z_aload_n hC dX1_runWith_8 rfl 0 rfl ?_
    refine z_geti hC zkX1 iX1_runWith_X1 0 rfl 8 (by decide) kX1_runWith_2 rfl rfl dX1_runWith_9 ?_
    refine z_iconst hC dX1_runWith_12 ?_
    refine z_iadd hC dX1_runWith_13 ?_
    refine z_goto (tgt := 18) hC dX1_runWith_14 (by decide) ?_
    exact z_iret hC hr rfl () trivial (hvi (by unfold cRun; (repeat' split) <;> first | rfl | omega)) (by rfl) dX1_runWith_18
set_option maxRecDepth 20000 in
theorem iX1_clear_X1 : ∀ w ∈ u_ws RX1 TX1 16, w ∈ wsX1_clear := zm_places _ [3, 4, 5, 6, 7, 8, 9, 10, 11, 12, 13, 14, 15, 16, 17, 18] (by decide +kernel)
theorem kX1_clear_1 : Cond.fieldLink RX1 31 "StepPairs$Encoder" "count" "I" ∈ wsX1_clear := List.mem_of_getElem? (i := 1) rfl
theorem kX1_clear_2 : Cond.fieldLink RX1 34 "StepPairs$Encoder" "place" "I" ∈ wsX1_clear := List.mem_of_getElem? (i := 2) rfl
abbrev rmX1_clear : Room := { frames := 0, cells := 0, slots := 0, locals := 0 }
set_option maxHeartbeats 4000000 in
set_option maxRecDepth 100000 in
theorem t_X1_clear (l : Launch) (D : va_G) (J : Nat → ClassId) (h0 h1 h2 : Nat) (E : Enc)  : ZX l yX1_clear wsX1_clear rmX1_clear D J [.ref h0] (wE J h0 h1 h2 E) (some (.int (iI (E.1 3)))) (wE J h0 h1 h2 (updZ (updZ E.1 3 0) 4 0, E.2.1, E.2.2)) := by
  refine z_met (cc := cX1_clear) (nL := 2) (ret := (some .int)) (own := RX1) (by decide) rfl rfl (Nat.le_of_ble_eq_true rfl) (fun p e s m args below meth c hC hr hin => ?_)
  refine z_lv0 (lv' := [(0, .ref h0)]) rfl ?_
  refine z_aload_n hC dX1_clear_0 rfl 0 rfl ?_
  refine z_geti hC zkX1 iX1_clear_X1 0 rfl 3 (by decide) kX1_clear_1 rfl rfl dX1_clear_1 ?_
  refine z_istore_n (lv' := [(1, .int (iI (E.1 3))), (0, .ref h0)]) hC dX1_clear_4 rfl (by decide) rfl ?_
  refine z_aload_n hC dX1_clear_5 rfl 1 rfl ?_
  refine z_iconst hC dX1_clear_6 ?_
  refine z_puti (ws' := wE J h0 h1 h2 (updZ E.1 3 0, E.2.1, E.2.2)) hC zkX1 iX1_clear_X1 0 rfl 3 (by decide) kX1_clear_1 rfl rfl rfl rfl rfl rfl dX1_clear_7 rfl ?_
  refine z_aload_n hC dX1_clear_10 rfl 1 rfl ?_
  refine z_iconst hC dX1_clear_11 ?_
  refine z_puti (ws' := wE J h0 h1 h2 (updZ (updZ E.1 3 0) 4 0, E.2.1, E.2.2)) hC zkX1 iX1_clear_X1 0 rfl 4 (by decide) kX1_clear_2 rfl rfl rfl rfl rfl rfl dX1_clear_12 rfl ?_
  refine z_iload_n hC dX1_clear_15 rfl 0 rfl ?_
  exact z_iret hC hr rfl () trivial (by rfl) (by rfl) dX1_clear_16
end
section
set_option maxRecDepth 20000 in
theorem iX1_deedBy_X1 : ∀ w ∈ u_ws RX1 TX1 16, w ∈ wsX1_deedBy := zm_places _ [17, 18, 19, 20, 21, 22, 23, 24, 25, 26, 27, 28, 29, 30, 31, 32] (by decide +kernel)
theorem kX1_deedBy_1 : Cond.fieldLink RX1 37 "StepPairs$Encoder" "seen" "I" ∈ wsX1_deedBy := List.mem_of_getElem? (i := 1) rfl
abbrev rmX1_deedBy : Room := { frames := 1, cells := 0, slots := 0, locals := 21 }
set_option maxHeartbeats 4000000 in
set_option maxRecDepth 100000 in
theorem t_X1_deedBy (l : Launch) (D : va_G) (J : Nat → ClassId) (h0 h1 h2 : Nat) (E : Enc) (q : Int) (hq : 0 ≤ q ∧ q ≤ 3) (hE5 : 0 ≤ E.1 5 ∧ E.1 5 ≤ 3) (hE6 : 0 ≤ E.1 6 ∧ E.1 6 ≤ 3) (hE8 : 0 ≤ E.1 8 ∧ E.1 8 ≤ 99999) (hs2 : 1 ≤ E.2.1 2 ∧ E.2.1 2 ≤ 9) : ZX l yX1_deedBy wsX1_deedBy rmX1_deedBy D J [.ref h0, .int (iI q)] (wE J h0 h1 h2 E) (some (.int (iI (cDeed E.1 E.2.1 q)))) (wE J h0 h1 h2 E) := by
  refine z_met (cc := cX1_deedBy) (nL := 3) (ret := (some .int)) (own := RX1) (by decide) rfl rfl (Nat.le_of_ble_eq_true rfl) (fun p e s m args below meth c hC hr hin => ?_)
  refine z_lv0 (lv' := [(0, .ref h0), (1, .int (iI q))]) rfl ?_
  refine z_iload_n hC dX1_deedBy_0 rfl 1 rfl ?_
  refine z_aload_n hC dX1_deedBy_1 rfl 0 rfl ?_
  refine z_geti hC zkX1 iX1_deedBy_X1 0 rfl 5 (by decide) kX1_deedBy_1 rfl rfl dX1_deedBy_2 ?_
  refine z_icmp_eq (tgt := 21) hC dX1_deedBy_5 (by decide) (by unfold inR; omega) (by unfold inR; omega) (fun c_5_1 => ?_) (fun c_5_1 => ?_)
  · refine z_iconst hC dX1_deedBy_21 ?_
    exact z_iret hC hr rfl () trivial (hvi (by unfold cDeed; (repeat' split) <;> first | rfl | omega)) (by rfl) dX1_deedBy_22
  · refine z_aload_n hC dX1_deedBy_8 rfl 0 rfl ?_
    refine z_iload_n hC dX1_deedBy_9 rfl 1 rfl ?_
    refine z_callV (wr := []) (av := [.int (iI q)]) (st := []) hC (t_X1_runWith l D J h0 h1 h2 E q hq hE6) gX1_deedBy_X1_runWith rfl 1 (by decide +kernel) ⟨Nat.le_of_ble_eq_true rfl, Nat.le_of_ble_eq_true rfl⟩ ⟨Nat.le_of_ble_eq_true rfl, Nat.le_of_ble_eq_true rfl⟩ [0, 1, 2] [] rfl rfl rfl (by decide) rfl 0 rfl rfl rfl rfl rfl (Nat.le_of_ble_eq_true rfl) dX1_deedBy_10 (fun _ _ => ?_)
    refine z_ws (ws' := wE J h0 h1 h2 E) rfl ?_
    refine z_st (st' := [.int (iI (cRun E.1 q))]) rfl ?_
    refine z_aload_n hC dX1_deedBy_13 rfl 0 rfl ?_
    refine z_iconst hC dX1_deedBy_14 ?_
    refine z_callV (wr := []) (av := [.int (iI 2)]) (st := [.int (iI (cRun E.1 q))]) hC (t_X1_setting l D J h0 h1 h2 E 2 (by decide)) gX1_deedBy_X1_setting rfl 1 (by decide +kernel) ⟨Nat.le_of_ble_eq_true rfl, Nat.le_of_ble_eq_true rfl⟩ ⟨Nat.le_of_ble_eq_true rfl, Nat.le_of_ble_eq_true rfl⟩ [0, 1, 2] [] rfl rfl rfl (by decide) rfl 0 rfl rfl rfl rfl rfl (Nat.le_of_ble_eq_true rfl) dX1_deedBy_15 (fun _ _ => ?_)
    refine z_ws (ws' := wE J h0 h1 h2 E) rfl ?_
    refine z_st (st' := [.int (iI (E.2.1 2)), .int (iI (cRun E.1 q))]) rfl ?_
    refine z_icmp_ge (tgt := 23) hC dX1_deedBy_18 (by decide) (cRun_in hE8) (by unfold inR; omega) (fun c_18_2 => ?_) (fun c_18_2 => ?_)
    · refine z_iload_n hC dX1_deedBy_23 rfl 1 rfl ?_
      refine z_callS (wr := [cO 0 h0 [some h1, some h2, none, none, none, none, none, none, none, none, none, none, none, none, none, none] E.1, cI (J 0) h1 5 E.2.1, cI (J 0) h2 200 E.2.2]) (av := [.int (iI q)]) (st := []) hC (t_X1_orderOf l D J q hq) gX1_deedBy_X1_orderOf rfl 1 (by decide +kernel) ⟨Nat.le_of_ble_eq_true rfl, Nat.le_of_ble_eq_true rfl⟩ ⟨Nat.le_of_ble_eq_true rfl, Nat.le_of_ble_eq_true rfl⟩ [] [0, 1, 2] rfl rfl rfl (by decide) rfl rfl rfl (Nat.le_of_ble_eq_true rfl) dX1_deedBy_24 (fun _ _ => ?_)
      refine z_ws (ws' := wE J h0 h1 h2 E) rfl ?_
      refine z_st (st' := [.int (iI (ordP q))]) rfl ?_
      refine z_aload_n hC dX1_deedBy_27 rfl 0 rfl ?_
      refine z_geti hC zkX1 iX1_deedBy_X1 0 rfl 5 (by decide) kX1_deedBy_1 rfl rfl dX1_deedBy_28 ?_
      refine z_callS (wr := [cO 0 h0 [some h1, some h2, none, none, none, none, none, none, none, none, none, none, none, none, none, none] E.1, cI (J 0) h1 5 E.2.1, cI (J 0) h2 200 E.2.2]) (av := [.int (iI (E.1 5))]) (st := [.int (iI (ordP q))]) hC (t_X1_orderOf l D J (E.1 5) hE5) gX1_deedBy_X1_orderOf rfl 1 (by decide +kernel) ⟨Nat.le_of_ble_eq_true rfl, Nat.le_of_ble_eq_true rfl⟩ ⟨Nat.le_of_ble_eq_true rfl, Nat.le_of_ble_eq_true rfl⟩ [] [0, 1, 2] rfl rfl rfl (by decide) rfl rfl rfl (Nat.le_of_ble_eq_true rfl) dX1_deedBy_31 (fun _ _ => ?_)
      refine z_ws (ws' := wE J h0 h1 h2 E) rfl ?_
      refine z_st (st' := [.int (iI (ordP (E.1 5))), .int (iI (ordP q))]) rfl ?_
      refine z_isub hC dX1_deedBy_34 ?_
      refine z_iconst hC dX1_deedBy_35 ?_
      refine z_and3 hC dX1_deedBy_36 ?_
      refine z_istore_n (lv' := [(2, .int (iI (((ordP q) - (ordP (E.1 5))) % 4))), (0, .ref h0), (1, .int (iI q))]) hC dX1_deedBy_37 rfl (by decide) rfl ?_
      refine z_iload_n hC dX1_deedBy_38 rfl 0 rfl ?_
      refine z_iconst hC dX1_deedBy_39 ?_
      refine z_icmp_ne (tgt := 45) hC dX1_deedBy_40 (by decide) (by unfold inR; omega) ⟨by decide, by decide⟩ (fun c_40_3 => ?_) (fun c_40_3 => ?_)
      · refine z_iload_n hC dX1_deedBy_45 rfl 0 rfl ?_
        refine z_iconst hC dX1_deedBy_46 ?_
        refine z_icmp_ne (tgt := 54) hC dX1_deedBy_47 (by decide) (by unfold inR; omega) ⟨by decide, by decide⟩ (fun c_47_4 => ?_) (fun c_47_4 => ?_)
        · refine z_iconst hC dX1_deedBy_54 ?_
          exact z_iret hC hr rfl () trivial (hvi (by unfold cDeed; (repeat' split) <;> first | rfl | omega)) (by rfl) dX1_deedBy_55
        · refine z_iconst hC dX1_deedBy_50 ?_
          refine z_goto (tgt := 55) hC dX1_deedBy_51 (by decide) ?_
          exact z_iret hC hr rfl () trivial (hvi (by unfold cDeed; (repeat' split) <;> first | rfl | omega)) (by rfl) dX1_deedBy_55
      · refine z_iconst hC dX1_deedBy_43 ?_
        exact z_iret hC hr rfl () trivial (hvi (by unfold cDeed; (repeat' split) <;> first | rfl | omega)) (by rfl) dX1_deedBy_44
    · refine z_iconst hC dX1_deedBy_21 ?_
      exact z_iret hC hr rfl () trivial (hvi (by unfold cDeed; (repeat' split) <;> first | rfl | omega)) (by rfl) dX1_deedBy_22
set_option maxRecDepth 20000 in
theorem iX1_step_X1 : ∀ w ∈ u_ws RX1 TX1 16, w ∈ wsX1_step := zm_places _ [18, 19, 20, 21, 22, 23, 24, 25, 26, 27, 28, 29, 30, 31, 32, 33] (by decide +kernel)
theorem kX1_step_2 : Cond.fieldLink RX1 55 "StepPairs$Encoder" "backwards" "I" ∈ wsX1_step := List.mem_of_getElem? (i := 2) rfl
theorem kX1_step_3 : Cond.fieldLink RX1 31 "StepPairs$Encoder" "count" "I" ∈ wsX1_step := List.mem_of_getElem? (i := 3) rfl
theorem kX1_step_4 : Cond.fieldLink RX1 34 "StepPairs$Encoder" "place" "I" ∈ wsX1_step := List.mem_of_getElem? (i := 4) rfl
theorem kX1_step_5 : Cond.fieldLink RX1 49 "StepPairs$Encoder" "direction" "I" ∈ wsX1_step := List.mem_of_getElem? (i := 5) rfl
theorem kX1_step_8 : Cond.fieldLink RX1 67 "StepPairs$Encoder" "period" "I" ∈ wsX1_step := List.mem_of_getElem? (i := 8) rfl
theorem kX1_step_6 : Cond.fieldLink RX1 27 "StepPairs$Encoder" "ticks" "I" ∈ wsX1_step := List.mem_of_getElem? (i := 6) rfl
theorem kX1_step_7 : Cond.fieldLink RX1 64 "StepPairs$Encoder" "tickOfLatestStep" "I" ∈ wsX1_step := List.mem_of_getElem? (i := 7) rfl
theorem kX1_step_1 : Cond.fieldLink RX1 52 "StepPairs$Encoder" "forwards" "I" ∈ wsX1_step := List.mem_of_getElem? (i := 1) rfl
abbrev rmX1_step : Room := { frames := 1, cells := 0, slots := 0, locals := 21 }
set_option maxHeartbeats 4000000 in
set_option maxRecDepth 100000 in
theorem t_X1_step (l : Launch) (D : va_G) (J : Nat → ClassId) (h0 h1 h2 : Nat) (E : Enc) (w0 : Int) (hw : w0 = 1 ∨ w0 = 2) (hE2 : 0 ≤ E.1 2 ∧ E.1 2 ≤ 99999) (hE3 : 0 ≤ E.1 3 ∧ E.1 3 < E.2.1 1) (hE4 : 0 ≤ E.1 4 ∧ E.1 4 < E.2.1 0) (hE9 : 0 ≤ E.1 9 ∧ E.1 9 ≤ 2) (hs0 : 4 ≤ E.2.1 0 ∧ E.2.1 0 ≤ 400) (hs1 : 10 ≤ E.2.1 1 ∧ E.2.1 1 ≤ 9999) : ZX l yX1_step wsX1_step rmX1_step D J [.ref h0, .int (iI w0)] (wE J h0 h1 h2 E) none (wE J h0 h1 h2 (cStep E.1 E.2.1 w0, E.2.1, E.2.2)) := by
  refine z_met (cc := cX1_step) (nL := 3) (ret := none) (own := RX1) (by decide) rfl rfl (Nat.le_of_ble_eq_true rfl) (fun p e s m args below meth c hC hr hin => ?_)
  refine z_lv0 (lv' := [(0, .ref h0), (1, .int (iI w0))]) rfl ?_
  refine z_iload_n hC dX1_step_0 rfl 1 rfl ?_
  refine z_iconst hC dX1_step_1 ?_
  refine z_icmp_ne (tgt := 9) hC dX1_step_2 (by decide) (by unfold inR; omega) ⟨by decide, by decide⟩ (fun c_2_1 => ?_) (fun c_2_1 => ?_)
  · refine z_iconst hC dX1_step_9 ?_
    refine z_istore_n (lv' := [(2, .int (iI (-1))), (0, .ref h0), (1, .int (iI w0))]) hC dX1_step_10 rfl (by decide) rfl ?_
    refine z_iload_n hC dX1_step_11 rfl 2 rfl ?_
    refine z_iconst hC dX1_step_12 ?_
    refine z_icmp_ne_t (tgt := 29) hC dX1_step_13 (by decide) (by unfold inR; omega) ⟨by decide, by decide⟩ (by omega) ?_
    refine z_aload_n hC dX1_step_29 rfl 1 rfl ?_
    refine z_dup hC dX1_step_30 rfl ?_
    refine z_geti hC zkX1 iX1_step_X1 0 rfl 11 (by decide) kX1_step_2 rfl rfl dX1_step_31 ?_
    refine z_iconst hC dX1_step_34 ?_
    refine z_iadd hC dX1_step_35 ?_
    refine z_puti (ws' := wE J h0 h1 h2 (updZ E.1 11 ((E.1 11) + 1), E.2.1, E.2.2)) hC zkX1 iX1_step_X1 0 rfl 11 (by decide) kX1_step_2 rfl rfl rfl rfl rfl rfl dX1_step_36 rfl ?_
    refine z_aload_n hC dX1_step_39 rfl 1 rfl ?_
    refine z_aload_n hC dX1_step_40 rfl 1 rfl ?_
    refine z_geti hC zkX1 iX1_step_X1 0 rfl 3 (by decide) kX1_step_3 rfl rfl dX1_step_41 ?_
    refine z_int (y := iI (E.1 3)) hC (rfl) ?_
    refine z_iload_n hC dX1_step_44 rfl 0 rfl ?_
    refine z_iadd hC dX1_step_45 ?_
    refine z_aload_n hC dX1_step_46 rfl 1 rfl ?_
    refine z_iconst hC dX1_step_47 ?_
    refine z_callV (wr := []) (av := [.int (iI 1)]) (st := [.int (iI ((E.1 3) + (-1))), .ref h0]) hC (t_X1_setting l D J h0 h1 h2 (updZ E.1 11 ((E.1 11) + 1), E.2.1, E.2.2) 1 (by decide)) gX1_step_X1_setting rfl 1 (by decide +kernel) ⟨Nat.le_of_ble_eq_true rfl, Nat.le_of_ble_eq_true rfl⟩ ⟨Nat.le_of_ble_eq_true rfl, Nat.le_of_ble_eq_true rfl⟩ [0, 1, 2] [] rfl rfl rfl (by decide) rfl 0 rfl rfl rfl rfl rfl (Nat.le_of_ble_eq_true rfl) dX1_step_48 (fun _ _ => ?_)
    refine z_ws (ws' := wE J h0 h1 h2 (updZ E.1 11 ((E.1 11) + 1), E.2.1, E.2.2)) rfl ?_
    refine z_st (st' := [.int (iI (E.2.1 1)), .int (iI ((E.1 3) + (-1))), .ref h0]) rfl ?_
    refine z_callS (wr := [cO 0 h0 [some h1, some h2, none, none, none, none, none, none, none, none, none, none, none, none, none, none] (updZ E.1 11 ((E.1 11) + 1)), cI (J 0) h1 5 E.2.1, cI (J 0) h2 200 E.2.2]) (av := [.int (iI ((E.1 3) + (-1))), .int (iI (E.2.1 1))]) (st := [.ref h0]) hC (t_X1_leftOver l D J ((E.1 3) + (-1)) (E.2.1 1) ⟨by omega, by omega⟩ ⟨by omega, by omega⟩) gX1_step_X1_leftOver rfl 2 (by decide +kernel) ⟨Nat.le_of_ble_eq_true rfl, Nat.le_of_ble_eq_true rfl⟩ ⟨Nat.le_of_ble_eq_true rfl, Nat.le_of_ble_eq_true rfl⟩ [] [0, 1, 2] rfl rfl rfl (by decide) rfl rfl rfl (Nat.le_of_ble_eq_true rfl) dX1_step_51 (fun _ _ => ?_)
    refine z_ws (ws' := wE J h0 h1 h2 (updZ E.1 11 ((E.1 11) + 1), E.2.1, E.2.2)) rfl ?_
    refine z_st (st' := [.int (iI (leftO ((E.1 3) + (-1)) (E.2.1 1))), .ref h0]) rfl ?_
    refine z_puti (ws' := wE J h0 h1 h2 (updZ (updZ E.1 11 ((E.1 11) + 1)) 3 (leftO ((E.1 3) + (-1)) (E.2.1 1)), E.2.1, E.2.2)) hC zkX1 iX1_step_X1 0 rfl 3 (by decide) kX1_step_3 rfl rfl rfl rfl rfl rfl dX1_step_54 rfl ?_
    refine z_aload_n hC dX1_step_57 rfl 1 rfl ?_
    refine z_aload_n hC dX1_step_58 rfl 1 rfl ?_
    refine z_geti hC zkX1 iX1_step_X1 0 rfl 4 (by decide) kX1_step_4 rfl rfl dX1_step_59 ?_
    refine z_int (y := iI (E.1 4)) hC (rfl) ?_
    refine z_iload_n hC dX1_step_62 rfl 0 rfl ?_
    refine z_iadd hC dX1_step_63 ?_
    refine z_aload_n hC dX1_step_64 rfl 1 rfl ?_
    refine z_iconst hC dX1_step_65 ?_
    refine z_callV (wr := []) (av := [.int (iI 0)]) (st := [.int (iI ((E.1 4) + (-1))), .ref h0]) hC (t_X1_setting l D J h0 h1 h2 (updZ (updZ E.1 11 ((E.1 11) + 1)) 3 (leftO ((E.1 3) + (-1)) (E.2.1 1)), E.2.1, E.2.2) 0 (by decide)) gX1_step_X1_setting rfl 1 (by decide +kernel) ⟨Nat.le_of_ble_eq_true rfl, Nat.le_of_ble_eq_true rfl⟩ ⟨Nat.le_of_ble_eq_true rfl, Nat.le_of_ble_eq_true rfl⟩ [0, 1, 2] [] rfl rfl rfl (by decide) rfl 0 rfl rfl rfl rfl rfl (Nat.le_of_ble_eq_true rfl) dX1_step_66 (fun _ _ => ?_)
    refine z_ws (ws' := wE J h0 h1 h2 (updZ (updZ E.1 11 ((E.1 11) + 1)) 3 (leftO ((E.1 3) + (-1)) (E.2.1 1)), E.2.1, E.2.2)) rfl ?_
    refine z_st (st' := [.int (iI (E.2.1 0)), .int (iI ((E.1 4) + (-1))), .ref h0]) rfl ?_
    refine z_callS (wr := [cO 0 h0 [some h1, some h2, none, none, none, none, none, none, none, none, none, none, none, none, none, none] (updZ (updZ E.1 11 ((E.1 11) + 1)) 3 (leftO ((E.1 3) + (-1)) (E.2.1 1))), cI (J 0) h1 5 E.2.1, cI (J 0) h2 200 E.2.2]) (av := [.int (iI ((E.1 4) + (-1))), .int (iI (E.2.1 0))]) (st := [.ref h0]) hC (t_X1_leftOver l D J ((E.1 4) + (-1)) (E.2.1 0) ⟨by omega, by omega⟩ ⟨by omega, by omega⟩) gX1_step_X1_leftOver rfl 2 (by decide +kernel) ⟨Nat.le_of_ble_eq_true rfl, Nat.le_of_ble_eq_true rfl⟩ ⟨Nat.le_of_ble_eq_true rfl, Nat.le_of_ble_eq_true rfl⟩ [] [0, 1, 2] rfl rfl rfl (by decide) rfl rfl rfl (Nat.le_of_ble_eq_true rfl) dX1_step_69 (fun _ _ => ?_)
    refine z_ws (ws' := wE J h0 h1 h2 (updZ (updZ E.1 11 ((E.1 11) + 1)) 3 (leftO ((E.1 3) + (-1)) (E.2.1 1)), E.2.1, E.2.2)) rfl ?_
    refine z_st (st' := [.int (iI (leftO ((E.1 4) + (-1)) (E.2.1 0))), .ref h0]) rfl ?_
    refine z_puti (ws' := wE J h0 h1 h2 (updZ (updZ (updZ E.1 11 ((E.1 11) + 1)) 3 (leftO ((E.1 3) + (-1)) (E.2.1 1))) 4 (leftO ((E.1 4) + (-1)) (E.2.1 0)), E.2.1, E.2.2)) hC zkX1 iX1_step_X1 0 rfl 4 (by decide) kX1_step_4 rfl rfl rfl rfl rfl rfl dX1_step_72 rfl ?_
    refine z_aload_n hC dX1_step_75 rfl 1 rfl ?_
    refine z_iload_n hC dX1_step_76 rfl 2 rfl ?_
    refine z_aload_n hC dX1_step_77 rfl 1 rfl ?_
    refine z_geti hC zkX1 iX1_step_X1 0 rfl 9 (by decide) kX1_step_5 rfl rfl dX1_step_78 ?_
    refine z_int (y := iI (E.1 9)) hC (rfl) ?_
    refine z_icmp_ne (tgt := 96) hC dX1_step_81 (by decide) (by unfold inR; omega) (by unfold inR; omega) (fun c_81_2 => ?_) (fun c_81_2 => ?_)
    · refine z_iconst hC dX1_step_96 ?_
      refine z_puti (ws' := wE J h0 h1 h2 (updZ (updZ (updZ (updZ E.1 11 ((E.1 11) + 1)) 3 (leftO ((E.1 3) + (-1)) (E.2.1 1))) 4 (leftO ((E.1 4) + (-1)) (E.2.1 0))) 15 0, E.2.1, E.2.2)) hC zkX1 iX1_step_X1 0 rfl 15 (by decide) kX1_step_8 rfl rfl rfl rfl rfl rfl dX1_step_97 rfl ?_
      refine z_aload_n hC dX1_step_100 rfl 1 rfl ?_
      refine z_iload_n hC dX1_step_101 rfl 2 rfl ?_
      refine z_puti (ws' := wE J h0 h1 h2 (updZ (updZ (updZ (updZ (updZ E.1 11 ((E.1 11) + 1)) 3 (leftO ((E.1 3) + (-1)) (E.2.1 1))) 4 (leftO ((E.1 4) + (-1)) (E.2.1 0))) 15 0) 9 w0, E.2.1, E.2.2)) hC zkX1 iX1_step_X1 0 rfl 9 (by decide) kX1_step_5 rfl rfl rfl rfl rfl rfl dX1_step_102 rfl ?_
      refine z_aload_n hC dX1_step_105 rfl 1 rfl ?_
      refine z_aload_n hC dX1_step_106 rfl 1 rfl ?_
      refine z_geti hC zkX1 iX1_step_X1 0 rfl 2 (by decide) kX1_step_6 rfl rfl dX1_step_107 ?_
      refine z_int (y := iI (E.1 2)) hC (rfl) ?_
      refine z_puti (ws' := wE J h0 h1 h2 (updZ (updZ (updZ (updZ (updZ (updZ E.1 11 ((E.1 11) + 1)) 3 (leftO ((E.1 3) + (-1)) (E.2.1 1))) 4 (leftO ((E.1 4) + (-1)) (E.2.1 0))) 15 0) 9 w0) 14 (E.1 2), E.2.1, E.2.2)) hC zkX1 iX1_step_X1 0 rfl 14 (by decide) kX1_step_7 rfl rfl rfl rfl rfl rfl dX1_step_110 rfl ?_
      exact z_vret hC hr () trivial rfl (congrArg (wE J h0 h1 h2) (by unfold cStep; (repeat' split) <;> first | rfl | omega)) dX1_step_113
    · refine z_aload_n hC dX1_step_84 rfl 1 rfl ?_
      refine z_geti hC zkX1 iX1_step_X1 0 rfl 2 (by decide) kX1_step_6 rfl rfl dX1_step_85 ?_
      refine z_int (y := iI (E.1 2)) hC (rfl) ?_
      refine z_aload_n hC dX1_step_88 rfl 1 rfl ?_
      refine z_geti hC zkX1 iX1_step_X1 0 rfl 14 (by decide) kX1_step_7 rfl rfl dX1_step_89 ?_
      refine z_int (y := iI (E.1 14)) hC (rfl) ?_
      refine z_isub hC dX1_step_92 ?_
      refine z_goto (tgt := 97) hC dX1_step_93 (by decide) ?_
      refine z_puti (ws' := wE J h0 h1 h2 (updZ (updZ (updZ (updZ E.1 11 ((E.1 11) + 1)) 3 (leftO ((E.1 3) + (-1)) (E.2.1 1))) 4 (leftO ((E.1 4) + (-1)) (E.2.1 0))) 15 ((E.1 2) - (E.1 14)), E.2.1, E.2.2)) hC zkX1 iX1_step_X1 0 rfl 15 (by decide) kX1_step_8 rfl rfl rfl rfl rfl rfl dX1_step_97 rfl ?_
      refine z_aload_n hC dX1_step_100 rfl 1 rfl ?_
      refine z_iload_n hC dX1_step_101 rfl 2 rfl ?_
      refine z_puti (ws' := wE J h0 h1 h2 (updZ (updZ (updZ (updZ (updZ E.1 11 ((E.1 11) + 1)) 3 (leftO ((E.1 3) + (-1)) (E.2.1 1))) 4 (leftO ((E.1 4) + (-1)) (E.2.1 0))) 15 ((E.1 2) - (E.1 14))) 9 w0, E.2.1, E.2.2)) hC zkX1 iX1_step_X1 0 rfl 9 (by decide) kX1_step_5 rfl rfl rfl rfl rfl rfl dX1_step_102 rfl ?_
      refine z_aload_n hC dX1_step_105 rfl 1 rfl ?_
      refine z_aload_n hC dX1_step_106 rfl 1 rfl ?_
      refine z_geti hC zkX1 iX1_step_X1 0 rfl 2 (by decide) kX1_step_6 rfl rfl dX1_step_107 ?_
      refine z_int (y := iI (E.1 2)) hC (rfl) ?_
      refine z_puti (ws' := wE J h0 h1 h2 (updZ (updZ (updZ (updZ (updZ (updZ E.1 11 ((E.1 11) + 1)) 3 (leftO ((E.1 3) + (-1)) (E.2.1 1))) 4 (leftO ((E.1 4) + (-1)) (E.2.1 0))) 15 ((E.1 2) - (E.1 14))) 9 w0) 14 (E.1 2), E.2.1, E.2.2)) hC zkX1 iX1_step_X1 0 rfl 14 (by decide) kX1_step_7 rfl rfl rfl rfl rfl rfl dX1_step_110 rfl ?_
      exact z_vret hC hr () trivial rfl (congrArg (wE J h0 h1 h2) (by unfold cStep; (repeat' split) <;> first | rfl | omega)) dX1_step_113
  · refine z_iconst hC dX1_step_5 ?_
    refine z_goto (tgt := 10) hC dX1_step_6 (by decide) ?_
    refine z_istore_n (lv' := [(2, .int (iI 1)), (0, .ref h0), (1, .int (iI w0))]) hC dX1_step_10 rfl (by decide) rfl ?_
    refine z_iload_n hC dX1_step_11 rfl 2 rfl ?_
    refine z_iconst hC dX1_step_12 ?_
    refine z_icmp_ne_f (tgt := 29) hC dX1_step_13 (by decide) (by unfold inR; omega) ⟨by decide, by decide⟩ (by omega) ?_
    refine z_aload_n hC dX1_step_16 rfl 1 rfl ?_
    refine z_dup hC dX1_step_17 rfl ?_
    refine z_geti hC zkX1 iX1_step_X1 0 rfl 10 (by decide) kX1_step_1 rfl rfl dX1_step_18 ?_
    refine z_iconst hC dX1_step_21 ?_
    refine z_iadd hC dX1_step_22 ?_
    refine z_puti (ws' := wE J h0 h1 h2 (updZ E.1 10 ((E.1 10) + 1), E.2.1, E.2.2)) hC zkX1 iX1_step_X1 0 rfl 10 (by decide) kX1_step_1 rfl rfl rfl rfl rfl rfl dX1_step_23 rfl ?_
    refine z_goto (tgt := 39) hC dX1_step_26 (by decide) ?_
    refine z_aload_n hC dX1_step_39 rfl 1 rfl ?_
    refine z_aload_n hC dX1_step_40 rfl 1 rfl ?_
    refine z_geti hC zkX1 iX1_step_X1 0 rfl 3 (by decide) kX1_step_3 rfl rfl dX1_step_41 ?_
    refine z_int (y := iI (E.1 3)) hC (rfl) ?_
    refine z_iload_n hC dX1_step_44 rfl 0 rfl ?_
    refine z_iadd hC dX1_step_45 ?_
    refine z_aload_n hC dX1_step_46 rfl 1 rfl ?_
    refine z_iconst hC dX1_step_47 ?_
    refine z_callV (wr := []) (av := [.int (iI 1)]) (st := [.int (iI ((E.1 3) + 1)), .ref h0]) hC (t_X1_setting l D J h0 h1 h2 (updZ E.1 10 ((E.1 10) + 1), E.2.1, E.2.2) 1 (by decide)) gX1_step_X1_setting rfl 1 (by decide +kernel) ⟨Nat.le_of_ble_eq_true rfl, Nat.le_of_ble_eq_true rfl⟩ ⟨Nat.le_of_ble_eq_true rfl, Nat.le_of_ble_eq_true rfl⟩ [0, 1, 2] [] rfl rfl rfl (by decide) rfl 0 rfl rfl rfl rfl rfl (Nat.le_of_ble_eq_true rfl) dX1_step_48 (fun _ _ => ?_)
    refine z_ws (ws' := wE J h0 h1 h2 (updZ E.1 10 ((E.1 10) + 1), E.2.1, E.2.2)) rfl ?_
    refine z_st (st' := [.int (iI (E.2.1 1)), .int (iI ((E.1 3) + 1)), .ref h0]) rfl ?_
    refine z_callS (wr := [cO 0 h0 [some h1, some h2, none, none, none, none, none, none, none, none, none, none, none, none, none, none] (updZ E.1 10 ((E.1 10) + 1)), cI (J 0) h1 5 E.2.1, cI (J 0) h2 200 E.2.2]) (av := [.int (iI ((E.1 3) + 1)), .int (iI (E.2.1 1))]) (st := [.ref h0]) hC (t_X1_leftOver l D J ((E.1 3) + 1) (E.2.1 1) ⟨by omega, by omega⟩ ⟨by omega, by omega⟩) gX1_step_X1_leftOver rfl 2 (by decide +kernel) ⟨Nat.le_of_ble_eq_true rfl, Nat.le_of_ble_eq_true rfl⟩ ⟨Nat.le_of_ble_eq_true rfl, Nat.le_of_ble_eq_true rfl⟩ [] [0, 1, 2] rfl rfl rfl (by decide) rfl rfl rfl (Nat.le_of_ble_eq_true rfl) dX1_step_51 (fun _ _ => ?_)
    refine z_ws (ws' := wE J h0 h1 h2 (updZ E.1 10 ((E.1 10) + 1), E.2.1, E.2.2)) rfl ?_
    refine z_st (st' := [.int (iI (leftO ((E.1 3) + 1) (E.2.1 1))), .ref h0]) rfl ?_
    refine z_puti (ws' := wE J h0 h1 h2 (updZ (updZ E.1 10 ((E.1 10) + 1)) 3 (leftO ((E.1 3) + 1) (E.2.1 1)), E.2.1, E.2.2)) hC zkX1 iX1_step_X1 0 rfl 3 (by decide) kX1_step_3 rfl rfl rfl rfl rfl rfl dX1_step_54 rfl ?_
    refine z_aload_n hC dX1_step_57 rfl 1 rfl ?_
    refine z_aload_n hC dX1_step_58 rfl 1 rfl ?_
    refine z_geti hC zkX1 iX1_step_X1 0 rfl 4 (by decide) kX1_step_4 rfl rfl dX1_step_59 ?_
    refine z_int (y := iI (E.1 4)) hC (rfl) ?_
    refine z_iload_n hC dX1_step_62 rfl 0 rfl ?_
    refine z_iadd hC dX1_step_63 ?_
    refine z_aload_n hC dX1_step_64 rfl 1 rfl ?_
    refine z_iconst hC dX1_step_65 ?_
    refine z_callV (wr := []) (av := [.int (iI 0)]) (st := [.int (iI ((E.1 4) + 1)), .ref h0]) hC (t_X1_setting l D J h0 h1 h2 (updZ (updZ E.1 10 ((E.1 10) + 1)) 3 (leftO ((E.1 3) + 1) (E.2.1 1)), E.2.1, E.2.2) 0 (by decide)) gX1_step_X1_setting rfl 1 (by decide +kernel) ⟨Nat.le_of_ble_eq_true rfl, Nat.le_of_ble_eq_true rfl⟩ ⟨Nat.le_of_ble_eq_true rfl, Nat.le_of_ble_eq_true rfl⟩ [0, 1, 2] [] rfl rfl rfl (by decide) rfl 0 rfl rfl rfl rfl rfl (Nat.le_of_ble_eq_true rfl) dX1_step_66 (fun _ _ => ?_)
    refine z_ws (ws' := wE J h0 h1 h2 (updZ (updZ E.1 10 ((E.1 10) + 1)) 3 (leftO ((E.1 3) + 1) (E.2.1 1)), E.2.1, E.2.2)) rfl ?_
    refine z_st (st' := [.int (iI (E.2.1 0)), .int (iI ((E.1 4) + 1)), .ref h0]) rfl ?_
    refine z_callS (wr := [cO 0 h0 [some h1, some h2, none, none, none, none, none, none, none, none, none, none, none, none, none, none] (updZ (updZ E.1 10 ((E.1 10) + 1)) 3 (leftO ((E.1 3) + 1) (E.2.1 1))), cI (J 0) h1 5 E.2.1, cI (J 0) h2 200 E.2.2]) (av := [.int (iI ((E.1 4) + 1)), .int (iI (E.2.1 0))]) (st := [.ref h0]) hC (t_X1_leftOver l D J ((E.1 4) + 1) (E.2.1 0) ⟨by omega, by omega⟩ ⟨by omega, by omega⟩) gX1_step_X1_leftOver rfl 2 (by decide +kernel) ⟨Nat.le_of_ble_eq_true rfl, Nat.le_of_ble_eq_true rfl⟩ ⟨Nat.le_of_ble_eq_true rfl, Nat.le_of_ble_eq_true rfl⟩ [] [0, 1, 2] rfl rfl rfl (by decide) rfl rfl rfl (Nat.le_of_ble_eq_true rfl) dX1_step_69 (fun _ _ => ?_)
    refine z_ws (ws' := wE J h0 h1 h2 (updZ (updZ E.1 10 ((E.1 10) + 1)) 3 (leftO ((E.1 3) + 1) (E.2.1 1)), E.2.1, E.2.2)) rfl ?_
    refine z_st (st' := [.int (iI (leftO ((E.1 4) + 1) (E.2.1 0))), .ref h0]) rfl ?_
    refine z_puti (ws' := wE J h0 h1 h2 (updZ (updZ (updZ E.1 10 ((E.1 10) + 1)) 3 (leftO ((E.1 3) + 1) (E.2.1 1))) 4 (leftO ((E.1 4) + 1) (E.2.1 0)), E.2.1, E.2.2)) hC zkX1 iX1_step_X1 0 rfl 4 (by decide) kX1_step_4 rfl rfl rfl rfl rfl rfl dX1_step_72 rfl ?_
    refine z_aload_n hC dX1_step_75 rfl 1 rfl ?_
    refine z_iload_n hC dX1_step_76 rfl 2 rfl ?_
    refine z_aload_n hC dX1_step_77 rfl 1 rfl ?_
    refine z_geti hC zkX1 iX1_step_X1 0 rfl 9 (by decide) kX1_step_5 rfl rfl dX1_step_78 ?_
    refine z_int (y := iI (E.1 9)) hC (rfl) ?_
    refine z_icmp_ne (tgt := 96) hC dX1_step_81 (by decide) (by unfold inR; omega) (by unfold inR; omega) (fun c_81_3 => ?_) (fun c_81_3 => ?_)
    · refine z_iconst hC dX1_step_96 ?_
      refine z_puti (ws' := wE J h0 h1 h2 (updZ (updZ (updZ (updZ E.1 10 ((E.1 10) + 1)) 3 (leftO ((E.1 3) + 1) (E.2.1 1))) 4 (leftO ((E.1 4) + 1) (E.2.1 0))) 15 0, E.2.1, E.2.2)) hC zkX1 iX1_step_X1 0 rfl 15 (by decide) kX1_step_8 rfl rfl rfl rfl rfl rfl dX1_step_97 rfl ?_
      refine z_aload_n hC dX1_step_100 rfl 1 rfl ?_
      refine z_iload_n hC dX1_step_101 rfl 2 rfl ?_
      refine z_puti (ws' := wE J h0 h1 h2 (updZ (updZ (updZ (updZ (updZ E.1 10 ((E.1 10) + 1)) 3 (leftO ((E.1 3) + 1) (E.2.1 1))) 4 (leftO ((E.1 4) + 1) (E.2.1 0))) 15 0) 9 w0, E.2.1, E.2.2)) hC zkX1 iX1_step_X1 0 rfl 9 (by decide) kX1_step_5 rfl rfl rfl rfl rfl rfl dX1_step_102 rfl ?_
      refine z_aload_n hC dX1_step_105 rfl 1 rfl ?_
      refine z_aload_n hC dX1_step_106 rfl 1 rfl ?_
      refine z_geti hC zkX1 iX1_step_X1 0 rfl 2 (by decide) kX1_step_6 rfl rfl dX1_step_107 ?_
      refine z_int (y := iI (E.1 2)) hC (rfl) ?_
      refine z_puti (ws' := wE J h0 h1 h2 (updZ (updZ (updZ (updZ (updZ (updZ E.1 10 ((E.1 10) + 1)) 3 (leftO ((E.1 3) + 1) (E.2.1 1))) 4 (leftO ((E.1 4) + 1) (E.2.1 0))) 15 0) 9 w0) 14 (E.1 2), E.2.1, E.2.2)) hC zkX1 iX1_step_X1 0 rfl 14 (by decide) kX1_step_7 rfl rfl rfl rfl rfl rfl dX1_step_110 rfl ?_
      exact z_vret hC hr () trivial rfl (congrArg (wE J h0 h1 h2) (by unfold cStep; (repeat' split) <;> first | rfl | omega)) dX1_step_113
    · refine z_aload_n hC dX1_step_84 rfl 1 rfl ?_
      refine z_geti hC zkX1 iX1_step_X1 0 rfl 2 (by decide) kX1_step_6 rfl rfl dX1_step_85 ?_
      refine z_int (y := iI (E.1 2)) hC (rfl) ?_
      refine z_aload_n hC dX1_step_88 rfl 1 rfl ?_
      refine z_geti hC zkX1 iX1_step_X1 0 rfl 14 (by decide) kX1_step_7 rfl rfl dX1_step_89 ?_
      refine z_int (y := iI (E.1 14)) hC (rfl) ?_
      refine z_isub hC dX1_step_92 ?_
      refine z_goto (tgt := 97) hC dX1_step_93 (by decide) ?_
      refine z_puti (ws' := wE J h0 h1 h2 (updZ (updZ (updZ (updZ E.1 10 ((E.1 10) + 1)) 3 (leftO ((E.1 3) + 1) (E.2.1 1))) 4 (leftO ((E.1 4) + 1) (E.2.1 0))) 15 ((E.1 2) - (E.1 14)), E.2.1, E.2.2)) hC zkX1 iX1_step_X1 0 rfl 15 (by decide) kX1_step_8 rfl rfl rfl rfl rfl rfl dX1_step_97 rfl ?_
      refine z_aload_n hC dX1_step_100 rfl 1 rfl ?_
      refine z_iload_n hC dX1_step_101 rfl 2 rfl ?_
      refine z_puti (ws' := wE J h0 h1 h2 (updZ (updZ (updZ (updZ (updZ E.1 10 ((E.1 10) + 1)) 3 (leftO ((E.1 3) + 1) (E.2.1 1))) 4 (leftO ((E.1 4) + 1) (E.2.1 0))) 15 ((E.1 2) - (E.1 14))) 9 w0, E.2.1, E.2.2)) hC zkX1 iX1_step_X1 0 rfl 9 (by decide) kX1_step_5 rfl rfl rfl rfl rfl rfl dX1_step_102 rfl ?_
      refine z_aload_n hC dX1_step_105 rfl 1 rfl ?_
      refine z_aload_n hC dX1_step_106 rfl 1 rfl ?_
      refine z_geti hC zkX1 iX1_step_X1 0 rfl 2 (by decide) kX1_step_6 rfl rfl dX1_step_107 ?_
      refine z_int (y := iI (E.1 2)) hC (rfl) ?_
      refine z_puti (ws' := wE J h0 h1 h2 (updZ (updZ (updZ (updZ (updZ (updZ E.1 10 ((E.1 10) + 1)) 3 (leftO ((E.1 3) + 1) (E.2.1 1))) 4 (leftO ((E.1 4) + 1) (E.2.1 0))) 15 ((E.1 2) - (E.1 14))) 9 w0) 14 (E.1 2), E.2.1, E.2.2)) hC zkX1 iX1_step_X1 0 rfl 14 (by decide) kX1_step_7 rfl rfl rfl rfl rfl rfl dX1_step_110 rfl ?_
      exact z_vret hC hr () trivial rfl (congrArg (wE J h0 h1 h2) (by unfold cStep; (repeat' split) <;> first | rfl | omega)) dX1_step_113
set_option maxRecDepth 20000 in
theorem iX1_meetIndex_X1 : ∀ w ∈ u_ws RX1 TX1 16, w ∈ wsX1_meetIndex := zm_places _ [10, 11, 12, 13, 14, 15, 16, 17, 18, 19, 20, 21, 22, 23, 24, 25] (by decide +kernel)
theorem kX1_meetIndex_1 : Cond.fieldLink RX1 34 "StepPairs$Encoder" "place" "I" ∈ wsX1_meetIndex := List.mem_of_getElem? (i := 1) rfl
theorem kX1_meetIndex_3 : Cond.fieldLink RX1 31 "StepPairs$Encoder" "count" "I" ∈ wsX1_meetIndex := List.mem_of_getElem? (i := 3) rfl
theorem kX1_meetIndex_2 : Cond.fieldLink RX1 61 "StepPairs$Encoder" "slips" "I" ∈ wsX1_meetIndex := List.mem_of_getElem? (i := 2) rfl
abbrev rmX1_meetIndex : Room := { frames := 1, cells := 0, slots := 0, locals := 21 }
set_option maxHeartbeats 4000000 in
set_option maxRecDepth 100000 in
theorem t_X1_meetIndex (l : Launch) (D : va_G) (J : Nat → ClassId) (h0 h1 h2 : Nat) (E : Enc) (hE4 : 0 ≤ E.1 4 ∧ E.1 4 < E.2.1 0) (hs0 : E.2.1 0 ≤ 400) (hs4 : 0 ≤ E.2.1 4 ∧ E.2.1 4 ≤ 2) : ZX l yX1_meetIndex wsX1_meetIndex rmX1_meetIndex D J [.ref h0] (wE J h0 h1 h2 E) none (wE J h0 h1 h2 (cMeet E.1 E.2.1, E.2.1, E.2.2)) := by
  refine z_met (cc := cX1_meetIndex) (nL := 2) (ret := none) (own := RX1) (by decide) rfl rfl (Nat.le_of_ble_eq_true rfl) (fun p e s m args below meth c hC hr hin => ?_)
  refine z_lv0 (lv' := [(0, .ref h0)]) rfl ?_
  refine z_aload_n hC dX1_meetIndex_0 rfl 0 rfl ?_
  refine z_iconst hC dX1_meetIndex_1 ?_
  refine z_callV (wr := []) (av := [.int (iI 4)]) (st := []) hC (t_X1_setting l D J h0 h1 h2 E 4 (by decide)) gX1_meetIndex_X1_setting rfl 1 (by decide +kernel) ⟨Nat.le_of_ble_eq_true rfl, Nat.le_of_ble_eq_true rfl⟩ ⟨Nat.le_of_ble_eq_true rfl, Nat.le_of_ble_eq_true rfl⟩ [0, 1, 2] [] rfl rfl rfl (by decide) rfl 0 rfl rfl rfl rfl rfl (Nat.le_of_ble_eq_true rfl) dX1_meetIndex_2 (fun _ _ => ?_)
  refine z_ws (ws' := wE J h0 h1 h2 E) rfl ?_
  refine z_st (st' := [.int (iI (E.2.1 4))]) rfl ?_
  refine z_istore_n (lv' := [(1, .int (iI (E.2.1 4))), (0, .ref h0)]) hC dX1_meetIndex_5 rfl (by decide) rfl ?_
  refine z_iload_n hC dX1_meetIndex_6 rfl 0 rfl ?_
  refine z_iconst hC dX1_meetIndex_7 ?_
  refine z_icmp_ne (tgt := 33) hC dX1_meetIndex_8 (by decide) (by unfold inR; omega) ⟨by decide, by decide⟩ (fun c_8_1 => ?_) (fun c_8_1 => ?_)
  · refine z_iload_n hC dX1_meetIndex_33 rfl 0 rfl ?_
    refine z_iconst hC dX1_meetIndex_34 ?_
    refine z_icmp_ne (tgt := 48) hC dX1_meetIndex_35 (by decide) (by unfold inR; omega) ⟨by decide, by decide⟩ (fun c_35_2 => ?_) (fun c_35_2 => ?_)
    · exact z_vret hC hr () trivial rfl (congrArg (wE J h0 h1 h2) (by unfold cMeet; (repeat' split) <;> first | rfl | omega)) dX1_meetIndex_48
    · refine z_aload_n hC dX1_meetIndex_38 rfl 1 rfl ?_
      refine z_iconst hC dX1_meetIndex_39 ?_
      refine z_puti (ws' := wE J h0 h1 h2 (updZ E.1 4 0, E.2.1, E.2.2)) hC zkX1 iX1_meetIndex_X1 0 rfl 4 (by decide) kX1_meetIndex_1 rfl rfl rfl rfl rfl rfl dX1_meetIndex_40 rfl ?_
      refine z_aload_n hC dX1_meetIndex_43 rfl 1 rfl ?_
      refine z_iconst hC dX1_meetIndex_44 ?_
      refine z_puti (ws' := wE J h0 h1 h2 (updZ (updZ E.1 4 0) 3 0, E.2.1, E.2.2)) hC zkX1 iX1_meetIndex_X1 0 rfl 3 (by decide) kX1_meetIndex_3 rfl rfl rfl rfl rfl rfl dX1_meetIndex_45 rfl ?_
      exact z_vret hC hr () trivial rfl (congrArg (wE J h0 h1 h2) (by unfold cMeet; (repeat' split) <;> first | rfl | omega)) dX1_meetIndex_48
  · refine z_aload_n hC dX1_meetIndex_11 rfl 1 rfl ?_
    refine z_geti hC zkX1 iX1_meetIndex_X1 0 rfl 4 (by decide) kX1_meetIndex_1 rfl rfl dX1_meetIndex_12 ?_
    refine z_if_eq (tgt := 33) hC dX1_meetIndex_15 (by decide) (by unfold inR; omega) (fun c_15_3 => ?_) (fun c_15_3 => ?_)
    · refine z_iload_n hC dX1_meetIndex_33 rfl 0 rfl ?_
      refine z_iconst hC dX1_meetIndex_34 ?_
      refine z_icmp_ne_t (tgt := 48) hC dX1_meetIndex_35 (by decide) (by unfold inR; omega) ⟨by decide, by decide⟩ (by omega) ?_
      exact z_vret hC hr () trivial rfl (congrArg (wE J h0 h1 h2) (by unfold cMeet; (repeat' split) <;> first | rfl | omega)) dX1_meetIndex_48
    · refine z_aload_n hC dX1_meetIndex_18 rfl 1 rfl ?_
      refine z_dup hC dX1_meetIndex_19 rfl ?_
      refine z_geti hC zkX1 iX1_meetIndex_X1 0 rfl 13 (by decide) kX1_meetIndex_2 rfl rfl dX1_meetIndex_20 ?_
      refine z_iconst hC dX1_meetIndex_23 ?_
      refine z_iadd hC dX1_meetIndex_24 ?_
      refine z_puti (ws' := wE J h0 h1 h2 (updZ E.1 13 ((E.1 13) + 1), E.2.1, E.2.2)) hC zkX1 iX1_meetIndex_X1 0 rfl 13 (by decide) kX1_meetIndex_2 rfl rfl rfl rfl rfl rfl dX1_meetIndex_25 rfl ?_
      refine z_aload_n hC dX1_meetIndex_28 rfl 1 rfl ?_
      refine z_iconst hC dX1_meetIndex_29 ?_
      refine z_puti (ws' := wE J h0 h1 h2 (updZ (updZ E.1 13 ((E.1 13) + 1)) 4 0, E.2.1, E.2.2)) hC zkX1 iX1_meetIndex_X1 0 rfl 4 (by decide) kX1_meetIndex_1 rfl rfl rfl rfl rfl rfl dX1_meetIndex_30 rfl ?_
      refine z_iload_n hC dX1_meetIndex_33 rfl 0 rfl ?_
      refine z_iconst hC dX1_meetIndex_34 ?_
      refine z_icmp_ne_t (tgt := 48) hC dX1_meetIndex_35 (by decide) (by unfold inR; omega) ⟨by decide, by decide⟩ (by omega) ?_
      exact z_vret hC hr () trivial rfl (congrArg (wE J h0 h1 h2) (by unfold cMeet; (repeat' split) <;> first | rfl | omega)) dX1_meetIndex_48
end
section
set_option maxRecDepth 20000 in
theorem iX1_tick_X1 : ∀ w ∈ u_ws RX1 TX1 16, w ∈ wsX1_tick := zm_places _ [44, 45, 46, 47, 48, 49, 50, 51, 52, 53, 54, 55, 56, 57, 58, 59] (by decide +kernel)
theorem kX1_tick_2 : Cond.fieldLink RX1 46 "StepPairs$Encoder" "run" "I" ∈ wsX1_tick := List.mem_of_getElem? (i := 2) rfl
theorem kX1_tick_3 : Cond.fieldLink RX1 40 "StepPairs$Encoder" "latestPair" "I" ∈ wsX1_tick := List.mem_of_getElem? (i := 3) rfl
theorem kX1_tick_1 : Cond.fieldLink RX1 43 "StepPairs$Encoder" "latestIndex" "I" ∈ wsX1_tick := List.mem_of_getElem? (i := 1) rfl
theorem kX1_tick_6 : Cond.fieldLink RX1 27 "StepPairs$Encoder" "ticks" "I" ∈ wsX1_tick := List.mem_of_getElem? (i := 6) rfl
theorem kX1_tick_7 : Cond.fieldLink RX1 15 "StepPairs$Encoder" "log" "[I" ∈ wsX1_tick := List.mem_of_getElem? (i := 7) rfl
theorem kX1_tick_4 : Cond.fieldLink RX1 37 "StepPairs$Encoder" "seen" "I" ∈ wsX1_tick := List.mem_of_getElem? (i := 4) rfl
theorem kX1_tick_5 : Cond.fieldLink RX1 58 "StepPairs$Encoder" "illegal" "I" ∈ wsX1_tick := List.mem_of_getElem? (i := 5) rfl
abbrev rmX1_tick : Room := { frames := 2, cells := 0, slots := 0, locals := 43 }
set_option maxHeartbeats 4000000 in
set_option maxRecDepth 100000 in
theorem t_X1_tick (l : Launch) (D : va_G) (J : Nat → ClassId) (h0 h1 h2 : Nat) (E : Enc) (q i0 : Int) (hI : InvE E) (hq : 0 ≤ q ∧ q ≤ 3) (hi : 0 ≤ i0 ∧ i0 ≤ 1) : ZX l yX1_tick wsX1_tick rmX1_tick D J [.ref h0, .int (iI q), .int (iI i0)] (wE J h0 h1 h2 E) (some (.int (iI (cDeed E.1 E.2.1 q)))) (wE J h0 h1 h2 (cTick E q i0)) := by
  obtain ⟨hE2, hE3, hE4, hE5, hE6, hE7, hE8, hE9, hE10, hE13, hE14, hE15, hs0, hs1, hs2, hs3, hs4, hg⟩ := id hI
  refine z_met (cc := cX1_tick) (nL := 6) (ret := (some .int)) (own := RX1) (by decide) rfl rfl (Nat.le_of_ble_eq_true rfl) (fun p e s m args below meth c hC hr hin => ?_)
  refine z_lv0 (lv' := [(0, .ref h0), (1, .int (iI q)), (2, .int (iI i0))]) rfl ?_
  refine z_aload_n hC dX1_tick_0 rfl 0 rfl ?_
  refine z_iload_n hC dX1_tick_1 rfl 1 rfl ?_
  refine z_callV (wr := []) (av := [.int (iI q)]) (st := []) hC (t_X1_deedBy l D J h0 h1 h2 E q hq hE5 hE6 ⟨by omega, by omega⟩ hs2) gX1_tick_X1_deedBy rfl 1 (by decide +kernel) ⟨Nat.le_of_ble_eq_true rfl, Nat.le_of_ble_eq_true rfl⟩ ⟨Nat.le_of_ble_eq_true rfl, Nat.le_of_ble_eq_true rfl⟩ [0, 1, 2] [] rfl rfl rfl (by decide) rfl 0 rfl rfl rfl rfl rfl (Nat.le_of_ble_eq_true rfl) dX1_tick_2 (fun _ _ => ?_)
  refine z_ws (ws' := wE J h0 h1 h2 E) rfl ?_
  refine z_st (st' := [.int (iI (cDeed E.1 E.2.1 q))]) rfl ?_
  generalize hd : cDeed E.1 E.2.1 q = d
  have hd03 : 0 ≤ d ∧ d ≤ 3 := hd ▸ cDeed_in _ _ _
  refine z_istore_n (lv' := [(3, .int (iI d)), (0, .ref h0), (1, .int (iI q)), (2, .int (iI i0))]) hC dX1_tick_5 rfl (by decide) rfl ?_
  refine z_join (α := Int) (fun v4 => v4 = if i0 = 1 then (if E.1 7 = 0 then 1 else 0) else 0) (fun v4 => wE J h0 h1 h2 E) (fun v4 => [(4, .int (iI v4)), (3, .int (iI d)), (0, .ref h0), (1, .int (iI q)), (2, .int (iI i0))]) 25 (fun v4 => []) (fun v4 hv4 => ?_) (fun K_1 => ?_)
  · change Z _ _ _ _ _ _ _ _ _ _ _ _ _ _ _ _ (wE J h0 h1 h2 E) ([(4, .int (iI v4)), (3, .int (iI d)), (0, .ref h0), (1, .int (iI q)), (2, .int (iI i0))]) 25 ([])
    have hv01 : v4 = 0 ∨ v4 = 1 := by rw [hv4]; (repeat' split) <;> omega
    refine z_aload_n hC dX1_tick_25 rfl 2 rfl ?_
    refine z_aload_n hC dX1_tick_26 rfl 2 rfl ?_
    refine z_iload_n hC dX1_tick_27 rfl 3 rfl ?_
    refine z_callV (wr := []) (av := [.int (iI q)]) (st := [.ref h0]) hC (t_X1_runWith l D J h0 h1 h2 E q hq hE6) gX1_tick_X1_runWith rfl 1 (by decide +kernel) ⟨Nat.le_of_ble_eq_true rfl, Nat.le_of_ble_eq_true rfl⟩ ⟨Nat.le_of_ble_eq_true rfl, Nat.le_of_ble_eq_true rfl⟩ [0, 1, 2] [] rfl rfl rfl (by decide) rfl 0 rfl rfl rfl rfl rfl (Nat.le_of_ble_eq_true rfl) dX1_tick_28 (fun _ _ => ?_)
    refine z_ws (ws' := wE J h0 h1 h2 E) rfl ?_
    refine z_st (st' := [.int (iI (cRun E.1 q)), .ref h0]) rfl ?_
    refine z_puti (ws' := wE J h0 h1 h2 (updZ E.1 8 (cRun E.1 q), E.2.1, E.2.2)) hC zkX1 iX1_tick_X1 0 rfl 8 (by decide) kX1_tick_2 rfl rfl rfl rfl rfl rfl dX1_tick_31 rfl ?_
    refine z_aload_n hC dX1_tick_34 rfl 2 rfl ?_
    refine z_iload_n hC dX1_tick_35 rfl 3 rfl ?_
    refine z_puti (ws' := wE J h0 h1 h2 (updZ (updZ E.1 8 (cRun E.1 q)) 6 q, E.2.1, E.2.2)) hC zkX1 iX1_tick_X1 0 rfl 6 (by decide) kX1_tick_3 rfl rfl rfl rfl rfl rfl dX1_tick_36 rfl ?_
    refine z_aload_n hC dX1_tick_39 rfl 2 rfl ?_
    refine z_iload_n hC dX1_tick_40 rfl 4 rfl ?_
    refine z_puti (ws' := wE J h0 h1 h2 (updZ (updZ (updZ E.1 8 (cRun E.1 q)) 6 q) 7 i0, E.2.1, E.2.2)) hC zkX1 iX1_tick_X1 0 rfl 7 (by decide) kX1_tick_1 rfl rfl rfl rfl rfl rfl dX1_tick_41 rfl ?_
    refine z_join (α := Unit) (fun u => True) (fun u => wE J h0 h1 h2 (cTick1 E.1 E.2.1 q i0, E.2.1, E.2.2)) (fun u => [(4, .int (iI v4)), (3, .int (iI d)), (0, .ref h0), (1, .int (iI q)), (2, .int (iI i0))]) 83 (fun u => []) (fun u hu => ?_) (fun K_2 => ?_)
    · change Z _ _ _ _ _ _ _ _ _ _ _ _ _ _ _ _ (wE J h0 h1 h2 (cTick1 E.1 E.2.1 q i0, E.2.1, E.2.2)) ([(4, .int (iI v4)), (3, .int (iI d)), (0, .ref h0), (1, .int (iI q)), (2, .int (iI i0))]) 83 ([])
      refine z_iload hC dX1_tick_83 0 rfl ?_
      refine z_if_eq (tgt := 92) hC dX1_tick_85 (by decide) (by unfold inR; omega) (fun c_85_3 => ?_) (fun c_85_3 => ?_)
      · refine z_aload_n hC dX1_tick_92 rfl 2 rfl ?_
        refine z_geti hC zkX1 iX1_tick_X1 0 rfl 2 (by decide) kX1_tick_6 rfl rfl dX1_tick_93 ?_
        refine z_int (y := iI (E.1 2)) hC (congrArg iI (cTick1_2 _ _ _ _)) ?_
        refine z_sipush hC dX1_tick_96 (by decide) ?_
        refine z_irem hC dX1_tick_99 (by omega) (by omega) (by omega) (by omega) ?_
        refine z_istore (lv' := [(5, .int (iI ((E.1 2) % 200))), (4, .int (iI v4)), (3, .int (iI d)), (0, .ref h0), (1, .int (iI q)), (2, .int (iI i0))]) hC dX1_tick_100 (by decide) rfl ?_
        refine z_iload hC dX1_tick_102 0 rfl ?_
        refine z_if_lt_f (tgt := 132) hC dX1_tick_104 (by decide) (by unfold inR; omega) (by omega) ?_
        refine z_iload hC dX1_tick_107 0 rfl ?_
        refine z_sipush hC dX1_tick_109 (by decide) ?_
        refine z_icmp_ge_f (tgt := 132) hC dX1_tick_112 (by decide) (by unfold inR; omega) ⟨by decide, by decide⟩ (by omega) ?_
        refine z_aload_n hC dX1_tick_115 rfl 3 rfl ?_
        refine z_getr hC zkX1 iX1_tick_X1 0 rfl 1 (by decide) kX1_tick_7 rfl rfl dX1_tick_116 ?_
        refine z_iload hC dX1_tick_119 0 rfl ?_
        refine z_iload_n hC dX1_tick_121 rfl 4 rfl ?_
        refine z_iconst hC dX1_tick_122 ?_
        refine z_iload_n hC dX1_tick_123 rfl 5 rfl ?_
        refine z_imul hC dX1_tick_124 ?_
        refine z_iadd hC dX1_tick_125 ?_
        refine z_bipush hC dX1_tick_126 (by decide) ?_
        refine z_iload_n hC dX1_tick_128 rfl 2 rfl ?_
        refine z_imul hC dX1_tick_129 ?_
        refine z_iadd hC dX1_tick_130 ?_
        refine z_iast (ws' := wE J h0 h1 h2 (cTick1 E.1 E.2.1 q i0, E.2.1, updZ E.2.2 (Int.toNat ((E.1 2) % 200)) ((q + (4 * i0)) + (8 * d)))) hC 2 rfl 0 rfl (Int.toNat ((E.1 2) % 200)) (Int.toNat_of_nonneg (by omega)).symm (by omega) (by decide) dX1_tick_131 rfl ?_
        refine z_aload_n hC dX1_tick_132 rfl 3 rfl ?_
        refine z_dup hC dX1_tick_133 rfl ?_
        refine z_geti hC zkX1 iX1_tick_X1 0 rfl 2 (by decide) kX1_tick_6 rfl rfl dX1_tick_134 ?_
        refine z_int (y := iI (E.1 2)) hC (congrArg iI (cTick1_2 _ _ _ _)) ?_
        refine z_iconst hC dX1_tick_137 ?_
        refine z_iadd hC dX1_tick_138 ?_
        refine z_puti (ws' := wE J h0 h1 h2 (updZ (cTick1 E.1 E.2.1 q i0) 2 ((E.1 2) + 1), E.2.1, updZ E.2.2 (Int.toNat ((E.1 2) % 200)) ((q + (4 * i0)) + (8 * d)))) hC zkX1 iX1_tick_X1 0 rfl 2 (by decide) kX1_tick_6 rfl rfl rfl rfl rfl rfl dX1_tick_139 rfl ?_
        refine z_iload_n hC dX1_tick_142 rfl 2 rfl ?_
        exact z_iret hC hr rfl () trivial (rfl) (congrArg (wE J h0 h1 h2) (by unfold cTick cTick2; simp only [hd]; (repeat' split) <;> first | rfl | omega)) dX1_tick_143
      · refine z_aload_n hC dX1_tick_88 rfl 2 rfl ?_
        refine z_callV (wr := []) (av := []) (st := []) hC (t_X1_meetIndex l D J h0 h1 h2 (cTick1 E.1 E.2.1 q i0, E.2.1, E.2.2)  (cTick1_4 _ _ _ _ hE4) hs0.2 hs4) gX1_tick_X1_meetIndex rfl 0 (by decide +kernel) ⟨Nat.le_of_ble_eq_true rfl, Nat.le_of_ble_eq_true rfl⟩ ⟨Nat.le_of_ble_eq_true rfl, Nat.le_of_ble_eq_true rfl⟩ [0, 1, 2] [] rfl rfl rfl (by decide) rfl 0 rfl rfl rfl rfl rfl (Nat.le_of_ble_eq_true rfl) dX1_tick_89 (fun _ _ => ?_)
        refine z_ws (ws' := wE J h0 h1 h2 (cMeet (cTick1 E.1 E.2.1 q i0) E.2.1, E.2.1, E.2.2)) rfl ?_
        refine z_st (st' := []) rfl ?_
        refine z_aload_n hC dX1_tick_92 rfl 2 rfl ?_
        refine z_geti hC zkX1 iX1_tick_X1 0 rfl 2 (by decide) kX1_tick_6 rfl rfl dX1_tick_93 ?_
        refine z_int (y := iI (E.1 2)) hC (congrArg iI ((cMeet_2 _ _).trans (cTick1_2 _ _ _ _))) ?_
        refine z_sipush hC dX1_tick_96 (by decide) ?_
        refine z_irem hC dX1_tick_99 (by omega) (by omega) (by omega) (by omega) ?_
        refine z_istore (lv' := [(5, .int (iI ((E.1 2) % 200))), (4, .int (iI v4)), (3, .int (iI d)), (0, .ref h0), (1, .int (iI q)), (2, .int (iI i0))]) hC dX1_tick_100 (by decide) rfl ?_
        refine z_iload hC dX1_tick_102 0 rfl ?_
        refine z_if_lt_f (tgt := 132) hC dX1_tick_104 (by decide) (by unfold inR; omega) (by omega) ?_
        refine z_iload hC dX1_tick_107 0 rfl ?_
        refine z_sipush hC dX1_tick_109 (by decide) ?_
        refine z_icmp_ge_f (tgt := 132) hC dX1_tick_112 (by decide) (by unfold inR; omega) ⟨by decide, by decide⟩ (by omega) ?_
        refine z_aload_n hC dX1_tick_115 rfl 3 rfl ?_
        refine z_getr hC zkX1 iX1_tick_X1 0 rfl 1 (by decide) kX1_tick_7 rfl rfl dX1_tick_116 ?_
        refine z_iload hC dX1_tick_119 0 rfl ?_
        refine z_iload_n hC dX1_tick_121 rfl 4 rfl ?_
        refine z_iconst hC dX1_tick_122 ?_
        refine z_iload_n hC dX1_tick_123 rfl 5 rfl ?_
        refine z_imul hC dX1_tick_124 ?_
        refine z_iadd hC dX1_tick_125 ?_
        refine z_bipush hC dX1_tick_126 (by decide) ?_
        refine z_iload_n hC dX1_tick_128 rfl 2 rfl ?_
        refine z_imul hC dX1_tick_129 ?_
        refine z_iadd hC dX1_tick_130 ?_
        refine z_iast (ws' := wE J h0 h1 h2 (cMeet (cTick1 E.1 E.2.1 q i0) E.2.1, E.2.1, updZ E.2.2 (Int.toNat ((E.1 2) % 200)) ((q + (4 * i0)) + (8 * d)))) hC 2 rfl 0 rfl (Int.toNat ((E.1 2) % 200)) (Int.toNat_of_nonneg (by omega)).symm (by omega) (by decide) dX1_tick_131 rfl ?_
        refine z_aload_n hC dX1_tick_132 rfl 3 rfl ?_
        refine z_dup hC dX1_tick_133 rfl ?_
        refine z_geti hC zkX1 iX1_tick_X1 0 rfl 2 (by decide) kX1_tick_6 rfl rfl dX1_tick_134 ?_
        refine z_int (y := iI (E.1 2)) hC (congrArg iI ((cMeet_2 _ _).trans (cTick1_2 _ _ _ _))) ?_
        refine z_iconst hC dX1_tick_137 ?_
        refine z_iadd hC dX1_tick_138 ?_
        refine z_puti (ws' := wE J h0 h1 h2 (updZ (cMeet (cTick1 E.1 E.2.1 q i0) E.2.1) 2 ((E.1 2) + 1), E.2.1, updZ E.2.2 (Int.toNat ((E.1 2) % 200)) ((q + (4 * i0)) + (8 * d)))) hC zkX1 iX1_tick_X1 0 rfl 2 (by decide) kX1_tick_6 rfl rfl rfl rfl rfl rfl dX1_tick_139 rfl ?_
        refine z_iload_n hC dX1_tick_142 rfl 2 rfl ?_
        exact z_iret hC hr rfl () trivial (rfl) (congrArg (wE J h0 h1 h2) (by unfold cTick cTick2; simp only [hd]; (repeat' split) <;> first | rfl | omega)) dX1_tick_143
    · skip
      refine z_iload_n hC dX1_tick_44 rfl 1 rfl ?_
      refine z_if_eq (tgt := 53) hC dX1_tick_45 (by decide) (by unfold inR; omega) (fun c_45_4 => ?_) (fun c_45_4 => ?_)
      · refine z_iload_n hC dX1_tick_53 rfl 1 rfl ?_
        refine z_iconst hC dX1_tick_54 ?_
        refine z_icmp_ne_t (tgt := 68) hC dX1_tick_55 (by decide) (by unfold inR; omega) ⟨by decide, by decide⟩ (by omega) ?_
        refine z_iload_n hC dX1_tick_68 rfl 1 rfl ?_
        refine z_iconst hC dX1_tick_69 ?_
        refine z_icmp_eq_f (tgt := 78) hC dX1_tick_70 (by decide) (by unfold inR; omega) ⟨by decide, by decide⟩ (by omega) ?_
        refine z_iload_n hC dX1_tick_73 rfl 1 rfl ?_
        refine z_iconst hC dX1_tick_74 ?_
        refine z_icmp_ne_t (tgt := 83) hC dX1_tick_75 (by decide) (by unfold inR; omega) ⟨by decide, by decide⟩ (by omega) ?_
        refine z_ws (ws' := wE J h0 h1 h2 (cTick1 E.1 E.2.1 q i0, E.2.1, E.2.2)) (congrArg (wE J h0 h1 h2) (Prod.ext (by unfold cTick1 cTick0; simp only [hd]; (repeat' split) <;> first | rfl | omega) rfl)) ?_
        refine z_lv (lv' := _) [0, 1, 2, 3, 4] rfl ?_
        exact K_2 () trivial
      · refine z_aload_n hC dX1_tick_48 rfl 2 rfl ?_
        refine z_iload_n hC dX1_tick_49 rfl 3 rfl ?_
        refine z_puti (ws' := wE J h0 h1 h2 (updZ (updZ (updZ (updZ E.1 8 (cRun E.1 q)) 6 q) 7 i0) 5 q, E.2.1, E.2.2)) hC zkX1 iX1_tick_X1 0 rfl 5 (by decide) kX1_tick_4 rfl rfl rfl rfl rfl rfl dX1_tick_50 rfl ?_
        refine z_iload_n hC dX1_tick_53 rfl 1 rfl ?_
        refine z_iconst hC dX1_tick_54 ?_
        refine z_icmp_ne (tgt := 68) hC dX1_tick_55 (by decide) (by unfold inR; omega) ⟨by decide, by decide⟩ (fun c_55_5 => ?_) (fun c_55_5 => ?_)
        · refine z_iload_n hC dX1_tick_68 rfl 1 rfl ?_
          refine z_iconst hC dX1_tick_69 ?_
          refine z_icmp_eq (tgt := 78) hC dX1_tick_70 (by decide) (by unfold inR; omega) ⟨by decide, by decide⟩ (fun c_70_6 => ?_) (fun c_70_6 => ?_)
          · refine z_aload_n hC dX1_tick_78 rfl 2 rfl ?_
            refine z_iload_n hC dX1_tick_79 rfl 1 rfl ?_
            refine z_callV (wr := []) (av := [.int (iI d)]) (st := []) hC (t_X1_step l D J h0 h1 h2 (updZ (updZ (updZ (updZ E.1 8 (cRun E.1 q)) 6 q) 7 i0) 5 q, E.2.1, E.2.2) d (by omega) hE2 hE3 hE4 hE9 hs0 hs1) gX1_tick_X1_step rfl 1 (by decide +kernel) ⟨Nat.le_of_ble_eq_true rfl, Nat.le_of_ble_eq_true rfl⟩ ⟨Nat.le_of_ble_eq_true rfl, Nat.le_of_ble_eq_true rfl⟩ [0, 1, 2] [] rfl rfl rfl (by decide) rfl 0 rfl rfl rfl rfl rfl (Nat.le_of_ble_eq_true rfl) dX1_tick_80 (fun _ _ => ?_)
            refine z_ws (ws' := wE J h0 h1 h2 (cStep (updZ (updZ (updZ (updZ E.1 8 (cRun E.1 q)) 6 q) 7 i0) 5 q) E.2.1 d, E.2.1, E.2.2)) rfl ?_
            refine z_st (st' := []) rfl ?_
            refine z_ws (ws' := wE J h0 h1 h2 (cTick1 E.1 E.2.1 q i0, E.2.1, E.2.2)) (congrArg (wE J h0 h1 h2) (Prod.ext (by unfold cTick1 cTick0; simp only [hd]; (repeat' split) <;> first | rfl | omega) rfl)) ?_
            refine z_lv (lv' := _) [0, 1, 2, 3, 4] rfl ?_
            exact K_2 () trivial
          · refine z_iload_n hC dX1_tick_73 rfl 1 rfl ?_
            refine z_iconst hC dX1_tick_74 ?_
            refine z_icmp_ne (tgt := 83) hC dX1_tick_75 (by decide) (by unfold inR; omega) ⟨by decide, by decide⟩ (fun c_75_7 => ?_) (fun c_75_7 => ?_)
            · refine z_ws (ws' := wE J h0 h1 h2 (cTick1 E.1 E.2.1 q i0, E.2.1, E.2.2)) (congrArg (wE J h0 h1 h2) (Prod.ext (by unfold cTick1 cTick0; simp only [hd]; (repeat' split) <;> first | rfl | omega) rfl)) ?_
              refine z_lv (lv' := _) [0, 1, 2, 3, 4] rfl ?_
              exact K_2 () trivial
            · refine z_aload_n hC dX1_tick_78 rfl 2 rfl ?_
              refine z_iload_n hC dX1_tick_79 rfl 1 rfl ?_
              refine z_callV (wr := []) (av := [.int (iI d)]) (st := []) hC (t_X1_step l D J h0 h1 h2 (updZ (updZ (updZ (updZ E.1 8 (cRun E.1 q)) 6 q) 7 i0) 5 q, E.2.1, E.2.2) d (by omega) hE2 hE3 hE4 hE9 hs0 hs1) gX1_tick_X1_step rfl 1 (by decide +kernel) ⟨Nat.le_of_ble_eq_true rfl, Nat.le_of_ble_eq_true rfl⟩ ⟨Nat.le_of_ble_eq_true rfl, Nat.le_of_ble_eq_true rfl⟩ [0, 1, 2] [] rfl rfl rfl (by decide) rfl 0 rfl rfl rfl rfl rfl (Nat.le_of_ble_eq_true rfl) dX1_tick_80 (fun _ _ => ?_)
              refine z_ws (ws' := wE J h0 h1 h2 (cStep (updZ (updZ (updZ (updZ E.1 8 (cRun E.1 q)) 6 q) 7 i0) 5 q) E.2.1 d, E.2.1, E.2.2)) rfl ?_
              refine z_st (st' := []) rfl ?_
              refine z_ws (ws' := wE J h0 h1 h2 (cTick1 E.1 E.2.1 q i0, E.2.1, E.2.2)) (congrArg (wE J h0 h1 h2) (Prod.ext (by unfold cTick1 cTick0; simp only [hd]; (repeat' split) <;> first | rfl | omega) rfl)) ?_
              refine z_lv (lv' := _) [0, 1, 2, 3, 4] rfl ?_
              exact K_2 () trivial
        · refine z_aload_n hC dX1_tick_58 rfl 2 rfl ?_
          refine z_dup hC dX1_tick_59 rfl ?_
          refine z_geti hC zkX1 iX1_tick_X1 0 rfl 12 (by decide) kX1_tick_5 rfl rfl dX1_tick_60 ?_
          refine z_int (y := iI (E.1 12)) hC (rfl) ?_
          refine z_iconst hC dX1_tick_63 ?_
          refine z_iadd hC dX1_tick_64 ?_
          refine z_puti (ws' := wE J h0 h1 h2 (updZ (updZ (updZ (updZ (updZ E.1 8 (cRun E.1 q)) 6 q) 7 i0) 5 q) 12 ((E.1 12) + 1), E.2.1, E.2.2)) hC zkX1 iX1_tick_X1 0 rfl 12 (by decide) kX1_tick_5 rfl rfl rfl rfl rfl rfl dX1_tick_65 rfl ?_
          refine z_iload_n hC dX1_tick_68 rfl 1 rfl ?_
          refine z_iconst hC dX1_tick_69 ?_
          refine z_icmp_eq_f (tgt := 78) hC dX1_tick_70 (by decide) (by unfold inR; omega) ⟨by decide, by decide⟩ (by omega) ?_
          refine z_iload_n hC dX1_tick_73 rfl 1 rfl ?_
          refine z_iconst hC dX1_tick_74 ?_
          refine z_icmp_ne_t (tgt := 83) hC dX1_tick_75 (by decide) (by unfold inR; omega) ⟨by decide, by decide⟩ (by omega) ?_
          refine z_ws (ws' := wE J h0 h1 h2 (cTick1 E.1 E.2.1 q i0, E.2.1, E.2.2)) (congrArg (wE J h0 h1 h2) (Prod.ext (by unfold cTick1 cTick0; simp only [hd]; (repeat' split) <;> first | rfl | omega) rfl)) ?_
          refine z_lv (lv' := _) [0, 1, 2, 3, 4] rfl ?_
          exact K_2 () trivial
  · skip
    refine z_iload_n hC dX1_tick_6 rfl 3 rfl ?_
    refine z_iconst hC dX1_tick_7 ?_
    refine z_icmp_ne (tgt := 22) hC dX1_tick_8 (by decide) (by unfold inR; omega) ⟨by decide, by decide⟩ (fun c_8_8 => ?_) (fun c_8_8 => ?_)
    · refine z_iconst hC dX1_tick_22 ?_
      refine z_istore (lv' := [(4, .int (iI 0)), (3, .int (iI d)), (0, .ref h0), (1, .int (iI q)), (2, .int (iI i0))]) hC dX1_tick_23 (by decide) rfl ?_
      refine z_lv (lv' := _) [0, 1, 2, 3, 4] rfl ?_
      exact K_1 0 (by (repeat' split) <;> first | rfl | omega)
    · refine z_aload_n hC dX1_tick_11 rfl 1 rfl ?_
      refine z_geti hC zkX1 iX1_tick_X1 0 rfl 7 (by decide) kX1_tick_1 rfl rfl dX1_tick_12 ?_
      refine z_if_ne (tgt := 22) hC dX1_tick_15 (by decide) (by unfold inR; omega) (fun c_15_9 => ?_) (fun c_15_9 => ?_)
      · refine z_iconst hC dX1_tick_22 ?_
        refine z_istore (lv' := [(4, .int (iI 0)), (3, .int (iI d)), (0, .ref h0), (1, .int (iI q)), (2, .int (iI i0))]) hC dX1_tick_23 (by decide) rfl ?_
        refine z_lv (lv' := _) [0, 1, 2, 3, 4] rfl ?_
        exact K_1 0 (by (repeat' split) <;> first | rfl | omega)
      · refine z_iconst hC dX1_tick_18 ?_
        refine z_goto (tgt := 23) hC dX1_tick_19 (by decide) ?_
        refine z_istore (lv' := [(4, .int (iI 1)), (3, .int (iI d)), (0, .ref h0), (1, .int (iI q)), (2, .int (iI i0))]) hC dX1_tick_23 (by decide) rfl ?_
        refine z_lv (lv' := _) [0, 1, 2, 3, 4] rfl ?_
        exact K_1 1 (by (repeat' split) <;> first | rfl | omega)
end
section
/-! ===== what is true of every encoder stays true ===== -/
theorem cTick0_f (f s : Nat → Int) (p i : Int) : cTick0 f s p i 3 = f 3 ∧ cTick0 f s p i 9 = f 9 ∧ cTick0 f s p i 10 = f 10 ∧ cTick0 f s p i 11 = f 11 ∧ cTick0 f s p i 13 = f 13 ∧ cTick0 f s p i 14 = f 14 ∧ cTick0 f s p i 15 = f 15 ∧ cTick0 f s p i 8 = cRun f p ∧ cTick0 f s p i 6 = p ∧ cTick0 f s p i 7 = i ∧ cTick0 f s p i 5 = (if cDeed f s p = 0 then f 5 else p) ∧ cTick0 f s p i 12 = (if cDeed f s p = 3 then f 12 + 1 else f 12) ∧ cTick0 f s p i 2 = f 2 ∧ cTick0 f s p i 4 = f 4 := by
  unfold cTick0
  split
  · refine ⟨rfl, rfl, rfl, rfl, rfl, rfl, rfl, rfl, rfl, rfl, rfl, ?_, rfl, rfl⟩
    rw [if_neg (by omega)]; rfl
  · split
    · exact ⟨rfl, rfl, rfl, rfl, rfl, rfl, rfl, rfl, rfl, rfl, rfl, rfl, rfl, rfl⟩
    · exact ⟨rfl, rfl, rfl, rfl, rfl, rfl, rfl, rfl, rfl, rfl, rfl, rfl, rfl, rfl⟩
theorem cStep_f (f s : Nat → Int) (w : Int) : cStep f s w 2 = f 2 ∧ cStep f s w 3 = leftO (f 3 + (if w = 1 then 1 else -1)) (s 1) ∧ cStep f s w 4 = leftO (f 4 + (if w = 1 then 1 else -1)) (s 0) ∧ cStep f s w 5 = f 5 ∧ cStep f s w 6 = f 6 ∧ cStep f s w 7 = f 7 ∧ cStep f s w 8 = f 8 ∧ cStep f s w 9 = w ∧ cStep f s w 10 = (if w = 1 then f 10 + 1 else f 10) ∧ cStep f s w 11 = (if w = 1 then f 11 else f 11 + 1) ∧ cStep f s w 12 = f 12 ∧ cStep f s w 13 = f 13 ∧ cStep f s w 14 = f 2 ∧ cStep f s w 15 = (if w = f 9 then f 2 - f 14 else 0) := by
  unfold cStep
  refine ⟨?_, ?_, ?_, ?_, ?_, ?_, ?_, ?_, ?_, ?_, ?_, ?_, ?_, ?_⟩
  all_goals first | rfl | (split <;> rfl)
theorem cMeet_f (f s : Nat → Int) : cMeet f s 2 = f 2 ∧ cMeet f s 5 = f 5 ∧ cMeet f s 6 = f 6 ∧ cMeet f s 7 = f 7 ∧ cMeet f s 8 = f 8 ∧ cMeet f s 9 = f 9 ∧ cMeet f s 10 = f 10 ∧ cMeet f s 11 = f 11 ∧ cMeet f s 12 = f 12 ∧ cMeet f s 14 = f 14 ∧ cMeet f s 15 = f 15 ∧ (cMeet f s 3 = f 3 ∨ cMeet f s 3 = 0) ∧ (cMeet f s 4 = f 4 ∨ cMeet f s 4 = 0) ∧ (cMeet f s 13 = f 13 ∨ cMeet f s 13 = f 13 + 1) := by
  unfold cMeet
  repeat' split
  · exact ⟨rfl, rfl, rfl, rfl, rfl, rfl, rfl, rfl, rfl, rfl, rfl, Or.inl rfl, Or.inl rfl, Or.inl rfl⟩
  · exact ⟨rfl, rfl, rfl, rfl, rfl, rfl, rfl, rfl, rfl, rfl, rfl, Or.inl rfl, Or.inr rfl, Or.inr rfl⟩
  · exact ⟨rfl, rfl, rfl, rfl, rfl, rfl, rfl, rfl, rfl, rfl, rfl, Or.inr rfl, Or.inr rfl, Or.inl rfl⟩
  · exact ⟨rfl, rfl, rfl, rfl, rfl, rfl, rfl, rfl, rfl, rfl, rfl, Or.inl rfl, Or.inl rfl, Or.inl rfl⟩
/-- the numbers behind the deed of a tick -/
theorem cTick1_inv {f s : Nat → Int} {p i : Int} (hp : 0 ≤ p ∧ p ≤ 3) (hi : 0 ≤ i ∧ i ≤ 1)
    (h2 : 0 ≤ f 2 ∧ f 2 ≤ 99999) (h3 : 0 ≤ f 3 ∧ f 3 < s 1) (h4 : 0 ≤ f 4 ∧ f 4 < s 0) (h5 : 0 ≤ f 5 ∧ f 5 ≤ 3) (h8 : 0 ≤ f 8 ∧ f 8 ≤ f 2) (h9 : 0 ≤ f 9 ∧ f 9 ≤ 2)
    (h10 : 0 ≤ f 10 ∧ 0 ≤ f 11 ∧ 0 ≤ f 12 ∧ f 10 + f 11 + f 12 ≤ f 2) (h13 : 0 ≤ f 13 ∧ f 13 ≤ f 2) (h14 : 0 ≤ f 14 ∧ f 14 ≤ f 2 ∧ (f 9 = 0 ∨ f 14 < f 2)) (h15 : 0 ≤ f 15 ∧ f 15 ≤ f 2) (hs0 : 4 ≤ s 0 ∧ s 0 ≤ 400) (hs1 : 10 ≤ s 1 ∧ s 1 ≤ 9999) :
    ∀ F, F = cTick1 f s p i → F 2 = f 2 ∧ (0 ≤ F 3 ∧ F 3 < s 1) ∧ (0 ≤ F 4 ∧ F 4 < s 0) ∧ (0 ≤ F 5 ∧ F 5 ≤ 3) ∧ F 6 = p ∧ F 7 = i ∧ (0 ≤ F 8 ∧ F 8 ≤ f 2 + 1) ∧ (0 ≤ F 9 ∧ F 9 ≤ 2) ∧
      (0 ≤ F 10 ∧ 0 ≤ F 11 ∧ 0 ≤ F 12 ∧ F 10 + F 11 + F 12 ≤ f 2 + 1) ∧ F 13 = f 13 ∧ (0 ≤ F 14 ∧ F 14 ≤ f 2) ∧ (0 ≤ F 15 ∧ F 15 ≤ f 2) := by
  intro F hF
  obtain ⟨t3, t9, t10, t11, t13, t14, t15, t8, t6, t7, t5, t12, t2, t4⟩ := cTick0_f f s p i
  have hd := cDeed_in f s p
  have hr : 0 ≤ cRun f p ∧ cRun f p ≤ f 2 + 1 := by
    unfold cRun
    split <;> omega
  unfold cTick1 at hF
  generalize cTick0 f s p i = g at *
  generalize cDeed f s p = d at *
  split at hF
  · obtain ⟨u2, u3, u4, u5, u6, u7, u8, u9, u10, u11, u12, u13, u14, u15⟩ := cStep_f g s d
    rw [← hF] at u2 u3 u4 u5 u6 u7 u8 u9 u10 u11 u12 u13 u14 u15
    have l3 := leftO_in (x := g 3 + (if d = 1 then 1 else -1)) (b := s 1) (by omega)
    have l4 := leftO_in (x := g 4 + (if d = 1 then 1 else -1)) (b := s 0) (by omega)
    rw [← u3] at l3
    rw [← u4] at l4
    have e5 : F 5 = p := by rw [u5, t5, if_neg (by omega)]
    have e12 : F 12 = f 12 := by rw [u12, t12, if_neg (by omega)]
    have e10 : F 10 = f 10 + 1 := by rw [u10, if_pos (by omega), t10]
    have e11 : F 11 = f 11 := by rw [u11, if_pos (by omega), t11]
    refine ⟨by omega, l3, l4, by omega, by omega, by omega, by omega, by omega, by omega, by omega, by omega, ?_⟩
    rw [u15]
    split <;> omega
  · split at hF
    · obtain ⟨u2, u3, u4, u5, u6, u7, u8, u9, u10, u11, u12, u13, u14, u15⟩ := cStep_f g s d
      rw [← hF] at u2 u3 u4 u5 u6 u7 u8 u9 u10 u11 u12 u13 u14 u15
      have l3 := leftO_in (x := g 3 + (if d = 1 then 1 else -1)) (b := s 1) (by omega)
      have l4 := leftO_in (x := g 4 + (if d = 1 then 1 else -1)) (b := s 0) (by omega)
      rw [← u3] at l3
      rw [← u4] at l4
      have e5 : F 5 = p := by rw [u5, t5, if_neg (by omega)]
      have e12 : F 12 = f 12 := by rw [u12, t12, if_neg (by omega)]
      have e10 : F 10 = f 10 := by rw [u10, if_neg (by omega), t10]
      have e11 : F 11 = f 11 + 1 := by rw [u11, if_neg (by omega), t11]
      refine ⟨by omega, l3, l4, by omega, by omega, by omega, by omega, by omega, by omega, by omega, by omega, ?_⟩
      rw [u15]
      split <;> omega
    · rw [hF]
      have e5 : 0 ≤ g 5 ∧ g 5 ≤ 3 := by
        rw [t5]
        split <;> omega
      have e12 : 0 ≤ g 12 ∧ g 12 ≤ f 12 + 1 := by
        rw [t12]
        split <;> omega
      refine ⟨t2, by omega, by omega, e5, t6, t7, by omega, by omega, by omega, t13, by omega, by omega⟩
theorem tick_inv {E : Enc} {p i : Int} (hI : InvE E) (hp : 0 ≤ p ∧ p ≤ 3) (hi : 0 ≤ i ∧ i ≤ 1) (ht : E.1 2 < 99999) : InvE (cTick E p i) ∧ (cTick E p i).1 2 = E.1 2 + 1 ∧ (cTick E p i).2.1 = E.2.1 := by
  obtain ⟨h2, h3, h4, h5, h6, h7, h8, h9, h10, h13, h14, h15, hs0, hs1, hs2, hs3, hs4, hg⟩ := hI
  obtain ⟨u2, u3, u4, u5, u6, u7, u8, u9, u10, u13, u14, u15⟩ := cTick1_inv (f := E.1) (s := E.2.1) hp hi h2 h3 h4 h5 h8 h9 h10 h13 h14 h15 hs0 hs1 _ rfl
  obtain ⟨m2, m5, m6, m7, m8, m9, m10, m11, m12, m14, m15, m3, m4, m13⟩ := cMeet_f (cTick1 E.1 E.2.1 p i) E.2.1
  have hd := cDeed_in E.1 E.2.1 p
  refine ⟨?_, rfl, rfl⟩
  have key : ∀ F : Nat → Int, F = cTick2 E.1 E.2.1 p i → (F 3 = cTick1 E.1 E.2.1 p i 3 ∨ F 3 = 0) ∧ (F 4 = cTick1 E.1 E.2.1 p i 4 ∨ F 4 = 0) ∧ F 5 = cTick1 E.1 E.2.1 p i 5 ∧ F 6 = cTick1 E.1 E.2.1 p i 6 ∧ F 7 = cTick1 E.1 E.2.1 p i 7 ∧ F 8 = cTick1 E.1 E.2.1 p i 8 ∧ F 9 = cTick1 E.1 E.2.1 p i 9 ∧ F 10 = cTick1 E.1 E.2.1 p i 10 ∧ F 11 = cTick1 E.1 E.2.1 p i 11 ∧ F 12 = cTick1 E.1 E.2.1 p i 12 ∧ (F 13 = cTick1 E.1 E.2.1 p i 13 ∨ F 13 = cTick1 E.1 E.2.1 p i 13 + 1) ∧ F 14 = cTick1 E.1 E.2.1 p i 14 ∧ F 15 = cTick1 E.1 E.2.1 p i 15 := by
    intro F hF
    unfold cTick2 at hF
    split at hF
    · split at hF
      · rw [hF]; exact ⟨m3, m4, m5, m6, m7, m8, m9, m10, m11, m12, m13, m14, m15⟩
      · rw [hF]; exact ⟨Or.inl rfl, Or.inl rfl, rfl, rfl, rfl, rfl, rfl, rfl, rfl, rfl, Or.inl rfl, rfl, rfl⟩
    · rw [hF]; exact ⟨Or.inl rfl, Or.inl rfl, rfl, rfl, rfl, rfl, rfl, rfl, rfl, rfl, Or.inl rfl, rfl, rfl⟩
  obtain ⟨k3, k4, k5, k6, k7, k8, k9, k10, k11, k12, k13, k14, k15⟩ := key _ rfl
  generalize hF : cTick2 E.1 E.2.1 p i = F at k3 k4 k5 k6 k7 k8 k9 k10 k11 k12 k13 k14 k15
  generalize cTick1 E.1 E.2.1 p i = G at *
  have e : ∀ k, k ≠ 2 → (cTick E p i).1 k = F k := fun k hk => by
    show updZ (cTick2 E.1 E.2.1 p i) 2 _ k = _
    rw [hF, updZ_ne _ _ hk]
  unfold InvE
  rw [e 3 (by decide), e 4 (by decide), e 5 (by decide), e 6 (by decide), e 7 (by decide), e 8 (by decide), e 9 (by decide), e 10 (by decide), e 11 (by decide), e 12 (by decide), e 13 (by decide), e 14 (by decide), e 15 (by decide)]
  rw [show (cTick E p i).1 2 = E.1 2 + 1 from rfl, show (cTick E p i).2.1 = E.2.1 from rfl]
  refine ⟨by omega, by omega, by omega, by omega, by omega, by omega, by omega, by omega, by omega, by omega, by omega, by omega, hs0, hs1, hs2, hs3, hs4, fun j => ?_⟩
  show 0 ≤ updZ E.2.2 _ _ j ∧ updZ E.2.2 _ _ j ≤ 31
  unfold updZ
  split
  · omega
  · exact hg j
theorem ticks_inv {E : Enc} {p i : Int} (hI : InvE E) (hp : 0 ≤ p ∧ p ≤ 3) (hi : 0 ≤ i ∧ i ≤ 1) : ∀ n : Nat, E.1 2 + n ≤ 99999 → InvE (cTicks E p i n) ∧ (cTicks E p i n).1 2 = E.1 2 + n ∧ (cTicks E p i n).2.1 = E.2.1
  | 0, _ => ⟨hI, by show E.1 2 = E.1 2 + ((0 : Nat) : Int); omega, rfl⟩
  | n + 1, h => by
    obtain ⟨a, b, c⟩ := ticks_inv hI hp hi n (by omega)
    obtain ⟨a', b', c'⟩ := tick_inv a hp hi (by omega)
    exact ⟨a', by show (cTick (cTicks E p i n) p i).1 2 = _; rw [b', b]; omega, c'.trans c⟩
theorem pair_in {E : Enc} (w : Int) : 0 ≤ cPair E w ∧ cPair E w ≤ 3 := ordP_in (by omega)
theorem turns_inv {E : Enc} {w : Int} {F : Nat} (hI : InvE E) : ∀ n : Nat, E.1 2 + n * F ≤ 99999 → InvE (cTurns F w E n) ∧ (cTurns F w E n).1 2 = E.1 2 + n * F ∧ (cTurns F w E n).2.1 = E.2.1
  | 0, _ => ⟨hI, by show E.1 2 = E.1 2 + ((0 : Nat) : Int) * F; omega, rfl⟩
  | n + 1, h => by
    have e : ((n + 1 : Nat) : Int) * (F : Int) = n * F + F := by
      rw [Int.natCast_add, Int.add_mul]
      omega
    rw [e] at h
    have hF : (0 : Int) ≤ F := by omega
    obtain ⟨a, b, c⟩ := turns_inv (w := w) (F := F) hI n (by omega)
    obtain ⟨a', b', c'⟩ := ticks_inv a (pair_in w) (i := 0) ⟨by omega, by omega⟩ F (by omega)
    exact ⟨a', by show (cTicks (cTurns F w E n) _ 0 F).1 2 = _; rw [b', b, e]; omega, c'.trans c⟩
theorem rep_inv {E T : Enc} (hI : InvE E) (hT : InvE T) (h0 : T.1 2 = 0) : ∀ n : Nat, n ≤ 200 → InvE (cRep E T n) ∧ (cRep E T n).1 2 = n ∧ (cRep E T n).2.1 = T.2.1
  | 0, _ => ⟨hT, h0, rfl⟩
  | n + 1, h => by
    obtain ⟨a, b, c⟩ := rep_inv hI hT h0 n (by omega)
    have hg := hI.2.2.2.2.2.2.2.2.2.2.2.2.2.2.2.2.2
    have hq := hg (Int.toNat ((E.1 2 - 1 - (min (E.1 2) 200 - 1 - n)) % 200))
    obtain ⟨a', b', c'⟩ := tick_inv a (p := cEnt E.1 E.2.2 (min (E.1 2) 200 - 1 - n) % 4) (i := cEnt E.1 E.2.2 (min (E.1 2) 200 - 1 - n) / 2 ^ 2 % 2) (by omega) (by omega) (by omega)
    exact ⟨a', by show (cTick (cRep E T n) _ _).1 2 = _; rw [b', b]; omega, c'.trans c⟩
end
section
set_option maxRecDepth 20000 in
theorem iX1_logged_X1 : ∀ w ∈ u_ws RX1 TX1 16, w ∈ wsX1_logged := zm_places _ [6, 7, 8, 9, 10, 11, 12, 13, 14, 15, 16, 17, 18, 19, 20, 21] (by decide +kernel)
theorem kX1_logged_1 : Cond.fieldLink RX1 27 "StepPairs$Encoder" "ticks" "I" ∈ wsX1_logged := List.mem_of_getElem? (i := 1) rfl
theorem kX1_logged_2 : Cond.methodLink RX1 125 Lib.Math.min.name ∈ wsX1_logged := List.mem_of_getElem? (i := 2) rfl
theorem kX1_logged_3 : Cond.static Lib.Math.min.name ∈ wsX1_logged := List.mem_of_getElem? (i := 3) rfl
theorem kX1_logged_4 : Cond.initialized "java/lang/Math" ∈ wsX1_logged := List.mem_of_getElem? (i := 4) rfl
theorem kX1_logged_5 : Cond.code Lib.Math.min.name Lib.Math.min.code 2 (some .int) ∈ wsX1_logged := List.mem_of_getElem? (i := 5) rfl
abbrev rmX1_logged : Room := { frames := 1, cells := 0, slots := 0, locals := 13 }
set_option maxHeartbeats 4000000 in
set_option maxRecDepth 100000 in
theorem t_X1_logged (l : Launch) (D : va_G) (J : Nat → ClassId) (h0 h1 h2 : Nat) (E : Enc) (hE2 : 0 ≤ E.1 2 ∧ E.1 2 ≤ 99999) : ZX l yX1_logged wsX1_logged rmX1_logged D J [.ref h0] (wE J h0 h1 h2 E) (some (.int (iI (min (E.1 2) 200)))) (wE J h0 h1 h2 E) := by
  refine z_met (cc := cX1_logged) (nL := 1) (ret := (some .int)) (own := RX1) (by decide) rfl rfl (Nat.le_of_ble_eq_true rfl) (fun p e s m args below meth c hC hr hin => ?_)
  refine z_lv0 (lv' := [(0, .ref h0)]) rfl ?_
  refine z_aload_n hC dX1_logged_0 rfl 0 rfl ?_
  refine z_geti hC zkX1 iX1_logged_X1 0 rfl 2 (by decide) kX1_logged_1 rfl rfl dX1_logged_1 ?_
  refine z_sipush hC dX1_logged_4 (by decide) ?_
  refine z_min hC kX1_logged_2 kX1_logged_3 kX1_logged_4 kX1_logged_5 (Nat.le_of_ble_eq_true rfl) (Nat.le_of_ble_eq_true rfl) ⟨Nat.le_of_ble_eq_true rfl, Nat.le_of_ble_eq_true rfl⟩ (by unfold inR; omega) ⟨by decide, by decide⟩ dX1_logged_7 ?_
  exact z_iret hC hr rfl () trivial (by rfl) (by rfl) dX1_logged_10
abbrev rmX1_hasTick : Room := { frames := 2, cells := 0, slots := 0, locals := 33 }
set_option maxHeartbeats 4000000 in
set_option maxRecDepth 100000 in
theorem t_X1_hasTick (l : Launch) (D : va_G) (J : Nat → ClassId) (h0 h1 h2 : Nat) (E : Enc) (a : Int) (ha : inR a) (hE2 : 0 ≤ E.1 2 ∧ E.1 2 ≤ 99999) : ZX l yX1_hasTick wsX1_hasTick rmX1_hasTick D J [.ref h0, .int (iI a)] (wE J h0 h1 h2 E) (some (.int (iI (cHas E.1 a)))) (wE J h0 h1 h2 E) := by
  unfold inR at ha
  refine z_met (cc := cX1_hasTick) (nL := 2) (ret := (some .boolean)) (own := RX1) (by decide) rfl rfl (Nat.le_of_ble_eq_true rfl) (fun p e s m args below meth c hC hr hin => ?_)
  refine z_lv0 (lv' := [(0, .ref h0), (1, .int (iI a))]) rfl ?_
  refine z_iload_n hC dX1_hasTick_0 rfl 1 rfl ?_
  refine z_if_lt (tgt := 16) hC dX1_hasTick_1 (by decide) (by unfold inR; omega) (fun c_1_1 => ?_) (fun c_1_1 => ?_)
  · refine z_iconst hC dX1_hasTick_16 ?_
    exact z_iret hC hr rfl () trivial (hvi (by unfold cHas; (repeat' split) <;> first | rfl | omega)) (by rfl) dX1_hasTick_17
  · refine z_iload_n hC dX1_hasTick_4 rfl 1 rfl ?_
    refine z_aload_n hC dX1_hasTick_5 rfl 0 rfl ?_
    refine z_callV (wr := []) (av := []) (st := [.int (iI a)]) hC (t_X1_logged l D J h0 h1 h2 E  hE2) gX1_hasTick_X1_logged rfl 0 (by decide +kernel) ⟨Nat.le_of_ble_eq_true rfl, Nat.le_of_ble_eq_true rfl⟩ ⟨Nat.le_of_ble_eq_true rfl, Nat.le_of_ble_eq_true rfl⟩ [0, 1, 2] [] rfl rfl rfl (by decide) rfl 0 rfl rfl rfl rfl rfl (Nat.le_of_ble_eq_true rfl) dX1_hasTick_6 (fun _ _ => ?_)
    refine z_ws (ws' := wE J h0 h1 h2 E) rfl ?_
    refine z_st (st' := [.int (iI (min (E.1 2) 200)), .int (iI a)]) rfl ?_
    refine z_icmp_ge (tgt := 16) hC dX1_hasTick_9 (by decide) (by unfold inR; omega) (by unfold inR; omega) (fun c_9_2 => ?_) (fun c_9_2 => ?_)
    · refine z_iconst hC dX1_hasTick_16 ?_
      exact z_iret hC hr rfl () trivial (hvi (by unfold cHas; (repeat' split) <;> first | rfl | omega)) (by rfl) dX1_hasTick_17
    · refine z_iconst hC dX1_hasTick_12 ?_
      refine z_goto (tgt := 17) hC dX1_hasTick_13 (by decide) ?_
      exact z_iret hC hr rfl () trivial (hvi (by unfold cHas; (repeat' split) <;> first | rfl | omega)) (by rfl) dX1_hasTick_17
set_option maxRecDepth 20000 in
theorem iX1_entry_X1 : ∀ w ∈ u_ws RX1 TX1 16, w ∈ wsX1_entry := zm_places _ [16, 17, 18, 19, 20, 21, 22, 23, 24, 25, 26, 27, 28, 29, 30, 31] (by decide +kernel)
theorem kX1_entry_1 : Cond.fieldLink RX1 27 "StepPairs$Encoder" "ticks" "I" ∈ wsX1_entry := List.mem_of_getElem? (i := 1) rfl
theorem kX1_entry_2 : Cond.fieldLink RX1 15 "StepPairs$Encoder" "log" "[I" ∈ wsX1_entry := List.mem_of_getElem? (i := 2) rfl
abbrev rmX1_entry : Room := { frames := 3, cells := 0, slots := 0, locals := 54 }
set_option maxHeartbeats 4000000 in
set_option maxRecDepth 100000 in
theorem t_X1_entry (l : Launch) (D : va_G) (J : Nat → ClassId) (h0 h1 h2 : Nat) (E : Enc) (a : Int) (ha : 0 ≤ a ∧ a < min (E.1 2) 200) (hE2 : 0 ≤ E.1 2 ∧ E.1 2 ≤ 99999) : ZX l yX1_entry wsX1_entry rmX1_entry D J [.ref h0, .int (iI a)] (wE J h0 h1 h2 E) (some (.int (iI (cEnt E.1 E.2.2 a)))) (wE J h0 h1 h2 E) := by
  refine z_met (cc := cX1_entry) (nL := 3) (ret := (some .int)) (own := RX1) (by decide) rfl rfl (Nat.le_of_ble_eq_true rfl) (fun p e s m args below meth c hC hr hin => ?_)
  refine z_lv0 (lv' := [(0, .ref h0), (1, .int (iI a))]) rfl ?_
  refine z_aload_n hC dX1_entry_0 rfl 0 rfl ?_
  refine z_iload_n hC dX1_entry_1 rfl 1 rfl ?_
  refine z_callV (wr := []) (av := [.int (iI a)]) (st := []) hC (t_X1_hasTick l D J h0 h1 h2 E a (by unfold inR; omega) hE2) gX1_entry_X1_hasTick rfl 1 (by decide +kernel) ⟨Nat.le_of_ble_eq_true rfl, Nat.le_of_ble_eq_true rfl⟩ ⟨Nat.le_of_ble_eq_true rfl, Nat.le_of_ble_eq_true rfl⟩ [0, 1, 2] [] rfl rfl rfl (by decide) rfl 0 rfl rfl rfl rfl rfl (Nat.le_of_ble_eq_true rfl) dX1_entry_2 (fun _ _ => ?_)
  refine z_ws (ws' := wE J h0 h1 h2 E) rfl ?_
  refine z_st (st' := [.int (iI (cHas E.1 a))]) rfl ?_
  refine z_if_ne_t (tgt := 10) hC dX1_entry_5 (by decide) (by rw [cHas_1 ha]; exact ⟨by decide, by decide⟩) (by rw [cHas_1 ha]; decide) ?_
  refine z_aload_n hC dX1_entry_10 rfl 0 rfl ?_
  refine z_geti hC zkX1 iX1_entry_X1 0 rfl 2 (by decide) kX1_entry_1 rfl rfl dX1_entry_11 ?_
  refine z_iconst hC dX1_entry_14 ?_
  refine z_isub hC dX1_entry_15 ?_
  refine z_iload_n hC dX1_entry_16 rfl 1 rfl ?_
  refine z_isub hC dX1_entry_17 ?_
  refine z_sipush hC dX1_entry_18 (by decide) ?_
  refine z_irem hC dX1_entry_21 (by omega) (by omega) (by omega) (by omega) ?_
  refine z_istore_n (lv' := [(2, .int (iI ((((E.1 2) - 1) - a) % 200))), (0, .ref h0), (1, .int (iI a))]) hC dX1_entry_22 rfl (by decide) rfl ?_
  refine z_iload_n hC dX1_entry_23 rfl 0 rfl ?_
  refine z_if_lt_f (tgt := 43) hC dX1_entry_24 (by decide) (by unfold inR; omega) (by omega) ?_
  refine z_iload_n hC dX1_entry_27 rfl 0 rfl ?_
  refine z_sipush hC dX1_entry_28 (by decide) ?_
  refine z_icmp_ge_f (tgt := 43) hC dX1_entry_31 (by decide) (by unfold inR; omega) ⟨by decide, by decide⟩ (by omega) ?_
  refine z_aload_n hC dX1_entry_34 rfl 1 rfl ?_
  refine z_getr hC zkX1 iX1_entry_X1 0 rfl 1 (by decide) kX1_entry_2 rfl rfl dX1_entry_35 ?_
  refine z_iload_n hC dX1_entry_38 rfl 0 rfl ?_
  refine z_iald hC 2 rfl 0 rfl (Int.toNat ((((E.1 2) - 1) - a) % 200)) (Int.toNat_of_nonneg (by omega)).symm (by omega) (by decide) dX1_entry_39 ?_
  refine z_goto (tgt := 44) hC dX1_entry_40 (by decide) ?_
  exact z_iret hC hr rfl () trivial (rfl) (by rfl) dX1_entry_44
abbrev rmX1_pairAt : Room := { frames := 4, cells := 0, slots := 0, locals := 76 }
set_option maxHeartbeats 4000000 in
set_option maxRecDepth 100000 in
theorem t_X1_pairAt (l : Launch) (D : va_G) (J : Nat → ClassId) (h0 h1 h2 : Nat) (E : Enc) (a : Int) (ha : 0 ≤ a ∧ a < min (E.1 2) 200) (hE2 : 0 ≤ E.1 2 ∧ E.1 2 ≤ 99999) (hg : ∀ j, 0 ≤ E.2.2 j ∧ E.2.2 j ≤ 31) : ZX l yX1_pairAt wsX1_pairAt rmX1_pairAt D J [.ref h0, .int (iI a)] (wE J h0 h1 h2 E) (some (.int (iI ((cEnt E.1 E.2.2 a) % 4)))) (wE J h0 h1 h2 E) := by
  refine z_met (cc := cX1_pairAt) (nL := 2) (ret := (some .int)) (own := RX1) (by decide) rfl rfl (Nat.le_of_ble_eq_true rfl) (fun p e s m args below meth c hC hr hin => ?_)
  refine z_lv0 (lv' := [(0, .ref h0), (1, .int (iI a))]) rfl ?_
  refine z_aload_n hC dX1_pairAt_0 rfl 0 rfl ?_
  refine z_iload_n hC dX1_pairAt_1 rfl 1 rfl ?_
  refine z_callV (wr := []) (av := [.int (iI a)]) (st := []) hC (t_X1_entry l D J h0 h1 h2 E a ha hE2) gX1_pairAt_X1_entry rfl 1 (by decide +kernel) ⟨Nat.le_of_ble_eq_true rfl, Nat.le_of_ble_eq_true rfl⟩ ⟨Nat.le_of_ble_eq_true rfl, Nat.le_of_ble_eq_true rfl⟩ [0, 1, 2] [] rfl rfl rfl (by decide) rfl 0 rfl rfl rfl rfl rfl (Nat.le_of_ble_eq_true rfl) dX1_pairAt_2 (fun _ _ => ?_)
  refine z_ws (ws' := wE J h0 h1 h2 E) rfl ?_
  refine z_st (st' := [.int (iI (cEnt E.1 E.2.2 a))]) rfl ?_
  have hent : 0 ≤ cEnt E.1 E.2.2 a ∧ cEnt E.1 E.2.2 a ≤ 31 := hg _
  refine z_iconst hC dX1_pairAt_5 ?_
  refine z_and3 hC dX1_pairAt_6 ?_
  exact z_iret hC hr rfl () trivial (rfl) (by rfl) dX1_pairAt_7
abbrev rmX1_indexAt : Room := { frames := 4, cells := 0, slots := 0, locals := 76 }
set_option maxHeartbeats 4000000 in
set_option maxRecDepth 100000 in
theorem t_X1_indexAt (l : Launch) (D : va_G) (J : Nat → ClassId) (h0 h1 h2 : Nat) (E : Enc) (a : Int) (ha : 0 ≤ a ∧ a < min (E.1 2) 200) (hE2 : 0 ≤ E.1 2 ∧ E.1 2 ≤ 99999) (hg : ∀ j, 0 ≤ E.2.2 j ∧ E.2.2 j ≤ 31) : ZX l yX1_indexAt wsX1_indexAt rmX1_indexAt D J [.ref h0, .int (iI a)] (wE J h0 h1 h2 E) (some (.int (iI ((cEnt E.1 E.2.2 a) / 2 ^ 2 % 2)))) (wE J h0 h1 h2 E) := by
  refine z_met (cc := cX1_indexAt) (nL := 2) (ret := (some .int)) (own := RX1) (by decide) rfl rfl (Nat.le_of_ble_eq_true rfl) (fun p e s m args below meth c hC hr hin => ?_)
  refine z_lv0 (lv' := [(0, .ref h0), (1, .int (iI a))]) rfl ?_
  refine z_aload_n hC dX1_indexAt_0 rfl 0 rfl ?_
  refine z_iload_n hC dX1_indexAt_1 rfl 1 rfl ?_
  refine z_callV (wr := []) (av := [.int (iI a)]) (st := []) hC (t_X1_entry l D J h0 h1 h2 E a ha hE2) gX1_indexAt_X1_entry rfl 1 (by decide +kernel) ⟨Nat.le_of_ble_eq_true rfl, Nat.le_of_ble_eq_true rfl⟩ ⟨Nat.le_of_ble_eq_true rfl, Nat.le_of_ble_eq_true rfl⟩ [0, 1, 2] [] rfl rfl rfl (by decide) rfl 0 rfl rfl rfl rfl rfl (Nat.le_of_ble_eq_true rfl) dX1_indexAt_2 (fun _ _ => ?_)
  refine z_ws (ws' := wE J h0 h1 h2 E) rfl ?_
  refine z_st (st' := [.int (iI (cEnt E.1 E.2.2 a))]) rfl ?_
  have hent : 0 ≤ cEnt E.1 E.2.2 a ∧ cEnt E.1 E.2.2 a ≤ 31 := hg _
  refine z_iconst hC dX1_indexAt_5 ?_
  refine z_shr hC 2 (by decide) dX1_indexAt_6 (by omega) (by omega) ?_
  refine z_iconst hC dX1_indexAt_7 ?_
  refine z_and1 hC dX1_indexAt_8 ?_
  exact z_iret hC hr rfl () trivial (rfl) (by rfl) dX1_indexAt_9
abbrev rmX1_deedAt : Room := { frames := 4, cells := 0, slots := 0, locals := 76 }
set_option maxHeartbeats 4000000 in
set_option maxRecDepth 100000 in
theorem t_X1_deedAt (l : Launch) (D : va_G) (J : Nat → ClassId) (h0 h1 h2 : Nat) (E : Enc) (a : Int) (ha : 0 ≤ a ∧ a < min (E.1 2) 200) (hE2 : 0 ≤ E.1 2 ∧ E.1 2 ≤ 99999) (hg : ∀ j, 0 ≤ E.2.2 j ∧ E.2.2 j ≤ 31) : ZX l yX1_deedAt wsX1_deedAt rmX1_deedAt D J [.ref h0, .int (iI a)] (wE J h0 h1 h2 E) (some (.int (iI ((cEnt E.1 E.2.2 a) / 2 ^ 3)))) (wE J h0 h1 h2 E) := by
  refine z_met (cc := cX1_deedAt) (nL := 2) (ret := (some .int)) (own := RX1) (by decide) rfl rfl (Nat.le_of_ble_eq_true rfl) (fun p e s m args below meth c hC hr hin => ?_)
  refine z_lv0 (lv' := [(0, .ref h0), (1, .int (iI a))]) rfl ?_
  refine z_aload_n hC dX1_deedAt_0 rfl 0 rfl ?_
  refine z_iload_n hC dX1_deedAt_1 rfl 1 rfl ?_
  refine z_callV (wr := []) (av := [.int (iI a)]) (st := []) hC (t_X1_entry l D J h0 h1 h2 E a ha hE2) gX1_deedAt_X1_entry rfl 1 (by decide +kernel) ⟨Nat.le_of_ble_eq_true rfl, Nat.le_of_ble_eq_true rfl⟩ ⟨Nat.le_of_ble_eq_true rfl, Nat.le_of_ble_eq_true rfl⟩ [0, 1, 2] [] rfl rfl rfl (by decide) rfl 0 rfl rfl rfl rfl rfl (Nat.le_of_ble_eq_true rfl) dX1_deedAt_2 (fun _ _ => ?_)
  refine z_ws (ws' := wE J h0 h1 h2 E) rfl ?_
  refine z_st (st' := [.int (iI (cEnt E.1 E.2.2 a))]) rfl ?_
  have hent : 0 ≤ cEnt E.1 E.2.2 a ∧ cEnt E.1 E.2.2 a ≤ 31 := hg _
  refine z_iconst hC dX1_deedAt_5 ?_
  refine z_shr hC 3 (by decide) dX1_deedAt_6 (by omega) (by omega) ?_
  exact z_iret hC hr rfl () trivial (rfl) (by rfl) dX1_deedAt_7
theorem kX1_stepsOfGate_1 : Cond.methodLink RX1 125 Lib.Math.min.name ∈ wsX1_stepsOfGate := List.mem_of_getElem? (i := 1) rfl
theorem kX1_stepsOfGate_2 : Cond.static Lib.Math.min.name ∈ wsX1_stepsOfGate := List.mem_of_getElem? (i := 2) rfl
theorem kX1_stepsOfGate_3 : Cond.initialized "java/lang/Math" ∈ wsX1_stepsOfGate := List.mem_of_getElem? (i := 3) rfl
theorem kX1_stepsOfGate_4 : Cond.code Lib.Math.min.name Lib.Math.min.code 2 (some .int) ∈ wsX1_stepsOfGate := List.mem_of_getElem? (i := 4) rfl
abbrev rmX1_stepsOfGate : Room := { frames := 5, cells := 0, slots := 0, locals := 97 }
set_option maxHeartbeats 4000000 in
set_option maxRecDepth 100000 in
theorem t_X1_stepsOfGate (l : Launch) (D : va_G) (J : Nat → ClassId) (h0 h1 h2 : Nat) (E : Enc) (hI : InvE E) : ZX l yX1_stepsOfGate wsX1_stepsOfGate rmX1_stepsOfGate D J [.ref h0] (wE J h0 h1 h2 E) (some (.int (iI (cGate (E) (Int.toNat (min (E.2.1 3) (min (E.1 2) 200))))))) (wE J h0 h1 h2 E) := by
  obtain ⟨hE2, hE3, hE4, hE5, hE6, hE7, hE8, hE9, hE10, hE13, hE14, hE15, hs0, hs1, hs2, hs3, hs4, hg⟩ := id hI
  refine z_met (cc := cX1_stepsOfGate) (nL := 5) (ret := (some .int)) (own := RX1) (by decide) rfl rfl (Nat.le_of_ble_eq_true rfl) (fun p e s m args below meth c hC hr hin => ?_)
  refine z_lv0 (lv' := [(0, .ref h0)]) rfl ?_
  refine z_aload_n hC dX1_stepsOfGate_0 rfl 0 rfl ?_
  refine z_iconst hC dX1_stepsOfGate_1 ?_
  refine z_callV (wr := []) (av := [.int (iI 3)]) (st := []) hC (t_X1_setting l D J h0 h1 h2 E 3 (by decide)) gX1_stepsOfGate_X1_setting rfl 1 (by decide +kernel) ⟨Nat.le_of_ble_eq_true rfl, Nat.le_of_ble_eq_true rfl⟩ ⟨Nat.le_of_ble_eq_true rfl, Nat.le_of_ble_eq_true rfl⟩ [0, 1, 2] [] rfl rfl rfl (by decide) rfl 0 rfl rfl rfl rfl rfl (Nat.le_of_ble_eq_true rfl) dX1_stepsOfGate_2 (fun _ _ => ?_)
  refine z_ws (ws' := wE J h0 h1 h2 E) rfl ?_
  refine z_st (st' := [.int (iI (E.2.1 3))]) rfl ?_
  refine z_aload_n hC dX1_stepsOfGate_5 rfl 0 rfl ?_
  refine z_callV (wr := []) (av := []) (st := [.int (iI (E.2.1 3))]) hC (t_X1_logged l D J h0 h1 h2 E  hE2) gX1_stepsOfGate_X1_logged rfl 0 (by decide +kernel) ⟨Nat.le_of_ble_eq_true rfl, Nat.le_of_ble_eq_true rfl⟩ ⟨Nat.le_of_ble_eq_true rfl, Nat.le_of_ble_eq_true rfl⟩ [0, 1, 2] [] rfl rfl rfl (by decide) rfl 0 rfl rfl rfl rfl rfl (Nat.le_of_ble_eq_true rfl) dX1_stepsOfGate_6 (fun _ _ => ?_)
  refine z_ws (ws' := wE J h0 h1 h2 E) rfl ?_
  refine z_st (st' := [.int (iI (min (E.1 2) 200)), .int (iI (E.2.1 3))]) rfl ?_
  refine z_min hC kX1_stepsOfGate_1 kX1_stepsOfGate_2 kX1_stepsOfGate_3 kX1_stepsOfGate_4 (Nat.le_of_ble_eq_true rfl) (Nat.le_of_ble_eq_true rfl) ⟨Nat.le_of_ble_eq_true rfl, Nat.le_of_ble_eq_true rfl⟩ (by unfold inR; omega) (by unfold inR; omega) dX1_stepsOfGate_9 ?_
  generalize hL0 : min (E.2.1 3) (min (E.1 2) 200) = L0
  refine z_istore_n (lv' := [(1, .int (iI L0)), (0, .ref h0)]) hC dX1_stepsOfGate_12 rfl (by decide) rfl ?_
  refine z_iconst hC dX1_stepsOfGate_13 ?_
  refine z_istore_n (lv' := [(2, .int (iI 0)), (1, .int (iI L0)), (0, .ref h0)]) hC dX1_stepsOfGate_14 rfl (by decide) rfl ?_
  refine z_iconst hC dX1_stepsOfGate_15 ?_
  refine z_istore_n (lv' := [(3, .int (iI 0)), (2, .int (iI 0)), (1, .int (iI L0)), (0, .ref h0)]) hC dX1_stepsOfGate_16 rfl (by decide) rfl ?_
  refine z_lv (lv' := [(3, .int (iI 0)), (2, .int (iI 0)), (1, .int (iI L0)), (0, .ref h0)]) [0, 1, 2, 3] rfl ?_
  refine z_loop (α := Nat) (fun nn i => (i : Int) + (nn : Int) = L0) (fun nn i => wE J h0 h1 h2 E) (fun nn i => [(3, .int (iI (i : Int))), (2, .int (iI (cGate E i))), (1, .int (iI L0)), (0, .ref h0)]) 17 [] (fun nn i ih_1 hP_2 => ?_) (fun i hP_2 => ?_) L0.toNat 0 (by show ((0 : Nat) : Int) + _ = _; omega)
  · change Z _ _ _ _ _ _ _ _ _ _ _ _ _ _ _ _ (wE J h0 h1 h2 E) ([(3, .int (iI (i : Int))), (2, .int (iI (cGate E i))), (1, .int (iI L0)), (0, .ref h0)]) 17 ([])
    refine z_iload_n hC dX1_stepsOfGate_17 rfl 0 rfl ?_
    refine z_iload_n hC dX1_stepsOfGate_18 rfl 2 rfl ?_
    refine z_icmp_ge_f (tgt := 53) hC dX1_stepsOfGate_19 (by decide) (by unfold inR; omega) (by unfold inR; omega) (by omega) ?_
    refine z_aload_n hC dX1_stepsOfGate_22 rfl 3 rfl ?_
    refine z_iload_n hC dX1_stepsOfGate_23 rfl 0 rfl ?_
    refine z_callV (wr := []) (av := [.int (iI (i : Int))]) (st := []) hC (t_X1_deedAt l D J h0 h1 h2 E (i : Int) ⟨by omega, by omega⟩ hE2 hg) gX1_stepsOfGate_X1_deedAt rfl 1 (by decide +kernel) ⟨Nat.le_of_ble_eq_true rfl, Nat.le_of_ble_eq_true rfl⟩ ⟨Nat.le_of_ble_eq_true rfl, Nat.le_of_ble_eq_true rfl⟩ [0, 1, 2] [] rfl rfl rfl (by decide) rfl 0 rfl rfl rfl rfl rfl (Nat.le_of_ble_eq_true rfl) dX1_stepsOfGate_24 (fun _ _ => ?_)
    refine z_ws (ws' := wE J h0 h1 h2 E) rfl ?_
    refine z_st (st' := [.int (iI ((cEnt E.1 E.2.2 (i : Int)) / 2 ^ 3))]) rfl ?_
    have hdat : 0 ≤ cDat E.1 E.2.2 (i : Int) ∧ cDat E.1 E.2.2 (i : Int) ≤ 3 := cDat_in hg _
    refine z_st (st' := [.int (iI (cDat E.1 E.2.2 (i : Int)))]) rfl ?_
    refine z_istore (lv' := [(4, .int (iI (cDat E.1 E.2.2 (i : Int)))), (3, .int (iI (i : Int))), (2, .int (iI (cGate E i))), (1, .int (iI L0)), (0, .ref h0)]) hC dX1_stepsOfGate_27 (by decide) rfl ?_
    refine z_iload hC dX1_stepsOfGate_29 0 rfl ?_
    refine z_iconst hC dX1_stepsOfGate_31 ?_
    refine z_icmp_ne (tgt := 38) hC dX1_stepsOfGate_32 (by decide) ⟨by omega, by omega⟩ ⟨by decide, by decide⟩ (fun c_32_3 => ?_) (fun c_32_3 => ?_)
    · refine z_iload hC dX1_stepsOfGate_38 0 rfl ?_
      refine z_iconst hC dX1_stepsOfGate_40 ?_
      refine z_icmp_ne (tgt := 47) hC dX1_stepsOfGate_41 (by decide) ⟨by omega, by omega⟩ ⟨by decide, by decide⟩ (fun c_41_4 => ?_) (fun c_41_4 => ?_)
      · refine z_iinc (lv' := [(3, .int (iI ((i : Int) + 1))), (4, .int (iI (cDat E.1 E.2.2 (i : Int)))), (2, .int (iI (cGate E i))), (1, .int (iI L0)), (0, .ref h0)]) hC dX1_stepsOfGate_47 1 rfl (by decide) rfl ?_
        refine z_goto (tgt := 17) hC dX1_stepsOfGate_50 (by decide) ?_
        have e2 : cGate E (i + 1) = cGate E i := by show (if _ then _ else if _ then _ else _) = _; (repeat' split) <;> first | rfl | omega
        refine z_lv0 (lv' := [(3, .int (iI ((i : Int) + 1))), (4, .int (iI (cDat E.1 E.2.2 (i : Int)))), (2, .int (iI (cGate E (i + 1)))), (1, .int (iI L0)), (0, .ref h0)]) (by rw [e2]) ?_
        refine z_lv (lv' := _) [0, 2, 3, 4] rfl ?_
        exact ih_1 (i + 1) (by omega)
      · refine z_iinc (lv' := [(2, .int (iI ((cGate E i) + (-1)))), (4, .int (iI (cDat E.1 E.2.2 (i : Int)))), (3, .int (iI (i : Int))), (1, .int (iI L0)), (0, .ref h0)]) hC dX1_stepsOfGate_44 2 rfl (by decide) rfl ?_
        refine z_iinc (lv' := [(3, .int (iI ((i : Int) + 1))), (2, .int (iI ((cGate E i) + (-1)))), (4, .int (iI (cDat E.1 E.2.2 (i : Int)))), (1, .int (iI L0)), (0, .ref h0)]) hC dX1_stepsOfGate_47 2 rfl (by decide) rfl ?_
        refine z_goto (tgt := 17) hC dX1_stepsOfGate_50 (by decide) ?_
        have e2 : cGate E (i + 1) = (cGate E i) + (-1) := by show (if _ then _ else if _ then _ else _) = _; (repeat' split) <;> first | rfl | omega
        refine z_lv0 (lv' := [(3, .int (iI ((i : Int) + 1))), (2, .int (iI (cGate E (i + 1)))), (4, .int (iI (cDat E.1 E.2.2 (i : Int)))), (1, .int (iI L0)), (0, .ref h0)]) (by rw [e2]) ?_
        refine z_lv (lv' := _) [0, 1, 3, 4] rfl ?_
        exact ih_1 (i + 1) (by omega)
    · refine z_iinc (lv' := [(2, .int (iI ((cGate E i) + 1))), (4, .int (iI (cDat E.1 E.2.2 (i : Int)))), (3, .int (iI (i : Int))), (1, .int (iI L0)), (0, .ref h0)]) hC dX1_stepsOfGate_35 2 rfl (by decide) rfl ?_
      refine z_iload hC dX1_stepsOfGate_38 1 rfl ?_
      refine z_iconst hC dX1_stepsOfGate_40 ?_
      refine z_icmp_ne_t (tgt := 47) hC dX1_stepsOfGate_41 (by decide) ⟨by omega, by omega⟩ ⟨by decide, by decide⟩ (by omega) ?_
      refine z_iinc (lv' := [(3, .int (iI ((i : Int) + 1))), (2, .int (iI ((cGate E i) + 1))), (4, .int (iI (cDat E.1 E.2.2 (i : Int)))), (1, .int (iI L0)), (0, .ref h0)]) hC dX1_stepsOfGate_47 2 rfl (by decide) rfl ?_
      refine z_goto (tgt := 17) hC dX1_stepsOfGate_50 (by decide) ?_
      have e2 : cGate E (i + 1) = (cGate E i) + 1 := by show (if _ then _ else if _ then _ else _) = _; (repeat' split) <;> first | rfl | omega
      refine z_lv0 (lv' := [(3, .int (iI ((i : Int) + 1))), (2, .int (iI (cGate E (i + 1)))), (4, .int (iI (cDat E.1 E.2.2 (i : Int)))), (1, .int (iI L0)), (0, .ref h0)]) (by rw [e2]) ?_
      refine z_lv (lv' := _) [0, 1, 3, 4] rfl ?_
      exact ih_1 (i + 1) (by omega)
  · change Z _ _ _ _ _ _ _ _ _ _ _ _ _ _ _ _ (wE J h0 h1 h2 E) ([(3, .int (iI (i : Int))), (2, .int (iI (cGate E i))), (1, .int (iI L0)), (0, .ref h0)]) 17 ([])
    refine z_iload_n hC dX1_stepsOfGate_17 rfl 0 rfl ?_
    refine z_iload_n hC dX1_stepsOfGate_18 rfl 2 rfl ?_
    refine z_icmp_ge_t (tgt := 53) hC dX1_stepsOfGate_19 (by decide) (by unfold inR; omega) (by unfold inR; omega) (by omega) ?_
    refine z_iload_n hC dX1_stepsOfGate_53 rfl 1 rfl ?_
    exact z_iret hC hr rfl () trivial (hvi (by congr 1; omega)) (by rfl) dX1_stepsOfGate_54
end
section
set_option maxRecDepth 20000 in
theorem iX1_adjust_X1 : ∀ w ∈ u_ws RX1 TX1 16, w ∈ wsX1_adjust := zm_places _ [8, 9, 10, 11, 12, 13, 14, 15, 16, 17, 18, 19, 20, 21, 22, 23] (by decide +kernel)
theorem kX1_adjust_1 : Cond.fieldLink RX1 9 "StepPairs$Encoder" "settings" "[I" ∈ wsX1_adjust := List.mem_of_getElem? (i := 1) rfl
theorem kX1_adjust_3 : Cond.fieldLink RX1 31 "StepPairs$Encoder" "count" "I" ∈ wsX1_adjust := List.mem_of_getElem? (i := 3) rfl
theorem kX1_adjust_2 : Cond.fieldLink RX1 34 "StepPairs$Encoder" "place" "I" ∈ wsX1_adjust := List.mem_of_getElem? (i := 2) rfl
abbrev rmX1_adjust : Room := { frames := 1, cells := 0, slots := 0, locals := 21 }
set_option maxHeartbeats 4000000 in
set_option maxRecDepth 100000 in
theorem t_X1_adjust (l : Launch) (D : va_G) (J : Nat → ClassId) (h0 h1 h2 : Nat) (E : Enc) (x y : Int) (hx : inR x) (hy : inR y) (hI : InvE E) : ZX l yX1_adjust wsX1_adjust rmX1_adjust D J [.ref h0, .int (iI x), .int (iI y)] (wE J h0 h1 h2 E) (some (.int (iI (cAdjR E x y)))) (wE J h0 h1 h2 (cAdjE E x y)) := by
  obtain ⟨hE2, hE3, hE4, hE5, hE6, hE7, hE8, hE9, hE10, hE13, hE14, hE15, hs0, hs1, hs2, hs3, hs4, hg⟩ := id hI
  unfold inR at hx hy
  have hls := leastS_in x.toNat
  have hms := mostS_in x.toNat
  refine z_met (cc := cX1_adjust) (nL := 4) (ret := (some .int)) (own := RX1) (by decide) rfl rfl (Nat.le_of_ble_eq_true rfl) (fun p e s m args below meth c hC hr hin => ?_)
  refine z_lv0 (lv' := [(0, .ref h0), (1, .int (iI x)), (2, .int (iI y))]) rfl ?_
  refine z_iload_n hC dX1_adjust_0 rfl 1 rfl ?_
  refine z_if_lt (tgt := 9) hC dX1_adjust_1 (by decide) (by unfold inR; omega) (fun c_1_1 => ?_) (fun c_1_1 => ?_)
  · refine z_bipush hC dX1_adjust_9 (by decide) ?_
    exact z_iret hC hr rfl () trivial (hvi (by unfold cAdjR cAdjOk; (repeat' split) <;> first | rfl | omega)) (congrArg (wE J h0 h1 h2) (by unfold cAdjE cAdjOk; (repeat' split) <;> first | rfl | omega)) dX1_adjust_11
  · refine z_iload_n hC dX1_adjust_4 rfl 1 rfl ?_
    refine z_iconst hC dX1_adjust_5 ?_
    refine z_icmp_lt (tgt := 12) hC dX1_adjust_6 (by decide) (by unfold inR; omega) ⟨by decide, by decide⟩ (fun c_6_2 => ?_) (fun c_6_2 => ?_)
    · refine z_iload_n hC dX1_adjust_12 rfl 2 rfl ?_
      refine z_getTN hC hC.2.2.2.1.1 hC.2.2.2.1.2.2.2.2.1 dX1_adjust_13 (fun t_3 ht_4 => ?_)
      refine z_iload_n hC dX1_adjust_16 rfl 1 rfl ?_
      refine z_ldT hC ht_4 (Int.toNat x) (Int.toNat_of_nonneg (by omega)).symm (by omega) dX1_adjust_17 ?_
      refine z_icmp_lt (tgt := 30) hC dX1_adjust_18 (by decide) (by unfold inR; omega) (by unfold inR; omega) (fun c_18_5 => ?_) (fun c_18_5 => ?_)
      · refine z_bipush hC dX1_adjust_30 (by decide) ?_
        exact z_iret hC hr rfl () trivial (hvi (by unfold cAdjR cAdjOk; (repeat' split) <;> first | rfl | omega)) (congrArg (wE J h0 h1 h2) (by unfold cAdjE cAdjOk; (repeat' split) <;> first | rfl | omega)) dX1_adjust_32
      · refine z_iload_n hC dX1_adjust_21 rfl 2 rfl ?_
        refine z_getTN hC hC.2.2.2.1.2.1 hC.2.2.2.1.2.2.2.2.2 dX1_adjust_22 (fun t_6 ht_7 => ?_)
        refine z_iload_n hC dX1_adjust_25 rfl 1 rfl ?_
        refine z_ldT hC ht_7 (Int.toNat x) (Int.toNat_of_nonneg (by omega)).symm (by omega) dX1_adjust_26 ?_
        refine z_icmp_le (tgt := 33) hC dX1_adjust_27 (by decide) (by unfold inR; omega) (by unfold inR; omega) (fun c_27_8 => ?_) (fun c_27_8 => ?_)
        · refine z_iload_n hC dX1_adjust_33 rfl 1 rfl ?_
          refine z_if_ne (tgt := 46) hC dX1_adjust_34 (by decide) (by unfold inR; omega) (fun c_34_9 => ?_) (fun c_34_9 => ?_)
          · refine z_aload_n hC dX1_adjust_46 rfl 0 rfl ?_
            refine z_getr hC zkX1 iX1_adjust_X1 0 rfl 0 (by decide) kX1_adjust_1 rfl rfl dX1_adjust_47 ?_
            refine z_iload_n hC dX1_adjust_50 rfl 1 rfl ?_
            refine z_iald hC 1 rfl 0 rfl (Int.toNat x) (Int.toNat_of_nonneg (by omega)).symm (by omega) (by decide) dX1_adjust_51 ?_
            refine z_istore_n (lv' := [(3, .int (iI (E.2.1 (Int.toNat x)))), (0, .ref h0), (1, .int (iI x)), (2, .int (iI y))]) hC dX1_adjust_52 rfl (by decide) rfl ?_
            refine z_aload_n hC dX1_adjust_53 rfl 1 rfl ?_
            refine z_getr hC zkX1 iX1_adjust_X1 0 rfl 0 (by decide) kX1_adjust_1 rfl rfl dX1_adjust_54 ?_
            refine z_iload_n hC dX1_adjust_57 rfl 2 rfl ?_
            refine z_iload_n hC dX1_adjust_58 rfl 3 rfl ?_
            refine z_iast (ws' := wE J h0 h1 h2 (E.1, updZ E.2.1 (Int.toNat x) y, E.2.2)) hC 1 rfl 0 rfl (Int.toNat x) (Int.toNat_of_nonneg (by omega)).symm (by omega) (by decide) dX1_adjust_59 rfl ?_
            refine z_iload_n hC dX1_adjust_60 rfl 2 rfl ?_
            refine z_if_ne_t (tgt := 76) hC dX1_adjust_61 (by decide) (by unfold inR; omega) (by omega) ?_
            refine z_iload_n hC dX1_adjust_76 rfl 2 rfl ?_
            refine z_iconst hC dX1_adjust_77 ?_
            refine z_icmp_ne (tgt := 93) hC dX1_adjust_78 (by decide) (by unfold inR; omega) ⟨by decide, by decide⟩ (fun c_78_10 => ?_) (fun c_78_10 => ?_)
            · refine z_iload_n hC dX1_adjust_93 rfl 0 rfl ?_
              exact z_iret hC hr rfl () trivial (hvi (by unfold cAdjR cAdjOk; (repeat' split) <;> first | rfl | omega)) (congrArg (wE J h0 h1 h2) (by unfold cAdjE cAdjOk; (repeat' split) <;> first | rfl | omega)) dX1_adjust_94
            · have hl1 : leastS x.toNat = 10 := by rw [show x.toNat = 1 by omega]; rfl
              refine z_aload_n hC dX1_adjust_81 rfl 1 rfl ?_
              refine z_aload_n hC dX1_adjust_82 rfl 1 rfl ?_
              refine z_geti hC zkX1 iX1_adjust_X1 0 rfl 3 (by decide) kX1_adjust_3 rfl rfl dX1_adjust_83 ?_
              refine z_iload_n hC dX1_adjust_86 rfl 3 rfl ?_
              refine z_callS (wr := [cO 0 h0 [some h1, some h2, none, none, none, none, none, none, none, none, none, none, none, none, none, none] E.1, cI (J 0) h1 5 (updZ E.2.1 (Int.toNat x) y), cI (J 0) h2 200 E.2.2]) (av := [.int (iI (E.1 3)), .int (iI y)]) (st := [.ref h0]) hC (t_X1_leftOver l D J (E.1 3) y ⟨by omega, by omega⟩ ⟨by omega, by omega⟩) gX1_adjust_X1_leftOver rfl 2 (by decide +kernel) ⟨Nat.le_of_ble_eq_true rfl, Nat.le_of_ble_eq_true rfl⟩ ⟨Nat.le_of_ble_eq_true rfl, Nat.le_of_ble_eq_true rfl⟩ [] [0, 1, 2] rfl rfl rfl (by decide) rfl rfl rfl (Nat.le_of_ble_eq_true rfl) dX1_adjust_87 (fun _ _ => ?_)
              refine z_ws (ws' := wE J h0 h1 h2 (E.1, updZ E.2.1 (Int.toNat x) y, E.2.2)) rfl ?_
              refine z_st (st' := [.int (iI (leftO (E.1 3) y)), .ref h0]) rfl ?_
              refine z_puti (ws' := wE J h0 h1 h2 (updZ E.1 3 (leftO (E.1 3) y), updZ E.2.1 (Int.toNat x) y, E.2.2)) hC zkX1 iX1_adjust_X1 0 rfl 3 (by decide) kX1_adjust_3 rfl rfl rfl rfl rfl rfl dX1_adjust_90 rfl ?_
              refine z_iload_n hC dX1_adjust_93 rfl 0 rfl ?_
              exact z_iret hC hr rfl () trivial (hvi (by unfold cAdjR cAdjOk; (repeat' split) <;> first | rfl | omega)) (congrArg (wE J h0 h1 h2) (by unfold cAdjE cAdjOk; (repeat' split) <;> first | rfl | omega)) dX1_adjust_94
          · have hl0 : leastS x.toNat = 4 := by rw [show x.toNat = 0 by omega]; rfl
            refine z_iload_n hC dX1_adjust_37 rfl 2 rfl ?_
            refine z_iconst hC dX1_adjust_38 ?_
            refine z_irem hC dX1_adjust_39 (by omega) (by omega) (by omega) (by omega) ?_
            refine z_if_eq (tgt := 46) hC dX1_adjust_40 (by decide) (by unfold inR; omega) (fun c_40_11 => ?_) (fun c_40_11 => ?_)
            · refine z_aload_n hC dX1_adjust_46 rfl 0 rfl ?_
              refine z_getr hC zkX1 iX1_adjust_X1 0 rfl 0 (by decide) kX1_adjust_1 rfl rfl dX1_adjust_47 ?_
              refine z_iload_n hC dX1_adjust_50 rfl 1 rfl ?_
              refine z_iald hC 1 rfl 0 rfl (Int.toNat x) (Int.toNat_of_nonneg (by omega)).symm (by omega) (by decide) dX1_adjust_51 ?_
              refine z_istore_n (lv' := [(3, .int (iI (E.2.1 (Int.toNat x)))), (0, .ref h0), (1, .int (iI x)), (2, .int (iI y))]) hC dX1_adjust_52 rfl (by decide) rfl ?_
              refine z_aload_n hC dX1_adjust_53 rfl 1 rfl ?_
              refine z_getr hC zkX1 iX1_adjust_X1 0 rfl 0 (by decide) kX1_adjust_1 rfl rfl dX1_adjust_54 ?_
              refine z_iload_n hC dX1_adjust_57 rfl 2 rfl ?_
              refine z_iload_n hC dX1_adjust_58 rfl 3 rfl ?_
              refine z_iast (ws' := wE J h0 h1 h2 (E.1, updZ E.2.1 (Int.toNat x) y, E.2.2)) hC 1 rfl 0 rfl (Int.toNat x) (Int.toNat_of_nonneg (by omega)).symm (by omega) (by decide) dX1_adjust_59 rfl ?_
              refine z_iload_n hC dX1_adjust_60 rfl 2 rfl ?_
              refine z_if_ne_f (tgt := 76) hC dX1_adjust_61 (by decide) (by unfold inR; omega) (by omega) ?_
              refine z_aload_n hC dX1_adjust_64 rfl 1 rfl ?_
              refine z_aload_n hC dX1_adjust_65 rfl 1 rfl ?_
              refine z_geti hC zkX1 iX1_adjust_X1 0 rfl 4 (by decide) kX1_adjust_2 rfl rfl dX1_adjust_66 ?_
              refine z_iload_n hC dX1_adjust_69 rfl 3 rfl ?_
              refine z_callS (wr := [cO 0 h0 [some h1, some h2, none, none, none, none, none, none, none, none, none, none, none, none, none, none] E.1, cI (J 0) h1 5 (updZ E.2.1 (Int.toNat x) y), cI (J 0) h2 200 E.2.2]) (av := [.int (iI (E.1 4)), .int (iI y)]) (st := [.ref h0]) hC (t_X1_leftOver l D J (E.1 4) y ⟨by omega, by omega⟩ ⟨by omega, by omega⟩) gX1_adjust_X1_leftOver rfl 2 (by decide +kernel) ⟨Nat.le_of_ble_eq_true rfl, Nat.le_of_ble_eq_true rfl⟩ ⟨Nat.le_of_ble_eq_true rfl, Nat.le_of_ble_eq_true rfl⟩ [] [0, 1, 2] rfl rfl rfl (by decide) rfl rfl rfl (Nat.le_of_ble_eq_true rfl) dX1_adjust_70 (fun _ _ => ?_)
              refine z_ws (ws' := wE J h0 h1 h2 (E.1, updZ E.2.1 (Int.toNat x) y, E.2.2)) rfl ?_
              refine z_st (st' := [.int (iI (leftO (E.1 4) y)), .ref h0]) rfl ?_
              refine z_puti (ws' := wE J h0 h1 h2 (updZ E.1 4 (leftO (E.1 4) y), updZ E.2.1 (Int.toNat x) y, E.2.2)) hC zkX1 iX1_adjust_X1 0 rfl 4 (by decide) kX1_adjust_2 rfl rfl rfl rfl rfl rfl dX1_adjust_73 rfl ?_
              refine z_iload_n hC dX1_adjust_76 rfl 2 rfl ?_
              refine z_iconst hC dX1_adjust_77 ?_
              refine z_icmp_ne_t (tgt := 93) hC dX1_adjust_78 (by decide) (by unfold inR; omega) ⟨by decide, by decide⟩ (by omega) ?_
              refine z_iload_n hC dX1_adjust_93 rfl 0 rfl ?_
              exact z_iret hC hr rfl () trivial (hvi (by unfold cAdjR cAdjOk; (repeat' split) <;> first | rfl | omega)) (congrArg (wE J h0 h1 h2) (by unfold cAdjE cAdjOk; (repeat' split) <;> first | rfl | omega)) dX1_adjust_94
            · refine z_bipush hC dX1_adjust_43 (by decide) ?_
              exact z_iret hC hr rfl () trivial (hvi (by unfold cAdjR cAdjOk; (repeat' split) <;> first | rfl | omega)) (congrArg (wE J h0 h1 h2) (by unfold cAdjE cAdjOk; (repeat' split) <;> first | rfl | omega)) dX1_adjust_45
        · refine z_bipush hC dX1_adjust_30 (by decide) ?_
          exact z_iret hC hr rfl () trivial (hvi (by unfold cAdjR cAdjOk; (repeat' split) <;> first | rfl | omega)) (congrArg (wE J h0 h1 h2) (by unfold cAdjE cAdjOk; (repeat' split) <;> first | rfl | omega)) dX1_adjust_32
    · refine z_bipush hC dX1_adjust_9 (by decide) ?_
      exact z_iret hC hr rfl () trivial (hvi (by unfold cAdjR cAdjOk; (repeat' split) <;> first | rfl | omega)) (congrArg (wE J h0 h1 h2) (by unfold cAdjE cAdjOk; (repeat' split) <;> first | rfl | omega)) dX1_adjust_11
theorem kX1_pass_1 : Cond.constant RX1 97 (99999) ∈ wsX1_pass := List.mem_of_getElem? (i := 1) rfl
set_option maxRecDepth 20000 in
theorem iX1_pass_X1 : ∀ w ∈ u_ws RX1 TX1 16, w ∈ wsX1_pass := zm_places _ [49, 50, 51, 52, 53, 54, 55, 56, 57, 58, 59, 60, 61, 62, 63, 64] (by decide +kernel)
theorem kX1_pass_2 : Cond.fieldLink RX1 27 "StepPairs$Encoder" "ticks" "I" ∈ wsX1_pass := List.mem_of_getElem? (i := 2) rfl
abbrev rmX1_pass : Room := { frames := 3, cells := 0, slots := 0, locals := 68 }
set_option maxHeartbeats 4000000 in
set_option maxRecDepth 100000 in
theorem t_X1_pass (l : Launch) (D : va_G) (J : Nat → ClassId) (h0 h1 h2 : Nat) (E : Enc) (q i0 n0 : Int) (hq : inR q) (hi : inR i0) (hn : inR n0) (hI : InvE E) : ZX l yX1_pass wsX1_pass rmX1_pass D J [.ref h0, .int (iI q), .int (iI i0), .int (iI n0)] (wE J h0 h1 h2 E) (some (.int (iI (cPassR E q i0 n0)))) (wE J h0 h1 h2 (cPassE E q i0 n0)) := by
  obtain ⟨hE2, hE3, hE4, hE5, hE6, hE7, hE8, hE9, hE10, hE13, hE14, hE15, hs0, hs1, hs2, hs3, hs4, hg⟩ := id hI
  unfold inR at hq hi hn
  refine z_met (cc := cX1_pass) (nL := 7) (ret := (some .int)) (own := RX1) (by decide) rfl rfl (Nat.le_of_ble_eq_true rfl) (fun p e s m args below meth c hC hr hin => ?_)
  refine z_lv0 (lv' := [(0, .ref h0), (1, .int (iI q)), (2, .int (iI i0)), (3, .int (iI n0))]) rfl ?_
  refine z_iload_n hC dX1_pass_0 rfl 1 rfl ?_
  refine z_if_lt (tgt := 29) hC dX1_pass_1 (by decide) (by unfold inR; omega) (fun c_1_1 => ?_) (fun c_1_1 => ?_)
  · refine z_bipush hC dX1_pass_29 (by decide) ?_
    exact z_iret hC hr rfl () trivial (hvi (by unfold cPassR cPassOk; (repeat' split) <;> first | rfl | omega)) (congrArg (wE J h0 h1 h2) (by unfold cPassE cPassOk; (repeat' split) <;> first | rfl | omega)) dX1_pass_31
  · refine z_iload_n hC dX1_pass_4 rfl 1 rfl ?_
    refine z_iconst hC dX1_pass_5 ?_
    refine z_icmp_gt (tgt := 29) hC dX1_pass_6 (by decide) (by unfold inR; omega) ⟨by decide, by decide⟩ (fun c_6_2 => ?_) (fun c_6_2 => ?_)
    · refine z_bipush hC dX1_pass_29 (by decide) ?_
      exact z_iret hC hr rfl () trivial (hvi (by unfold cPassR cPassOk; (repeat' split) <;> first | rfl | omega)) (congrArg (wE J h0 h1 h2) (by unfold cPassE cPassOk; (repeat' split) <;> first | rfl | omega)) dX1_pass_31
    · refine z_iload_n hC dX1_pass_9 rfl 2 rfl ?_
      refine z_if_lt (tgt := 29) hC dX1_pass_10 (by decide) (by unfold inR; omega) (fun c_10_3 => ?_) (fun c_10_3 => ?_)
      · refine z_bipush hC dX1_pass_29 (by decide) ?_
        exact z_iret hC hr rfl () trivial (hvi (by unfold cPassR cPassOk; (repeat' split) <;> first | rfl | omega)) (congrArg (wE J h0 h1 h2) (by unfold cPassE cPassOk; (repeat' split) <;> first | rfl | omega)) dX1_pass_31
      · refine z_iload_n hC dX1_pass_13 rfl 2 rfl ?_
        refine z_iconst hC dX1_pass_14 ?_
        refine z_icmp_gt (tgt := 29) hC dX1_pass_15 (by decide) (by unfold inR; omega) ⟨by decide, by decide⟩ (fun c_15_4 => ?_) (fun c_15_4 => ?_)
        · refine z_bipush hC dX1_pass_29 (by decide) ?_
          exact z_iret hC hr rfl () trivial (hvi (by unfold cPassR cPassOk; (repeat' split) <;> first | rfl | omega)) (congrArg (wE J h0 h1 h2) (by unfold cPassE cPassOk; (repeat' split) <;> first | rfl | omega)) dX1_pass_31
        · refine z_iload_n hC dX1_pass_18 rfl 3 rfl ?_
          refine z_iconst hC dX1_pass_19 ?_
          refine z_icmp_lt (tgt := 29) hC dX1_pass_20 (by decide) (by unfold inR; omega) ⟨by decide, by decide⟩ (fun c_20_5 => ?_) (fun c_20_5 => ?_)
          · refine z_bipush hC dX1_pass_29 (by decide) ?_
            exact z_iret hC hr rfl () trivial (hvi (by unfold cPassR cPassOk; (repeat' split) <;> first | rfl | omega)) (congrArg (wE J h0 h1 h2) (by unfold cPassE cPassOk; (repeat' split) <;> first | rfl | omega)) dX1_pass_31
          · refine z_iload_n hC dX1_pass_23 rfl 3 rfl ?_
            refine z_bipush hC dX1_pass_24 (by decide) ?_
            refine z_icmp_le (tgt := 32) hC dX1_pass_26 (by decide) (by unfold inR; omega) ⟨by decide, by decide⟩ (fun c_26_6 => ?_) (fun c_26_6 => ?_)
            · refine z_iload_n hC dX1_pass_32 rfl 3 rfl ?_
              refine z_ldc hC 99999 kX1_pass_1 dX1_pass_33 (by decide) ?_
              refine z_aload_n hC dX1_pass_35 rfl 0 rfl ?_
              refine z_geti hC zkX1 iX1_pass_X1 0 rfl 2 (by decide) kX1_pass_2 rfl rfl dX1_pass_36 ?_
              refine z_isub hC dX1_pass_39 ?_
              refine z_icmp_le (tgt := 46) hC dX1_pass_40 (by decide) (by unfold inR; omega) (by unfold inR; omega) (fun c_40_7 => ?_) (fun c_40_7 => ?_)
              · refine z_iconst hC dX1_pass_46 ?_
                refine z_istore (lv' := [(4, .int (iI 0)), (0, .ref h0), (1, .int (iI q)), (2, .int (iI i0)), (3, .int (iI n0))]) hC dX1_pass_47 (by decide) rfl ?_
                refine z_iconst hC dX1_pass_49 ?_
                refine z_istore (lv' := [(5, .int (iI 0)), (4, .int (iI 0)), (0, .ref h0), (1, .int (iI q)), (2, .int (iI i0)), (3, .int (iI n0))]) hC dX1_pass_50 (by decide) rfl ?_
                refine z_lv (lv' := [(5, .int (iI 0)), (4, .int (iI 0)), (3, .int (iI n0)), (2, .int (iI i0)), (1, .int (iI q)), (0, .ref h0)]) [0, 1, 5, 4, 3, 2] rfl ?_
                refine z_loop (α := Nat) (fun nn i => (i : Int) + (nn : Int) = n0) (fun nn i => wE J h0 h1 h2 (cTicks E q i0 i)) (fun nn i => [(5, .int (iI (i : Int))), (4, .int (iI (cSteps E q i0 i))), (3, .int (iI n0)), (2, .int (iI i0)), (1, .int (iI q)), (0, .ref h0)]) 52 [] (fun nn i ih_8 hP_9 => ?_) (fun i hP_9 => ?_) n0.toNat 0 (by show ((0 : Nat) : Int) + _ = _; omega)
                · change Z _ _ _ _ _ _ _ _ _ _ _ _ _ _ _ _ (wE J h0 h1 h2 (cTicks E q i0 i)) ([(5, .int (iI (i : Int))), (4, .int (iI (cSteps E q i0 i))), (3, .int (iI n0)), (2, .int (iI i0)), (1, .int (iI q)), (0, .ref h0)]) 52 ([])
                  have hk := ticks_inv hI ⟨by omega, by omega⟩ ⟨by omega, by omega⟩ (p := q) (i := i0) i (by omega)
                  have hd := cDeed_in (cTicks E q i0 i).1 (cTicks E q i0 i).2.1 q
                  refine z_iload hC dX1_pass_52 0 rfl ?_
                  refine z_iload_n hC dX1_pass_54 rfl 2 rfl ?_
                  refine z_icmp_ge_f (tgt := 87) hC dX1_pass_55 (by decide) (by unfold inR; omega) (by unfold inR; omega) (by omega) ?_
                  refine z_aload_n hC dX1_pass_58 rfl 5 rfl ?_
                  refine z_iload_n hC dX1_pass_59 rfl 4 rfl ?_
                  refine z_iload_n hC dX1_pass_60 rfl 3 rfl ?_
                  refine z_callV (wr := []) (av := [.int (iI q), .int (iI i0)]) (st := []) hC (t_X1_tick l D J h0 h1 h2 (cTicks E q i0 i) q i0 hk.1 ⟨by omega, by omega⟩ ⟨by omega, by omega⟩) gX1_pass_X1_tick rfl 2 (by decide +kernel) ⟨Nat.le_of_ble_eq_true rfl, Nat.le_of_ble_eq_true rfl⟩ ⟨Nat.le_of_ble_eq_true rfl, Nat.le_of_ble_eq_true rfl⟩ [0, 1, 2] [] rfl rfl rfl (by decide) rfl 0 rfl rfl rfl rfl rfl (Nat.le_of_ble_eq_true rfl) dX1_pass_61 (fun _ _ => ?_)
                  refine z_ws (ws' := wE J h0 h1 h2 (cTick (cTicks E q i0 i) q i0)) rfl ?_
                  refine z_st (st' := [.int (iI (cDeed ((cTicks E q i0 i).1) ((cTicks E q i0 i).2.1) q))]) rfl ?_
                  refine z_istore (lv' := [(6, .int (iI (cDeed ((cTicks E q i0 i).1) ((cTicks E q i0 i).2.1) q))), (5, .int (iI (i : Int))), (4, .int (iI (cSteps E q i0 i))), (3, .int (iI n0)), (2, .int (iI i0)), (1, .int (iI q)), (0, .ref h0)]) hC dX1_pass_64 (by decide) rfl ?_
                  refine z_iload hC dX1_pass_66 0 rfl ?_
                  refine z_iconst hC dX1_pass_68 ?_
                  refine z_icmp_eq (tgt := 78) hC dX1_pass_69 (by decide) (by unfold inR; omega) ⟨by decide, by decide⟩ (fun c_69_10 => ?_) (fun c_69_10 => ?_)
                  · refine z_iinc (lv' := [(4, .int (iI ((cSteps E q i0 i) + 1))), (6, .int (iI (cDeed ((cTicks E q i0 i).1) ((cTicks E q i0 i).2.1) q))), (5, .int (iI (i : Int))), (3, .int (iI n0)), (2, .int (iI i0)), (1, .int (iI q)), (0, .ref h0)]) hC dX1_pass_78 2 rfl (by decide) rfl ?_
                    refine z_iinc (lv' := [(5, .int (iI ((i : Int) + 1))), (4, .int (iI ((cSteps E q i0 i) + 1))), (6, .int (iI (cDeed ((cTicks E q i0 i).1) ((cTicks E q i0 i).2.1) q))), (3, .int (iI n0)), (2, .int (iI i0)), (1, .int (iI q)), (0, .ref h0)]) hC dX1_pass_81 2 rfl (by decide) rfl ?_
                    refine z_goto (tgt := 52) hC dX1_pass_84 (by decide) ?_
                    have e4 : cSteps E q i0 (i + 1) = (cSteps E q i0 i) + 1 := by show (if _ then _ else if _ then _ else _) = _; (repeat' split) <;> first | rfl | omega
                    refine z_lv0 (lv' := [(5, .int (iI ((i : Int) + 1))), (4, .int (iI (cSteps E q i0 (i + 1)))), (6, .int (iI (cDeed ((cTicks E q i0 i).1) ((cTicks E q i0 i).2.1) q))), (3, .int (iI n0)), (2, .int (iI i0)), (1, .int (iI q)), (0, .ref h0)]) (by rw [e4]) ?_
                    refine z_lv (lv' := _) [0, 1, 3, 4, 5, 6] rfl ?_
                    exact ih_8 (i + 1) (by omega)
                  · refine z_iload hC dX1_pass_72 0 rfl ?_
                    refine z_iconst hC dX1_pass_74 ?_
                    refine z_icmp_ne (tgt := 81) hC dX1_pass_75 (by decide) (by unfold inR; omega) ⟨by decide, by decide⟩ (fun c_75_11 => ?_) (fun c_75_11 => ?_)
                    · refine z_iinc (lv' := [(5, .int (iI ((i : Int) + 1))), (6, .int (iI (cDeed ((cTicks E q i0 i).1) ((cTicks E q i0 i).2.1) q))), (4, .int (iI (cSteps E q i0 i))), (3, .int (iI n0)), (2, .int (iI i0)), (1, .int (iI q)), (0, .ref h0)]) hC dX1_pass_81 1 rfl (by decide) rfl ?_
                      refine z_goto (tgt := 52) hC dX1_pass_84 (by decide) ?_
                      have e4 : cSteps E q i0 (i + 1) = cSteps E q i0 i := by show (if _ then _ else if _ then _ else _) = _; (repeat' split) <;> first | rfl | omega
                      refine z_lv0 (lv' := [(5, .int (iI ((i : Int) + 1))), (6, .int (iI (cDeed ((cTicks E q i0 i).1) ((cTicks E q i0 i).2.1) q))), (4, .int (iI (cSteps E q i0 (i + 1)))), (3, .int (iI n0)), (2, .int (iI i0)), (1, .int (iI q)), (0, .ref h0)]) (by rw [e4]) ?_
                      refine z_lv (lv' := _) [0, 2, 3, 4, 5, 6] rfl ?_
                      exact ih_8 (i + 1) (by omega)
                    · refine z_iinc (lv' := [(4, .int (iI ((cSteps E q i0 i) + 1))), (6, .int (iI (cDeed ((cTicks E q i0 i).1) ((cTicks E q i0 i).2.1) q))), (5, .int (iI (i : Int))), (3, .int (iI n0)), (2, .int (iI i0)), (1, .int (iI q)), (0, .ref h0)]) hC dX1_pass_78 2 rfl (by decide) rfl ?_
                      refine z_iinc (lv' := [(5, .int (iI ((i : Int) + 1))), (4, .int (iI ((cSteps E q i0 i) + 1))), (6, .int (iI (cDeed ((cTicks E q i0 i).1) ((cTicks E q i0 i).2.1) q))), (3, .int (iI n0)), (2, .int (iI i0)), (1, .int (iI q)), (0, .ref h0)]) hC dX1_pass_81 2 rfl (by decide) rfl ?_
                      refine z_goto (tgt := 52) hC dX1_pass_84 (by decide) ?_
                      have e4 : cSteps E q i0 (i + 1) = (cSteps E q i0 i) + 1 := by show (if _ then _ else if _ then _ else _) = _; (repeat' split) <;> first | rfl | omega
                      refine z_lv0 (lv' := [(5, .int (iI ((i : Int) + 1))), (4, .int (iI (cSteps E q i0 (i + 1)))), (6, .int (iI (cDeed ((cTicks E q i0 i).1) ((cTicks E q i0 i).2.1) q))), (3, .int (iI n0)), (2, .int (iI i0)), (1, .int (iI q)), (0, .ref h0)]) (by rw [e4]) ?_
                      refine z_lv (lv' := _) [0, 1, 3, 4, 5, 6] rfl ?_
                      exact ih_8 (i + 1) (by omega)
                · change Z _ _ _ _ _ _ _ _ _ _ _ _ _ _ _ _ (wE J h0 h1 h2 (cTicks E q i0 i)) ([(5, .int (iI (i : Int))), (4, .int (iI (cSteps E q i0 i))), (3, .int (iI n0)), (2, .int (iI i0)), (1, .int (iI q)), (0, .ref h0)]) 52 ([])
                  have hin : i = n0.toNat := by omega
                  refine z_iload hC dX1_pass_52 0 rfl ?_
                  refine z_iload_n hC dX1_pass_54 rfl 2 rfl ?_
                  refine z_icmp_ge_t (tgt := 87) hC dX1_pass_55 (by decide) (by unfold inR; omega) (by unfold inR; omega) (by omega) ?_
                  refine z_iload hC dX1_pass_87 1 rfl ?_
                  exact z_iret hC hr rfl () trivial (hvi (by subst hin; unfold cPassR cPassOk; (repeat' split) <;> first | rfl | omega)) (congrArg (wE J h0 h1 h2) (by subst hin; unfold cPassE cPassOk; (repeat' split) <;> first | rfl | omega)) dX1_pass_89
              · refine z_bipush hC dX1_pass_43 (by decide) ?_
                exact z_iret hC hr rfl () trivial (hvi (by unfold cPassR cPassOk; (repeat' split) <;> first | rfl | omega)) (congrArg (wE J h0 h1 h2) (by unfold cPassE cPassOk; (repeat' split) <;> first | rfl | omega)) dX1_pass_45
            · refine z_bipush hC dX1_pass_29 (by decide) ?_
              exact z_iret hC hr rfl () trivial (hvi (by unfold cPassR cPassOk; (repeat' split) <;> first | rfl | omega)) (congrArg (wE J h0 h1 h2) (by unfold cPassE cPassOk; (repeat' split) <;> first | rfl | omega)) dX1_pass_31
theorem kX1_revolve_1 : Cond.methodLink RX1 98 Lib.Math.abs.name ∈ wsX1_revolve := List.mem_of_getElem? (i := 1) rfl
theorem kX1_revolve_2 : Cond.static Lib.Math.abs.name ∈ wsX1_revolve := List.mem_of_getElem? (i := 2) rfl
theorem kX1_revolve_3 : Cond.initialized "java/lang/Math" ∈ wsX1_revolve := List.mem_of_getElem? (i := 3) rfl
theorem kX1_revolve_4 : Cond.code Lib.Math.abs.name Lib.Math.abs.code 1 (some .int) ∈ wsX1_revolve := List.mem_of_getElem? (i := 4) rfl
theorem kX1_revolve_5 : Cond.constant RX1 97 (99999) ∈ wsX1_revolve := List.mem_of_getElem? (i := 5) rfl
set_option maxRecDepth 20000 in
theorem iX1_revolve_X1 : ∀ w ∈ u_ws RX1 TX1 16, w ∈ wsX1_revolve := zm_places _ [56, 57, 58, 59, 60, 61, 62, 63, 64, 65, 66, 67, 68, 69, 70, 71] (by decide +kernel)
theorem kX1_revolve_6 : Cond.fieldLink RX1 27 "StepPairs$Encoder" "ticks" "I" ∈ wsX1_revolve := List.mem_of_getElem? (i := 6) rfl
theorem kX1_revolve_7 : Cond.fieldLink RX1 37 "StepPairs$Encoder" "seen" "I" ∈ wsX1_revolve := List.mem_of_getElem? (i := 7) rfl
theorem kX1_revolve_8 : Cond.fieldLink RX1 31 "StepPairs$Encoder" "count" "I" ∈ wsX1_revolve := List.mem_of_getElem? (i := 8) rfl
abbrev rmX1_revolve : Room := { frames := 3, cells := 0, slots := 0, locals := 68 }
set_option maxHeartbeats 4000000 in
set_option maxRecDepth 100000 in
theorem t_X1_revolve (l : Launch) (D : va_G) (J : Nat → ClassId) (h0 h1 h2 : Nat) (E : Enc) (x : Int) (hx : inR x) (hI : InvE E) : ZX l yX1_revolve wsX1_revolve rmX1_revolve D J [.ref h0, .int (iI x)] (wE J h0 h1 h2 E) (some (.int (iI (cRevR E x)))) (wE J h0 h1 h2 (cRevE E x)) := by
  obtain ⟨hE2, hE3, hE4, hE5, hE6, hE7, hE8, hE9, hE10, hE13, hE14, hE15, hs0, hs1, hs2, hs3, hs4, hg⟩ := id hI
  unfold inR at hx
  refine z_met (cc := cX1_revolve) (nL := 8) (ret := (some .int)) (own := RX1) (by decide) rfl rfl (Nat.le_of_ble_eq_true rfl) (fun p e s m args below meth c hC hr hin => ?_)
  refine z_lv0 (lv' := [(0, .ref h0), (1, .int (iI x))]) rfl ?_
  refine z_iload_n hC dX1_revolve_0 rfl 1 rfl ?_
  refine z_if_eq (tgt := 16) hC dX1_revolve_1 (by decide) (by unfold inR; omega) (fun c_1_1 => ?_) (fun c_1_1 => ?_)
  · refine z_bipush hC dX1_revolve_16 (by decide) ?_
    exact z_iret hC hr rfl () trivial (hvi (by have hok : cRevOk E x = -2 := (by unfold cRevOk; (repeat' split) <;> first | rfl | omega); simp only [cRevR, cRevE, hok]; rfl)) (congrArg (wE J h0 h1 h2) (by have hok : cRevOk E x = -2 := (by unfold cRevOk; (repeat' split) <;> first | rfl | omega); simp only [cRevR, cRevE, hok]; rfl)) dX1_revolve_18
  · refine z_iload_n hC dX1_revolve_4 rfl 1 rfl ?_
    refine z_bipush hC dX1_revolve_5 (by decide) ?_
    refine z_icmp_lt (tgt := 16) hC dX1_revolve_7 (by decide) (by unfold inR; omega) ⟨by decide, by decide⟩ (fun c_7_2 => ?_) (fun c_7_2 => ?_)
    · refine z_bipush hC dX1_revolve_16 (by decide) ?_
      exact z_iret hC hr rfl () trivial (hvi (by have hok : cRevOk E x = -2 := (by unfold cRevOk; (repeat' split) <;> first | rfl | omega); simp only [cRevR, cRevE, hok]; rfl)) (congrArg (wE J h0 h1 h2) (by have hok : cRevOk E x = -2 := (by unfold cRevOk; (repeat' split) <;> first | rfl | omega); simp only [cRevR, cRevE, hok]; rfl)) dX1_revolve_18
    · refine z_iload_n hC dX1_revolve_10 rfl 1 rfl ?_
      refine z_bipush hC dX1_revolve_11 (by decide) ?_
      refine z_icmp_le (tgt := 19) hC dX1_revolve_13 (by decide) (by unfold inR; omega) ⟨by decide, by decide⟩ (fun c_13_3 => ?_) (fun c_13_3 => ?_)
      · refine z_iload_n hC dX1_revolve_19 rfl 1 rfl ?_
        refine z_abs hC kX1_revolve_1 kX1_revolve_2 kX1_revolve_3 kX1_revolve_4 (Nat.le_of_ble_eq_true rfl) (Nat.le_of_ble_eq_true rfl) ⟨Nat.le_of_ble_eq_true rfl, Nat.le_of_ble_eq_true rfl⟩ (by unfold inR; omega) dX1_revolve_20 ?_
        refine z_int (y := iI (absZ x)) hC rfl ?_
        have hab : 1 ≤ absZ x ∧ absZ x ≤ 99 := by unfold absZ; split <;> omega
        generalize hn : absZ x = n at hab
        have hml := mul_in (a := n) (b := E.2.1 2) ⟨by omega, by omega⟩ ⟨by omega, by omega⟩
        refine z_istore_n (lv' := [(2, .int (iI n)), (0, .ref h0), (1, .int (iI x))]) hC dX1_revolve_23 rfl (by decide) rfl ?_
        refine z_aload_n hC dX1_revolve_24 rfl 1 rfl ?_
        refine z_iconst hC dX1_revolve_25 ?_
        refine z_callV (wr := []) (av := [.int (iI 2)]) (st := []) hC (t_X1_setting l D J h0 h1 h2 E 2 (by decide)) gX1_revolve_X1_setting rfl 1 (by decide +kernel) ⟨Nat.le_of_ble_eq_true rfl, Nat.le_of_ble_eq_true rfl⟩ ⟨Nat.le_of_ble_eq_true rfl, Nat.le_of_ble_eq_true rfl⟩ [0, 1, 2] [] rfl rfl rfl (by decide) rfl 0 rfl rfl rfl rfl rfl (Nat.le_of_ble_eq_true rfl) dX1_revolve_26 (fun _ _ => ?_)
        refine z_ws (ws' := wE J h0 h1 h2 E) rfl ?_
        refine z_st (st' := [.int (iI (E.2.1 2))]) rfl ?_
        refine z_istore_n (lv' := [(3, .int (iI (E.2.1 2))), (2, .int (iI n)), (0, .ref h0), (1, .int (iI x))]) hC dX1_revolve_29 rfl (by decide) rfl ?_
        refine z_iload_n hC dX1_revolve_30 rfl 1 rfl ?_
        refine z_iload_n hC dX1_revolve_31 rfl 0 rfl ?_
        refine z_imul hC dX1_revolve_32 ?_
        refine z_ldc hC 99999 kX1_revolve_5 dX1_revolve_33 (by decide) ?_
        refine z_aload_n hC dX1_revolve_35 rfl 2 rfl ?_
        refine z_geti hC zkX1 iX1_revolve_X1 0 rfl 2 (by decide) kX1_revolve_6 rfl rfl dX1_revolve_36 ?_
        refine z_isub hC dX1_revolve_39 ?_
        refine z_icmp_le (tgt := 46) hC dX1_revolve_40 (by decide) (by unfold inR; omega) (by unfold inR; omega) (fun c_40_4 => ?_) (fun c_40_4 => ?_)
        · refine z_join (α := Int) (fun w => w = if 0 < x then 1 else -1) (fun w => wE J h0 h1 h2 E) (fun w => [(3, .int (iI (E.2.1 2))), (2, .int (iI n)), (0, .ref h0), (1, .int (iI x))]) 55 (fun w => [.int (iI w)]) (fun w hw => ?_) (fun K_5 => ?_)
          · change Z _ _ _ _ _ _ _ _ _ _ _ _ _ _ _ _ (wE J h0 h1 h2 E) ([(3, .int (iI (E.2.1 2))), (2, .int (iI n)), (0, .ref h0), (1, .int (iI x))]) 55 ([.int (iI w)])
            have hw01 : w = 1 ∨ w = -1 := by rw [hw]; split <;> omega
            have c_big : n * E.2.1 2 ≤ 99999 - E.1 2 := by omega
            refine z_istore (lv' := [(4, .int (iI w)), (3, .int (iI (E.2.1 2))), (2, .int (iI n)), (0, .ref h0), (1, .int (iI x))]) hC dX1_revolve_55 (by decide) rfl ?_
            refine z_iconst hC dX1_revolve_57 ?_
            refine z_istore (lv' := [(5, .int (iI 0)), (4, .int (iI w)), (3, .int (iI (E.2.1 2))), (2, .int (iI n)), (0, .ref h0), (1, .int (iI x))]) hC dX1_revolve_58 (by decide) rfl ?_
            refine z_lv (lv' := [(5, .int (iI 0)), (4, .int (iI w)), (3, .int (iI (E.2.1 2))), (2, .int (iI n)), (1, .int (iI x)), (0, .ref h0)]) [0, 1, 2, 3, 5, 4] rfl ?_
            refine z_loop (α := Nat) (fun nn k => (k : Int) + (nn : Int) = n) (fun nn k => wE J h0 h1 h2 (cTurns (Int.toNat (E.2.1 2)) w E k)) (fun nn k => [(5, .int (iI (k : Int))), (4, .int (iI w)), (3, .int (iI (E.2.1 2))), (2, .int (iI n)), (1, .int (iI x)), (0, .ref h0)]) 60 [] (fun nn k ih_6 hP_7 => ?_) (fun k hP_7 => ?_) n.toNat 0 (by show ((0 : Nat) : Int) + _ = _; omega)
            · change Z _ _ _ _ _ _ _ _ _ _ _ _ _ _ _ _ (wE J h0 h1 h2 (cTurns (Int.toNat (E.2.1 2)) w E k)) ([(5, .int (iI (k : Int))), (4, .int (iI w)), (3, .int (iI (E.2.1 2))), (2, .int (iI n)), (1, .int (iI x)), (0, .ref h0)]) 60 ([])
              have hkn := turn_room (k := k) (n := n) (F := E.2.1 2) (B := 99999 - E.1 2) (by omega) (by omega) c_big
              have hF : ((Int.toNat (E.2.1 2) : Nat) : Int) = E.2.1 2 := by omega
              have ht := turns_inv (w := w) (F := Int.toNat (E.2.1 2)) hI k (by rw [hF]; omega)
              rw [hF] at ht
              have hse := ht.1.2.2.2.1
              refine z_iload hC dX1_revolve_60 0 rfl ?_
              refine z_iload_n hC dX1_revolve_62 rfl 3 rfl ?_
              refine z_icmp_ge_f (tgt := 110) hC dX1_revolve_63 (by decide) (by unfold inR; omega) (by unfold inR; omega) (by omega) ?_
              refine z_aload_n hC dX1_revolve_66 rfl 5 rfl ?_
              refine z_geti hC zkX1 iX1_revolve_X1 0 rfl 5 (by decide) kX1_revolve_7 rfl rfl dX1_revolve_67 ?_
              refine z_callS (wr := [cO 0 h0 [some h1, some h2, none, none, none, none, none, none, none, none, none, none, none, none, none, none] ((cTurns (Int.toNat (E.2.1 2)) w E k).1), cI (J 0) h1 5 ((cTurns (Int.toNat (E.2.1 2)) w E k).2.1), cI (J 0) h2 200 ((cTurns (Int.toNat (E.2.1 2)) w E k).2.2)]) (av := [.int (iI (((cTurns (Int.toNat (E.2.1 2)) w E k).1) 5))]) (st := []) hC (t_X1_orderOf l D J (((cTurns (Int.toNat (E.2.1 2)) w E k).1) 5) hse) gX1_revolve_X1_orderOf rfl 1 (by decide +kernel) ⟨Nat.le_of_ble_eq_true rfl, Nat.le_of_ble_eq_true rfl⟩ ⟨Nat.le_of_ble_eq_true rfl, Nat.le_of_ble_eq_true rfl⟩ [] [0, 1, 2] rfl rfl rfl (by decide) rfl rfl rfl (Nat.le_of_ble_eq_true rfl) dX1_revolve_70 (fun _ _ => ?_)
              refine z_ws (ws' := wE J h0 h1 h2 (cTurns (Int.toNat (E.2.1 2)) w E k)) rfl ?_
              refine z_st (st' := [.int (iI (ordP (((cTurns (Int.toNat (E.2.1 2)) w E k).1) 5)))]) rfl ?_
              refine z_iload hC dX1_revolve_73 1 rfl ?_
              refine z_iadd hC dX1_revolve_75 ?_
              refine z_callS (wr := [cO 0 h0 [some h1, some h2, none, none, none, none, none, none, none, none, none, none, none, none, none, none] ((cTurns (Int.toNat (E.2.1 2)) w E k).1), cI (J 0) h1 5 ((cTurns (Int.toNat (E.2.1 2)) w E k).2.1), cI (J 0) h2 200 ((cTurns (Int.toNat (E.2.1 2)) w E k).2.2)]) (av := [.int (iI ((ordP (((cTurns (Int.toNat (E.2.1 2)) w E k).1) 5)) + w))]) (st := []) hC (t_X1_pairAlong l D J ((ordP (((cTurns (Int.toNat (E.2.1 2)) w E k).1) 5)) + w) ) gX1_revolve_X1_pairAlong rfl 1 (by decide +kernel) ⟨Nat.le_of_ble_eq_true rfl, Nat.le_of_ble_eq_true rfl⟩ ⟨Nat.le_of_ble_eq_true rfl, Nat.le_of_ble_eq_true rfl⟩ [] [0, 1, 2] rfl rfl rfl (by decide) rfl rfl rfl (Nat.le_of_ble_eq_true rfl) dX1_revolve_76 (fun _ _ => ?_)
              refine z_ws (ws' := wE J h0 h1 h2 (cTurns (Int.toNat (E.2.1 2)) w E k)) rfl ?_
              refine z_st (st' := [.int (iI (ordP (((ordP (((cTurns (Int.toNat (E.2.1 2)) w E k).1) 5)) + w) % 4)))]) rfl ?_
              refine z_st (st' := [.int (iI (cPair (cTurns (Int.toNat (E.2.1 2)) w E k) w))]) rfl ?_
              have hpr03 := pair_in (E := cTurns (Int.toNat (E.2.1 2)) w E k) w
              generalize hpr : cPair (cTurns (Int.toNat (E.2.1 2)) w E k) w = pr at hpr03 ⊢
              refine z_istore (lv' := [(6, .int (iI pr)), (5, .int (iI (k : Int))), (4, .int (iI w)), (3, .int (iI (E.2.1 2))), (2, .int (iI n)), (1, .int (iI x)), (0, .ref h0)]) hC dX1_revolve_79 (by decide) rfl ?_
              refine z_iconst hC dX1_revolve_81 ?_
              refine z_istore (lv' := [(7, .int (iI 0)), (6, .int (iI pr)), (5, .int (iI (k : Int))), (4, .int (iI w)), (3, .int (iI (E.2.1 2))), (2, .int (iI n)), (1, .int (iI x)), (0, .ref h0)]) hC dX1_revolve_82 (by decide) rfl ?_
              refine z_lv (lv' := [(7, .int (iI 0)), (6, .int (iI pr)), (5, .int (iI (k : Int))), (4, .int (iI w)), (3, .int (iI (E.2.1 2))), (2, .int (iI n)), (1, .int (iI x)), (0, .ref h0)]) [0, 1, 2, 3, 4, 5, 6, 7] rfl ?_
              refine z_loop (α := Nat) (fun nn j => (j : Int) + (nn : Int) = E.2.1 2) (fun nn j => wE J h0 h1 h2 (cTicks (cTurns (Int.toNat (E.2.1 2)) w E k) pr 0 j)) (fun nn j => [(7, .int (iI (j : Int))), (6, .int (iI pr)), (5, .int (iI (k : Int))), (4, .int (iI w)), (3, .int (iI (E.2.1 2))), (2, .int (iI n)), (1, .int (iI x)), (0, .ref h0)]) 84 [] (fun nn j ih_8 hP_9 => ?_) (fun j hP_9 => ?_) (Int.toNat (E.2.1 2)) 0 (by show ((0 : Nat) : Int) + _ = _; omega)
              · change Z _ _ _ _ _ _ _ _ _ _ _ _ _ _ _ _ (wE J h0 h1 h2 (cTicks (cTurns (Int.toNat (E.2.1 2)) w E k) pr 0 j)) ([(7, .int (iI (j : Int))), (6, .int (iI pr)), (5, .int (iI (k : Int))), (4, .int (iI w)), (3, .int (iI (E.2.1 2))), (2, .int (iI n)), (1, .int (iI x)), (0, .ref h0)]) 84 ([])
                have hj := ticks_inv ht.1 hpr03 (i := 0) ⟨by omega, by omega⟩ j (by rw [ht.2.1]; omega)
                refine z_iload hC dX1_revolve_84 0 rfl ?_
                refine z_iload_n hC dX1_revolve_86 rfl 4 rfl ?_
                refine z_icmp_ge_f (tgt := 104) hC dX1_revolve_87 (by decide) (by unfold inR; omega) (by unfold inR; omega) (by omega) ?_
                refine z_aload_n hC dX1_revolve_90 rfl 7 rfl ?_
                refine z_iload hC dX1_revolve_91 1 rfl ?_
                refine z_iconst hC dX1_revolve_93 ?_
                refine z_callV (wr := []) (av := [.int (iI pr), .int (iI 0)]) (st := []) hC (t_X1_tick l D J h0 h1 h2 (cTicks (cTurns (Int.toNat (E.2.1 2)) w E k) pr 0 j) pr 0 hj.1 hpr03 ⟨by omega, by omega⟩) gX1_revolve_X1_tick rfl 2 (by decide +kernel) ⟨Nat.le_of_ble_eq_true rfl, Nat.le_of_ble_eq_true rfl⟩ ⟨Nat.le_of_ble_eq_true rfl, Nat.le_of_ble_eq_true rfl⟩ [0, 1, 2] [] rfl rfl rfl (by decide) rfl 0 rfl rfl rfl rfl rfl (Nat.le_of_ble_eq_true rfl) dX1_revolve_94 (fun _ _ => ?_)
                refine z_ws (ws' := wE J h0 h1 h2 (cTick (cTicks (cTurns (Int.toNat (E.2.1 2)) w E k) pr 0 j) pr 0)) rfl ?_
                refine z_st (st' := [.int (iI (cDeed ((cTicks (cTurns (Int.toNat (E.2.1 2)) w E k) pr 0 j).1) ((cTicks (cTurns (Int.toNat (E.2.1 2)) w E k) pr 0 j).2.1) pr))]) rfl ?_
                refine z_pop hC dX1_revolve_97 rfl ?_
                refine z_iinc (lv' := [(7, .int (iI ((j : Int) + 1))), (6, .int (iI pr)), (5, .int (iI (k : Int))), (4, .int (iI w)), (3, .int (iI (E.2.1 2))), (2, .int (iI n)), (1, .int (iI x)), (0, .ref h0)]) hC dX1_revolve_98 0 rfl (by decide) rfl ?_
                refine z_goto (tgt := 84) hC dX1_revolve_101 (by decide) ?_
                refine z_lv (lv' := _) [0, 1, 2, 3, 4, 5, 6, 7] rfl ?_
                exact ih_8 (j + 1) (by omega)
              · change Z _ _ _ _ _ _ _ _ _ _ _ _ _ _ _ _ (wE J h0 h1 h2 (cTicks (cTurns (Int.toNat (E.2.1 2)) w E k) pr 0 j)) ([(7, .int (iI (j : Int))), (6, .int (iI pr)), (5, .int (iI (k : Int))), (4, .int (iI w)), (3, .int (iI (E.2.1 2))), (2, .int (iI n)), (1, .int (iI x)), (0, .ref h0)]) 84 ([])
                refine z_iload hC dX1_revolve_84 0 rfl ?_
                refine z_iload_n hC dX1_revolve_86 rfl 4 rfl ?_
                refine z_icmp_ge_t (tgt := 104) hC dX1_revolve_87 (by decide) (by unfold inR; omega) (by unfold inR; omega) (by omega) ?_
                have hjF : j = Int.toNat (E.2.1 2) := by omega
                refine z_lv (lv' := [(5, .int (iI (k : Int))), (4, .int (iI w)), (3, .int (iI (E.2.1 2))), (2, .int (iI n)), (1, .int (iI x)), (0, .ref h0)]) [2, 3, 4, 5, 6, 7] rfl ?_
                subst hpr
                subst hjF
                refine z_ws (ws' := wE J h0 h1 h2 (cTurns (Int.toNat (E.2.1 2)) w E (k + 1))) rfl ?_
                refine z_iinc (lv' := [(5, .int (iI ((k : Int) + 1))), (4, .int (iI w)), (3, .int (iI (E.2.1 2))), (2, .int (iI n)), (1, .int (iI x)), (0, .ref h0)]) hC dX1_revolve_104 0 rfl (by decide) rfl ?_
                refine z_goto (tgt := 60) hC dX1_revolve_107 (by decide) ?_
                refine z_lv (lv' := _) [0, 1, 2, 3, 4, 5] rfl ?_
                exact ih_6 (k + 1) (by omega)
            · change Z _ _ _ _ _ _ _ _ _ _ _ _ _ _ _ _ (wE J h0 h1 h2 (cTurns (Int.toNat (E.2.1 2)) w E k)) ([(5, .int (iI (k : Int))), (4, .int (iI w)), (3, .int (iI (E.2.1 2))), (2, .int (iI n)), (1, .int (iI x)), (0, .ref h0)]) 60 ([])
              have hin : k = n.toNat := by omega
              refine z_iload hC dX1_revolve_60 0 rfl ?_
              refine z_iload_n hC dX1_revolve_62 rfl 3 rfl ?_
              refine z_icmp_ge_t (tgt := 110) hC dX1_revolve_63 (by decide) (by unfold inR; omega) (by unfold inR; omega) (by omega) ?_
              refine z_aload_n hC dX1_revolve_110 rfl 5 rfl ?_
              refine z_geti hC zkX1 iX1_revolve_X1 0 rfl 3 (by decide) kX1_revolve_8 rfl rfl dX1_revolve_111 ?_
              exact z_iret hC hr rfl () trivial (hvi (by subst hin hw hn; have hok : cRevOk E x = 0 := (by unfold cRevOk; (repeat' split) <;> omega); simp only [cRevR, cRevE, hok, if_true])) (congrArg (wE J h0 h1 h2) (by subst hin hw hn; have hok : cRevOk E x = 0 := (by unfold cRevOk; (repeat' split) <;> omega); simp only [cRevR, cRevE, hok, if_true])) dX1_revolve_114
          · skip
            refine z_iload_n hC dX1_revolve_46 rfl 3 rfl ?_
            refine z_if_le (tgt := 54) hC dX1_revolve_47 (by decide) (by unfold inR; omega) (fun c_47_10 => ?_) (fun c_47_10 => ?_)
            · refine z_iconst hC dX1_revolve_54 ?_
              refine z_lv (lv' := _) [0, 1, 2, 3] rfl ?_
              exact K_5 (-1) (by split <;> omega)
            · refine z_iconst hC dX1_revolve_50 ?_
              refine z_goto (tgt := 55) hC dX1_revolve_51 (by decide) ?_
              refine z_lv (lv' := _) [0, 1, 2, 3] rfl ?_
              exact K_5 1 (by split <;> omega)
        · refine z_bipush hC dX1_revolve_43 (by decide) ?_
          exact z_iret hC hr rfl () trivial (hvi (by subst hn; have hok : cRevOk E x = -5 := (by unfold cRevOk; (repeat' split) <;> first | rfl | omega); simp only [cRevR, cRevE, hok]; rfl)) (congrArg (wE J h0 h1 h2) (by subst hn; have hok : cRevOk E x = -5 := (by unfold cRevOk; (repeat' split) <;> first | rfl | omega); simp only [cRevR, cRevE, hok]; rfl)) dX1_revolve_45
      · refine z_bipush hC dX1_revolve_16 (by decide) ?_
        exact z_iret hC hr rfl () trivial (hvi (by have hok : cRevOk E x = -2 := (by unfold cRevOk; (repeat' split) <;> first | rfl | omega); simp only [cRevR, cRevE, hok]; rfl)) (congrArg (wE J h0 h1 h2) (by have hok : cRevOk E x = -2 := (by unfold cRevOk; (repeat' split) <;> first | rfl | omega); simp only [cRevR, cRevE, hok]; rfl)) dX1_revolve_18
end
