section
-- ===== PART A: goes FIRST, ahead of the names: the tables' words, and 'selects' of the private methods out of them =====
/-- a private method of a class that the tables say can be made, by its rows of tables_1 -/
def lw_okq (q : MethodName × Nat) : Prop := (q.1.cls ≠ "java/lang/invoke/MethodHandle" ∧ q.1.cls ≠ "java/lang/invoke/VarHandle") ∧ Cond.instantiable q.1.cls q.2 ∈ tables_1 ∧ Cond.privateMethod q.1 ∈ tables_1 ∧ Cond.instanceMethod q.1 ∈ tables_1
theorem lw_p0 : lw_okq (⟨"StepPairs$History", "nextRow", "()LStepPairs$Encoder;"⟩, 3) := ⟨⟨by decide +kernel, by decide +kernel⟩, List.mem_of_getElem? (i := 89) (by decide +kernel), List.mem_of_getElem? (i := 197) (by decide +kernel), List.mem_of_getElem? (i := 198) (by decide +kernel)⟩
theorem lw_p1 : lw_okq (⟨"StepPairs$Encoder", "tick", "(II)I"⟩, 16) := ⟨⟨by decide +kernel, by decide +kernel⟩, List.mem_of_getElem? (i := 18) (by decide +kernel), List.mem_of_getElem? (i := 209) (by decide +kernel), List.mem_of_getElem? (i := 210) (by decide +kernel)⟩
theorem lw_p2 : lw_okq (⟨"StepPairs$Encoder", "runWith", "(I)I"⟩, 16) := ⟨⟨by decide +kernel, by decide +kernel⟩, List.mem_of_getElem? (i := 18) (by decide +kernel), List.mem_of_getElem? (i := 217) (by decide +kernel), List.mem_of_getElem? (i := 218) (by decide +kernel)⟩
theorem lw_p3 : lw_okq (⟨"StepPairs$Encoder", "step", "(I)V"⟩, 16) := ⟨⟨by decide +kernel, by decide +kernel⟩, List.mem_of_getElem? (i := 18) (by decide +kernel), List.mem_of_getElem? (i := 225) (by decide +kernel), List.mem_of_getElem? (i := 226) (by decide +kernel)⟩
theorem lw_p4 : lw_okq (⟨"StepPairs$Encoder", "meetIndex", "()V"⟩, 16) := ⟨⟨by decide +kernel, by decide +kernel⟩, List.mem_of_getElem? (i := 18) (by decide +kernel), List.mem_of_getElem? (i := 232) (by decide +kernel), List.mem_of_getElem? (i := 233) (by decide +kernel)⟩
theorem lw_p5 : lw_okq (⟨"StepPairs$Encoder", "entry", "(I)I"⟩, 16) := ⟨⟨by decide +kernel, by decide +kernel⟩, List.mem_of_getElem? (i := 18) (by decide +kernel), List.mem_of_getElem? (i := 257) (by decide +kernel), List.mem_of_getElem? (i := 258) (by decide +kernel)⟩
theorem lw_p6 : lw_okq (⟨"StepPairs$Encoder", "restart", "()V"⟩, 16) := ⟨⟨by decide +kernel, by decide +kernel⟩, List.mem_of_getElem? (i := 18) (by decide +kernel), List.mem_of_getElem? (i := 369) (by decide +kernel), List.mem_of_getElem? (i := 370) (by decide +kernel)⟩
def lw_privs_1 : List (MethodName × Nat) := [(⟨"StepPairs$History", "nextRow", "()LStepPairs$Encoder;"⟩, 3), (⟨"StepPairs$Encoder", "tick", "(II)I"⟩, 16), (⟨"StepPairs$Encoder", "runWith", "(I)I"⟩, 16), (⟨"StepPairs$Encoder", "step", "(I)V"⟩, 16), (⟨"StepPairs$Encoder", "meetIndex", "()V"⟩, 16), (⟨"StepPairs$Encoder", "entry", "(I)I"⟩, 16), (⟨"StepPairs$Encoder", "restart", "()V"⟩, 16)]
theorem lw_r1 : ∀ q ∈ lw_privs_1, lw_okq q := List.forall_mem_cons.mpr ⟨lw_p0, List.forall_mem_cons.mpr ⟨lw_p1, List.forall_mem_cons.mpr ⟨lw_p2, List.forall_mem_cons.mpr ⟨lw_p3, List.forall_mem_cons.mpr ⟨lw_p4, List.forall_mem_cons.mpr ⟨lw_p5, List.forall_mem_cons.mpr ⟨lw_p6, fun _ h => absurd h List.not_mem_nil⟩⟩⟩⟩⟩⟩⟩
def lw_privs : List (MethodName × Nat) := lw_privs_1
def lw_tbl : List Cond := k2_sels lw_privs ++ tables_1
theorem lw_privs_ok : ∀ q ∈ lw_privs, lw_okq q := lw_r1
/-- the streams that the claim lets the run draw from -/
abbrev lw_cs : List Choice := [Jvm.Choice.named "NaN.bits"]
theorem lw_bits : nanBits ∈ lw_cs := by first | decide | exact List.mem_cons_self | simp [lw_cs, nanBits]
end
section
/-! ===== BEGIN words of one list among another's, by their places ===== -/
theorem goodIn_r {big : List Cond} (ws : List Cond) (ps : List Nat) (hp : ws = ps.filterMap (fun i => big[i]?)) (h : ws.all goodWord = true) : GoodIn big ws := by
  intro w hw
  have h1 := List.all_eq_true.mp h w hw
  rw [hp] at hw
  obtain ⟨i, -, hi⟩ := List.mem_filterMap.mp hw
  have hm : w ∈ big := by first | exact List.mem_of_getElem? hi | exact List.getElem?_mem hi
  exact ⟨hm, good_of_word h1⟩
theorem goodIn_app {big a b : List Cond} (ha : GoodIn big a) (hb : GoodIn big b) : GoodIn big (a ++ b) := fun w h => (List.mem_append.mp h).elim (ha w) (hb w)
theorem goodIn_ca {big a b : List Cond} {c : Cond} (ha : GoodIn big (c :: a)) (hb : GoodIn big b) : GoodIn big (c :: (a ++ b)) := fun w h => (List.mem_cons.mp h).elim (fun e => ha w (List.mem_cons.mpr (Or.inl e))) (fun h => (List.mem_append.mp h).elim (fun h => ha w (List.mem_cons.mpr (Or.inr h))) (hb w))
theorem goodIn_sub {big ws : List Cond} (hm : ∀ w ∈ ws, w ∈ big) (h : ws.all goodWord = true) : GoodIn big ws := fun w hw => ⟨hm w hw, good_of_word (List.all_eq_true.mp h w hw)⟩
/-! ===== END ===== -/

/-! ===== BEGIN printed: names, fields, word lists, decode rows ===== -/
def RX0 : String := "StepPairs$Bits"
def TX0 : u_T := fun k => match k with
  | _ => ("", "", "", false)
def tyX0 : Nat → FieldType := fun k => match k with
  | _ => .int
abbrev wsX00 : List Cond := u_ws RX0 TX0 0
theorem nmX0 : ∀ a, a < 0 → ∀ b, b < 0 → a ≠ b → (TX0 a).2.1 ≠ (TX0 b).2.1 := by decide +kernel
theorem tyX0_ok : ∀ k, k < 0 → parseFieldDescriptor (TX0 k).2.2.1 = some (tyX0 k) := by decide +kernel
abbrev cX0_ofDouble : ByteArray := prog_2_method_2_code
def yX0_ofDouble : MethodName := ⟨RX0, "ofDouble", "(D)J"⟩
abbrev cX0_ofFloat : ByteArray := prog_2_method_3_code
def yX0_ofFloat : MethodName := ⟨RX0, "ofFloat", "(F)I"⟩
def RX1 : String := "StepPairs$Encoder"
def TX1 : u_T := fun k => match k with
  | 0 => ("StepPairs$Encoder", "settings", "[I", true)
  | 1 => ("StepPairs$Encoder", "log", "[I", true)
  | 2 => ("StepPairs$Encoder", "ticks", "I", false)
  | 3 => ("StepPairs$Encoder", "count", "I", false)
  | 4 => ("StepPairs$Encoder", "place", "I", false)
  | 5 => ("StepPairs$Encoder", "seen", "I", false)
  | 6 => ("StepPairs$Encoder", "latestPair", "I", false)
  | 7 => ("StepPairs$Encoder", "latestIndex", "I", false)
  | 8 => ("StepPairs$Encoder", "run", "I", false)
  | 9 => ("StepPairs$Encoder", "direction", "I", false)
  | 10 => ("StepPairs$Encoder", "forwards", "I", false)
  | 11 => ("StepPairs$Encoder", "backwards", "I", false)
  | 12 => ("StepPairs$Encoder", "illegal", "I", false)
  | 13 => ("StepPairs$Encoder", "slips", "I", false)
  | 14 => ("StepPairs$Encoder", "tickOfLatestStep", "I", false)
  | _ => ("StepPairs$Encoder", "period", "I", false)
def tyX1 : Nat → FieldType := fun k => match k with
  | 0 => .array .int
  | 1 => .array .int
  | 2 => .int
  | 3 => .int
  | 4 => .int
  | 5 => .int
  | 6 => .int
  | 7 => .int
  | 8 => .int
  | 9 => .int
  | 10 => .int
  | 11 => .int
  | 12 => .int
  | 13 => .int
  | 14 => .int
  | _ => .int
abbrev wsX10 : List Cond := u_ws RX1 TX1 16
theorem nmX1 : ∀ a, a < 16 → ∀ b, b < 16 → a ≠ b → (TX1 a).2.1 ≠ (TX1 b).2.1 := by decide +kernel
theorem tyX1_ok : ∀ k, k < 16 → parseFieldDescriptor (TX1 k).2.2.1 = some (tyX1 k) := by decide +kernel
abbrev cX1_init : ByteArray := prog_3_method_1_code
def yX1_init : MethodName := ⟨RX1, "<init>", "()V"⟩
abbrev cX1_copy : ByteArray := prog_3_method_2_code
def yX1_copy : MethodName := ⟨RX1, "copy", "(LStepPairs$Encoder;LStepPairs$Encoder;)V"⟩
abbrev cX1_restart : ByteArray := prog_3_method_3_code
def yX1_restart : MethodName := ⟨RX1, "restart", "()V"⟩
abbrev cX1_follow : ByteArray := prog_3_method_4_code
def yX1_follow : MethodName := ⟨RX1, "follow", "(LStepPairs$Encoder;I)V"⟩
abbrev cX1_setting : ByteArray := prog_3_method_5_code
def yX1_setting : MethodName := ⟨RX1, "setting", "(I)I"⟩
abbrev cX1_adjust : ByteArray := prog_3_method_6_code
def yX1_adjust : MethodName := ⟨RX1, "adjust", "(II)I"⟩
abbrev cX1_pass : ByteArray := prog_3_method_7_code
def yX1_pass : MethodName := ⟨RX1, "pass", "(III)I"⟩
abbrev cX1_revolve : ByteArray := prog_3_method_8_code
def yX1_revolve : MethodName := ⟨RX1, "revolve", "(I)I"⟩
abbrev cX1_clear : ByteArray := prog_3_method_9_code
def yX1_clear : MethodName := ⟨RX1, "clear", "()I"⟩
abbrev cX1_tick : ByteArray := prog_3_method_10_code
def yX1_tick : MethodName := ⟨RX1, "tick", "(II)I"⟩
abbrev cX1_deedBy : ByteArray := prog_3_method_11_code
def yX1_deedBy : MethodName := ⟨RX1, "deedBy", "(I)I"⟩
abbrev cX1_runWith : ByteArray := prog_3_method_12_code
def yX1_runWith : MethodName := ⟨RX1, "runWith", "(I)I"⟩
abbrev cX1_step : ByteArray := prog_3_method_13_code
def yX1_step : MethodName := ⟨RX1, "step", "(I)V"⟩
abbrev cX1_meetIndex : ByteArray := prog_3_method_14_code
def yX1_meetIndex : MethodName := ⟨RX1, "meetIndex", "()V"⟩
abbrev cX1_stepsOfGate : ByteArray := prog_3_method_15_code
def yX1_stepsOfGate : MethodName := ⟨RX1, "stepsOfGate", "()I"⟩
abbrev cX1_logged : ByteArray := prog_3_method_16_code
def yX1_logged : MethodName := ⟨RX1, "logged", "()I"⟩
abbrev cX1_hasTick : ByteArray := prog_3_method_17_code
def yX1_hasTick : MethodName := ⟨RX1, "hasTick", "(I)Z"⟩
abbrev cX1_entry : ByteArray := prog_3_method_18_code
def yX1_entry : MethodName := ⟨RX1, "entry", "(I)I"⟩
abbrev cX1_pairAt : ByteArray := prog_3_method_19_code
def yX1_pairAt : MethodName := ⟨RX1, "pairAt", "(I)I"⟩
abbrev cX1_indexAt : ByteArray := prog_3_method_20_code
def yX1_indexAt : MethodName := ⟨RX1, "indexAt", "(I)I"⟩
abbrev cX1_deedAt : ByteArray := prog_3_method_21_code
def yX1_deedAt : MethodName := ⟨RX1, "deedAt", "(I)I"⟩
abbrev cX1_orderOf : ByteArray := prog_3_method_22_code
def yX1_orderOf : MethodName := ⟨RX1, "orderOf", "(I)I"⟩
abbrev cX1_pairAlong : ByteArray := prog_3_method_23_code
def yX1_pairAlong : MethodName := ⟨RX1, "pairAlong", "(I)I"⟩
abbrev cX1_leftOver : ByteArray := prog_3_method_24_code
def yX1_leftOver : MethodName := ⟨RX1, "leftOver", "(II)I"⟩
def RX2 : String := "StepPairs$History"
def TX2 : u_T := fun k => match k with
  | 0 => ("StepPairs$History", "rows", "[LStepPairs$Encoder;", true)
  | 1 => ("StepPairs$History", "next", "I", false)
  | _ => ("StepPairs$History", "size", "I", false)
def tyX2 : Nat → FieldType := fun k => match k with
  | 0 => .array (.object "StepPairs$Encoder")
  | 1 => .int
  | _ => .int
abbrev wsX20 : List Cond := u_ws RX2 TX2 3
theorem nmX2 : ∀ a, a < 3 → ∀ b, b < 3 → a ≠ b → (TX2 a).2.1 ≠ (TX2 b).2.1 := by decide +kernel
theorem tyX2_ok : ∀ k, k < 3 → parseFieldDescriptor (TX2 k).2.2.1 = some (tyX2 k) := by decide +kernel
abbrev cX2_init : ByteArray := prog_4_method_1_code
def yX2_init : MethodName := ⟨RX2, "<init>", "()V"⟩
abbrev cX2_nextRow : ByteArray := prog_4_method_2_code
def yX2_nextRow : MethodName := ⟨RX2, "nextRow", "()LStepPairs$Encoder;"⟩
abbrev cX2_prepare : ByteArray := prog_4_method_3_code
def yX2_prepare : MethodName := ⟨RX2, "prepare", "(LStepPairs$Encoder;)V"⟩
abbrev cX2_keepUnlessError : ByteArray := prog_4_method_4_code
def yX2_keepUnlessError : MethodName := ⟨RX2, "keepUnlessError", "(I)I"⟩
abbrev cX2_takeBack : ByteArray := prog_4_method_5_code
def yX2_takeBack : MethodName := ⟨RX2, "takeBack", "(LStepPairs$Encoder;)I"⟩
def RX3 : String := "StepPairs$Pad"
def TX3 : u_T := fun k => match k with
  | 0 => ("StepPairs$Pad", "characters", "[C", true)
  | 1 => ("StepPairs$Pad", "length", "I", false)
  | 2 => ("StepPairs$Pad", "position", "I", false)
  | 3 => ("StepPairs$Pad", "pair", "I", false)
  | 4 => ("StepPairs$Pad", "index", "I", false)
  | _ => ("StepPairs$Pad", "number", "I", false)
def tyX3 : Nat → FieldType := fun k => match k with
  | 0 => .array .char
  | 1 => .int
  | 2 => .int
  | 3 => .int
  | 4 => .int
  | _ => .int
abbrev wsX30 : List Cond := u_ws RX3 TX3 6
theorem nmX3 : ∀ a, a < 6 → ∀ b, b < 6 → a ≠ b → (TX3 a).2.1 ≠ (TX3 b).2.1 := by decide +kernel
theorem tyX3_ok : ∀ k, k < 6 → parseFieldDescriptor (TX3 k).2.2.1 = some (tyX3 k) := by decide +kernel
abbrev cX3_init : ByteArray := prog_5_method_1_code
def yX3_init : MethodName := ⟨RX3, "<init>", "()V"⟩
def RX4 : String := "StepPairs$Slots"
def TX4 : u_T := fun k => match k with
  | 0 => ("StepPairs$Slots", "rows", "[LStepPairs$Encoder;", true)
  | _ => ("StepPairs$Slots", "used", "[Z", true)
def tyX4 : Nat → FieldType := fun k => match k with
  | 0 => .array (.object "StepPairs$Encoder")
  | _ => .array .boolean
abbrev wsX40 : List Cond := u_ws RX4 TX4 2
theorem nmX4 : ∀ a, a < 2 → ∀ b, b < 2 → a ≠ b → (TX4 a).2.1 ≠ (TX4 b).2.1 := by decide +kernel
theorem tyX4_ok : ∀ k, k < 2 → parseFieldDescriptor (TX4 k).2.2.1 = some (tyX4 k) := by decide +kernel
abbrev cX4_init : ByteArray := prog_6_method_1_code
def yX4_init : MethodName := ⟨RX4, "<init>", "()V"⟩
def RX5 : String := "StepPairs"
def TX5 : u_T := fun k => match k with
  | 0 => ("StepPairs", "encoder", "LStepPairs$Encoder;", true)
  | 1 => ("StepPairs", "trial", "LStepPairs$Encoder;", true)
  | 2 => ("StepPairs", "history", "LStepPairs$History;", true)
  | 3 => ("StepPairs", "slots", "LStepPairs$Slots;", true)
  | _ => ("StepPairs", "pad", "LStepPairs$Pad;", true)
def tyX5 : Nat → FieldType := fun k => match k with
  | 0 => .object "StepPairs$Encoder"
  | 1 => .object "StepPairs$Encoder"
  | 2 => .object "StepPairs$History"
  | 3 => .object "StepPairs$Slots"
  | _ => .object "StepPairs$Pad"
abbrev wsX50 : List Cond := u_ws RX5 TX5 5
theorem nmX5 : ∀ a, a < 5 → ∀ b, b < 5 → a ≠ b → (TX5 a).2.1 ≠ (TX5 b).2.1 := by decide +kernel
theorem tyX5_ok : ∀ k, k < 5 → parseFieldDescriptor (TX5 k).2.2.1 = some (tyX5 k) := by decide +kernel
abbrev cX5_init : ByteArray := prog_1_method_1_code
def yX5_init : MethodName := ⟨RX5, "<init>", "()V"⟩
abbrev cX5_set : ByteArray := prog_1_method_2_code
def yX5_set : MethodName := ⟨RX5, "set", "(II)I"⟩
abbrev cX5_feed : ByteArray := prog_1_method_3_code
def yX5_feed : MethodName := ⟨RX5, "feed", "(III)I"⟩
abbrev cX5_turn : ByteArray := prog_1_method_4_code
def yX5_turn : MethodName := ⟨RX5, "turn", "(I)I"⟩
abbrev cX5_zero : ByteArray := prog_1_method_5_code
def yX5_zero : MethodName := ⟨RX5, "zero", "()I"⟩
abbrev cX5_log : ByteArray := prog_1_method_6_code
def yX5_log : MethodName := ⟨RX5, "log", "(II)I"⟩
abbrev cX5_count : ByteArray := prog_1_method_7_code
def yX5_count : MethodName := ⟨RX5, "count", "(I)I"⟩
abbrev cX5_speed : ByteArray := prog_1_method_8_code
def yX5_speed : MethodName := ⟨RX5, "speed", "(I)I"⟩
abbrev cX5_rate : ByteArray := prog_1_method_9_code
def yX5_rate : MethodName := ⟨RX5, "rate", "()J"⟩
abbrev cX5_noise : ByteArray := prog_1_method_10_code
def yX5_noise : MethodName := ⟨RX5, "noise", "()I"⟩
abbrev cX5_replay : ByteArray := prog_1_method_11_code
def yX5_replay : MethodName := ⟨RX5, "replay", "(II)I"⟩
abbrev cX5_bestFilter : ByteArray := prog_1_method_12_code
def yX5_bestFilter : MethodName := ⟨RX5, "bestFilter", "(I)I"⟩
abbrev cX5_would : ByteArray := prog_1_method_13_code
def yX5_would : MethodName := ⟨RX5, "would", "(I)I"⟩
abbrev cX5_deeds : ByteArray := prog_1_method_14_code
def yX5_deeds : MethodName := ⟨RX5, "deeds", "(I)I"⟩
abbrev cX5_undo : ByteArray := prog_1_method_21_code
def yX5_undo : MethodName := ⟨RX5, "undo", "()I"⟩
def RX6 : String := "StepPairsModel"
def TX6 : u_T := fun k => match k with
  | _ => ("", "", "", false)
def tyX6 : Nat → FieldType := fun k => match k with
  | _ => .int
abbrev wsX60 : List Cond := u_ws RX6 TX6 0
theorem nmX6 : ∀ a, a < 0 → ∀ b, b < 0 → a ≠ b → (TX6 a).2.1 ≠ (TX6 b).2.1 := by decide +kernel
theorem tyX6_ok : ∀ k, k < 0 → parseFieldDescriptor (TX6 k).2.2.1 = some (tyX6 k) := by decide +kernel
def RJ9 : String := "java/lang/Math"
def TJ9 : u_T := fun k => match k with
  | _ => ("", "", "", false)
def tyJ9 : Nat → FieldType := fun k => match k with
  | _ => .int
abbrev wsJ90 : List Cond := u_ws RJ9 TJ9 0
theorem nmJ9 : ∀ a, a < 0 → ∀ b, b < 0 → a ≠ b → (TJ9 a).2.1 ≠ (TJ9 b).2.1 := by decide +kernel
theorem tyJ9_ok : ∀ k, k < 0 → parseFieldDescriptor (TJ9 k).2.2.1 = some (tyJ9 k) := by decide +kernel
abbrev cJ9_abs_0f7a4 : ByteArray := prog_9_method_59_code
def yJ9_abs_0f7a4 : MethodName := ⟨RJ9, "abs", "(I)I"⟩
abbrev cJ9_min_7cf53 : ByteArray := prog_9_method_69_code
def yJ9_min_7cf53 : MethodName := ⟨RJ9, "min", "(II)I"⟩
def RJ10 : String := "java/lang/System"
def TJ10 : u_T := fun k => match k with
  | _ => ("", "", "", false)
def tyJ10 : Nat → FieldType := fun k => match k with
  | _ => .int
abbrev wsJ100 : List Cond := u_ws RJ10 TJ10 0
theorem nmJ10 : ∀ a, a < 0 → ∀ b, b < 0 → a ≠ b → (TJ10 a).2.1 ≠ (TJ10 b).2.1 := by decide +kernel
theorem tyJ10_ok : ∀ k, k < 0 → parseFieldDescriptor (TJ10 k).2.2.1 = some (tyJ10 k) := by decide +kernel
def RL : String := "StepPairsLaw"
abbrev cL_cell : ByteArray := method_2_code
def yL_cell : MethodName := ⟨RL, "cell", "([II)I"⟩
abbrev cL_up : ByteArray := method_3_code
def yL_up : MethodName := ⟨RL, "up", "(II)I"⟩
abbrev cL_there : ByteArray := method_4_code
def yL_there : MethodName := ⟨RL, "there", "(I)I"⟩
abbrev cL_way : ByteArray := method_5_code
def yL_way : MethodName := ⟨RL, "way", "(I)I"⟩
abbrev cL_isStep : ByteArray := method_6_code
def yL_isStep : MethodName := ⟨RL, "isStep", "(LStepPairs;LStepPairs;I)Z"⟩
abbrev cL_against : ByteArray := method_7_code
def yL_against : MethodName := ⟨RL, "against", "(II)I"⟩
abbrev cL_areAlike : ByteArray := method_8_code
def yL_areAlike : MethodName := ⟨RL, "areAlike", "(LStepPairs;LStepPairs;I)Z"⟩
abbrev cL_isWell : ByteArray := method_9_code
def yL_isWell : MethodName := ⟨RL, "isWell", "(LStepPairs;)Z"⟩
abbrev cL_law : ByteArray := code
def yL_law : MethodName := ⟨RL, "law", "([I)Z"⟩
abbrev vwCl : List vw_C := [(RX1, TX1, 16), (RX2, TX2, 3), (RX3, TX3, 6), (RX4, TX4, 2), (RX5, TX5, 5)]
end
section
/-! ===== MY BASE: whole numbers, worlds, one judgement Z over a world, the locals and the stack ===== -/
def iI (z : Int) : Int32 := Int32.ofInt z
def lI (z : Int) : Int64 := Int64.ofInt z
def inR (z : Int) : Prop := -2147483648 ≤ z ∧ z < 2147483648
def inL (z : Int) : Prop := -9223372036854775808 ≤ z ∧ z < 9223372036854775808
theorem iI_toInt {z : Int} (h : inR z) : (iI z).toInt = z := Int32.toInt_ofInt_of_le (by have := h.1; omega) (by have := h.2; omega)
theorem lI_toInt {z : Int} (h : inL z) : (lI z).toInt = z := Int64.toInt_ofInt_of_le (by have := h.1; omega) (by have := h.2; omega)
theorem iI_add (a b : Int) : iI a + iI b = iI (a + b) := (Int32.ofInt_add a b).symm
theorem iI_sub (a b : Int) : iI a - iI b = iI (a - b) := (Int32.ofInt_sub a b).symm
theorem iI_mul (a b : Int) : iI a * iI b = iI (a * b) := (Int32.ofInt_mul a b).symm
theorem iI_neg (a : Int) : -iI a = iI (-a) := (Int32.ofInt_neg a).symm
theorem iI_lt {a b : Int} (ha : inR a) (hb : inR b) : iI a < iI b ↔ a < b := by rw [Int32.lt_iff_toInt_lt, iI_toInt ha, iI_toInt hb]
theorem iI_le {a b : Int} (ha : inR a) (hb : inR b) : iI a ≤ iI b ↔ a ≤ b := by rw [Int32.le_iff_toInt_le, iI_toInt ha, iI_toInt hb]
theorem iI_eq {a b : Int} (ha : inR a) (hb : inR b) : iI a = iI b ↔ a = b := ⟨fun h => by rw [← iI_toInt ha, ← iI_toInt hb, h], fun h => by rw [h]⟩
theorem iI_0 : (0 : Int32) = iI 0 := rfl
theorem inR_0 : inR 0 := ⟨by decide, by decide⟩
theorem iI_of (x : Int32) : x = iI x.toInt := (Int32.ofInt_toInt x).symm
theorem inR_of (x : Int32) : inR x.toInt := ⟨by have := Int32.le_toInt x; omega, by have := Int32.toInt_lt x; omega⟩
theorem iI_cl {z : Int} (h : inR z) : (iI z).toNatClampNeg = z.toNat := by
  show (iI z).toInt.toNat = _
  rw [iI_toInt h]
theorem iI_in {z : Int} {k n : Nat} (hk : z = (k : Int)) (hn : k < n) (hb : n < 2147483648) : vp_in (iI z) n ∧ (iI z).toNatClampNeg = k := by
  have h : inR z := ⟨by omega, by omega⟩
  refine ⟨vp_in_iff.mpr ?_, ?_⟩
  · rw [iI_toInt h]; omega
  · rw [iI_cl h]; omega
theorem iI_minV : Int32.minValue.toInt = -2147483648 := by decide
theorem iI_maxV : Int32.maxValue.toInt = 2147483647 := by decide
theorem iI_rem {a b : Int} (h0 : 0 ≤ a) (ha : a < 2147483648) (h1 : 0 < b) (hb : b < 2147483648) : iI a - iI a / iI b * iI b = iI (a % b) := by
  have e : iI a / iI b = iI (a.tdiv b) := by
    exact (Int32.ofInt_tdiv (a := a) (b := b) (by rw [iI_minV]; omega) (by rw [iI_maxV]; omega) (by rw [iI_minV]; omega) (by rw [iI_maxV]; omega)).symm
  rw [e, iI_mul, iI_sub, Int.tdiv_eq_ediv_of_nonneg h0]
  congr 1
  have := Int.emod_add_mul_ediv a b
  rw [Int.mul_comm] at this
  omega
theorem iI_div {a b : Int} (h0 : 0 ≤ a) (ha : a < 2147483648) (h1 : 0 < b) (hb : b < 2147483648) : iI a / iI b = iI (a / b) := by
  have e : iI a / iI b = iI (a.tdiv b) := by
    exact (Int32.ofInt_tdiv (a := a) (b := b) (by rw [iI_minV]; omega) (by rw [iI_maxV]; omega) (by rw [iI_minV]; omega) (by rw [iI_maxV]; omega)).symm
  rw [e, Int.tdiv_eq_ediv_of_nonneg h0]
theorem iI_l {z : Int} (h : inR z) : (iI z).toInt64 = lI z := Int32.toInt64_ofInt (by rw [iI_minV]; exact h.1) (by rw [iI_maxV]; have := h.2; omega)
theorem iI_pos0 {b : Int} (h1 : 0 < b) (hb : b < 2147483648) : ¬ iI b = 0 := fun h => by
  have q := (iI_eq (b := 0) ⟨by omega, by omega⟩ inR_0).mp h
  omega
theorem iI_negZ (a : Int) : 0 - iI a = iI (-a) := by
  rw [iI_0, iI_sub, Int.zero_sub]
theorem iI_and3 (a : Int) : iI a &&& iI 3 = iI (a % 4) := by
  have h : (iI 3).toBitVec.toNat = 2 ^ 2 - 1 := by decide
  rw [pk_and (iI a) 2 h]
  have e : (iI a).toBitVec = BitVec.ofInt 32 a := rfl
  rw [e, BitVec.toNat_ofInt]
  show Int32.ofNat _ = Int32.ofInt _
  rw [← Int32.ofInt_eq_ofNat]
  congr 1
  omega
theorem iI_and1 (a : Int) : iI a &&& iI 1 = iI (a % 2) := by
  have h : (iI 1).toBitVec.toNat = 2 ^ 1 - 1 := by decide
  rw [pk_and (iI a) 1 h]
  have e : (iI a).toBitVec = BitVec.ofInt 32 a := rfl
  rw [e, BitVec.toNat_ofInt]
  show Int32.ofNat _ = Int32.ofInt _
  rw [← Int32.ofInt_eq_ofNat]
  congr 1
  omega
theorem iI_nat (n : Nat) : nI n = iI (n : Int) := Int32.ofInt_eq_ofNat.symm
theorem iI_shr {a : Int} (k : Nat) (hk : k < 32) (h0 : 0 ≤ a) (ha : a < 2147483648) : iI a >>> (iI k &&& 31) = iI (a / 2 ^ k) := by
  obtain ⟨n, rfl⟩ := Int.eq_ofNat_of_zero_le h0
  have hs : (((iI k) &&& 31).toBitVec.smod 32).toNat = k := by
    have : ∀ k : Nat, k < 32 → (((iI (k : Int)) &&& 31).toBitVec.smod 32).toNat = k := by decide
    exact this k hk
  rw [← iI_nat, pk_shrN (by omega) _ k hs, iI_nat]
  congr 1
def updZ (f : Nat → Int) (k : Nat) (x : Int) : Nat → Int := fun j => if j = k then x else f j
theorem updZ_eq (f : Nat → Int) (k : Nat) (x : Int) : updZ f k x k = x := if_pos rfl
theorem updZ_ne (f : Nat → Int) {k j : Nat} (x : Int) (h : j ≠ k) : updZ f k x j = f j := if_neg h
theorem updZ_iI (f : Nat → Int) (k : Nat) (x : Int) : upd (fun j => iI (f j)) k (iI x) = fun j => iI (updZ f k x j) := by
  funext j
  unfold upd updZ
  by_cases h : j = k
  · rw [if_pos h, if_pos h]
  · rw [if_neg h, if_neg h]
/-- an object's fields: references at the places that say so, whole numbers else -/
def vFa (e : Nat → Int) : Nat → List (Option Nat) → List Value
  | _, [] => []
  | i, none :: t => .int (iI (e i)) :: vFa e (i + 1) t
  | i, some q :: t => .ref q :: vFa e (i + 1) t
def vF (ks : List (Option Nat)) (e : Nat → Int) : List Value := vFa e 0 ks
theorem vFa_congr {e e' : Nat → Int} : ∀ (ks : List (Option Nat)) (i : Nat), (∀ j, i ≤ j → e j = e' j) → vFa e i ks = vFa e' i ks
  | [], _, _ => rfl
  | none :: t, i, h => by
    show Value.int (iI (e i)) :: vFa e (i + 1) t = Value.int (iI (e' i)) :: vFa e' (i + 1) t
    rw [h i (Nat.le_refl i), vFa_congr t (i + 1) (fun j hj => h j (by omega))]
  | some q :: t, i, h => by
    show Value.ref q :: vFa e (i + 1) t = Value.ref q :: vFa e' (i + 1) t
    rw [vFa_congr t (i + 1) (fun j hj => h j (by omega))]
theorem vFa_set (e : Nat → Int) (v : Int) : ∀ (ks : List (Option Nat)) (i k : Nat), ks[k]? = some none → (vFa e i ks).set k (.int (iI v)) = vFa (updZ e (i + k) v) i ks
  | [], _, _, h => by simp at h
  | none :: t, i, 0, _ => by
    show Value.int (iI v) :: vFa e (i + 1) t = Value.int (iI (updZ e (i + 0) v i)) :: vFa (updZ e (i + 0) v) (i + 1) t
    rw [show updZ e (i + 0) v i = v from if_pos rfl, vFa_congr t (i + 1) (fun j hj => (updZ_ne e (k := i + 0) v (by omega)).symm)]
  | some q :: t, i, 0, h => by simp at h
  | none :: t, i, k + 1, h => by
    show Value.int (iI (e i)) :: (vFa e (i + 1) t).set k (.int (iI v)) = Value.int (iI (updZ e (i + (k + 1)) v i)) :: vFa (updZ e (i + (k + 1)) v) (i + 1) t
    rw [vFa_set e v t (i + 1) k (by simpa using h), updZ_ne e v (by omega : i ≠ i + (k + 1)), show i + 1 + k = i + (k + 1) by omega]
  | some q :: t, i, k + 1, h => by
    show Value.ref q :: (vFa e (i + 1) t).set k (.int (iI v)) = Value.ref q :: vFa (updZ e (i + (k + 1)) v) (i + 1) t
    rw [vFa_set e v t (i + 1) k (by simpa using h), show i + 1 + k = i + (k + 1) by omega]
theorem vFa_get (e : Nat → Int) : ∀ (ks : List (Option Nat)) (i k : Nat), ks[k]? = some none → (vFa e i ks)[k]? = some (.int (iI (e (i + k))))
  | [], _, _, h => by simp at h
  | none :: t, i, 0, _ => rfl
  | some q :: t, i, 0, h => by simp at h
  | none :: t, i, k + 1, h => by
    show (vFa e (i + 1) t)[k]? = _
    rw [vFa_get e t (i + 1) k (by simpa using h), show i + 1 + k = i + (k + 1) by omega]
  | some q :: t, i, k + 1, h => by
    show (vFa e (i + 1) t)[k]? = _
    rw [vFa_get e t (i + 1) k (by simpa using h), show i + 1 + k = i + (k + 1) by omega]
theorem vFa_ref (e : Nat → Int) (q : Nat) : ∀ (ks : List (Option Nat)) (i k : Nat), ks[k]? = some (some q) → (vFa e i ks)[k]? = some (.ref q)
  | [], _, _, h => by simp at h
  | none :: t, i, 0, h => by simp at h
  | some q' :: t, i, 0, h => by
    have : q' = q := by simpa using h
    subst this
    rfl
  | none :: t, i, k + 1, h => by
    show (vFa e (i + 1) t)[k]? = _
    exact vFa_ref e q t (i + 1) k (by simpa using h)
  | some q' :: t, i, k + 1, h => by
    show (vFa e (i + 1) t)[k]? = _
    exact vFa_ref e q t (i + 1) k (by simpa using h)
theorem vFa_len (e : Nat → Int) : ∀ (ks : List (Option Nat)) (i : Nat), (vFa e i ks).length = ks.length
  | [], _ => rfl
  | none :: t, i => by show (vFa e (i + 1) t).length + 1 = _; rw [vFa_len e t (i + 1)]; rfl
  | some q :: t, i => by show (vFa e (i + 1) t).length + 1 = _; rw [vFa_len e t (i + 1)]; rfl
theorem vF_set {e : Nat → Int} {ks : List (Option Nat)} {k : Nat} (v : Int) (h : ks[k]? = some none) : (vF ks e).set k (.int (iI v)) = vF ks (updZ e k v) := by
  have := vFa_set e v ks 0 k h
  rw [Nat.zero_add] at this
  exact this
theorem vF_get {e : Nat → Int} {ks : List (Option Nat)} {k : Nat} (h : ks[k]? = some none) : (vF ks e)[k]? = some (.int (iI (e k))) := by
  have := vFa_get e ks 0 k h
  rw [Nat.zero_add] at this
  exact this
theorem vF_ref {e : Nat → Int} {ks : List (Option Nat)} {k q : Nat} (h : ks[k]? = some (some q)) : (vF ks e)[k]? = some (.ref q) := vFa_ref e q ks 0 k h
theorem vF_lt {e : Nat → Int} {ks : List (Option Nat)} {k : Nat} {x : Option Nat} (h : ks[k]? = some x) : k < (vF ks e).length := by
  rw [vF, vFa_len]
  exact (List.getElem?_eq_some_iff.mp h).1
abbrev cO (ci h : Nat) (ks : List (Option Nat)) (e : Nat → Int) : Nat × va_E := (h, .inr (ci, vF ks e))
abbrev cI (cA : ClassId) (h n : Nat) (f : Nat → Int) : Nat × va_E := (h, .inl (cA, n, .inl (fun j => iI (f j))))
abbrev cQ (cA : ClassId) (h n : Nat) (f : Nat → Option Nat) : Nat × va_E := (h, .inl (cA, n, .inr (.inr (.inr (.inr f)))))
/-- the classes of arrays: int, char, boolean, Encoder -/
def zJ (J : Nat → ClassId) : List (ClassId × FieldType) := [(J 0, .int), (J 1, .char), (J 2, .boolean), (J 3, .object "StepPairs$Encoder")]
/-! the three static tables -/
def leastS : Nat → Int := fun j => if j = 0 then 4 else if j = 1 then 10 else if j = 2 then 1 else if j = 3 then 1 else 0
def mostS : Nat → Int := fun j => if j = 0 then 400 else if j = 1 then 9999 else if j = 2 then 9 else if j = 3 then 99 else 2
def firstS : Nat → Int := fun j => if j = 0 then 40 else if j = 1 then 1000 else if j = 2 then 1 else if j = 3 then 10 else 1
def zT (nm : String) (f : Nat → Int) (A : Nat → Prop) (U : State) (H : Heap) : Prop := ∃ t : Nat, va_Z "StepPairs" nm "[I" (.ref t) A U H ∧ va_T .int t 5 (fun j => .int (iI (f j))) A U H
/-- the tables as a nest mate links them -/
def zN (U : State) : Prop := va_Nw (.fieldLinkNest "StepPairs$Encoder" 18 "StepPairs" "FIRST_SETTING" "[I" "StepPairs") U ∧ va_Nw (.fieldLinkNest "StepPairs$Encoder" 88 "StepPairs" "LEAST_SETTING" "[I" "StepPairs") U ∧ va_Nw (.fieldLinkNest "StepPairs$Encoder" 91 "StepPairs" "MOST_SETTING" "[I" "StepPairs") U ∧ va_AO "StepPairs$Encoder" U
def zS (A : Nat → Prop) (U : State) (H : Heap) : Prop := zT "LEAST_SETTING" leastS A U H ∧ zT "MOST_SETTING" mostS A U H ∧ zT "FIRST_SETTING" firstS A U H ∧ zN U
theorem zT.call {nm : String} {f : Nat → Int} {A B : Nat → Prop} {u U : State} {H0 H : Heap} {locs : List Loc} (h : zT nm f A u H0) (hvm : u.vm.Alike U.vm) (hS : va_S A H0 H locs) (hB : ∀ q, B q → A q) : zT nm f B U H := by
  obtain ⟨t, h1, h2⟩ := h
  exact ⟨t, (((va_Z.moved hvm h1).kept (fun a h3 h4 => hS.2.1 a h3 h4)).narrow hB), (((va_T.moved hvm h2).kept (fun a h3 h4 => hS.2.1 a h3 h4)).narrow hB)⟩
theorem zS.call {A B : Nat → Prop} {u U : State} {H0 H : Heap} {locs : List Loc} (h : zS A u H0) (hW : u.WarmedH U.vm) (hS : va_S A H0 H locs) (hB : ∀ q, B q → A q) : zS B U H :=
  ⟨h.1.call hW.alike hS hB, h.2.1.call hW.alike hS hB, h.2.2.1.call hW.alike hS hB, va_Nw.warmF hW h.2.2.2.1, va_Nw.warmF hW h.2.2.2.2.1, va_Nw.warmF hW h.2.2.2.2.2.1, va_AO.moved hW.alike h.2.2.2.2.2.2⟩
/-! contracts -/
def zP (D : va_G) (J : Nat → ClassId) (wc : va_W) (sz : Nat) : State → Prop := fun U => U.heap.size = sz ∧ va_P D vwCl wc U.heap ∧ va_K D vwCl (zJ J) U ∧ va_D (fun _ => True) wc ∧ zS (va_A wc sz) U U.heap
def zQ {S : Type} (D : va_G) (J : Nat → ClassId) (sz : Nat) (wc : va_W) (P : S → Prop) (v : S → Option Value) (w1 : S → va_W) : Array Value → State → Outcome → State → Prop := fun _ st oc t => (∃ u : S, P u ∧ oc = .returned (v u) ∧ va_P D vwCl (w1 u) t.heap ∧ va_K D vwCl (zJ J) t ∧ va_D (va_A wc sz) (w1 u)) ∧ va_F (va_A wc sz) st t
def ZM {S : Type} (l : Launch) (y : MethodName) (wsY : List Cond) (rm : Room) (D : va_G) (J : Nat → ClassId) (av : List Value) (wc : va_W) (P : S → Prop) (v : S → Option Value) (w1 : S → va_W) : Prop :=
  ∀ sz : Nat, Met l y wsY rm (va_Pc av (zP D J wc sz)) (zQ D J sz wc P v w1) rm.cells rm.slots (va_A wc sz)
abbrev ZX (l : Launch) (y : MethodName) (wsY : List Cond) (rm : Room) (D : va_G) (J : Nat → ClassId) (av : List Value) (wc : va_W) (v : Option Value) (w1 : va_W) : Prop :=
  ZM (S := Unit) l y wsY rm D J av wc (fun _ => True) (fun _ => v) (fun _ => w1)
/-- what stays the same along a method's walk -/
def zC (p : Program) (s : State) (m : MethodId) (args : Array Value) (meth : Method) (c : Code) (A : Nat → Prop) (nL : Nat) (D : va_G) (J : Nat → ClassId) (cc : ByteArray) (own : String) (Ts : List Cond) : Prop :=
  CallFix p m c cc nL s args Ts own ∧ va_K D vwCl (zJ J) s ∧ (∀ q, s.heap.size ≤ q → A q) ∧ zS A s s.heap ∧ meth.locks = false
def Z (p : Program) (l : Launch) (e : Env) (R : Room) (s : State) (m : MethodId) (args : Array Value) (below : List Frame) (meth : Method) (c : Code) (A : Nat → Prop) (nL : Nat) (D : va_G) (cells slots : Nat) (Q : State → Prop) (ws : va_W) (lv : List (Nat × Value)) (pc : Nat) (st : List Value) : Prop :=
  ∀ (H : Heap) (locs : List Loc) (ls : Array Slot), va_P D vwCl ws H → va_D A ws → va_S A s.heap H locs → lv_has ls nL lv → W p l e R s m args below meth c H locs cells slots Q (F0 m pc ls st)
/-- the end of a method -/
def zE {S : Type} (below : List Frame) (args : Array Value) (s : State) (D : va_G) (J : Nat → ClassId) (wc : va_W) (P : S → Prop) (v : S → Option Value) (w1 : S → va_W) (mc ms : Nat) : State → Prop :=
  MQ below (zQ D J s.heap.size wc P v w1) args s mc ms (va_A wc s.heap.size)
theorem z_met {S : Type} {l : Launch} {y : MethodName} {wsY ws' : List Cond} {rm : Room} {D : va_G} {J : Nat → ClassId} {av : List Value} {wc : va_W} {P : S → Prop} {v : S → Option Value} {w1 : S → va_W} {cc : ByteArray} {nL : Nat} {ret : Option FieldType}
    {own : String} (hy : plainName y.cls = true) (hown : y.cls = own) (hw : wsY = Cond.code y cc nL ret :: ws') (hn : (lg_sl av).length ≤ nL)
    (body : ∀ (p : Program) (e : Env) (s : State) (m : MethodId) (args : Array Value) (below : List Frame) (meth : Method) (c : Code), zC p s m args meth c (va_A wc s.heap.size) nL D J cc own wsY → meth.sig.returnType = ret → meth.name = y.name →
      Z p l e (headSpec wsY rm).room s m args below meth c (va_A wc s.heap.size) nL D 0 0 (zE below args s D J wc P v w1 rm.cells rm.slots) wc (lv_args 0 av) 0 []) : ZM l y wsY rm D J av wc P v w1 := by
  subst hown
  intro sz
  refine Met.ofW (cc := cc) (maxL := nL) (ret := ret) hy hw ?_
  intro p e s m args below meth c s₁ B hml hv
  obtain ⟨rfl, hsz, hP, hK, hD0, hS0⟩ := hv
  subst hsz
  have hl := lv_entry av (n := nL) hn
  have hC : zC p s m av.toArray meth c (va_A wc s.heap.size) nL D J cc y.cls wsY := ⟨⟨B.exec, B.bytes, hml, findClass_of_methodNamed B.named, atoms_spec (ws := wsY) B.pre⟩, hK, fun q h => Or.inr h, hS0, B.notSynchronized⟩
  have k := body p e s m av.toArray below meth c hC B.returns (name_of_methodNamed B.named B.method).1 s.heap [] _ hP hD0.self va_S.rf hl
  rw [lg_entry_eq]
  exact k
end
section
section ZR
variable {p : Program} {l : Launch} {e : Env} {R : Room} {s : State} {m : MethodId} {args : Array Value} {below : List Frame} {meth : Method} {c : Code} {cells slots : Nat} {Q : State → Prop} {A : Nat → Prop} {nL : Nat} {D : va_G} {J : Nat → ClassId} {cc : ByteArray} {own : String} {Ts : List Cond} {ws ws' : va_W} {lv lv' : List (Nat × Value)} {pc : Nat} {st : List Value}

theorem z_iconst (hC : zC p s m args meth c A nL D J cc own Ts) {n : Int} (hdg : decode cc pc = .ok (.iconst n, 1)) (kk : Z p l e R s m args below meth c A nL D cells slots Q ws lv (pc + 1) (.int (iI n) :: st)) : Z p l e R s m args below meth c A nL D cells slots Q ws lv pc st := fun H locs ls hP hD hS hl => lv_iconst hC.1.1 hC.1.2.1 hdg rfl (kk H locs ls hP hD hS hl)
theorem z_bipush (hC : zC p s m args meth c A nL D J cc own Ts) {n : Int} (hdg : decode cc pc = .ok (.bipush n, 2)) (hv : (Int8.ofInt n).toInt32 = iI n) (kk : Z p l e R s m args below meth c A nL D cells slots Q ws lv (pc + 2) (.int (iI n) :: st)) : Z p l e R s m args below meth c A nL D cells slots Q ws lv pc st := fun H locs ls hP hD hS hl => lv_bipush hC.1.1 hC.1.2.1 hdg hv (kk H locs ls hP hD hS hl)
theorem z_sipush (hC : zC p s m args meth c A nL D J cc own Ts) {n : Int} (hdg : decode cc pc = .ok (.sipush n, 3)) (hv : (Int16.ofInt n).toInt32 = iI n) (kk : Z p l e R s m args below meth c A nL D cells slots Q ws lv (pc + 3) (.int (iI n) :: st)) : Z p l e R s m args below meth c A nL D cells slots Q ws lv pc st := fun H locs ls hP hD hS hl => lv_sipush hC.1.1 hC.1.2.1 hdg hv (kk H locs ls hP hD hS hl)
theorem z_ldc (hC : zC p s m args meth c A nL D J cc own Ts) {index : Nat} {v : Int32} (n : Int) (hc : Cond.constant own index v ∈ Ts) (hdg : decode cc pc = .ok (.ldc index, 2)) (hv : v = iI n) (kk : Z p l e R s m args below meth c A nL D cells slots Q ws lv (pc + 2) (.int (iI n) :: st)) : Z p l e R s m args below meth c A nL D cells slots Q ws lv pc st := fun H locs ls hP hD hS hl => lv_ldc hC.1.1 hC.1.2.1 hC.1.2.2.2.1 (hC.1.2.2.2.2 _ hc) hdg (hv ▸ kk H locs ls hP hD hS hl)
theorem z_ldc2 (hC : zC p s m args meth c A nL D J cc own Ts) {index : Nat} {v : Int64} (hc : Cond.constantLong own index v ∈ Ts) (hdg : decode cc pc = .ok (.ldc2_w index, 3)) (kk : Z p l e R s m args below meth c A nL D cells slots Q ws lv (pc + 3) (.long v :: st)) : Z p l e R s m args below meth c A nL D cells slots Q ws lv pc st := fun H locs ls hP hD hS hl => lv_ldc2 hC.1.1 hC.1.2.1 hC.1.2.2.2.1 (hC.1.2.2.2.2 _ hc) hdg (kk H locs ls hP hD hS hl)
theorem z_ldc2d (hC : zC p s m args meth c A nL D J cc own Ts) {index : Nat} {v : UInt64} (hc : Cond.constantDouble own index v ∈ Ts) (hdg : decode cc pc = .ok (.ldc2_w index, 3)) (kk : Z p l e R s m args below meth c A nL D cells slots Q ws lv (pc + 3) (.double v :: st)) : Z p l e R s m args below meth c A nL D cells slots Q ws lv pc st := fun H locs ls hP hD hS hl => lv_ldc2d hC.1.1 hC.1.2.1 hC.1.2.2.2.1 (hC.1.2.2.2.2 _ hc) hdg (kk H locs ls hP hD hS hl)
theorem z_ldcf (hC : zC p s m args meth c A nL D J cc own Ts) {index : Nat} {v : UInt32} (hc : Cond.constantFloat own index v ∈ Ts) (hdg : decode cc pc = .ok (.ldc index, 2)) (kk : Z p l e R s m args below meth c A nL D cells slots Q ws lv (pc + 2) (.float v :: st)) : Z p l e R s m args below meth c A nL D cells slots Q ws lv pc st := fun H locs ls hP hD hS hl => lv_ldcf hC.1.1 hC.1.2.1 hC.1.2.2.2.1 (hC.1.2.2.2.2 _ hc) hdg (kk H locs ls hP hD hS hl)
theorem z_lconst (hC : zC p s m args meth c A nL D J cc own Ts) {n : Fin 2} {v : Int64} (hdg : decode cc pc = .ok (.lconst n, 1)) (hv : Int64.ofNat (n : Nat) = v) (kk : Z p l e R s m args below meth c A nL D cells slots Q ws lv (pc + 1) (.long v :: st)) : Z p l e R s m args below meth c A nL D cells slots Q ws lv pc st := fun H locs ls hP hD hS hl => lv_lconst hC.1.1 hC.1.2.1 hdg hv (kk H locs ls hP hD hS hl)
theorem z_iload_n (hC : zC p s m args meth c A nL D J cc own Ts) {k : Fin 4} {i : Nat} {x : Int32} (hdg : decode cc pc = .ok (.iload_n k, 1)) (hi : (k : Nat) = i) (q : Nat) (hq : lv[q]? = some (i, .int x)) (kk : Z p l e R s m args below meth c A nL D cells slots Q ws lv (pc + 1) (.int x :: st)) : Z p l e R s m args below meth c A nL D cells slots Q ws lv pc st := fun H locs ls hP hD hS hl => lv_iload_n hC.1.1 hC.1.2.1 hdg hi (lv_at hl q hq) (kk H locs ls hP hD hS hl)
theorem z_iload (hC : zC p s m args meth c A nL D J cc own Ts) {i : Nat} {x : Int32} (hdg : decode cc pc = .ok (.iload i, 2)) (q : Nat) (hq : lv[q]? = some (i, .int x)) (kk : Z p l e R s m args below meth c A nL D cells slots Q ws lv (pc + 2) (.int x :: st)) : Z p l e R s m args below meth c A nL D cells slots Q ws lv pc st := fun H locs ls hP hD hS hl => lv_iload hC.1.1 hC.1.2.1 hdg (lv_at hl q hq) (kk H locs ls hP hD hS hl)
theorem z_lload_n (hC : zC p s m args meth c A nL D J cc own Ts) {k : Fin 4} {i : Nat} {x : Int64} (hdg : decode cc pc = .ok (.lload_n k, 1)) (hi : (k : Nat) = i) (q : Nat) (hq : lv[q]? = some (i, .long x)) (kk : Z p l e R s m args below meth c A nL D cells slots Q ws lv (pc + 1) (.long x :: st)) : Z p l e R s m args below meth c A nL D cells slots Q ws lv pc st := fun H locs ls hP hD hS hl => lv_lload_n hC.1.1 hC.1.2.1 hdg hi (lv_at hl q hq) (kk H locs ls hP hD hS hl)
theorem z_lload (hC : zC p s m args meth c A nL D J cc own Ts) {i : Nat} {x : Int64} (hdg : decode cc pc = .ok (.lload i, 2)) (q : Nat) (hq : lv[q]? = some (i, .long x)) (kk : Z p l e R s m args below meth c A nL D cells slots Q ws lv (pc + 2) (.long x :: st)) : Z p l e R s m args below meth c A nL D cells slots Q ws lv pc st := fun H locs ls hP hD hS hl => lv_lload hC.1.1 hC.1.2.1 hdg (lv_at hl q hq) (kk H locs ls hP hD hS hl)
theorem z_aload_n (hC : zC p s m args meth c A nL D J cc own Ts) {k : Fin 4} {i : Nat} {x : Nat} (hdg : decode cc pc = .ok (.aload_n k, 1)) (hi : (k : Nat) = i) (q : Nat) (hq : lv[q]? = some (i, .ref x)) (kk : Z p l e R s m args below meth c A nL D cells slots Q ws lv (pc + 1) (.ref x :: st)) : Z p l e R s m args below meth c A nL D cells slots Q ws lv pc st := fun H locs ls hP hD hS hl => lv_aload_n hC.1.1 hC.1.2.1 hdg hi (lv_at hl q hq) (kk H locs ls hP hD hS hl)
theorem z_aload (hC : zC p s m args meth c A nL D J cc own Ts) {i : Nat} {x : Nat} (hdg : decode cc pc = .ok (.aload i, 2)) (q : Nat) (hq : lv[q]? = some (i, .ref x)) (kk : Z p l e R s m args below meth c A nL D cells slots Q ws lv (pc + 2) (.ref x :: st)) : Z p l e R s m args below meth c A nL D cells slots Q ws lv pc st := fun H locs ls hP hD hS hl => lv_aload hC.1.1 hC.1.2.1 hdg (lv_at hl q hq) (kk H locs ls hP hD hS hl)
theorem z_dload_n (hC : zC p s m args meth c A nL D J cc own Ts) {k : Fin 4} {i : Nat} {x : UInt64} (hdg : decode cc pc = .ok (.dload_n k, 1)) (hi : (k : Nat) = i) (q : Nat) (hq : lv[q]? = some (i, .double x)) (kk : Z p l e R s m args below meth c A nL D cells slots Q ws lv (pc + 1) (.double x :: st)) : Z p l e R s m args below meth c A nL D cells slots Q ws lv pc st := fun H locs ls hP hD hS hl => lv_dload_n hC.1.1 hC.1.2.1 hdg hi (lv_at hl q hq) (kk H locs ls hP hD hS hl)
theorem z_dload (hC : zC p s m args meth c A nL D J cc own Ts) {i : Nat} {x : UInt64} (hdg : decode cc pc = .ok (.dload i, 2)) (q : Nat) (hq : lv[q]? = some (i, .double x)) (kk : Z p l e R s m args below meth c A nL D cells slots Q ws lv (pc + 2) (.double x :: st)) : Z p l e R s m args below meth c A nL D cells slots Q ws lv pc st := fun H locs ls hP hD hS hl => lv_dload hC.1.1 hC.1.2.1 hdg (lv_at hl q hq) (kk H locs ls hP hD hS hl)
theorem z_fload_n (hC : zC p s m args meth c A nL D J cc own Ts) {k : Fin 4} {i : Nat} {x : UInt32} (hdg : decode cc pc = .ok (.fload_n k, 1)) (hi : (k : Nat) = i) (q : Nat) (hq : lv[q]? = some (i, .float x)) (kk : Z p l e R s m args below meth c A nL D cells slots Q ws lv (pc + 1) (.float x :: st)) : Z p l e R s m args below meth c A nL D cells slots Q ws lv pc st := fun H locs ls hP hD hS hl => lv_fload_n hC.1.1 hC.1.2.1 hdg hi (lv_at hl q hq) (kk H locs ls hP hD hS hl)
theorem z_istore_n (hC : zC p s m args meth c A nL D J cc own Ts) {k : Fin 4} {i : Nat} {x : Int32} (hdg : decode cc pc = .ok (.istore_n k, 1)) (hi : (k : Nat) = i) (hn : i < nL) (hlv : (i, Value.int x) :: lv.filter (fun q => !(q.1 == i) && !(q.1 + 1 == i && q.2.category == 2)) = lv') (kk : Z p l e R s m args below meth c A nL D cells slots Q ws lv' (pc + 1) st) : Z p l e R s m args below meth c A nL D cells slots Q ws lv pc (.int x :: st) := fun H locs ls hP hD hS hl => lv_istore_n hC.1.1 hC.1.2.1 hdg hi hl hn hlv (fun ls1 hl1 => kk H locs ls1 hP hD hS hl1)
theorem z_istore (hC : zC p s m args meth c A nL D J cc own Ts) {i : Nat} {x : Int32} (hdg : decode cc pc = .ok (.istore i, 2)) (hn : i < nL) (hlv : (i, Value.int x) :: lv.filter (fun q => !(q.1 == i) && !(q.1 + 1 == i && q.2.category == 2)) = lv') (kk : Z p l e R s m args below meth c A nL D cells slots Q ws lv' (pc + 2) st) : Z p l e R s m args below meth c A nL D cells slots Q ws lv pc (.int x :: st) := fun H locs ls hP hD hS hl => lv_istore hC.1.1 hC.1.2.1 hdg hl hn hlv (fun ls1 hl1 => kk H locs ls1 hP hD hS hl1)
theorem z_lstore_n (hC : zC p s m args meth c A nL D J cc own Ts) {k : Fin 4} {i : Nat} {x : Int64} (hdg : decode cc pc = .ok (.lstore_n k, 1)) (hi : (k : Nat) = i) (hn : i + 1 < nL) (hlv : (i, Value.long x) :: lv.filter (fun q => !(q.1 == i) && (!(q.1 == i + 1) && !(q.1 + 1 == i && q.2.category == 2))) = lv') (kk : Z p l e R s m args below meth c A nL D cells slots Q ws lv' (pc + 1) st) : Z p l e R s m args below meth c A nL D cells slots Q ws lv pc (.long x :: st) := fun H locs ls hP hD hS hl => lv_lstore_n hC.1.1 hC.1.2.1 hdg hi hl hn hlv (fun ls1 hl1 => kk H locs ls1 hP hD hS hl1)
theorem z_lstore (hC : zC p s m args meth c A nL D J cc own Ts) {i : Nat} {x : Int64} (hdg : decode cc pc = .ok (.lstore i, 2)) (hn : i + 1 < nL) (hlv : (i, Value.long x) :: lv.filter (fun q => !(q.1 == i) && (!(q.1 == i + 1) && !(q.1 + 1 == i && q.2.category == 2))) = lv') (kk : Z p l e R s m args below meth c A nL D cells slots Q ws lv' (pc + 2) st) : Z p l e R s m args below meth c A nL D cells slots Q ws lv pc (.long x :: st) := fun H locs ls hP hD hS hl => lv_lstore hC.1.1 hC.1.2.1 hdg hl hn hlv (fun ls1 hl1 => kk H locs ls1 hP hD hS hl1)
theorem z_astore_n (hC : zC p s m args meth c A nL D J cc own Ts) {k : Fin 4} {i : Nat} {x : Nat} (hdg : decode cc pc = .ok (.astore_n k, 1)) (hi : (k : Nat) = i) (hn : i < nL) (hlv : (i, Value.ref x) :: lv.filter (fun q => !(q.1 == i) && !(q.1 + 1 == i && q.2.category == 2)) = lv') (kk : Z p l e R s m args below meth c A nL D cells slots Q ws lv' (pc + 1) st) : Z p l e R s m args below meth c A nL D cells slots Q ws lv pc (.ref x :: st) := fun H locs ls hP hD hS hl => lv_astore_n hC.1.1 hC.1.2.1 hdg hi hl hn hlv (fun ls1 hl1 => kk H locs ls1 hP hD hS hl1)
theorem z_astore (hC : zC p s m args meth c A nL D J cc own Ts) {i : Nat} {x : Nat} (hdg : decode cc pc = .ok (.astore i, 2)) (hn : i < nL) (hlv : (i, Value.ref x) :: lv.filter (fun q => !(q.1 == i) && !(q.1 + 1 == i && q.2.category == 2)) = lv') (kk : Z p l e R s m args below meth c A nL D cells slots Q ws lv' (pc + 2) st) : Z p l e R s m args below meth c A nL D cells slots Q ws lv pc (.ref x :: st) := fun H locs ls hP hD hS hl => lv_astore hC.1.1 hC.1.2.1 hdg hl hn hlv (fun ls1 hl1 => kk H locs ls1 hP hD hS hl1)
theorem z_dstore_n (hC : zC p s m args meth c A nL D J cc own Ts) {k : Fin 4} {i : Nat} {x : UInt64} (hdg : decode cc pc = .ok (.dstore_n k, 1)) (hi : (k : Nat) = i) (hn : i + 1 < nL) (hlv : (i, Value.double x) :: lv.filter (fun q => !(q.1 == i) && (!(q.1 == i + 1) && !(q.1 + 1 == i && q.2.category == 2))) = lv') (kk : Z p l e R s m args below meth c A nL D cells slots Q ws lv' (pc + 1) st) : Z p l e R s m args below meth c A nL D cells slots Q ws lv pc (.double x :: st) := fun H locs ls hP hD hS hl => lv_dstore_n hC.1.1 hC.1.2.1 hdg hi hl hn hlv (fun ls1 hl1 => kk H locs ls1 hP hD hS hl1)
theorem z_dstore (hC : zC p s m args meth c A nL D J cc own Ts) {i : Nat} {x : UInt64} (hdg : decode cc pc = .ok (.dstore i, 2)) (hn : i + 1 < nL) (hlv : (i, Value.double x) :: lv.filter (fun q => !(q.1 == i) && (!(q.1 == i + 1) && !(q.1 + 1 == i && q.2.category == 2))) = lv') (kk : Z p l e R s m args below meth c A nL D cells slots Q ws lv' (pc + 2) st) : Z p l e R s m args below meth c A nL D cells slots Q ws lv pc (.double x :: st) := fun H locs ls hP hD hS hl => lv_dstore hC.1.1 hC.1.2.1 hdg hl hn hlv (fun ls1 hl1 => kk H locs ls1 hP hD hS hl1)
theorem z_fstore_n (hC : zC p s m args meth c A nL D J cc own Ts) {k : Fin 4} {i : Nat} {x : UInt32} (hdg : decode cc pc = .ok (.fstore_n k, 1)) (hi : (k : Nat) = i) (hn : i < nL) (hlv : (i, Value.float x) :: lv.filter (fun q => !(q.1 == i) && !(q.1 + 1 == i && q.2.category == 2)) = lv') (kk : Z p l e R s m args below meth c A nL D cells slots Q ws lv' (pc + 1) st) : Z p l e R s m args below meth c A nL D cells slots Q ws lv pc (.float x :: st) := fun H locs ls hP hD hS hl => lv_fstore_n hC.1.1 hC.1.2.1 hdg hi hl hn hlv (fun ls1 hl1 => kk H locs ls1 hP hD hS hl1)
theorem z_iinc (hC : zC p s m args meth c A nL D J cc own Ts) {i : Nat} {n z : Int} (hdg : decode cc pc = .ok (.iinc i n, 3)) (q : Nat) (hq : lv[q]? = some (i, .int (iI z))) (hn : i < nL) (hlv : (i, Value.int (iI (z + n))) :: lv.filter (fun q => !(q.1 == i) && !(q.1 + 1 == i && q.2.category == 2)) = lv') (kk : Z p l e R s m args below meth c A nL D cells slots Q ws lv' (pc + 3) st) : Z p l e R s m args below meth c A nL D cells slots Q ws lv pc st := fun H locs ls hP hD hS hl => lv_iinc hC.1.1 hC.1.2.1 hdg hl hq (iI_add z n) hn hlv (fun ls1 hl1 => kk H locs ls1 hP hD hS hl1)
theorem z_iadd (hC : zC p s m args meth c A nL D J cc own Ts) {a b : Int} (hdg : decode cc pc = .ok (.iadd, 1)) (kk : Z p l e R s m args below meth c A nL D cells slots Q ws lv (pc + 1) (.int (iI (a + b)) :: st)) : Z p l e R s m args below meth c A nL D cells slots Q ws lv pc (.int (iI b) :: .int (iI a) :: st) := fun H locs ls hP hD hS hl => lv_iadd hC.1.1 hC.1.2.1 hdg (iI_add a b ▸ kk H locs ls hP hD hS hl)
theorem z_isub (hC : zC p s m args meth c A nL D J cc own Ts) {a b : Int} (hdg : decode cc pc = .ok (.isub, 1)) (kk : Z p l e R s m args below meth c A nL D cells slots Q ws lv (pc + 1) (.int (iI (a - b)) :: st)) : Z p l e R s m args below meth c A nL D cells slots Q ws lv pc (.int (iI b) :: .int (iI a) :: st) := fun H locs ls hP hD hS hl => lv_isub hC.1.1 hC.1.2.1 hdg (iI_sub a b ▸ kk H locs ls hP hD hS hl)
theorem z_imul (hC : zC p s m args meth c A nL D J cc own Ts) {a b : Int} (hdg : decode cc pc = .ok (.imul, 1)) (kk : Z p l e R s m args below meth c A nL D cells slots Q ws lv (pc + 1) (.int (iI (a * b)) :: st)) : Z p l e R s m args below meth c A nL D cells slots Q ws lv pc (.int (iI b) :: .int (iI a) :: st) := fun H locs ls hP hD hS hl => lv_imul hC.1.1 hC.1.2.1 hdg (iI_mul a b ▸ kk H locs ls hP hD hS hl)
theorem z_ineg (hC : zC p s m args meth c A nL D J cc own Ts) {a : Int} (hdg : decode cc pc = .ok (.ineg, 1)) (kk : Z p l e R s m args below meth c A nL D cells slots Q ws lv (pc + 1) (.int (iI (-a)) :: st)) : Z p l e R s m args below meth c A nL D cells slots Q ws lv pc (.int (iI a) :: st) := fun H locs ls hP hD hS hl => lv_ineg hC.1.1 hC.1.2.1 hdg (iI_neg a ▸ kk H locs ls hP hD hS hl)
theorem z_irem (hC : zC p s m args meth c A nL D J cc own Ts) {a b : Int} (hdg : decode cc pc = .ok (.irem, 1)) (h0 : 0 ≤ a) (ha : a < 2147483648) (h1 : 0 < b) (hb : b < 2147483648) (kk : Z p l e R s m args below meth c A nL D cells slots Q ws lv (pc + 1) (.int (iI (a % b)) :: st)) : Z p l e R s m args below meth c A nL D cells slots Q ws lv pc (.int (iI b) :: .int (iI a) :: st) := fun H locs ls hP hD hS hl => lv_irem hC.1.1 hC.1.2.1 hdg (iI_pos0 h1 hb) (iI_rem h0 ha h1 hb ▸ kk H locs ls hP hD hS hl)
theorem z_idiv (hC : zC p s m args meth c A nL D J cc own Ts) {a b : Int} (hdg : decode cc pc = .ok (.idiv, 1)) (h0 : 0 ≤ a) (ha : a < 2147483648) (h1 : 0 < b) (hb : b < 2147483648) (kk : Z p l e R s m args below meth c A nL D cells slots Q ws lv (pc + 1) (.int (iI (a / b)) :: st)) : Z p l e R s m args below meth c A nL D cells slots Q ws lv pc (.int (iI b) :: .int (iI a) :: st) := fun H locs ls hP hD hS hl => lv_idiv hC.1.1 hC.1.2.1 hdg (iI_pos0 h1 hb) (iI_div h0 ha h1 hb ▸ kk H locs ls hP hD hS hl)
theorem z_and3 (hC : zC p s m args meth c A nL D J cc own Ts) {a : Int} (hdg : decode cc pc = .ok (.iand, 1)) (kk : Z p l e R s m args below meth c A nL D cells slots Q ws lv (pc + 1) (.int (iI (a % 4)) :: st)) : Z p l e R s m args below meth c A nL D cells slots Q ws lv pc (.int (iI 3) :: .int (iI a) :: st) := fun H locs ls hP hD hS hl => lv_iand hC.1.1 hC.1.2.1 hdg (iI_and3 a ▸ kk H locs ls hP hD hS hl)
theorem z_and1 (hC : zC p s m args meth c A nL D J cc own Ts) {a : Int} (hdg : decode cc pc = .ok (.iand, 1)) (kk : Z p l e R s m args below meth c A nL D cells slots Q ws lv (pc + 1) (.int (iI (a % 2)) :: st)) : Z p l e R s m args below meth c A nL D cells slots Q ws lv pc (.int (iI 1) :: .int (iI a) :: st) := fun H locs ls hP hD hS hl => lv_iand hC.1.1 hC.1.2.1 hdg (iI_and1 a ▸ kk H locs ls hP hD hS hl)
theorem z_shr (hC : zC p s m args meth c A nL D J cc own Ts) {a : Int} (k : Nat) (hk : k < 32) (hdg : decode cc pc = .ok (.ishr, 1)) (h0 : 0 ≤ a) (ha : a < 2147483648) (kk : Z p l e R s m args below meth c A nL D cells slots Q ws lv (pc + 1) (.int (iI (a / 2 ^ k)) :: st)) : Z p l e R s m args below meth c A nL D cells slots Q ws lv pc (.int (iI (k : Int)) :: .int (iI a) :: st) := fun H locs ls hP hD hS hl => lv_ishr hC.1.1 hC.1.2.1 hdg (iI_shr k hk h0 ha ▸ kk H locs ls hP hD hS hl)
theorem z_int (hC : zC p s m args meth c A nL D J cc own Ts) {x y : Int32} (hxy : x = y) (kk : Z p l e R s m args below meth c A nL D cells slots Q ws lv pc (.int y :: st)) : Z p l e R s m args below meth c A nL D cells slots Q ws lv pc (.int x :: st) := fun H locs ls hP hD hS hl => hxy ▸ kk H locs ls hP hD hS hl
theorem z_long (hC : zC p s m args meth c A nL D J cc own Ts) {x y : Int64} (hxy : x = y) (kk : Z p l e R s m args below meth c A nL D cells slots Q ws lv pc (.long y :: st)) : Z p l e R s m args below meth c A nL D cells slots Q ws lv pc (.long x :: st) := fun H locs ls hP hD hS hl => hxy ▸ kk H locs ls hP hD hS hl
theorem z_ixorR (hC : zC p s m args meth c A nL D J cc own Ts) {x y v : Int32} (hdg : decode cc pc = .ok (.ixor, 1)) (hv : x ^^^ y = v) (kk : Z p l e R s m args below meth c A nL D cells slots Q ws lv (pc + 1) (.int v :: st)) : Z p l e R s m args below meth c A nL D cells slots Q ws lv pc (.int y :: .int x :: st) := fun H locs ls hP hD hS hl => lv_ixor hC.1.1 hC.1.2.1 hdg (hv ▸ kk H locs ls hP hD hS hl)
theorem z_iorR (hC : zC p s m args meth c A nL D J cc own Ts) {x y v : Int32} (hdg : decode cc pc = .ok (.ior, 1)) (hv : x ||| y = v) (kk : Z p l e R s m args below meth c A nL D cells slots Q ws lv (pc + 1) (.int v :: st)) : Z p l e R s m args below meth c A nL D cells slots Q ws lv pc (.int y :: .int x :: st) := fun H locs ls hP hD hS hl => lv_ior hC.1.1 hC.1.2.1 hdg (hv ▸ kk H locs ls hP hD hS hl)
theorem z_iandR (hC : zC p s m args meth c A nL D J cc own Ts) {x y v : Int32} (hdg : decode cc pc = .ok (.iand, 1)) (hv : x &&& y = v) (kk : Z p l e R s m args below meth c A nL D cells slots Q ws lv (pc + 1) (.int v :: st)) : Z p l e R s m args below meth c A nL D cells slots Q ws lv pc (.int y :: .int x :: st) := fun H locs ls hP hD hS hl => lv_iand hC.1.1 hC.1.2.1 hdg (hv ▸ kk H locs ls hP hD hS hl)
theorem z_ishlR (hC : zC p s m args meth c A nL D J cc own Ts) {x y v : Int32} (hdg : decode cc pc = .ok (.ishl, 1)) (hv : x <<< (y &&& 31) = v) (kk : Z p l e R s m args below meth c A nL D cells slots Q ws lv (pc + 1) (.int v :: st)) : Z p l e R s m args below meth c A nL D cells slots Q ws lv pc (.int y :: .int x :: st) := fun H locs ls hP hD hS hl => lv_ishl hC.1.1 hC.1.2.1 hdg (hv ▸ kk H locs ls hP hD hS hl)
theorem z_ishrR (hC : zC p s m args meth c A nL D J cc own Ts) {x y v : Int32} (hdg : decode cc pc = .ok (.ishr, 1)) (hv : x >>> (y &&& 31) = v) (kk : Z p l e R s m args below meth c A nL D cells slots Q ws lv (pc + 1) (.int v :: st)) : Z p l e R s m args below meth c A nL D cells slots Q ws lv pc (.int y :: .int x :: st) := fun H locs ls hP hD hS hl => lv_ishr hC.1.1 hC.1.2.1 hdg (hv ▸ kk H locs ls hP hD hS hl)
theorem z_i2l (hC : zC p s m args meth c A nL D J cc own Ts) {x : Int32} {v : Int64} (hdg : decode cc pc = .ok (.i2l, 1)) (hv : x.toInt64 = v) (kk : Z p l e R s m args below meth c A nL D cells slots Q ws lv (pc + 1) (.long v :: st)) : Z p l e R s m args below meth c A nL D cells slots Q ws lv pc (.int x :: st) := fun H locs ls hP hD hS hl => lv_i2l hC.1.1 hC.1.2.1 hdg hv (kk H locs ls hP hD hS hl)
theorem z_l2i (hC : zC p s m args meth c A nL D J cc own Ts) {x : Int64} {v : Int32} (hdg : decode cc pc = .ok (.l2i, 1)) (hv : x.toInt32 = v) (kk : Z p l e R s m args below meth c A nL D cells slots Q ws lv (pc + 1) (.int v :: st)) : Z p l e R s m args below meth c A nL D cells slots Q ws lv pc (.long x :: st) := fun H locs ls hP hD hS hl => lv_l2i hC.1.1 hC.1.2.1 hdg hv (kk H locs ls hP hD hS hl)
theorem z_i2c (hC : zC p s m args meth c A nL D J cc own Ts) {x v : Int32} (hdg : decode cc pc = .ok (.i2c, 1)) (hv : (x.toUInt32 % 65536).toInt32 = v) (kk : Z p l e R s m args below meth c A nL D cells slots Q ws lv (pc + 1) (.int v :: st)) : Z p l e R s m args below meth c A nL D cells slots Q ws lv pc (.int x :: st) := fun H locs ls hP hD hS hl => lv_i2c hC.1.1 hC.1.2.1 hdg hv (kk H locs ls hP hD hS hl)
theorem z_ladd (hC : zC p s m args meth c A nL D J cc own Ts) {x y v : Int64} (hdg : decode cc pc = .ok (.ladd, 1)) (hv : x + y = v) (kk : Z p l e R s m args below meth c A nL D cells slots Q ws lv (pc + 1) (.long v :: st)) : Z p l e R s m args below meth c A nL D cells slots Q ws lv pc (.long y :: .long x :: st) := fun H locs ls hP hD hS hl => lv_ladd hC.1.1 hC.1.2.1 hdg (hv ▸ kk H locs ls hP hD hS hl)
theorem z_lsub (hC : zC p s m args meth c A nL D J cc own Ts) {x y v : Int64} (hdg : decode cc pc = .ok (.lsub, 1)) (hv : x - y = v) (kk : Z p l e R s m args below meth c A nL D cells slots Q ws lv (pc + 1) (.long v :: st)) : Z p l e R s m args below meth c A nL D cells slots Q ws lv pc (.long y :: .long x :: st) := fun H locs ls hP hD hS hl => lv_lsub hC.1.1 hC.1.2.1 hdg (hv ▸ kk H locs ls hP hD hS hl)
theorem z_land (hC : zC p s m args meth c A nL D J cc own Ts) {x y v : Int64} (hdg : decode cc pc = .ok (.land, 1)) (hv : x &&& y = v) (kk : Z p l e R s m args below meth c A nL D cells slots Q ws lv (pc + 1) (.long v :: st)) : Z p l e R s m args below meth c A nL D cells slots Q ws lv pc (.long y :: .long x :: st) := fun H locs ls hP hD hS hl => lv_land hC.1.1 hC.1.2.1 hdg (hv ▸ kk H locs ls hP hD hS hl)
theorem z_lor (hC : zC p s m args meth c A nL D J cc own Ts) {x y v : Int64} (hdg : decode cc pc = .ok (.lor, 1)) (hv : x ||| y = v) (kk : Z p l e R s m args below meth c A nL D cells slots Q ws lv (pc + 1) (.long v :: st)) : Z p l e R s m args below meth c A nL D cells slots Q ws lv pc (.long y :: .long x :: st) := fun H locs ls hP hD hS hl => lv_lor hC.1.1 hC.1.2.1 hdg (hv ▸ kk H locs ls hP hD hS hl)
theorem z_lushr (hC : zC p s m args meth c A nL D J cc own Ts) {x v : Int64} {y : Int32} (hdg : decode cc pc = .ok (.lushr, 1)) (hv : (x.toUInt64 >>> (y.toInt64.toUInt64 &&& Int64.toUInt64 63)).toInt64 = v) (kk : Z p l e R s m args below meth c A nL D cells slots Q ws lv (pc + 1) (.long v :: st)) : Z p l e R s m args below meth c A nL D cells slots Q ws lv pc (.int y :: .long x :: st) := fun H locs ls hP hD hS hl => lv_lushr hC.1.1 hC.1.2.1 hdg hv (kk H locs ls hP hD hS hl)
theorem z_lshl (hC : zC p s m args meth c A nL D J cc own Ts) {x v : Int64} {y : Int32} (hdg : decode cc pc = .ok (.lshl, 1)) (hv : x <<< (y.toInt64 &&& 63) = v) (kk : Z p l e R s m args below meth c A nL D cells slots Q ws lv (pc + 1) (.long v :: st)) : Z p l e R s m args below meth c A nL D cells slots Q ws lv pc (.int y :: .long x :: st) := fun H locs ls hP hD hS hl => lv_lshl hC.1.1 hC.1.2.1 hdg hv (kk H locs ls hP hD hS hl)
theorem z_lcmp (hC : zC p s m args meth c A nL D J cc own Ts) {x y : Int64} {v : Int} (hdg : decode cc pc = .ok (.lcmp, 1)) (hv : lg_cmp x y = iI v) (kk : Z p l e R s m args below meth c A nL D cells slots Q ws lv (pc + 1) (.int (iI v) :: st)) : Z p l e R s m args below meth c A nL D cells slots Q ws lv pc (.long y :: .long x :: st) := fun H locs ls hP hD hS hl => W.lcmp hC.1.1 hC.1.2.1 hdg (hv ▸ kk H locs ls hP hD hS hl)
theorem z_dup (hC : zC p s m args meth c A nL D J cc own Ts) {v : Value} (hdg : decode cc pc = .ok (.dup, 1)) (hva : v.category = 1) (kk : Z p l e R s m args below meth c A nL D cells slots Q ws lv (pc + 1) (v :: v :: st)) : Z p l e R s m args below meth c A nL D cells slots Q ws lv pc (v :: st) := fun H locs ls hP hD hS hl => lv_dup hC.1.1 hC.1.2.1 hdg hva (kk H locs ls hP hD hS hl)
theorem z_pop (hC : zC p s m args meth c A nL D J cc own Ts) {v : Value} (hdg : decode cc pc = .ok (.pop, 1)) (hva : v.category = 1) (kk : Z p l e R s m args below meth c A nL D cells slots Q ws lv (pc + 1) st) : Z p l e R s m args below meth c A nL D cells slots Q ws lv pc (v :: st) := fun H locs ls hP hD hS hl => lv_pop hC.1.1 hC.1.2.1 hdg hva (kk H locs ls hP hD hS hl)
theorem z_dup2 (hC : zC p s m args meth c A nL D J cc own Ts) {v w : Value} (hdg : decode cc pc = .ok (.dup2, 1)) (hva : v.category = 1) (hvb : w.category = 1) (kk : Z p l e R s m args below meth c A nL D cells slots Q ws lv (pc + 1) (v :: w :: v :: w :: st)) : Z p l e R s m args below meth c A nL D cells slots Q ws lv pc (v :: w :: st) := fun H locs ls hP hD hS hl => lv_dup2_11 hC.1.1 hC.1.2.1 hdg hva hvb (kk H locs ls hP hD hS hl)
theorem z_icmp_eq (hC : zC p s m args meth c A nL D J cc own Ts) {a b : Int} {off : Int} {tgt : Nat} (hdg : decode cc pc = .ok (.if_icmp .eq off, 3)) (ht : (pc : Int) + off = (tgt : Int)) (ha : inR a) (hb : inR b) (kt : a = b → Z p l e R s m args below meth c A nL D cells slots Q ws lv tgt st) (kf : ¬ a = b → Z p l e R s m args below meth c A nL D cells slots Q ws lv (pc + 3) st) : Z p l e R s m args below meth c A nL D cells slots Q ws lv pc (.int (iI b) :: .int (iI a) :: st) := fun H locs ls hP hD hS hl => lv_icmp_eq hC.1.1 hC.1.2.1 hdg ht (fun h => kt ((iI_eq ha hb).mp h) H locs ls hP hD hS hl) (fun h => kf (fun q => h ((iI_eq ha hb).mpr q)) H locs ls hP hD hS hl)
theorem z_if_eq (hC : zC p s m args meth c A nL D J cc own Ts) {a : Int} {off : Int} {tgt : Nat} (hdg : decode cc pc = .ok (.ifCond .eq off, 3)) (ht : (pc : Int) + off = (tgt : Int)) (ha : inR a) (kt : a = 0 → Z p l e R s m args below meth c A nL D cells slots Q ws lv tgt st) (kf : ¬ a = 0 → Z p l e R s m args below meth c A nL D cells slots Q ws lv (pc + 3) st) : Z p l e R s m args below meth c A nL D cells slots Q ws lv pc (.int (iI a) :: st) := fun H locs ls hP hD hS hl => lv_if_eq hC.1.1 hC.1.2.1 hdg ht (fun h => kt ((iI_eq ha inR_0).mp h) H locs ls hP hD hS hl) (fun h => kf (fun q => h ((iI_eq ha inR_0).mpr q)) H locs ls hP hD hS hl)
theorem z_icmp_eq_t (hC : zC p s m args meth c A nL D J cc own Ts) {a b : Int} {off : Int} {tgt : Nat} (hdg : decode cc pc = .ok (.if_icmp .eq off, 3)) (ht : (pc : Int) + off = (tgt : Int)) (ha : inR a) (hb : inR b) (h : a = b) (kt : Z p l e R s m args below meth c A nL D cells slots Q ws lv tgt st) : Z p l e R s m args below meth c A nL D cells slots Q ws lv pc (.int (iI b) :: .int (iI a) :: st) := z_icmp_eq hC hdg ht ha hb (fun _ => kt) (fun q => by omega)
theorem z_icmp_eq_f (hC : zC p s m args meth c A nL D J cc own Ts) {a b : Int} {off : Int} {tgt : Nat} (hdg : decode cc pc = .ok (.if_icmp .eq off, 3)) (ht : (pc : Int) + off = (tgt : Int)) (ha : inR a) (hb : inR b) (h : ¬ a = b) (kf : Z p l e R s m args below meth c A nL D cells slots Q ws lv (pc + 3) st) : Z p l e R s m args below meth c A nL D cells slots Q ws lv pc (.int (iI b) :: .int (iI a) :: st) := z_icmp_eq hC hdg ht ha hb (fun q => by omega) (fun _ => kf)
theorem z_if_eq_t (hC : zC p s m args meth c A nL D J cc own Ts) {a : Int} {off : Int} {tgt : Nat} (hdg : decode cc pc = .ok (.ifCond .eq off, 3)) (ht : (pc : Int) + off = (tgt : Int)) (ha : inR a) (h : a = 0) (kt : Z p l e R s m args below meth c A nL D cells slots Q ws lv tgt st) : Z p l e R s m args below meth c A nL D cells slots Q ws lv pc (.int (iI a) :: st) := z_if_eq hC hdg ht ha (fun _ => kt) (fun q => by omega)
theorem z_if_eq_f (hC : zC p s m args meth c A nL D J cc own Ts) {a : Int} {off : Int} {tgt : Nat} (hdg : decode cc pc = .ok (.ifCond .eq off, 3)) (ht : (pc : Int) + off = (tgt : Int)) (ha : inR a) (h : ¬ a = 0) (kf : Z p l e R s m args below meth c A nL D cells slots Q ws lv (pc + 3) st) : Z p l e R s m args below meth c A nL D cells slots Q ws lv pc (.int (iI a) :: st) := z_if_eq hC hdg ht ha (fun q => by omega) (fun _ => kf)
theorem z_icmp_ne (hC : zC p s m args meth c A nL D J cc own Ts) {a b : Int} {off : Int} {tgt : Nat} (hdg : decode cc pc = .ok (.if_icmp .ne off, 3)) (ht : (pc : Int) + off = (tgt : Int)) (ha : inR a) (hb : inR b) (kt : ¬ a = b → Z p l e R s m args below meth c A nL D cells slots Q ws lv tgt st) (kf : a = b → Z p l e R s m args below meth c A nL D cells slots Q ws lv (pc + 3) st) : Z p l e R s m args below meth c A nL D cells slots Q ws lv pc (.int (iI b) :: .int (iI a) :: st) := fun H locs ls hP hD hS hl => lv_icmp_ne hC.1.1 hC.1.2.1 hdg ht (fun h => kt (fun q => h ((iI_eq ha hb).mpr q)) H locs ls hP hD hS hl) (fun h => kf ((iI_eq ha hb).mp h) H locs ls hP hD hS hl)
theorem z_if_ne (hC : zC p s m args meth c A nL D J cc own Ts) {a : Int} {off : Int} {tgt : Nat} (hdg : decode cc pc = .ok (.ifCond .ne off, 3)) (ht : (pc : Int) + off = (tgt : Int)) (ha : inR a) (kt : ¬ a = 0 → Z p l e R s m args below meth c A nL D cells slots Q ws lv tgt st) (kf : a = 0 → Z p l e R s m args below meth c A nL D cells slots Q ws lv (pc + 3) st) : Z p l e R s m args below meth c A nL D cells slots Q ws lv pc (.int (iI a) :: st) := fun H locs ls hP hD hS hl => lv_if_ne hC.1.1 hC.1.2.1 hdg ht (fun h => kt (fun q => h ((iI_eq ha inR_0).mpr q)) H locs ls hP hD hS hl) (fun h => kf ((iI_eq ha inR_0).mp h) H locs ls hP hD hS hl)
theorem z_icmp_ne_t (hC : zC p s m args meth c A nL D J cc own Ts) {a b : Int} {off : Int} {tgt : Nat} (hdg : decode cc pc = .ok (.if_icmp .ne off, 3)) (ht : (pc : Int) + off = (tgt : Int)) (ha : inR a) (hb : inR b) (h : ¬ a = b) (kt : Z p l e R s m args below meth c A nL D cells slots Q ws lv tgt st) : Z p l e R s m args below meth c A nL D cells slots Q ws lv pc (.int (iI b) :: .int (iI a) :: st) := z_icmp_ne hC hdg ht ha hb (fun _ => kt) (fun q => by omega)
theorem z_icmp_ne_f (hC : zC p s m args meth c A nL D J cc own Ts) {a b : Int} {off : Int} {tgt : Nat} (hdg : decode cc pc = .ok (.if_icmp .ne off, 3)) (ht : (pc : Int) + off = (tgt : Int)) (ha : inR a) (hb : inR b) (h : a = b) (kf : Z p l e R s m args below meth c A nL D cells slots Q ws lv (pc + 3) st) : Z p l e R s m args below meth c A nL D cells slots Q ws lv pc (.int (iI b) :: .int (iI a) :: st) := z_icmp_ne hC hdg ht ha hb (fun q => by omega) (fun _ => kf)
theorem z_if_ne_t (hC : zC p s m args meth c A nL D J cc own Ts) {a : Int} {off : Int} {tgt : Nat} (hdg : decode cc pc = .ok (.ifCond .ne off, 3)) (ht : (pc : Int) + off = (tgt : Int)) (ha : inR a) (h : ¬ a = 0) (kt : Z p l e R s m args below meth c A nL D cells slots Q ws lv tgt st) : Z p l e R s m args below meth c A nL D cells slots Q ws lv pc (.int (iI a) :: st) := z_if_ne hC hdg ht ha (fun _ => kt) (fun q => by omega)
theorem z_if_ne_f (hC : zC p s m args meth c A nL D J cc own Ts) {a : Int} {off : Int} {tgt : Nat} (hdg : decode cc pc = .ok (.ifCond .ne off, 3)) (ht : (pc : Int) + off = (tgt : Int)) (ha : inR a) (h : a = 0) (kf : Z p l e R s m args below meth c A nL D cells slots Q ws lv (pc + 3) st) : Z p l e R s m args below meth c A nL D cells slots Q ws lv pc (.int (iI a) :: st) := z_if_ne hC hdg ht ha (fun q => by omega) (fun _ => kf)
theorem z_icmp_lt (hC : zC p s m args meth c A nL D J cc own Ts) {a b : Int} {off : Int} {tgt : Nat} (hdg : decode cc pc = .ok (.if_icmp .lt off, 3)) (ht : (pc : Int) + off = (tgt : Int)) (ha : inR a) (hb : inR b) (kt : a < b → Z p l e R s m args below meth c A nL D cells slots Q ws lv tgt st) (kf : b ≤ a → Z p l e R s m args below meth c A nL D cells slots Q ws lv (pc + 3) st) : Z p l e R s m args below meth c A nL D cells slots Q ws lv pc (.int (iI b) :: .int (iI a) :: st) := fun H locs ls hP hD hS hl => lv_icmp_lt hC.1.1 hC.1.2.1 hdg ht (fun h => kt ((iI_lt ha hb).mp h) H locs ls hP hD hS hl) (fun h => kf (Int.not_lt.mp (fun z => h ((iI_lt ha hb).mpr z))) H locs ls hP hD hS hl)
theorem z_if_lt (hC : zC p s m args meth c A nL D J cc own Ts) {a : Int} {off : Int} {tgt : Nat} (hdg : decode cc pc = .ok (.ifCond .lt off, 3)) (ht : (pc : Int) + off = (tgt : Int)) (ha : inR a) (kt : a < 0 → Z p l e R s m args below meth c A nL D cells slots Q ws lv tgt st) (kf : 0 ≤ a → Z p l e R s m args below meth c A nL D cells slots Q ws lv (pc + 3) st) : Z p l e R s m args below meth c A nL D cells slots Q ws lv pc (.int (iI a) :: st) := fun H locs ls hP hD hS hl => lv_if_lt hC.1.1 hC.1.2.1 hdg ht (fun h => kt ((iI_lt ha inR_0).mp h) H locs ls hP hD hS hl) (fun h => kf (Int.not_lt.mp (fun z => h ((iI_lt ha inR_0).mpr z))) H locs ls hP hD hS hl)
theorem z_icmp_lt_t (hC : zC p s m args meth c A nL D J cc own Ts) {a b : Int} {off : Int} {tgt : Nat} (hdg : decode cc pc = .ok (.if_icmp .lt off, 3)) (ht : (pc : Int) + off = (tgt : Int)) (ha : inR a) (hb : inR b) (h : a < b) (kt : Z p l e R s m args below meth c A nL D cells slots Q ws lv tgt st) : Z p l e R s m args below meth c A nL D cells slots Q ws lv pc (.int (iI b) :: .int (iI a) :: st) := z_icmp_lt hC hdg ht ha hb (fun _ => kt) (fun q => by omega)
theorem z_icmp_lt_f (hC : zC p s m args meth c A nL D J cc own Ts) {a b : Int} {off : Int} {tgt : Nat} (hdg : decode cc pc = .ok (.if_icmp .lt off, 3)) (ht : (pc : Int) + off = (tgt : Int)) (ha : inR a) (hb : inR b) (h : b ≤ a) (kf : Z p l e R s m args below meth c A nL D cells slots Q ws lv (pc + 3) st) : Z p l e R s m args below meth c A nL D cells slots Q ws lv pc (.int (iI b) :: .int (iI a) :: st) := z_icmp_lt hC hdg ht ha hb (fun q => by omega) (fun _ => kf)
theorem z_if_lt_t (hC : zC p s m args meth c A nL D J cc own Ts) {a : Int} {off : Int} {tgt : Nat} (hdg : decode cc pc = .ok (.ifCond .lt off, 3)) (ht : (pc : Int) + off = (tgt : Int)) (ha : inR a) (h : a < 0) (kt : Z p l e R s m args below meth c A nL D cells slots Q ws lv tgt st) : Z p l e R s m args below meth c A nL D cells slots Q ws lv pc (.int (iI a) :: st) := z_if_lt hC hdg ht ha (fun _ => kt) (fun q => by omega)
theorem z_if_lt_f (hC : zC p s m args meth c A nL D J cc own Ts) {a : Int} {off : Int} {tgt : Nat} (hdg : decode cc pc = .ok (.ifCond .lt off, 3)) (ht : (pc : Int) + off = (tgt : Int)) (ha : inR a) (h : 0 ≤ a) (kf : Z p l e R s m args below meth c A nL D cells slots Q ws lv (pc + 3) st) : Z p l e R s m args below meth c A nL D cells slots Q ws lv pc (.int (iI a) :: st) := z_if_lt hC hdg ht ha (fun q => by omega) (fun _ => kf)
theorem z_icmp_ge (hC : zC p s m args meth c A nL D J cc own Ts) {a b : Int} {off : Int} {tgt : Nat} (hdg : decode cc pc = .ok (.if_icmp .ge off, 3)) (ht : (pc : Int) + off = (tgt : Int)) (ha : inR a) (hb : inR b) (kt : b ≤ a → Z p l e R s m args below meth c A nL D cells slots Q ws lv tgt st) (kf : a < b → Z p l e R s m args below meth c A nL D cells slots Q ws lv (pc + 3) st) : Z p l e R s m args below meth c A nL D cells slots Q ws lv pc (.int (iI b) :: .int (iI a) :: st) := fun H locs ls hP hD hS hl => lv_icmp_ge hC.1.1 hC.1.2.1 hdg ht (fun h => kt ((iI_le hb ha).mp h) H locs ls hP hD hS hl) (fun h => kf (Int.not_le.mp (fun z => h ((iI_le hb ha).mpr z))) H locs ls hP hD hS hl)
theorem z_if_ge (hC : zC p s m args meth c A nL D J cc own Ts) {a : Int} {off : Int} {tgt : Nat} (hdg : decode cc pc = .ok (.ifCond .ge off, 3)) (ht : (pc : Int) + off = (tgt : Int)) (ha : inR a) (kt : 0 ≤ a → Z p l e R s m args below meth c A nL D cells slots Q ws lv tgt st) (kf : a < 0 → Z p l e R s m args below meth c A nL D cells slots Q ws lv (pc + 3) st) : Z p l e R s m args below meth c A nL D cells slots Q ws lv pc (.int (iI a) :: st) := fun H locs ls hP hD hS hl => lv_if_ge hC.1.1 hC.1.2.1 hdg ht (fun h => kt ((iI_le inR_0 ha).mp h) H locs ls hP hD hS hl) (fun h => kf (Int.not_le.mp (fun z => h ((iI_le inR_0 ha).mpr z))) H locs ls hP hD hS hl)
theorem z_icmp_ge_t (hC : zC p s m args meth c A nL D J cc own Ts) {a b : Int} {off : Int} {tgt : Nat} (hdg : decode cc pc = .ok (.if_icmp .ge off, 3)) (ht : (pc : Int) + off = (tgt : Int)) (ha : inR a) (hb : inR b) (h : b ≤ a) (kt : Z p l e R s m args below meth c A nL D cells slots Q ws lv tgt st) : Z p l e R s m args below meth c A nL D cells slots Q ws lv pc (.int (iI b) :: .int (iI a) :: st) := z_icmp_ge hC hdg ht ha hb (fun _ => kt) (fun q => by omega)
theorem z_icmp_ge_f (hC : zC p s m args meth c A nL D J cc own Ts) {a b : Int} {off : Int} {tgt : Nat} (hdg : decode cc pc = .ok (.if_icmp .ge off, 3)) (ht : (pc : Int) + off = (tgt : Int)) (ha : inR a) (hb : inR b) (h : a < b) (kf : Z p l e R s m args below meth c A nL D cells slots Q ws lv (pc + 3) st) : Z p l e R s m args below meth c A nL D cells slots Q ws lv pc (.int (iI b) :: .int (iI a) :: st) := z_icmp_ge hC hdg ht ha hb (fun q => by omega) (fun _ => kf)
theorem z_if_ge_t (hC : zC p s m args meth c A nL D J cc own Ts) {a : Int} {off : Int} {tgt : Nat} (hdg : decode cc pc = .ok (.ifCond .ge off, 3)) (ht : (pc : Int) + off = (tgt : Int)) (ha : inR a) (h : 0 ≤ a) (kt : Z p l e R s m args below meth c A nL D cells slots Q ws lv tgt st) : Z p l e R s m args below meth c A nL D cells slots Q ws lv pc (.int (iI a) :: st) := z_if_ge hC hdg ht ha (fun _ => kt) (fun q => by omega)
theorem z_if_ge_f (hC : zC p s m args meth c A nL D J cc own Ts) {a : Int} {off : Int} {tgt : Nat} (hdg : decode cc pc = .ok (.ifCond .ge off, 3)) (ht : (pc : Int) + off = (tgt : Int)) (ha : inR a) (h : a < 0) (kf : Z p l e R s m args below meth c A nL D cells slots Q ws lv (pc + 3) st) : Z p l e R s m args below meth c A nL D cells slots Q ws lv pc (.int (iI a) :: st) := z_if_ge hC hdg ht ha (fun q => by omega) (fun _ => kf)
theorem z_icmp_gt (hC : zC p s m args meth c A nL D J cc own Ts) {a b : Int} {off : Int} {tgt : Nat} (hdg : decode cc pc = .ok (.if_icmp .gt off, 3)) (ht : (pc : Int) + off = (tgt : Int)) (ha : inR a) (hb : inR b) (kt : b < a → Z p l e R s m args below meth c A nL D cells slots Q ws lv tgt st) (kf : a ≤ b → Z p l e R s m args below meth c A nL D cells slots Q ws lv (pc + 3) st) : Z p l e R s m args below meth c A nL D cells slots Q ws lv pc (.int (iI b) :: .int (iI a) :: st) := fun H locs ls hP hD hS hl => lv_icmp_gt hC.1.1 hC.1.2.1 hdg ht (fun h => kt ((iI_lt hb ha).mp h) H locs ls hP hD hS hl) (fun h => kf (Int.not_lt.mp (fun z => h ((iI_lt hb ha).mpr z))) H locs ls hP hD hS hl)
theorem z_if_gt (hC : zC p s m args meth c A nL D J cc own Ts) {a : Int} {off : Int} {tgt : Nat} (hdg : decode cc pc = .ok (.ifCond .gt off, 3)) (ht : (pc : Int) + off = (tgt : Int)) (ha : inR a) (kt : 0 < a → Z p l e R s m args below meth c A nL D cells slots Q ws lv tgt st) (kf : a ≤ 0 → Z p l e R s m args below meth c A nL D cells slots Q ws lv (pc + 3) st) : Z p l e R s m args below meth c A nL D cells slots Q ws lv pc (.int (iI a) :: st) := fun H locs ls hP hD hS hl => lv_if_gt hC.1.1 hC.1.2.1 hdg ht (fun h => kt ((iI_lt inR_0 ha).mp h) H locs ls hP hD hS hl) (fun h => kf (Int.not_lt.mp (fun z => h ((iI_lt inR_0 ha).mpr z))) H locs ls hP hD hS hl)
theorem z_icmp_gt_t (hC : zC p s m args meth c A nL D J cc own Ts) {a b : Int} {off : Int} {tgt : Nat} (hdg : decode cc pc = .ok (.if_icmp .gt off, 3)) (ht : (pc : Int) + off = (tgt : Int)) (ha : inR a) (hb : inR b) (h : b < a) (kt : Z p l e R s m args below meth c A nL D cells slots Q ws lv tgt st) : Z p l e R s m args below meth c A nL D cells slots Q ws lv pc (.int (iI b) :: .int (iI a) :: st) := z_icmp_gt hC hdg ht ha hb (fun _ => kt) (fun q => by omega)
theorem z_icmp_gt_f (hC : zC p s m args meth c A nL D J cc own Ts) {a b : Int} {off : Int} {tgt : Nat} (hdg : decode cc pc = .ok (.if_icmp .gt off, 3)) (ht : (pc : Int) + off = (tgt : Int)) (ha : inR a) (hb : inR b) (h : a ≤ b) (kf : Z p l e R s m args below meth c A nL D cells slots Q ws lv (pc + 3) st) : Z p l e R s m args below meth c A nL D cells slots Q ws lv pc (.int (iI b) :: .int (iI a) :: st) := z_icmp_gt hC hdg ht ha hb (fun q => by omega) (fun _ => kf)
theorem z_if_gt_t (hC : zC p s m args meth c A nL D J cc own Ts) {a : Int} {off : Int} {tgt : Nat} (hdg : decode cc pc = .ok (.ifCond .gt off, 3)) (ht : (pc : Int) + off = (tgt : Int)) (ha : inR a) (h : 0 < a) (kt : Z p l e R s m args below meth c A nL D cells slots Q ws lv tgt st) : Z p l e R s m args below meth c A nL D cells slots Q ws lv pc (.int (iI a) :: st) := z_if_gt hC hdg ht ha (fun _ => kt) (fun q => by omega)
theorem z_if_gt_f (hC : zC p s m args meth c A nL D J cc own Ts) {a : Int} {off : Int} {tgt : Nat} (hdg : decode cc pc = .ok (.ifCond .gt off, 3)) (ht : (pc : Int) + off = (tgt : Int)) (ha : inR a) (h : a ≤ 0) (kf : Z p l e R s m args below meth c A nL D cells slots Q ws lv (pc + 3) st) : Z p l e R s m args below meth c A nL D cells slots Q ws lv pc (.int (iI a) :: st) := z_if_gt hC hdg ht ha (fun q => by omega) (fun _ => kf)
theorem z_icmp_le (hC : zC p s m args meth c A nL D J cc own Ts) {a b : Int} {off : Int} {tgt : Nat} (hdg : decode cc pc = .ok (.if_icmp .le off, 3)) (ht : (pc : Int) + off = (tgt : Int)) (ha : inR a) (hb : inR b) (kt : a ≤ b → Z p l e R s m args below meth c A nL D cells slots Q ws lv tgt st) (kf : b < a → Z p l e R s m args below meth c A nL D cells slots Q ws lv (pc + 3) st) : Z p l e R s m args below meth c A nL D cells slots Q ws lv pc (.int (iI b) :: .int (iI a) :: st) := fun H locs ls hP hD hS hl => lv_icmp_le hC.1.1 hC.1.2.1 hdg ht (fun h => kt ((iI_le ha hb).mp h) H locs ls hP hD hS hl) (fun h => kf (Int.not_le.mp (fun z => h ((iI_le ha hb).mpr z))) H locs ls hP hD hS hl)
theorem z_if_le (hC : zC p s m args meth c A nL D J cc own Ts) {a : Int} {off : Int} {tgt : Nat} (hdg : decode cc pc = .ok (.ifCond .le off, 3)) (ht : (pc : Int) + off = (tgt : Int)) (ha : inR a) (kt : a ≤ 0 → Z p l e R s m args below meth c A nL D cells slots Q ws lv tgt st) (kf : 0 < a → Z p l e R s m args below meth c A nL D cells slots Q ws lv (pc + 3) st) : Z p l e R s m args below meth c A nL D cells slots Q ws lv pc (.int (iI a) :: st) := fun H locs ls hP hD hS hl => lv_if_le hC.1.1 hC.1.2.1 hdg ht (fun h => kt ((iI_le ha inR_0).mp h) H locs ls hP hD hS hl) (fun h => kf (Int.not_le.mp (fun z => h ((iI_le ha inR_0).mpr z))) H locs ls hP hD hS hl)
theorem z_icmp_le_t (hC : zC p s m args meth c A nL D J cc own Ts) {a b : Int} {off : Int} {tgt : Nat} (hdg : decode cc pc = .ok (.if_icmp .le off, 3)) (ht : (pc : Int) + off = (tgt : Int)) (ha : inR a) (hb : inR b) (h : a ≤ b) (kt : Z p l e R s m args below meth c A nL D cells slots Q ws lv tgt st) : Z p l e R s m args below meth c A nL D cells slots Q ws lv pc (.int (iI b) :: .int (iI a) :: st) := z_icmp_le hC hdg ht ha hb (fun _ => kt) (fun q => by omega)
theorem z_icmp_le_f (hC : zC p s m args meth c A nL D J cc own Ts) {a b : Int} {off : Int} {tgt : Nat} (hdg : decode cc pc = .ok (.if_icmp .le off, 3)) (ht : (pc : Int) + off = (tgt : Int)) (ha : inR a) (hb : inR b) (h : b < a) (kf : Z p l e R s m args below meth c A nL D cells slots Q ws lv (pc + 3) st) : Z p l e R s m args below meth c A nL D cells slots Q ws lv pc (.int (iI b) :: .int (iI a) :: st) := z_icmp_le hC hdg ht ha hb (fun q => by omega) (fun _ => kf)
theorem z_if_le_t (hC : zC p s m args meth c A nL D J cc own Ts) {a : Int} {off : Int} {tgt : Nat} (hdg : decode cc pc = .ok (.ifCond .le off, 3)) (ht : (pc : Int) + off = (tgt : Int)) (ha : inR a) (h : a ≤ 0) (kt : Z p l e R s m args below meth c A nL D cells slots Q ws lv tgt st) : Z p l e R s m args below meth c A nL D cells slots Q ws lv pc (.int (iI a) :: st) := z_if_le hC hdg ht ha (fun _ => kt) (fun q => by omega)
theorem z_if_le_f (hC : zC p s m args meth c A nL D J cc own Ts) {a : Int} {off : Int} {tgt : Nat} (hdg : decode cc pc = .ok (.ifCond .le off, 3)) (ht : (pc : Int) + off = (tgt : Int)) (ha : inR a) (h : 0 < a) (kf : Z p l e R s m args below meth c A nL D cells slots Q ws lv (pc + 3) st) : Z p l e R s m args below meth c A nL D cells slots Q ws lv pc (.int (iI a) :: st) := z_if_le hC hdg ht ha (fun q => by omega) (fun _ => kf)
theorem z_goto (hC : zC p s m args meth c A nL D J cc own Ts) {off : Int} {tgt : Nat} (hdg : decode cc pc = .ok (.goto off, 3)) (ht : (pc : Int) + off = (tgt : Int)) (kk : Z p l e R s m args below meth c A nL D cells slots Q ws lv tgt st) : Z p l e R s m args below meth c A nL D cells slots Q ws lv pc st := fun H locs ls hP hD hS hl => lv_goto hC.1.1 hC.1.2.1 hdg ht (kk H locs ls hP hD hS hl)
theorem z_ifnull (hC : zC p s m args meth c A nL D J cc own Ts) {x : Nat} {off : Int} (hdg : decode cc pc = .ok (.ifnull off, 3)) (kk : Z p l e R s m args below meth c A nL D cells slots Q ws lv (pc + 3) st) : Z p l e R s m args below meth c A nL D cells slots Q ws lv pc (.ref x :: st) := fun H locs ls hP hD hS hl => lv_ifnull hC.1.1 hC.1.2.1 hdg (kk H locs ls hP hD hS hl)
theorem z_ifnonnull (hC : zC p s m args meth c A nL D J cc own Ts) {x : Nat} {off : Int} {tgt : Nat} (hdg : decode cc pc = .ok (.ifnonnull off, 3)) (ht : (pc : Int) + off = (tgt : Int)) (kk : Z p l e R s m args below meth c A nL D cells slots Q ws lv tgt st) : Z p l e R s m args below meth c A nL D cells slots Q ws lv pc (.ref x :: st) := fun H locs ls hP hD hS hl => lv_ifnonnull hC.1.1 hC.1.2.1 hdg ht (kk H locs ls hP hD hS hl)
theorem z_tableIn (hC : zC p s m args meth c A nL D J cc own Ts) {dflt lo hi : Int} {offs : Array Int} {len : Nat} {z : Int} {off : Int} {tgt : Nat} (hdg : decode cc pc = .ok (.tableswitch dflt lo hi offs, len)) (hz : inR z) (h1 : lo ≤ z) (h2 : z ≤ hi) (ho : offs[(z - lo).toNat]? = some off) (ht : (pc : Int) + off = (tgt : Int)) (kk : Z p l e R s m args below meth c A nL D cells slots Q ws lv tgt st) : Z p l e R s m args below meth c A nL D cells slots Q ws lv pc (.int (iI z) :: st) := fun H locs ls hP hD hS hl => lv_tableIn hC.1.1 hC.1.2.1 hdg (by rw [iI_toInt hz]; omega) (by rw [iI_toInt hz]; omega) (by rw [iI_toInt hz]; exact ho) ht (kk H locs ls hP hD hS hl)
theorem z_tableOut (hC : zC p s m args meth c A nL D J cc own Ts) {dflt lo hi : Int} {offs : Array Int} {len : Nat} {z : Int} {tgt : Nat} (hdg : decode cc pc = .ok (.tableswitch dflt lo hi offs, len)) (hz : inR z) (h : z < lo ∨ hi < z) (ht : (pc : Int) + dflt = (tgt : Int)) (kk : Z p l e R s m args below meth c A nL D cells slots Q ws lv tgt st) : Z p l e R s m args below meth c A nL D cells slots Q ws lv pc (.int (iI z) :: st) := fun H locs ls hP hD hS hl => lv_tableOut hC.1.1 hC.1.2.1 hdg (by rw [iI_toInt hz]; exact h) ht (kk H locs ls hP hD hS hl)
theorem z_lookup (hC : zC p s m args meth c A nL D J cc own Ts) {dflt : Int} {ps : Array (Int × Int)} {len : Nat} {z : Int} {off : Int} {tgt : Nat} (hdg : decode cc pc = .ok (.lookupswitch dflt ps, len)) (hz : inR z) (hp : (ps.toList.zip (ps.toList.drop 1)).all (fun (a, next) => a.1 < next.1) = true) (ho : Op.lookupswitch.offset ps.toList dflt z = off) (ht : (pc : Int) + off = (tgt : Int)) (kk : Z p l e R s m args below meth c A nL D cells slots Q ws lv tgt st) : Z p l e R s m args below meth c A nL D cells slots Q ws lv pc (.int (iI z) :: st) := fun H locs ls hP hD hS hl => lv_lookup hC.1.1 hC.1.2.1 hdg hp (by rw [iI_toInt hz]; exact ho) ht (kk H locs ls hP hD hS hl)
/-- a class of the worlds: its place, its fields, their types, their names -/
def zCls (ci : Nat) (C : String) (T : u_T) (N : Nat) (ty : Nat → FieldType) : Prop := vwCl[ci]? = some (C, T, N) ∧ (∀ k, k < N → parseFieldDescriptor (T k).2.2.1 = some (ty k)) ∧ (∀ a, a < N → ∀ b, b < N → a ≠ b → (T a).2.1 ≠ (T b).2.1)
theorem z_geti (hC : zC p s m args meth c A nL D J cc own Ts) {ci a : Nat} {ks : List (Option Nat)} {f : Nat → Int} {C : String} {T : u_T} {N index : Nat} {ty : Nat → FieldType} (hk0 : zCls ci C T N ty) (hin : ∀ w ∈ u_ws C T N, w ∈ Ts) (q0 : Nat) (hq : ws[q0]? = some (cO ci a ks f)) (k : Nat) (hk : k < N) (hlink : Cond.fieldLink own index C (T k).2.1 (T k).2.2.1 ∈ Ts) (hown : (T k).1 = C) (hn : ks[k]? = some none) (hdg : decode cc pc = .ok (.getfield index, 3)) (kk : Z p l e R s m args below meth c A nL D cells slots Q ws lv (pc + 3) (.int (iI (f k)) :: st)) : Z p l e R s m args below meth c A nL D cells slots Q ws lv pc (.ref a :: st) := fun H locs ls hP hD hS hl => va_get (D := D) hC.1.1 hC.1.2.1 hC.1.2.2.2.2 hin hC.1.2.2.2.1 hC.2.1 hP q0 hq hk0.1 k hk (hC.1.2.2.2.2 _ hlink) (fun x hx => hown ▸ hx) (vF_get hn) hdg (kk H locs ls hP hD hS hl)
theorem z_getr (hC : zC p s m args meth c A nL D J cc own Ts) {r : Nat} {ci a : Nat} {ks : List (Option Nat)} {f : Nat → Int} {C : String} {T : u_T} {N index : Nat} {ty : Nat → FieldType} (hk0 : zCls ci C T N ty) (hin : ∀ w ∈ u_ws C T N, w ∈ Ts) (q0 : Nat) (hq : ws[q0]? = some (cO ci a ks f)) (k : Nat) (hk : k < N) (hlink : Cond.fieldLink own index C (T k).2.1 (T k).2.2.1 ∈ Ts) (hown : (T k).1 = C) (hn : ks[k]? = some (some r)) (hdg : decode cc pc = .ok (.getfield index, 3)) (kk : Z p l e R s m args below meth c A nL D cells slots Q ws lv (pc + 3) (.ref r :: st)) : Z p l e R s m args below meth c A nL D cells slots Q ws lv pc (.ref a :: st) := fun H locs ls hP hD hS hl => va_get (D := D) hC.1.1 hC.1.2.1 hC.1.2.2.2.2 hin hC.1.2.2.2.1 hC.2.1 hP q0 hq hk0.1 k hk (hC.1.2.2.2.2 _ hlink) (fun x hx => hown ▸ hx) (vF_ref hn) hdg (kk H locs ls hP hD hS hl)
theorem z_puti (hC : zC p s m args meth c A nL D J cc own Ts) {z : Int} {ci a : Nat} {ks : List (Option Nat)} {f : Nat → Int} {C : String} {T : u_T} {N index : Nat} {ty : Nat → FieldType} (hk0 : zCls ci C T N ty) (hin : ∀ w ∈ u_ws C T N, w ∈ Ts) (q0 : Nat) (hq : ws[q0]? = some (cO ci a ks f)) (k : Nat) (hk : k < N) (hlink : Cond.fieldLink own index C (T k).2.1 (T k).2.2.1 ∈ Ts) (hown : (T k).1 = C) (hn : ks[k]? = some none) (hfin : (T k).2.2.2 = false) {fty : FieldType} (hd : parseFieldDescriptor (T k).2.2.1 = some fty) (hnar : narrow fty (.int (iI z)) = .int (iI z)) (hfit : fits fty (.int (iI z)) = true) (hdg : decode cc pc = .ok (.putfield index, 3)) (hws : ws.set q0 (cO ci a ks (updZ f k z)) = ws') (kk : Z p l e R s m args below meth c A nL D cells slots Q ws' lv (pc + 3) st) : Z p l e R s m args below meth c A nL D cells slots Q ws lv pc (.int (iI z) :: .ref a :: st) := fun H locs ls hP hD hS hl => va_put (D := D) hC.1.1 hC.1.2.1 hC.1.2.2.2.2 hin ty hk0.2.1 hk0.2.2 hC.1.2.2.2.1 hC.2.1 hP hD hS q0 hq hk0.1 k hk (hC.1.2.2.2.2 _ hlink) (fun x hx => hown ▸ hx) hfin hd hnar hfit (vF_lt hn) hdg (fun H1 l1 hP1 hD1 hS1 => kk H1 l1 ls (by have q : (vF ks f).set k (.int (iI z)) = vF ks (updZ f k z) := vF_set z hn; rw [q] at hP1; rw [← hws]; exact hP1) (by have q : (vF ks f).set k (.int (iI z)) = vF ks (updZ f k z) := vF_set z hn; rw [q] at hD1; rw [← hws]; exact hD1) hS1 hl)
theorem z_iald (hC : zC p s m args meth c A nL D J cc own Ts) {cA : ClassId} {a n : Nat} {f : Nat → Int} {z : Int} (q0 : Nat) (hq : ws[q0]? = some (cI cA a n f)) (t0 : Nat) (ht0 : (zJ J)[t0]? = some (cA, .int)) (k : Nat) (hz : z = (k : Int)) (hkn : k < n) (hnb : n < 2147483648) (hdg : decode cc pc = .ok (.iaload, 1)) (kk : Z p l e R s m args below meth c A nL D cells slots Q ws lv (pc + 1) (.int (iI (f k)) :: st)) : Z p l e R s m args below meth c A nL D cells slots Q ws lv pc (.int (iI z) :: .ref a :: st) := fun H locs ls hP hD hS hl => va_iald (D := D) hC.1.1 hC.1.2.1 hC.2.1 hP q0 t0 hq ht0 (iI_in hz hkn hnb).1 hdg ((iI_in hz hkn hnb).2.symm ▸ kk H locs ls hP hD hS hl)
theorem z_cald (hC : zC p s m args meth c A nL D J cc own Ts) {cA : ClassId} {a n : Nat} {f : Nat → Int} {z : Int} (q0 : Nat) (hq : ws[q0]? = some (cI cA a n f)) (t0 : Nat) (ht0 : (zJ J)[t0]? = some (cA, .char)) (k : Nat) (hz : z = (k : Int)) (hkn : k < n) (hnb : n < 2147483648) (hdg : decode cc pc = .ok (.caload, 1)) (kk : Z p l e R s m args below meth c A nL D cells slots Q ws lv (pc + 1) (.int (iI (f k)) :: st)) : Z p l e R s m args below meth c A nL D cells slots Q ws lv pc (.int (iI z) :: .ref a :: st) := fun H locs ls hP hD hS hl => va_cald (D := D) hC.1.1 hC.1.2.1 hC.2.1 hP q0 t0 hq ht0 (iI_in hz hkn hnb).1 hdg ((iI_in hz hkn hnb).2.symm ▸ kk H locs ls hP hD hS hl)
theorem z_zald (hC : zC p s m args meth c A nL D J cc own Ts) {cA : ClassId} {a n : Nat} {f : Nat → Int} {z : Int} (q0 : Nat) (hq : ws[q0]? = some (cI cA a n f)) (t0 : Nat) (ht0 : (zJ J)[t0]? = some (cA, .boolean)) (k : Nat) (hz : z = (k : Int)) (hkn : k < n) (hnb : n < 2147483648) (hdg : decode cc pc = .ok (.baload, 1)) (kk : Z p l e R s m args below meth c A nL D cells slots Q ws lv (pc + 1) (.int (iI (f k)) :: st)) : Z p l e R s m args below meth c A nL D cells slots Q ws lv pc (.int (iI z) :: .ref a :: st) := fun H locs ls hP hD hS hl => va_zald (D := D) hC.1.1 hC.1.2.1 hC.2.1 hP q0 t0 hq ht0 (iI_in hz hkn hnb).1 hdg ((iI_in hz hkn hnb).2.symm ▸ kk H locs ls hP hD hS hl)
theorem z_iast (hC : zC p s m args meth c A nL D J cc own Ts) {v : Int} {cA : ClassId} {a n : Nat} {f : Nat → Int} {z : Int} (q0 : Nat) (hq : ws[q0]? = some (cI cA a n f)) (t0 : Nat) (ht0 : (zJ J)[t0]? = some (cA, .int)) (k : Nat) (hz : z = (k : Int)) (hkn : k < n) (hnb : n < 2147483648) (hdg : decode cc pc = .ok (.iastore, 1)) (hws : ws.set q0 (cI cA a n (updZ f k v)) = ws') (kk : Z p l e R s m args below meth c A nL D cells slots Q ws' lv (pc + 1) st) : Z p l e R s m args below meth c A nL D cells slots Q ws lv pc (.int (iI v) :: .int (iI z) :: .ref a :: st) := fun H locs ls hP hD hS hl => va_iast (D := D) hC.1.1 hC.1.2.1 hC.2.1 hP hD hS q0 t0 hq ht0 (iI_in hz hkn hnb).1 hdg (fun H1 l1 hP1 hD1 hS1 => kk H1 l1 ls (by rw [(iI_in hz hkn hnb).2, updZ_iI f k v] at hP1; rw [← hws]; exact hP1) (by rw [(iI_in hz hkn hnb).2, updZ_iI f k v] at hD1; rw [← hws]; exact hD1) hS1 hl)
theorem z_cast (hC : zC p s m args meth c A nL D J cc own Ts) {v : Int} {cA : ClassId} {a n : Nat} {f : Nat → Int} {z : Int} (q0 : Nat) (hq : ws[q0]? = some (cI cA a n f)) (t0 : Nat) (ht0 : (zJ J)[t0]? = some (cA, .char)) (k : Nat) (hz : z = (k : Int)) (hkn : k < n) (hnb : n < 2147483648) (hnar : vp_nar .char (iI v) = iI v) (hdg : decode cc pc = .ok (.castore, 1)) (hws : ws.set q0 (cI cA a n (updZ f k v)) = ws') (kk : Z p l e R s m args below meth c A nL D cells slots Q ws' lv (pc + 1) st) : Z p l e R s m args below meth c A nL D cells slots Q ws lv pc (.int (iI v) :: .int (iI z) :: .ref a :: st) := fun H locs ls hP hD hS hl => va_cast (D := D) hC.1.1 hC.1.2.1 hC.2.1 hP hD hS q0 t0 hq ht0 (iI_in hz hkn hnb).1 hdg (fun H1 l1 hP1 hD1 hS1 => kk H1 l1 ls (by rw [(iI_in hz hkn hnb).2, hnar, updZ_iI f k v] at hP1; rw [← hws]; exact hP1) (by rw [(iI_in hz hkn hnb).2, hnar, updZ_iI f k v] at hD1; rw [← hws]; exact hD1) hS1 hl)
theorem z_zast (hC : zC p s m args meth c A nL D J cc own Ts) {v : Int} {cA : ClassId} {a n : Nat} {f : Nat → Int} {z : Int} (q0 : Nat) (hq : ws[q0]? = some (cI cA a n f)) (t0 : Nat) (ht0 : (zJ J)[t0]? = some (cA, .boolean)) (k : Nat) (hz : z = (k : Int)) (hkn : k < n) (hnb : n < 2147483648) (hnar : vp_nar .boolean (iI v) = iI v) (hdg : decode cc pc = .ok (.bastore, 1)) (hws : ws.set q0 (cI cA a n (updZ f k v)) = ws') (kk : Z p l e R s m args below meth c A nL D cells slots Q ws' lv (pc + 1) st) : Z p l e R s m args below meth c A nL D cells slots Q ws lv pc (.int (iI v) :: .int (iI z) :: .ref a :: st) := fun H locs ls hP hD hS hl => va_zast (D := D) hC.1.1 hC.1.2.1 hC.2.1 hP hD hS q0 t0 hq ht0 (iI_in hz hkn hnb).1 hdg (fun H1 l1 hP1 hD1 hS1 => kk H1 l1 ls (by rw [(iI_in hz hkn hnb).2, hnar, updZ_iI f k v] at hP1; rw [← hws]; exact hP1) (by rw [(iI_in hz hkn hnb).2, hnar, updZ_iI f k v] at hD1; rw [← hws]; exact hD1) hS1 hl)
theorem z_aald (hC : zC p s m args meth c A nL D J cc own Ts) {cA : ClassId} {a n : Nat} {f : Nat → Option Nat} {z : Int} (q0 : Nat) (hq : ws[q0]? = some (cQ cA a n f)) (ht0 : (zJ J)[3]? = some (cA, .object "StepPairs$Encoder")) (k : Nat) (hz : z = (k : Int)) (hkn : k < n) (hnb : n < 2147483648) {r : Nat} (hr : f k = some r) (hdg : decode cc pc = .ok (.aaload, 1)) (kk : Z p l e R s m args below meth c A nL D cells slots Q ws lv (pc + 1) (.ref r :: st)) : Z p l e R s m args below meth c A nL D cells slots Q ws lv pc (.int (iI z) :: .ref a :: st) := fun H locs ls hP hD hS hl => va_aldq (D := D) hC.1.1 hC.1.2.1 hC.2.1 hP q0 3 hq ht0 (iI_in hz hkn hnb).1 hdg ((iI_in hz hkn hnb).2.symm ▸ hr.symm ▸ kk H locs ls hP hD hS hl)
end ZR
end
section
theorem zm_fm {α β : Type} (f : α → Option β) : ∀ (is : List α) (l : List β), is.map f = l.map some → is.filterMap f = l
  | [], [], _ => rfl
  | [], _ :: _, h => by simp at h
  | _ :: _, [], h => by simp at h
  | i :: is, b :: l, h => by
    simp only [List.map_cons, List.cons.injEq] at h
    rw [List.filterMap_cons, h.1, zm_fm f is l h.2]
theorem zT.moved {nm : String} {f : Nat → Int} {A : Nat → Prop} {u U : State} {H : Heap} (h : zT nm f A u H) (hvm : u.vm.Alike U.vm) : zT nm f A U H := by
  obtain ⟨t, h1, h2⟩ := h
  exact ⟨t, va_Z.moved hvm h1, va_T.moved hvm h2⟩
theorem zS.moved {A : Nat → Prop} {u U : State} {H : Heap} (h : zS A u H) (hvm : u.vm = U.vm) : zS A U H :=
  have a : u.vm.Alike U.vm := hvm ▸ Vm.Alike.refl u.vm
  ⟨h.1.moved a, h.2.1.moved a, h.2.2.1.moved a, va_Nw.same rfl hvm h.2.2.2.1, va_Nw.same rfl hvm h.2.2.2.2.1, va_Nw.same rfl hvm h.2.2.2.2.2.1, va_AO.moved a h.2.2.2.2.2.2⟩
theorem zP_blind {D : va_G} {J : Nat → ClassId} {wc : va_W} {sz : Nat} {av : List Value} : FrameBlind (va_Pc av (zP D J wc sz)) := by
  intro a U g mk q
  obtain ⟨q0, q1, q2, q3, q4, q5⟩ := q
  exact ⟨q0, q1, q2, va_K.moved (u := U) (U := U.calling g mk a) (Vm.Alike.refl U.vm) q3, q4, zS.moved (u := U) (U := U.calling g mk a) q5 rfl⟩
section ZR2
variable {p : Program} {l : Launch} {e : Env} {R : Room} {s : State} {m : MethodId} {args : Array Value} {below : List Frame} {meth : Method} {c : Code} {cells slots : Nat} {Q : State → Prop} {A : Nat → Prop} {nL : Nat} {D : va_G} {J : Nat → ClassId} {cc : ByteArray} {own : String} {Ts : List Cond} {ws ws' : va_W} {lv lv' : List (Nat × Value)} {pc : Nat} {st : List Value}
theorem z_widen {k n : Nat} (h1 : cells ≤ k) (h2 : slots ≤ n) (kk : Z p l e R s m args below meth c A nL D k n Q ws lv pc st) : Z p l e R s m args below meth c A nL D cells slots Q ws lv pc st :=
  fun H locs ls hP hD hS hl => W.widen h1 h2 (kk H locs ls hP hD hS hl)
/-- a part of the world, in any order -/
theorem z_perm (is : List Nat) (hn : va_nd is = true) (h : is.map (fun i => ws[i]?) = ws'.map some) (kk : Z p l e R s m args below meth c A nL D cells slots Q ws' lv pc st) : Z p l e R s m args below meth c A nL D cells slots Q ws lv pc st :=
  fun H locs ls hP hD hS hl => kk H locs ls (hP.sub is (zm_fm _ is ws' h)) (hD.sub is hn h) hS hl
theorem z_ws (h : ws = ws') (kk : Z p l e R s m args below meth c A nL D cells slots Q ws' lv pc st) : Z p l e R s m args below meth c A nL D cells slots Q ws lv pc st := h ▸ kk
theorem z_lv (ks : List Nat) (h : lv_pick lv ks = lv') (kk : Z p l e R s m args below meth c A nL D cells slots Q ws lv' pc st) : Z p l e R s m args below meth c A nL D cells slots Q ws lv pc st :=
  fun H locs ls hP hD hS hl => kk H locs ls hP hD hS (lv_sub hl ks h)
theorem z_st {st' : List Value} (h : st = st') (kk : Z p l e R s m args below meth c A nL D cells slots Q ws lv pc st') : Z p l e R s m args below meth c A nL D cells slots Q ws lv pc st := h ▸ kk
theorem z_lv0 (h : lv = lv') (kk : Z p l e R s m args below meth c A nL D cells slots Q ws lv' pc st) : Z p l e R s m args below meth c A nL D cells slots Q ws lv pc st := h ▸ kk
theorem z_to {st' : List Value} (hw : ws = ws') (ks : List Nat) (h : lv_pick lv ks = lv') (hs : st = st') (kk : Z p l e R s m args below meth c A nL D cells slots Q ws' lv' pc st') : Z p l e R s m args below meth c A nL D cells slots Q ws lv pc st := by
  subst hw hs
  exact z_lv ks h kk
/-- a place where walks meet -/
theorem z_join {α : Type} (P : α → Prop) (ws1 : α → va_W) (lv1 : α → List (Nat × Value)) (pc1 : Nat) (st1 : α → List Value) (k : ∀ a, P a → Z p l e R s m args below meth c A nL D cells slots Q (ws1 a) (lv1 a) pc1 (st1 a))
    (kk : (∀ a, P a → Z p l e R s m args below meth c A nL D cells slots Q (ws1 a) (lv1 a) pc1 (st1 a)) → Z p l e R s m args below meth c A nL D cells slots Q ws lv pc st) : Z p l e R s m args below meth c A nL D cells slots Q ws lv pc st := kk k
/-- a loop: its head at pc, a measure that says how many turns are left -/
theorem z_loop {α : Type} (P : Nat → α → Prop) (ws1 : Nat → α → va_W) (lv1 : Nat → α → List (Nat × Value)) (pc1 : Nat) (st1 : List Value)
    (k : ∀ n a, (∀ b, P n b → Z p l e R s m args below meth c A nL D cells slots Q (ws1 n b) (lv1 n b) pc1 st1) → P (n + 1) a → Z p l e R s m args below meth c A nL D cells slots Q (ws1 (n + 1) a) (lv1 (n + 1) a) pc1 st1)
    (k0 : ∀ a, P 0 a → Z p l e R s m args below meth c A nL D cells slots Q (ws1 0 a) (lv1 0 a) pc1 st1) : ∀ n a, P n a → Z p l e R s m args below meth c A nL D cells slots Q (ws1 n a) (lv1 n a) pc1 st1
  | 0, a, h => k0 a h
  | n + 1, a, h => k n a (fun b hb => z_loop P ws1 lv1 pc1 st1 k k0 n b hb) h
/-! ends -/
theorem z_iret {S : Type} {wc : va_W} {P : S → Prop} {v : S → Option Value} {w1 : S → va_W} {ty : FieldType} {x : Int32} (hC : zC p s m args meth c (va_A wc s.heap.size) nL D J cc own Ts) (hr : meth.sig.returnType = some ty) (hn : narrow ty (.int x) = .int x) (u : S) (hp : P u) (hv : v u = some (.int x)) (hw : ws = w1 u) (hdg : decode cc pc = .ok (.ireturn, 1)) :
    Z p l e R s m args below meth c (va_A wc s.heap.size) nL D cells slots (zE below args s D J wc P v w1 cells slots) ws lv pc [.int x] :=
  fun H locs ls hP hD hS hl => W.zret hC.1.1 hC.1.2.1 hr hn (fun t ht hW => ⟨⟨u, hp, by rw [hv], by rw [ht, ← hw]; exact hP, va_K.moved hW.alike hC.2.1, hw ▸ hD⟩, hS.F ht⟩) hS.2.2 hdg hC.2.2.2.2
theorem z_vret {S : Type} {wc : va_W} {P : S → Prop} {v : S → Option Value} {w1 : S → va_W} (hC : zC p s m args meth c (va_A wc s.heap.size) nL D J cc own Ts) (hr : meth.sig.returnType = none) (u : S) (hp : P u) (hv : v u = none) (hw : ws = w1 u) (hdg : decode cc pc = .ok (.return_, 1)) :
    Z p l e R s m args below meth c (va_A wc s.heap.size) nL D cells slots (zE below args s D J wc P v w1 cells slots) ws lv pc [] :=
  fun H locs ls hP hD hS hl => W.vret hC.1.1 hC.1.2.1 hr (fun t ht hW => ⟨⟨u, hp, by rw [hv], by rw [ht, ← hw]; exact hP, va_K.moved hW.alike hC.2.1, hw ▸ hD⟩, hS.F ht⟩) hS.2.2 hdg hC.2.2.2.2
theorem z_aret {S : Type} {wc : va_W} {P : S → Prop} {v : S → Option Value} {w1 : S → va_W} {ty : FieldType} {x : Nat} (hC : zC p s m args meth c (va_A wc s.heap.size) nL D J cc own Ts) (hr : meth.sig.returnType = some ty) (hrt : (∃ n, ty = .object n) ∨ ∃ t, ty = .array t) (u : S) (hp : P u) (hv : v u = some (.ref x)) (hw : ws = w1 u) (hdg : decode cc pc = .ok (.areturn, 1)) :
    Z p l e R s m args below meth c (va_A wc s.heap.size) nL D cells slots (zE below args s D J wc P v w1 cells slots) ws lv pc [.ref x] :=
  fun H locs ls hP hD hS hl => W.aret hC.1.1 hC.1.2.1 hr hrt (Or.inr ⟨x, rfl⟩) (fun t ht hW => ⟨⟨u, hp, by rw [hv], by rw [ht, ← hw]; exact hP, va_K.moved hW.alike hC.2.1, hw ▸ hD⟩, hS.F ht⟩) hS.2.2 hdg hC.2.2.2.2
theorem z_lret {S : Type} {wc : va_W} {P : S → Prop} {v : S → Option Value} {w1 : S → va_W} {x : Int64} (hC : zC p s m args meth c (va_A wc s.heap.size) nL D J cc own Ts) (hr : meth.sig.returnType = some .long) (u : S) (hp : P u) (hv : v u = some (.long x)) (hw : ws = w1 u) (hdg : decode cc pc = .ok (.lreturn, 1)) :
    Z p l e R s m args below meth c (va_A wc s.heap.size) nL D cells slots (zE below args s D J wc P v w1 cells slots) ws lv pc [.long x] :=
  fun H locs ls hP hD hS hl => W.lret hC.1.1 hC.1.2.1 hr (fun t ht hW => ⟨⟨u, hp, by rw [hv], by rw [ht, ← hw]; exact hP, va_K.moved hW.alike hC.2.1, hw ▸ hD⟩, hS.F ht⟩) hS.2.2 hdg hC.2.2.2.2
/-! calls -/
theorem z_callCore {S : Type} {rm : Room} {wc wr : va_W} {P : S → Prop} {v : S → Option Value} {w1 : S → va_W} {st0 : List Value} {a : Array Value} (hC : zC p s m args meth c A nL D J cc own Ts)
    (hrun : ∀ (H : Heap) (locs : List Loc) (ls : Array Slot), ls.size = nL → va_P D vwCl wc H → va_D A wc → va_S A s.heap H locs → (∀ q, va_A wc H.size q → A q) →
      va_Run p l e R s m args below meth c H locs cells slots rm.cells rm.slots (F0 m pc ls st0) st (zQ D J H.size wc P v w1 a) (va_A wc H.size))
    (isC isR : List Nat) (h1 : isC.map (fun i => ws[i]?) = wc.map some) (h2 : isR.map (fun i => ws[i]?) = wr.map some) (h3 : va_nd isR = true) (h4 : ∀ i ∈ isR, i ∉ isC) (h5 : va_nd isC = true)
    (kk : ∀ u : S, P u → Z p l e R s m args below meth c A nL D (cells + rm.cells) (slots + rm.slots) Q (wr ++ w1 u) lv (pc + 3) ((v u).toList ++ st)) : Z p l e R s m args below meth c A nL D cells slots Q ws lv pc st0 := by
  intro H locs ls hP hD hS hl
  have hF := va_free hD hS hC.2.2.1 isC h1
  have hrun := hrun H locs ls hl.1 (hP.sub isC (zm_fm _ isC wc h1)) (hD.sub isC h5 h1) hS hF
  intro T hT X
  obtain ⟨v', st₀, t, T', L, h0, X', hL, e1, e2, ⟨⟨u, hp, hv, hP1, hK1, hD1⟩, hz, hk⟩, stp⟩ := hrun T hT X
  have hv' : v' = v u := by injection hv
  subst hv'
  rw [h0] at hz hk
  obtain ⟨hPj, hDj⟩ := va_join (H1 := T'.heap) hP hD isC isR h1 h2 h3 h4 (fun q z1 z2 => by rw [e1]; exact hk q z1 z2) hF (by rw [e1]; exact hP1) hD1
  obtain ⟨t2, a1, b1⟩ := kk u hp T'.heap (locs ++ L) ls hPj hDj ⟨Nat.le_trans hS.1 (by rw [e1]; exact hz), fun q z1 z2 => by rw [e1, hk q (Nat.lt_of_lt_of_le z1 hS.1) (fun z => z2 (hF q z))]; exact hS.2.1 q z1 z2, fun q hq => by
      rcases List.mem_append.mp hq with z | z
      · exact hS.2.2 q z
      · exact hF _ (hL q z)⟩ hl T' rfl X'
  exact ⟨t2, stp t2 a1, b1⟩
theorem z_pre {D : va_G} {J : Nat → ClassId} {wc : va_W} {av : List Value} {H : Heap} {locs : List Loc} (hC : zC p s m args meth c A nL D J cc own Ts) (hPc : va_P D vwCl wc H) (hDc : va_D A wc) (hS : va_S A s.heap H locs) (hF : ∀ q, va_A wc H.size q → A q) :
    ∀ U : State, U.heap = H → s.WarmedH U.vm → va_Pc av (zP D J wc H.size) av.toArray U :=
  fun U hU hW => ⟨rfl, by rw [hU], by rw [hU]; exact hPc, va_K.moved hW.alike hC.2.1, hDc.weaken (fun _ _ _ _ => trivial), by rw [hU]; exact hC.2.2.2.1.call hW hS hF⟩
theorem z_callV {S : Type} {y : MethodName} {wsY ws0 : List Cond} {rm : Room} {bytes : ByteArray} {maxL index : Nat} {ret : Option FieldType} {C : String} {av : List Value} {b ci : Nat} {r : vw_C} {fs : List Value} {wc wr : va_W} {P : S → Prop} {v : S → Option Value} {w1 : S → va_W} {st0 : List Value} (hC : zC p s m args meth c A nL D J cc own Ts)
    (hM : ZM l y wsY rm D J (.ref b :: av) wc P v w1) (hT : GoodIn Ts (wsV own index C y wsY)) (hw : wsY = .code y bytes maxL ret :: ws0) (n : Nat)
    (hd : y.cls = C ∧ y.cls ≠ "java/lang/invoke/MethodHandle" ∧ y.cls ≠ "java/lang/invoke/VarHandle" ∧ (parseMethodDescriptor y.desc).map (fun d => d.parameters.length) = some n)
    (hR : rm.frames + 1 ≤ R.frames ∧ 8 + (maxL + 11) + rm.locals ≤ R.locals) (hcap : cells + rm.cells ≤ R.cells ∧ slots + rm.slots ≤ R.slots)
    (isC isR : List Nat) (h1 : isC.map (fun i => ws[i]?) = wc.map some) (h2 : isR.map (fun i => ws[i]?) = wr.map some) (h3 : va_nd isR = true) (h4 : ∀ i ∈ isR, i ∉ isC) (h5 : va_nd isC = true)
    (q0 : Nat) (hq : wc[q0]? = some (b, .inr (ci, fs))) (hci : vwCl[ci]? = some r) (hrC : r.1 = C) (hlen : av.length = n) (hst : st0 = av.reverse ++ .ref b :: st) (hcat : (st.map fun v => v.category).sum ≤ 8) (hdg : decode cc pc = .ok (.invokevirtual index, 3))
    (kk : ∀ u : S, P u → Z p l e R s m args below meth c A nL D (cells + rm.cells) (slots + rm.slots) Q (wr ++ w1 u) lv (pc + 3) ((v u).toList ++ st)) : Z p l e R s m args below meth c A nL D cells slots Q ws lv pc st0 := by
  refine z_callCore (wc := wc) (P := P) (v := v) (w1 := w1) (a := (Value.ref b :: av).toArray) hC (fun H locs ls hls hPc hDc hS hF => ?_) isC isR h1 h2 h3 h4 h5 kk
  subst hrC
  exact va_runV (As := av) (rest := st) hC.1 (hM H.size) (cwV n hC.1.2.2.2.2 hT hw rfl rfl hd hR) ⟨zP_blind, va_recv hC.2.1 hPc hci hq, z_pre hC hPc hDc hS hF⟩ rfl hlen hls hst (lv_room hcat) hdg hcap
theorem z_callS {S : Type} {y : MethodName} {wsY ws0 : List Cond} {rm : Room} {bytes : ByteArray} {maxL index : Nat} {ret : Option FieldType} {av : List Value} {wc wr : va_W} {P : S → Prop} {v : S → Option Value} {w1 : S → va_W} {st0 : List Value} (hC : zC p s m args meth c A nL D J cc own Ts)
    (hM : ZM l y wsY rm D J av wc P v w1) (hT : GoodIn Ts (va_wsS own index y wsY)) (hw : wsY = .code y bytes maxL ret :: ws0) (n : Nat)
    (hd : y.cls ≠ "java/lang/invoke/MethodHandle" ∧ y.cls ≠ "java/lang/invoke/VarHandle" ∧ (parseMethodDescriptor y.desc).map (fun d => d.parameters.length) = some n)
    (hR : rm.frames + 1 ≤ R.frames ∧ 8 + (maxL + 11) + rm.locals ≤ R.locals) (hcap : cells + rm.cells ≤ R.cells ∧ slots + rm.slots ≤ R.slots)
    (isC isR : List Nat) (h1 : isC.map (fun i => ws[i]?) = wc.map some) (h2 : isR.map (fun i => ws[i]?) = wr.map some) (h3 : va_nd isR = true) (h4 : ∀ i ∈ isR, i ∉ isC) (h5 : va_nd isC = true)
    (hlen : av.length = n) (hst : st0 = av.reverse ++ st) (hcat : (st.map fun v => v.category).sum ≤ 8) (hdg : decode cc pc = .ok (.invokestatic index, 3))
    (kk : ∀ u : S, P u → Z p l e R s m args below meth c A nL D (cells + rm.cells) (slots + rm.slots) Q (wr ++ w1 u) lv (pc + 3) ((v u).toList ++ st)) : Z p l e R s m args below meth c A nL D cells slots Q ws lv pc st0 := by
  refine z_callCore (wc := wc) (P := P) (v := v) (w1 := w1) (a := av.toArray) hC (fun H locs ls hls hPc hDc hS hF => ?_) isC isR h1 h2 h3 h4 h5 kk
  exact va_runS (As := av) (rest := st) hC.1 (hM H.size) (va_cwS n hC.1.2.2.2.2 hT hw rfl rfl hd hR) ⟨zP_blind, z_pre hC hPc hDc hS hF⟩ rfl hlen hls hst (lv_room hcat) hdg hcap
theorem z_callI {S : Type} {y : MethodName} {wsY ws0 : List Cond} {rm : Room} {bytes : ByteArray} {maxL index : Nat} {av : List Value} {b : Nat} {wc wr : va_W} {P : S → Prop} {v : S → Option Value} {w1 : S → va_W} {st0 : List Value} (hC : zC p s m args meth c A nL D J cc own Ts)
    (hM : ZM l y wsY rm D J (.ref b :: av) wc P v w1) (hT : GoodIn Ts wsY) (hw : wsY = .code y bytes maxL none :: ws0) (n : Nat) (hini : Cond.initialized y.cls ∈ Ts) (hlk : Cond.methodLink own index y ∈ Ts) (hins : Cond.instanceMethod y ∈ Ts) (hy1 : y.name = "<init>")
    (hd : y.cls ≠ "java/lang/invoke/MethodHandle" ∧ y.cls ≠ "java/lang/invoke/VarHandle" ∧ (parseMethodDescriptor y.desc).map (fun d => d.parameters.length) = some n)
    (hR : rm.frames + 1 ≤ R.frames ∧ 8 + (maxL + 11) + rm.locals ≤ R.locals) (hcap : cells + rm.cells ≤ R.cells ∧ slots + rm.slots ≤ R.slots)
    (isC isR : List Nat) (h1 : isC.map (fun i => ws[i]?) = wc.map some) (h2 : isR.map (fun i => ws[i]?) = wr.map some) (h3 : va_nd isR = true) (h4 : ∀ i ∈ isR, i ∉ isC) (h5 : va_nd isC = true)
    (hlen : av.length = n) (hst : st0 = av.reverse ++ .ref b :: st) (hcat : (st.map fun v => v.category).sum ≤ 8) (hdg : decode cc pc = .ok (.invokespecial index, 3))
    (kk : ∀ u : S, P u → Z p l e R s m args below meth c A nL D (cells + rm.cells) (slots + rm.slots) Q (wr ++ w1 u) lv (pc + 3) ((v u).toList ++ st)) : Z p l e R s m args below meth c A nL D cells slots Q ws lv pc st0 := by
  refine z_callCore (wc := wc) (P := P) (v := v) (w1 := w1) (a := (Value.ref b :: av).toArray) hC (fun H locs ls hls hPc hDc hS hF => ?_) isC isR h1 h2 h3 h4 h5 kk
  exact va_runI (As := av) (rest := st) hC.1 (hM H.size) (cwI n hC.1.2.2.2.2 hT hw rfl rfl (hC.1.2.2.2.2 _ hini) (hC.1.2.2.2.2 _ hlk) (hC.1.2.2.2.2 _ hins) hy1 hd hR) ⟨zP_blind, z_pre hC hPc hDc hS hF⟩ rfl hlen hls hst (lv_room hcat) hdg hcap
/-! the JDK's own -/
theorem z_min {index : Nat} {a b : Int} (hC : zC p s m args meth c A nL D J cc own Ts) (hlk : Cond.methodLink own index Lib.Math.min.name ∈ Ts) (hst : Cond.static Lib.Math.min.name ∈ Ts) (hini : Cond.initialized "java/lang/Math" ∈ Ts) (hcd : Cond.code Lib.Math.min.name Lib.Math.min.code 2 (some .int) ∈ Ts)
    (hR : 1 ≤ R.frames) (hlo : (st.map fun v => v.category).sum + 13 ≤ R.locals) (hcap : cells ≤ R.cells ∧ slots ≤ R.slots) (ha : inR a) (hb : inR b) (hdg : decode cc pc = .ok (.invokestatic index, 3))
    (kk : Z p l e R s m args below meth c A nL D cells slots Q ws lv (pc + 3) (.int (iI (min a b)) :: st)) : Z p l e R s m args below meth c A nL D cells slots Q ws lv pc (.int (iI b) :: .int (iI a) :: st) := by
  intro H locs ls hP hD hS hl
  refine va_mmin hC.1.1 hC.1.2.1 (hC.1.2.2.1.trans hl.1.symm) hC.1.2.2.2.1 (hC.1.2.2.2.2 _ hlk) (hC.1.2.2.2.2 _ hst) (hC.1.2.2.2.2 _ hini) (hC.1.2.2.2.2 _ hcd) hR hlo hcap.1 hcap.2 hdg ?_
  have q : (if iI b < iI a then iI b else iI a) = iI (min a b) := by
    by_cases h : b < a
    · rw [if_pos ((iI_lt hb ha).mpr h), Int.min_eq_right (by omega)]
    · rw [if_neg (fun z => h ((iI_lt hb ha).mp z)), Int.min_eq_left (by omega)]
  rw [q]
  exact kk H locs ls hP hD hS hl
theorem z_abs {index : Nat} {a : Int} (hC : zC p s m args meth c A nL D J cc own Ts) (hlk : Cond.methodLink own index Lib.Math.abs.name ∈ Ts) (hst : Cond.static Lib.Math.abs.name ∈ Ts) (hini : Cond.initialized "java/lang/Math" ∈ Ts) (hcd : Cond.code Lib.Math.abs.name Lib.Math.abs.code 1 (some .int) ∈ Ts)
    (hR : 1 ≤ R.frames) (hlo : (st.map fun v => v.category).sum + 13 ≤ R.locals) (hcap : cells ≤ R.cells ∧ slots ≤ R.slots) (ha : inR a) (hdg : decode cc pc = .ok (.invokestatic index, 3))
    (kk : Z p l e R s m args below meth c A nL D cells slots Q ws lv (pc + 3) (.int (iI (if 0 ≤ a then a else -a)) :: st)) : Z p l e R s m args below meth c A nL D cells slots Q ws lv pc (.int (iI a) :: st) := by
  intro H locs ls hP hD hS hl
  refine va_mabs hC.1.1 hC.1.2.1 (hC.1.2.2.1.trans hl.1.symm) hC.1.2.2.2.1 (hC.1.2.2.2.2 _ hlk) (hC.1.2.2.2.2 _ hst) (hC.1.2.2.2.2 _ hini) (hC.1.2.2.2.2 _ hcd) hR hlo hcap.1 hcap.2 hdg ?_
  have q : (if 0 ≤ iI a then iI a else 0 - iI a) = iI (if 0 ≤ a then a else -a) := by
    by_cases h : 0 ≤ a
    · rw [if_pos h, if_pos (show (0 : Int32) ≤ iI a from (iI_le inR_0 ha).mpr h)]
    · rw [if_neg h, if_neg (show ¬ (0 : Int32) ≤ iI a from fun z => h ((iI_le inR_0 ha).mp z)), iI_negZ]
  rw [q]
  exact kk H locs ls hP hD hS hl
def cpyZ (f g : Nat → Int) (sp dp n : Nat) : Nat → Int := fun k => if dp ≤ k ∧ k < dp + n then f (sp + (k - dp)) else g k
theorem cpyZ_iI (f g : Nat → Int) (sp dp n : Nat) : va_cpy (fun j => iI (f j)) (fun j => iI (g j)) sp dp n = fun j => iI (cpyZ f g sp dp n j) := by
  funext j
  unfold va_cpy cpyZ
  by_cases h : dp ≤ j ∧ j < dp + n
  · rw [if_pos h, if_pos h]
  · rw [if_neg h, if_neg h]
theorem z_copy {index : Nat} {a0 a n0 n1 : Nat} {c0 c1 : ClassId} {f g : Nat → Int} {ty : FieldType} {sp dp n : Int} (hC : zC p s m args meth c A nL D J cc own Ts) (hlk : Cond.methodLink own index arraycopyName ∈ Ts) (hnat : Cond.native arraycopyName ∈ Ts) (hst : Cond.static arraycopyName ∈ Ts) (hini : Cond.initialized "java/lang/System" ∈ Ts)
    (q0 q1 : Nat) (hq0 : ws[q0]? = some (cI c0 a0 n0 f)) (hq1 : ws[q1]? = some (cI c1 a n1 g)) (ht0 : (zJ J)[0]? = some (c0, .int)) (ht1 : (zJ J)[0]? = some (c1, .int)) (sn dn nn : Nat) (h1 : sp = (sn : Int)) (h2 : dp = (dn : Int)) (h3 : n = (nn : Int)) (h4 : sn + nn ≤ n0) (h5 : dn + nn ≤ n1) (h6 : n0 < 2147483648) (h7 : n1 < 2147483648)
    (hR : 1 ≤ R.frames) (hlo : (st.map fun v => v.category).sum + (nativeFrameWords "java/lang/System" "arraycopy" 5 + 11) ≤ R.locals) (hdg : decode cc pc = .ok (.invokestatic index, 3)) (hws : ws.set q1 (cI c1 a n1 (cpyZ f g sn dn nn)) = ws')
    (kk : Z p l e R s m args below meth c A nL D cells slots Q ws' lv (pc + 3) st) : Z p l e R s m args below meth c A nL D cells slots Q ws lv pc (.int (iI n) :: .int (iI dp) :: .ref a :: .int (iI sp) :: .ref a0 :: st) := by
  intro H locs ls hP hD hS hl
  have r1 : inR sp := ⟨by omega, by omega⟩
  have r2 : inR dp := ⟨by omega, by omega⟩
  have r3 : inR n := ⟨by omega, by omega⟩
  have e1 : (iI sp).toNatClampNeg = sn := by rw [iI_cl r1]; omega
  have e2 : (iI dp).toNatClampNeg = dn := by rw [iI_cl r2]; omega
  have e3 : (iI n).toNatClampNeg = nn := by rw [iI_cl r3]; omega
  refine va_copyi (D := D) hC.1.1 hC.1.2.1 (hC.1.2.2.1.trans hl.1.symm) hC.1.2.2.2.1 (hC.1.2.2.2.2 _ hlk) (hC.1.2.2.2.2 _ hnat) (hC.1.2.2.2.2 _ hst) (hC.1.2.2.2.2 _ hini) hC.2.1 hP hD hS q0 q1 0 0 hq0 hq1 ht0 ht1 rfl
    (fun h => by have := (iI_lt r1 inR_0).mp h; omega) (fun h => by have := (iI_lt r2 inR_0).mp h; omega) (fun h => by have := (iI_lt r3 inR_0).mp h; omega) (by rw [e1, e3]; exact h4) (by rw [e2, e3]; exact h5) (fun i _ => rfl) hR hlo hdg (fun H1 l1 hP1 hD1 hS1 => ?_)
  rw [e1, e2, e3, cpyZ_iI] at hP1 hD1
  rw [hws] at hP1 hD1
  exact kk H1 l1 ls hP1 hD1 hS1 hl
/-! the three tables -/
theorem z_getT {nm : String} {f : Nat → Int} {index : Nat} (hC : zC p s m args meth c A nL D J cc own Ts) (hT : zT nm f A s s.heap) (hlk : Cond.fieldLink own index "StepPairs" nm "[I" ∈ Ts) (hdg : decode cc pc = .ok (.getstatic index, 3))
    (kk : ∀ t : Nat, va_T .int t 5 (fun j => .int (iI (f j))) A s s.heap → Z p l e R s m args below meth c A nL D cells slots Q ws lv (pc + 3) (.ref t :: st)) : Z p l e R s m args below meth c A nL D cells slots Q ws lv pc st := by
  intro H locs ls hP hD hS hl
  obtain ⟨t, h1, h2⟩ := hT
  exact va_gets hC.1.1 hC.1.2.1 h1 hS hC.1.2.2.2.1 (hC.1.2.2.2.2 _ hlk) (fun _ h => h) hdg (kk t h2 H locs ls hP hD hS hl)
theorem z_getTN {nm : String} {f : Nat → Int} {index : Nat} (hC : zC p s m args meth c A nL D J cc own Ts) (hT : zT nm f A s s.heap) (hlk : va_Nw (.fieldLinkNest own index "StepPairs" nm "[I" "StepPairs") s) (hdg : decode cc pc = .ok (.getstatic index, 3))
    (kk : ∀ t : Nat, va_T .int t 5 (fun j => .int (iI (f j))) A s s.heap → Z p l e R s m args below meth c A nL D cells slots Q ws lv (pc + 3) (.ref t :: st)) : Z p l e R s m args below meth c A nL D cells slots Q ws lv pc st := by
  intro H locs ls hP hD hS hl
  obtain ⟨t, h1, h2⟩ := hT
  exact va_getsN hC.1.1 hC.1.2.1 h1 hS hC.1.2.2.2.1 (va_Nw.use rfl hlk) (fun _ h => h) hdg (kk t h2 H locs ls hP hD hS hl)
theorem z_ldT {f : Nat → Int} {t : Nat} {z : Int} (hC : zC p s m args meth c A nL D J cc own Ts) (hT : va_T .int t 5 (fun j => .int (iI (f j))) A s s.heap) (k : Nat) (hz : z = (k : Int)) (hk : k < 5) (hdg : decode cc pc = .ok (.iaload, 1))
    (kk : Z p l e R s m args below meth c A nL D cells slots Q ws lv (pc + 1) (.int (iI (f k)) :: st)) : Z p l e R s m args below meth c A nL D cells slots Q ws lv pc (.int (iI z) :: .ref t :: st) := by
  intro H locs ls hP hD hS hl
  exact va_ti hC.1.1 hC.1.2.1 hT hS (iI_in hz hk (by decide)).1 (v := .int (iI (f k))) (by rw [(iI_in hz hk (by decide)).2]) hdg (kk H locs ls hP hD hS hl)
/-! what an array holds beyond its length doesn't matter -/
theorem zA_congr {D : va_G} {cA : ClassId} {a n : Nat} {f g : Nat → Int} {H : Heap} (h : ∀ j, j < n → f j = g j) (hp : va_at D vwCl (cI cA a n f) H) : va_at D vwCl (cI cA a n g) H := by
  show H[a]? = some (vp_cell cA (n, .inl (fun j => iI (g j))))
  have e : vp_cell cA (n, .inl (fun j => iI (g j))) = vp_cell cA (n, .inl (fun j => iI (f j))) := by
    show arrV cA n (fun j => .int (iI (g j))) = arrV cA n (fun j => .int (iI (f j)))
    unfold arrV
    congr 2
    funext j
    show Value.int (iI (g j.val)) = Value.int (iI (f j.val))
    rw [h j.val j.isLt]
  rw [e]
  exact hp
theorem zQ_congr {D : va_G} {cA : ClassId} {a n : Nat} {f g : Nat → Option Nat} {H : Heap} (h : ∀ j, j < n → f j = g j) (hp : va_at D vwCl (cQ cA a n f) H) : va_at D vwCl (cQ cA a n g) H := by
  show H[a]? = some (vp_cell cA (n, .inr (.inr (.inr (.inr g)))))
  have e : vp_cell cA (n, .inr (.inr (.inr (.inr g)))) = vp_cell cA (n, .inr (.inr (.inr (.inr f)))) := by
    show arrV cA n (fun j => va_rf (g j)) = arrV cA n (fun j => va_rf (f j))
    unfold arrV
    congr 2
    funext j
    show va_rf (g j.val) = va_rf (f j.val)
    rw [h j.val j.isLt]
  rw [e]
  exact hp
theorem z_arrg {cA : ClassId} {a n : Nat} {f g : Nat → Int} (q0 : Nat) (hq : ws[q0]? = some (cI cA a n f)) (h : ∀ j, j < n → f j = g j) (hws : ws.set q0 (cI cA a n g) = ws') (kk : Z p l e R s m args below meth c A nL D cells slots Q ws' lv pc st) : Z p l e R s m args below meth c A nL D cells slots Q ws lv pc st := by
  intro H locs ls hP hD hS hl
  subst hws
  exact kk H locs ls (hP.set (A := A) hD hq (zA_congr h (hP q0 _ hq)) (fun _ _ => rfl)) (hD.set hq) hS hl
theorem z_arrq {cA : ClassId} {a n : Nat} {f g : Nat → Option Nat} (q0 : Nat) (hq : ws[q0]? = some (cQ cA a n f)) (h : ∀ j, j < n → f j = g j) (hws : ws.set q0 (cQ cA a n g) = ws') (kk : Z p l e R s m args below meth c A nL D cells slots Q ws' lv pc st) : Z p l e R s m args below meth c A nL D cells slots Q ws lv pc st := by
  intro H locs ls hP hD hS hl
  subst hws
  exact kk H locs ls (hP.set (A := A) hD hq (zQ_congr h (hP q0 _ hq)) (fun _ _ => rfl)) (hD.set hq) hS hl
theorem cpyZ_full {f g : Nat → Int} {n : Nat} : ∀ j, j < n → cpyZ f g 0 0 n j = f j := by
  intro j hj
  unfold cpyZ
  rw [if_pos ⟨Nat.zero_le _, by omega⟩]
  congr 1
  omega
/-! making -/
theorem z_new {C : String} {T : u_T} {N ci index : Nat} {ty : Nat → FieldType} {fs : List Value} (hC : zC p s m args meth c A nL D J cc own Ts) (hk0 : zCls ci C T N ty) (hin : ∀ w ∈ u_ws C T N, w ∈ Ts) (hcl : Cond.classLink own index C ∈ Ts) (hins : Cond.instantiable C N ∈ Ts) (hini : Cond.initialized C ∈ Ts)
    (hfs : ∀ j, j < N → defaultValue (ty j) = vp_V fs j) (hcells : cells + 1 ≤ R.cells) (hslots : slots + N ≤ R.slots) (hdg : decode cc pc = .ok (.new index, 3))
    (kk : ∀ q : Nat, Z p l e R s m args below meth c A nL D (cells + 1) (slots + N) Q (ws ++ [(q, .inr (ci, fs))]) lv (pc + 3) (.ref q :: st)) : Z p l e R s m args below meth c A nL D cells slots Q ws lv pc st :=
  fun H locs ls hP hD hS hl => va_new (D := D) hC.1.1 hC.1.2.1 hC.1.2.2.2.2 hin ty hk0.2.1 hC.1.2.2.2.1 (hC.1.2.2.2.2 _ hcl) (hC.1.2.2.2.2 _ hins) (hC.1.2.2.2.2 _ hini) hC.2.1 hP hD hS hC.2.2.1 hk0.1 hfs hcells hslots hdg (fun q H1 hP1 hD1 hS1 => kk q H1 locs ls hP1 hD1 hS1 hl)
theorem z_newarr {atype : ArrayType} {ty : FieldType} {N' t0 : Nat} {cA0 : ClassId} {z : Int} (hC : zC p s m args meth c A nL D J cc own Ts) (harr : Cond.arrayClass (newarray.typeOf atype) ∈ Ts) (hty : newarray.typeOf atype = ty) (hd : defaultValue ty = .int 0) (ht0 : (zJ J)[t0]? = some (cA0, ty)) (hra : ∀ cA : ClassId, va_RA s cA ty → s.vm.findClass ("[" ++ ty.toString) = some cA)
    (hz : z = (N' : Int)) (hN : N' < 65536) (hb : N' * componentBytes ty ≤ 536870912) (hcells : cells + 1 ≤ R.cells) (hslots : slots + N' ≤ R.slots) (hdg : decode cc pc = .ok (.newarray atype, 2))
    (kk : ∀ q : Nat, Z p l e R s m args below meth c A nL D (cells + 1) (slots + N') Q (ws ++ [cI cA0 q N' (fun _ => 0)]) lv (pc + 2) (.ref q :: st)) : Z p l e R s m args below meth c A nL D cells slots Q ws lv pc (.int (iI z) :: st) := by
  intro H locs ls hP hD hS hl
  have r : inR z := ⟨by omega, by omega⟩
  refine va_newa (D := D) (a0 := (N', .inl (fun _ => iI 0))) hC.1.1 hC.1.2.1 (hC.1.2.2.2.2 _ harr) hty hC.2.1 hP hD hS hC.2.2.1 (fun cA => by rw [hd]; rfl) (fun h => by have := (iI_lt r inR_0).mp h; omega) (by rw [iI_cl r]; omega) hb hcells hslots hdg (fun q cA H1 hK1 hP1 hD1 hS1 => ?_)
  have e1 := hra cA (hK1.2 4 (cA, ty) rfl).2
  have e2 := hra cA0 (hC.2.1.2 t0 _ ht0).2
  have e3 : cA = cA0 := Option.some.inj (e1.symm.trans e2)
  subst e3
  exact kk q H1 locs ls hP1 hD1 hS1 hl
theorem z_anew {index N' : Nat} {z : Int} (hC : zC p s m args meth c A nL D J cc own Ts) (hcl : Cond.classLink own index "StepPairs$Encoder" ∈ Ts) (hz : z = (N' : Int)) (hN : N' < 65536) (hcells : cells + 1 ≤ R.cells) (hslots : slots + N' ≤ R.slots) (hdg : decode cc pc = .ok (.anewarray index, 3))
    (kk : ∀ q : Nat, Z p l e R s m args below meth c A nL D (cells + 1) (slots + N') Q (ws ++ [cQ (J 3) q N' (fun _ => none)]) lv (pc + 3) (.ref q :: st)) : Z p l e R s m args below meth c A nL D cells slots Q ws lv pc (.int (iI z) :: st) := by
  intro H locs ls hP hD hS hl
  have r : inR z := ⟨by omega, by omega⟩
  refine va_newq (D := D) hC.1.1 hC.1.2.1 hC.1.2.2.2.1 (hC.1.2.2.2.2 _ hcl) hC.2.2.2.1.2.2.2.2.2.2 hC.2.1 hP hD hS hC.2.2.1 (fun h => by have := (iI_lt r inR_0).mp h; omega) (by rw [iI_cl r]; omega) (by omega) hcells hslots hdg (fun q cA H1 hK1 hP1 hD1 hS1 => ?_)
  obtain ⟨kA, comp, -, -, -, e1⟩ := (hK1.2 4 (cA, .object "StepPairs$Encoder") rfl).2
  obtain ⟨kA', comp', -, -, -, e2⟩ := (hC.2.1.2 3 (J 3, .object "StepPairs$Encoder") rfl).2
  have e3 : cA = J 3 := Option.some.inj (e1.symm.trans e2)
  subst e3
  exact kk q H1 locs ls hP1 hD1 hS1 hl
theorem z_aast {cA : ClassId} {a n v : Nat} {vs : List Value} {f : Nat → Option Nat} {z : Int} (hC : zC p s m args meth c A nL D J cc own Ts) (q0 : Nat) (hq : ws[q0]? = some (cQ cA a n f)) (ht0 : (zJ J)[3]? = some (cA, .object "StepPairs$Encoder")) (qk : Nat) (hv : ws[qk]? = some (v, .inr (0, vs))) (k : Nat) (hz : z = (k : Int)) (hkn : k < n) (hnb : n < 2147483648) (hdg : decode cc pc = .ok (.aastore, 1)) (hws : ws.set q0 (cQ cA a n (va_up f k (some v))) = ws')
    (kk : Z p l e R s m args below meth c A nL D cells slots Q ws' lv (pc + 1) st) : Z p l e R s m args below meth c A nL D cells slots Q ws lv pc (.ref v :: .int (iI z) :: .ref a :: st) := by
  intro H locs ls hP hD hS hl
  refine va_astq (D := D) (r := (RX1, TX1, 16)) hC.1.1 hC.1.2.1 hC.2.1 hP hD hS q0 3 qk 0 hq ht0 hv rfl (iI_in hz hkn hnb).1 hdg (fun H1 l1 hP1 hD1 hS1 => ?_)
  rw [(iI_in hz hkn hnb).2, hws] at hP1 hD1
  exact kk H1 l1 ls hP1 hD1 hS1 hl
theorem z_putF {ci a : Nat} {fs : List Value} {r : Nat} {C : String} {T : u_T} {N index : Nat} {ty : Nat → FieldType} (hC : zC p s m args meth c A nL D J cc own Ts) (hk0 : zCls ci C T N ty) (hin : ∀ w ∈ u_ws C T N, w ∈ Ts) (q0 : Nat) (hq : ws[q0]? = some (a, .inr (ci, fs))) (k : Nat) (hk : k < N) (hlink : Cond.fieldLink own index C (T k).2.1 (T k).2.2.1 ∈ Ts) (hown : (T k).1 = C) (hoC : C = own)
    (hfin : (T k).2.2.2 = true) (hin2 : meth.name = "<init>") {fty : FieldType} (hd : parseFieldDescriptor (T k).2.2.1 = some fty) (hnar : narrow fty (.ref r) = .ref r) (hfit : fits fty (.ref r) = true) (hl0 : k < fs.length) (hdg : decode cc pc = .ok (.putfield index, 3)) (hws : ws.set q0 (a, .inr (ci, fs.set k (.ref r))) = ws')
    (kk : Z p l e R s m args below meth c A nL D cells slots Q ws' lv (pc + 3) st) : Z p l e R s m args below meth c A nL D cells slots Q ws lv pc (.ref r :: .ref a :: st) :=
  fun H locs ls hP hD hS hl => va_putF (D := D) hC.1.1 hC.1.2.1 hC.1.2.2.2.2 hin ty hk0.2.1 hk0.2.2 hC.1.2.2.2.1 hC.2.1 hP hD hS q0 hq hk0.1 k hk (hC.1.2.2.2.2 _ hlink) (fun x hx => hown ▸ hx) hfin hin2 (hown.trans hoC) hd hnar hfit hl0 hdg (fun H1 l1 hP1 hD1 hS1 => kk H1 l1 ls (hws ▸ hP1) (hws ▸ hD1) hS1 hl)
theorem z_objInit {index a : Nat} (hC : zC p s m args meth c A nL D J cc own Ts) (hlk : Cond.methodLink own index objectInit ∈ Ts) (hins : Cond.instanceMethod objectInit ∈ Ts) (hcd : Cond.code objectInit ⟨#[0xb1]⟩ 1 none ∈ Ts) (hR : 1 ≤ R.frames) (hlo : 2 * (F0 m pc #[] (.ref a :: st)).monitorRoom + (st.map fun v => v.category).sum + 12 ≤ R.locals) (hdg : decode cc pc = .ok (.invokespecial index, 3))
    (kk : Z p l e R s m args below meth c A nL D cells slots Q ws lv (pc + 3) st) : Z p l e R s m args below meth c A nL D cells slots Q ws lv pc (.ref a :: st) :=
  fun H locs ls hP hD hS hl => W.objInit hC.1.1 hC.1.2.1 hC.1.2.2.2.1 (hC.1.2.2.2.2 _ hlk) (hC.1.2.2.2.2 _ hins) (hC.1.2.2.2.2 _ hcd) rfl (hl.1.trans hC.1.2.2.1.symm) rfl hdg hR hlo (kk H locs ls hP hD hS hl)
/-- from one of the three tables into an array of the world -/
theorem z_copyT {index a0 a n1 : Nat} {c1 : ClassId} {f g : Nat → Int} {dp n : Int} {sp : Int} (hC : zC p s m args meth c A nL D J cc own Ts) (hlk : Cond.methodLink own index arraycopyName ∈ Ts) (hnat : Cond.native arraycopyName ∈ Ts) (hst : Cond.static arraycopyName ∈ Ts) (hini : Cond.initialized "java/lang/System" ∈ Ts)
    (hT0 : va_T .int a0 5 (fun j => .int (iI (f j))) A s s.heap) (q1 : Nat) (hq1 : ws[q1]? = some (cI c1 a n1 g)) (ht1 : (zJ J)[0]? = some (c1, .int)) (h1 : sp = 0) (h2 : dp = 0) (h3 : n = 5) (h5 : 5 ≤ n1) (h7 : n1 < 2147483648)
    (hR : 1 ≤ R.frames) (hlo : (st.map fun v => v.category).sum + (nativeFrameWords "java/lang/System" "arraycopy" 5 + 11) ≤ R.locals) (hdg : decode cc pc = .ok (.invokestatic index, 3)) (hws : ws.set q1 (cI c1 a n1 (cpyZ f g 0 0 5)) = ws')
    (kk : Z p l e R s m args below meth c A nL D cells slots Q ws' lv (pc + 3) st) : Z p l e R s m args below meth c A nL D cells slots Q ws lv pc (.int (iI n) :: .int (iI dp) :: .ref a :: .int (iI sp) :: .ref a0 :: st) := by
  intro H locs ls hP hD hS hl T hT X
  subst h1 h2 h3
  obtain ⟨scr, t1, ⟨t2, k0, hk0, cm0, hkk0⟩, t3, t4, -, t6, t7⟩ := hT0
  have hc0 : H[a0]? = some scr := by rw [hS.2.1 a0 (Array.getElem?_eq_some_iff.mp t1).1 t7]; exact t1
  have hc1 : H[a]? = some (vp_cell c1 (n1, .inl (fun j => iI (g j)))) := hP q1 _ hq1
  obtain ⟨-, k1, hk1, cm1, hkk1⟩ := (hC.2.1.2 0 _ ht1).1 n1 (fun j => .int (iI (g j)))
  have b0 : (iI 0).toInt = 0 := by decide
  have b5 : (iI 5).toInt = 5 := by decide
  have n0 : (iI 0).toNatClampNeg = 0 := by decide
  have n5 : (iI 5).toNatClampNeg = 5 := by decide
  obtain ⟨vm', X', step⟩ := X.arraycopy hC.1.1 hC.1.2.2.2.1 (hC.1.2.2.2.2 _ hlk) (hC.1.2.2.2.2 _ hnat) (hC.1.2.2.2.2 _ hst) (hC.1.2.2.2.2 _ hini) (src := a0) (dst := a) (cs := scr) (cd := vp_cell c1 (n1, .inl (fun j => iI (g j)))) (srcPos := iI 0) (destPos := iI 0) (n := iI 5) (by rw [hT]; exact hc0) (by rw [hT]; exact hc1)
    t2 (fun _ h => by cases h) t3 (fun h => by cases h) hk0 hk1 hkk0 hkk1 (by simp [refKind]) (by decide) (by decide) (by decide)
    (by rw [b0, b5]; omega)
    (by rw [b0, b5]; show ¬ _ > ((arrV c1 n1 (fun j => .int (iI (g j)))).slots.size : Int); rw [arrV_size]; omega)
    (fun vm₁ _ i hi => by
      rw [n5] at hi
      have q : scr.slots.getD ((iI 0).toNatClampNeg + i) .null = .int (iI (f ((iI 0).toNatClampNeg + i))) := by
        rw [Array.getD_eq_getD_getElem?, t6 _ (by omega)]
        rfl
      refine ⟨?_, ?_⟩
      · rw [q]; rfl
      · rw [q]; exact trivial)
    (g := F0 m pc ls (.int (iI 5) :: .int (iI 0) :: .ref a :: .int (iI 0) :: .ref a0 :: st)) rfl (by rw [hl.1, hC.1.2.2.1]) (rest := st) rfl (by rw [hC.1.2.1]; exact hdg) hR (by show 2 * 0 + _ + _ ≤ _; omega)
  have e1 : copied scr (vp_cell c1 (n1, .inl (fun j => iI (g j)))) (iI 0) (iI 0) (iI 5) = vp_cell c1 (n1, .inl (fun j => iI (cpyZ f g 0 0 5 j))) := by
    rw [← cpyZ_iI]
    have q := va_copiedX (sp := 0) (dp := 0) (n := 5) (n0 := 5) (n1 := n1) (fun z => Value.int z) scr c1 (fun j => iI (f j)) (fun j => iI (g j)) (fun j hj => t6 j hj) (by omega)
    show (arrV c1 n1 (fun j => .int (iI (g j)))).storeRun (iI 0).toNatClampNeg (scr.stretch (iI 0).toNatClampNeg (iI 5).toNatClampNeg) = _
    rw [n0, n5]
    exact q
  rw [e1] at X' step
  have hla : a < H.size := (Array.getElem?_eq_some_iff.mp hc1).1
  have hheap : ((T.setVm vm').setCell a (vp_cell c1 (n1, .inl (fun j => iI (cpyZ f g 0 0 5 j))))).heap = H.setIfInBounds a (vp_cell c1 (n1, .inl (fun j => iI (cpyZ f g 0 0 5 j)))) := by rw [← hT]; rfl
  have oq : ∀ q : Nat, q ≠ a → (H.setIfInBounds a (vp_cell c1 (n1, .inl (fun j => iI (cpyZ f g 0 0 5 j)))))[q]? = H[q]? := fun q hq => by simp [Array.getElem?_setIfInBounds, Ne.symm hq]
  subst hws
  obtain ⟨t, a1, c3⟩ := kk _ _ ls (hP.set (A := A) hD hq1 (show (H.setIfInBounds a _)[a]? = some _ by simp [Array.getElem?_setIfInBounds, hla]) oq) (hD.set hq1) ⟨by simp; exact hS.1, fun q g1 g2 => by
      rw [oq q (fun e => g2 (by rw [e]; exact hD.2 q1 _ hq1))]
      exact hS.2.1 q g1 g2, fun q hq => by
      rcases List.mem_append.mp hq with h | h
      · exact hS.2.2 q h
      · obtain ⟨z, -, hz⟩ := List.mem_map.mp h
        rw [← hz]
        exact hD.2 q1 _ hq1⟩ hl _ hheap X'
  exact ⟨t, step t a1, c3⟩
end ZR2
end
