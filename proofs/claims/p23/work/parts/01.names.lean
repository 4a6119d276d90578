/-! ===== BEGIN words of one list among another's, by their places ===== -/
theorem goodIn_r {big : List Cond} (ws : List Cond) (ps : List Nat) (hp : ws = ps.filterMap (fun i => big[i]?)) (h : ws.all goodWord = true) : GoodIn big ws := by
  intro w hw
  have h1 := List.all_eq_true.mp h w hw
  rw [hp] at hw
  obtain ⟨i, -, hi⟩ := List.mem_filterMap.mp hw
  have hm : w ∈ big := by first | exact List.mem_of_getElem? hi | exact List.getElem?_mem hi
  exact ⟨hm, good_of_word h1⟩
theorem goodIn_app {big a b : List Cond} (ha : GoodIn big a) (hb : GoodIn big b) : GoodIn big (a ++ b) := fun w h => (List.mem_append.mp h).elim (ha w) (hb w)
theorem goodIn_ca {big a b : List Cond} {c : Cond} (ha : GoodIn big (c :: a)) (hb : GoodIn big b) : GoodIn big (c :: (a ++ b)) := fun w h => (List.mem_cons.mp h).elim (fun e => ha w (List.mem_cons.mpr (Or.inl e))) (fun h => (List.mem_append.mp h).elim (fun h => ha w (List.mem_cons.mpr (Or.inr h))) (hb w))
theorem goodIn_sub {big ws : List Cond} (hm : ∀ w ∈ ws, w ∈ big) (h : ws.all goodWord = true) : GoodIn big ws := fun w hw => ⟨hm w hw, good_of_word (List.all_eq_true.mp h w hw)⟩
/-! ===== END ===== -/

/-! ===== BEGIN printed: names, fields, word lists, decode rows ===== -/
def RX0 : String := "StepPairs$Bits"
def TX0 : u_T := fun k => match k with
  | _ => ("", "", "", false)
def tyX0 : Nat → FieldType := fun k => match k with
  | _ => .int
abbrev wsX00 : List Cond := u_ws RX0 TX0 0
theorem nmX0 : ∀ a, a < 0 → ∀ b, b < 0 → a ≠ b → (TX0 a).2.1 ≠ (TX0 b).2.1 := by decide +kernel
theorem tyX0_ok : ∀ k, k < 0 → parseFieldDescriptor (TX0 k).2.2.1 = some (tyX0 k) := by decide +kernel
abbrev cX0_ofDouble : ByteArray := prog_2_method_2_code
def yX0_ofDouble : MethodName := ⟨RX0, "ofDouble", "(D)J"⟩
abbrev cX0_ofFloat : ByteArray := prog_2_method_3_code
def yX0_ofFloat : MethodName := ⟨RX0, "ofFloat", "(F)I"⟩
def RX1 : String := "StepPairs$Encoder"
def TX1 : u_T := fun k => match k with
  | 0 => ("StepPairs$Encoder", "settings", "[I", true)
  | 1 => ("StepPairs$Encoder", "log", "[I", true)
  | 2 => ("StepPairs$Encoder", "ticks", "I", false)
  | 3 => ("StepPairs$Encoder", "count", "I", false)
  | 4 => ("StepPairs$Encoder", "place", "I", false)
  | 5 => ("StepPairs$Encoder", "seen", "I", false)
  | 6 => ("StepPairs$Encoder", "latestPair", "I", false)
  | 7 => ("StepPairs$Encoder", "latestIndex", "I", false)
  | 8 => ("StepPairs$Encoder", "run", "I", false)
  | 9 => ("StepPairs$Encoder", "direction", "I", false)
  | 10 => ("StepPairs$Encoder", "forwards", "I", false)
  | 11 => ("StepPairs$Encoder", "backwards", "I", false)
  | 12 => ("StepPairs$Encoder", "illegal", "I", false)
  | 13 => ("StepPairs$Encoder", "slips", "I", false)
  | 14 => ("StepPairs$Encoder", "tickOfLatestStep", "I", false)
  | _ => ("StepPairs$Encoder", "period", "I", false)
def tyX1 : Nat → FieldType := fun k => match k with
  | 0 => .array .int
  | 1 => .array .int
  | 2 => .int
  | 3 => .int
  | 4 => .int
  | 5 => .int
  | 6 => .int
  | 7 => .int
  | 8 => .int
  | 9 => .int
  | 10 => .int
  | 11 => .int
  | 12 => .int
  | 13 => .int
  | 14 => .int
  | _ => .int
abbrev wsX10 : List Cond := u_ws RX1 TX1 16
theorem nmX1 : ∀ a, a < 16 → ∀ b, b < 16 → a ≠ b → (TX1 a).2.1 ≠ (TX1 b).2.1 := by decide +kernel
theorem tyX1_ok : ∀ k, k < 16 → parseFieldDescriptor (TX1 k).2.2.1 = some (tyX1 k) := by decide +kernel
abbrev cX1_init : ByteArray := prog_3_method_1_code
def yX1_init : MethodName := ⟨RX1, "<init>", "()V"⟩
abbrev cX1_copy : ByteArray := prog_3_method_2_code
def yX1_copy : MethodName := ⟨RX1, "copy", "(LStepPairs$Encoder;LStepPairs$Encoder;)V"⟩
abbrev cX1_restart : ByteArray := prog_3_method_3_code
def yX1_restart : MethodName := ⟨RX1, "restart", "()V"⟩
abbrev cX1_follow : ByteArray := prog_3_method_4_code
def yX1_follow : MethodName := ⟨RX1, "follow", "(LStepPairs$Encoder;I)V"⟩
abbrev cX1_setting : ByteArray := prog_3_method_5_code
def yX1_setting : MethodName := ⟨RX1, "setting", "(I)I"⟩
abbrev cX1_adjust : ByteArray := prog_3_method_6_code
def yX1_adjust : MethodName := ⟨RX1, "adjust", "(II)I"⟩
abbrev cX1_pass : ByteArray := prog_3_method_7_code
def yX1_pass : MethodName := ⟨RX1, "pass", "(III)I"⟩
abbrev cX1_revolve : ByteArray := prog_3_method_8_code
def yX1_revolve : MethodName := ⟨RX1, "revolve", "(I)I"⟩
abbrev cX1_clear : ByteArray := prog_3_method_9_code
def yX1_clear : MethodName := ⟨RX1, "clear", "()I"⟩
abbrev cX1_tick : ByteArray := prog_3_method_10_code
def yX1_tick : MethodName := ⟨RX1, "tick", "(II)I"⟩
abbrev cX1_deedBy : ByteArray := prog_3_method_11_code
def yX1_deedBy : MethodName := ⟨RX1, "deedBy", "(I)I"⟩
abbrev cX1_runWith : ByteArray := prog_3_method_12_code
def yX1_runWith : MethodName := ⟨RX1, "runWith", "(I)I"⟩
abbrev cX1_step : ByteArray := prog_3_method_13_code
def yX1_step : MethodName := ⟨RX1, "step", "(I)V"⟩
abbrev cX1_meetIndex : ByteArray := prog_3_method_14_code
def yX1_meetIndex : MethodName := ⟨RX1, "meetIndex", "()V"⟩
abbrev cX1_stepsOfGate : ByteArray := prog_3_method_15_code
def yX1_stepsOfGate : MethodName := ⟨RX1, "stepsOfGate", "()I"⟩
abbrev cX1_logged : ByteArray := prog_3_method_16_code
def yX1_logged : MethodName := ⟨RX1, "logged", "()I"⟩
abbrev cX1_hasTick : ByteArray := prog_3_method_17_code
def yX1_hasTick : MethodName := ⟨RX1, "hasTick", "(I)Z"⟩
abbrev cX1_entry : ByteArray := prog_3_method_18_code
def yX1_entry : MethodName := ⟨RX1, "entry", "(I)I"⟩
abbrev cX1_pairAt : ByteArray := prog_3_method_19_code
def yX1_pairAt : MethodName := ⟨RX1, "pairAt", "(I)I"⟩
abbrev cX1_indexAt : ByteArray := prog_3_method_20_code
def yX1_indexAt : MethodName := ⟨RX1, "indexAt", "(I)I"⟩
abbrev cX1_deedAt : ByteArray := prog_3_method_21_code
def yX1_deedAt : MethodName := ⟨RX1, "deedAt", "(I)I"⟩
abbrev cX1_orderOf : ByteArray := prog_3_method_22_code
def yX1_orderOf : MethodName := ⟨RX1, "orderOf", "(I)I"⟩
abbrev cX1_pairAlong : ByteArray := prog_3_method_23_code
def yX1_pairAlong : MethodName := ⟨RX1, "pairAlong", "(I)I"⟩
abbrev cX1_leftOver : ByteArray := prog_3_method_24_code
def yX1_leftOver : MethodName := ⟨RX1, "leftOver", "(II)I"⟩
def RX2 : String := "StepPairs$History"
def TX2 : u_T := fun k => match k with
  | 0 => ("StepPairs$History", "rows", "[LStepPairs$Encoder;", true)
  | 1 => ("StepPairs$History", "next", "I", false)
  | _ => ("StepPairs$History", "size", "I", false)
def tyX2 : Nat → FieldType := fun k => match k with
  | 0 => .array (.object "StepPairs$Encoder")
  | 1 => .int
  | _ => .int
abbrev wsX20 : List Cond := u_ws RX2 TX2 3
theorem nmX2 : ∀ a, a < 3 → ∀ b, b < 3 → a ≠ b → (TX2 a).2.1 ≠ (TX2 b).2.1 := by decide +kernel
theorem tyX2_ok : ∀ k, k < 3 → parseFieldDescriptor (TX2 k).2.2.1 = some (tyX2 k) := by decide +kernel
abbrev cX2_init : ByteArray := prog_4_method_1_code
def yX2_init : MethodName := ⟨RX2, "<init>", "()V"⟩
abbrev cX2_nextRow : ByteArray := prog_4_method_2_code
def yX2_nextRow : MethodName := ⟨RX2, "nextRow", "()LStepPairs$Encoder;"⟩
abbrev cX2_prepare : ByteArray := prog_4_method_3_code
def yX2_prepare : MethodName := ⟨RX2, "prepare", "(LStepPairs$Encoder;)V"⟩
abbrev cX2_keepUnlessError : ByteArray := prog_4_method_4_code
def yX2_keepUnlessError : MethodName := ⟨RX2, "keepUnlessError", "(I)I"⟩
abbrev cX2_takeBack : ByteArray := prog_4_method_5_code
def yX2_takeBack : MethodName := ⟨RX2, "takeBack", "(LStepPairs$Encoder;)I"⟩
def RX3 : String := "StepPairs$Pad"
def TX3 : u_T := fun k => match k with
  | 0 => ("StepPairs$Pad", "characters", "[C", true)
  | 1 => ("StepPairs$Pad", "length", "I", false)
  | 2 => ("StepPairs$Pad", "position", "I", false)
  | 3 => ("StepPairs$Pad", "pair", "I", false)
  | 4 => ("StepPairs$Pad", "index", "I", false)
  | _ => ("StepPairs$Pad", "number", "I", false)
def tyX3 : Nat → FieldType := fun k => match k with
  | 0 => .array .char
  | 1 => .int
  | 2 => .int
  | 3 => .int
  | 4 => .int
  | _ => .int
abbrev wsX30 : List Cond := u_ws RX3 TX3 6
theorem nmX3 : ∀ a, a < 6 → ∀ b, b < 6 → a ≠ b → (TX3 a).2.1 ≠ (TX3 b).2.1 := by decide +kernel
theorem tyX3_ok : ∀ k, k < 6 → parseFieldDescriptor (TX3 k).2.2.1 = some (tyX3 k) := by decide +kernel
abbrev cX3_init : ByteArray := prog_5_method_1_code
def yX3_init : MethodName := ⟨RX3, "<init>", "()V"⟩
def RX4 : String := "StepPairs$Slots"
def TX4 : u_T := fun k => match k with
  | 0 => ("StepPairs$Slots", "rows", "[LStepPairs$Encoder;", true)
  | _ => ("StepPairs$Slots", "used", "[Z", true)
def tyX4 : Nat → FieldType := fun k => match k with
  | 0 => .array (.object "StepPairs$Encoder")
  | _ => .array .boolean
abbrev wsX40 : List Cond := u_ws RX4 TX4 2
theorem nmX4 : ∀ a, a < 2 → ∀ b, b < 2 → a ≠ b → (TX4 a).2.1 ≠ (TX4 b).2.1 := by decide +kernel
theorem tyX4_ok : ∀ k, k < 2 → parseFieldDescriptor (TX4 k).2.2.1 = some (tyX4 k) := by decide +kernel
abbrev cX4_init : ByteArray := prog_6_method_1_code
def yX4_init : MethodName := ⟨RX4, "<init>", "()V"⟩
def RX5 : String := "StepPairs"
def TX5 : u_T := fun k => match k with
  | 0 => ("StepPairs", "encoder", "LStepPairs$Encoder;", true)
  | 1 => ("StepPairs", "trial", "LStepPairs$Encoder;", true)
  | 2 => ("StepPairs", "history", "LStepPairs$History;", true)
  | 3 => ("StepPairs", "slots", "LStepPairs$Slots;", true)
  | _ => ("StepPairs", "pad", "LStepPairs$Pad;", true)
def tyX5 : Nat → FieldType := fun k => match k with
  | 0 => .object "StepPairs$Encoder"
  | 1 => .object "StepPairs$Encoder"
  | 2 => .object "StepPairs$History"
  | 3 => .object "StepPairs$Slots"
  | _ => .object "StepPairs$Pad"
abbrev wsX50 : List Cond := u_ws RX5 TX5 5
theorem nmX5 : ∀ a, a < 5 → ∀ b, b < 5 → a ≠ b → (TX5 a).2.1 ≠ (TX5 b).2.1 := by decide +kernel
theorem tyX5_ok : ∀ k, k < 5 → parseFieldDescriptor (TX5 k).2.2.1 = some (tyX5 k) := by decide +kernel
abbrev cX5_init : ByteArray := prog_1_method_1_code
def yX5_init : MethodName := ⟨RX5, "<init>", "()V"⟩
abbrev cX5_set : ByteArray := prog_1_method_2_code
def yX5_set : MethodName := ⟨RX5, "set", "(II)I"⟩
abbrev cX5_feed : ByteArray := prog_1_method_3_code
def yX5_feed : MethodName := ⟨RX5, "feed", "(III)I"⟩
abbrev cX5_turn : ByteArray := prog_1_method_4_code
def yX5_turn : MethodName := ⟨RX5, "turn", "(I)I"⟩
abbrev cX5_zero : ByteArray := prog_1_method_5_code
def yX5_zero : MethodName := ⟨RX5, "zero", "()I"⟩
abbrev cX5_log : ByteArray := prog_1_method_6_code
def yX5_log : MethodName := ⟨RX5, "log", "(II)I"⟩
abbrev cX5_count : ByteArray := prog_1_method_7_code
def yX5_count : MethodName := ⟨RX5, "count", "(I)I"⟩
abbrev cX5_speed : ByteArray := prog_1_method_8_code
def yX5_speed : MethodName := ⟨RX5, "speed", "(I)I"⟩
abbrev cX5_rate : ByteArray := prog_1_method_9_code
def yX5_rate : MethodName := ⟨RX5, "rate", "()J"⟩
abbrev cX5_noise : ByteArray := prog_1_method_10_code
def yX5_noise : MethodName := ⟨RX5, "noise", "()I"⟩
abbrev cX5_replay : ByteArray := prog_1_method_11_code
def yX5_replay : MethodName := ⟨RX5, "replay", "(II)I"⟩
abbrev cX5_bestFilter : ByteArray := prog_1_method_12_code
def yX5_bestFilter : MethodName := ⟨RX5, "bestFilter", "(I)I"⟩
abbrev cX5_would : ByteArray := prog_1_method_13_code
def yX5_would : MethodName := ⟨RX5, "would", "(I)I"⟩
abbrev cX5_deeds : ByteArray := prog_1_method_14_code
def yX5_deeds : MethodName := ⟨RX5, "deeds", "(I)I"⟩
abbrev cX5_undo : ByteArray := prog_1_method_21_code
def yX5_undo : MethodName := ⟨RX5, "undo", "()I"⟩
def RX6 : String := "StepPairsModel"
def TX6 : u_T := fun k => match k with
  | _ => ("", "", "", false)
def tyX6 : Nat → FieldType := fun k => match k with
  | _ => .int
abbrev wsX60 : List Cond := u_ws RX6 TX6 0
theorem nmX6 : ∀ a, a < 0 → ∀ b, b < 0 → a ≠ b → (TX6 a).2.1 ≠ (TX6 b).2.1 := by decide +kernel
theorem tyX6_ok : ∀ k, k < 0 → parseFieldDescriptor (TX6 k).2.2.1 = some (tyX6 k) := by decide +kernel
def RJ9 : String := "java/lang/Math"
def TJ9 : u_T := fun k => match k with
  | _ => ("", "", "", false)
def tyJ9 : Nat → FieldType := fun k => match k with
  | _ => .int
abbrev wsJ90 : List Cond := u_ws RJ9 TJ9 0
theorem nmJ9 : ∀ a, a < 0 → ∀ b, b < 0 → a ≠ b → (TJ9 a).2.1 ≠ (TJ9 b).2.1 := by decide +kernel
theorem tyJ9_ok : ∀ k, k < 0 → parseFieldDescriptor (TJ9 k).2.2.1 = some (tyJ9 k) := by decide +kernel
abbrev cJ9_abs_0f7a4 : ByteArray := prog_9_method_59_code
def yJ9_abs_0f7a4 : MethodName := ⟨RJ9, "abs", "(I)I"⟩
abbrev cJ9_min_7cf53 : ByteArray := prog_9_method_69_code
def yJ9_min_7cf53 : MethodName := ⟨RJ9, "min", "(II)I"⟩
def RJ10 : String := "java/lang/System"
def TJ10 : u_T := fun k => match k with
  | _ => ("", "", "", false)
def tyJ10 : Nat → FieldType := fun k => match k with
  | _ => .int
abbrev wsJ100 : List Cond := u_ws RJ10 TJ10 0
theorem nmJ10 : ∀ a, a < 0 → ∀ b, b < 0 → a ≠ b → (TJ10 a).2.1 ≠ (TJ10 b).2.1 := by decide +kernel
theorem tyJ10_ok : ∀ k, k < 0 → parseFieldDescriptor (TJ10 k).2.2.1 = some (tyJ10 k) := by decide +kernel
def RL : String := "StepPairsLaw"
abbrev cL_cell : ByteArray := method_2_code
def yL_cell : MethodName := ⟨RL, "cell", "([II)I"⟩
abbrev cL_up : ByteArray := method_3_code
def yL_up : MethodName := ⟨RL, "up", "(II)I"⟩
abbrev cL_there : ByteArray := method_4_code
def yL_there : MethodName := ⟨RL, "there", "(I)I"⟩
abbrev cL_way : ByteArray := method_5_code
def yL_way : MethodName := ⟨RL, "way", "(I)I"⟩
abbrev cL_isStep : ByteArray := method_6_code
def yL_isStep : MethodName := ⟨RL, "isStep", "(LStepPairs;LStepPairs;I)Z"⟩
abbrev cL_against : ByteArray := method_7_code
def yL_against : MethodName := ⟨RL, "against", "(II)I"⟩
abbrev cL_areAlike : ByteArray := method_8_code
def yL_areAlike : MethodName := ⟨RL, "areAlike", "(LStepPairs;LStepPairs;I)Z"⟩
abbrev cL_isWell : ByteArray := method_9_code
def yL_isWell : MethodName := ⟨RL, "isWell", "(LStepPairs;)Z"⟩
abbrev cL_law : ByteArray := code
def yL_law : MethodName := ⟨RL, "law", "([I)Z"⟩
abbrev vwCl : List vw_C := [(RX1, TX1, 16), (RX2, TX2, 3), (RX3, TX3, 6), (RX4, TX4, 2), (RX5, TX5, 5)]
