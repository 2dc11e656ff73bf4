/-! ===== BEGIN words of one list among another's, by their places ===== -/
theorem goodIn_r {big : List Cond} (ws : List Cond) (ps : List Nat) (hp : ws = ps.filterMap (fun i => big[i]?)) (h : ws.all goodWord = true) : GoodIn big ws := by
  intro w hw
  have h1 := List.all_eq_true.mp h w hw
  rw [hp] at hw
  obtain ⟨i, -, hi⟩ := List.mem_filterMap.mp hw
  have hm : w ∈ big := by first | exact List.mem_of_getElem? hi | exact List.getElem?_mem hi
  exact ⟨hm, good_of_word h1⟩
theorem goodIn_app {big a b : List Cond} (ha : GoodIn big a) (hb : GoodIn big b) : GoodIn big (a ++ b) := fun w h => (List.mem_append.mp h).elim (ha w) (hb w)
theorem goodIn_ca {big a b : List Cond} {c : Cond} (ha : GoodIn big (c :: a)) (hb : GoodIn big b) : GoodIn big (c :: (a ++ b)) := fun w h => (List.mem_cons.mp h).elim (fun e => ha w (List.mem_cons.mpr (Or.inl e))) (fun h => (List.mem_append.mp h).elim (fun h => ha w (List.mem_cons.mpr (Or.inr h))) (hb w))
theorem goodIn_sub {big ws : List Cond} (hm : ∀ w ∈ ws, w ∈ big) (h : ws.all goodWord = true) : GoodIn big ws := fun w hw => ⟨hm w hw, good_of_word (List.all_eq_true.mp h w hw)⟩
/-! ===== END ===== -/

/-! ===== BEGIN printed: names, fields, word lists, decode rows ===== -/
def RX0 : String := "DeadTimeLoop$Changes"
def TX0 : u_T := fun k => match k with
  | 0 => ("DeadTimeLoop$Changes", "rows", "[[I", true)
  | _ => ("DeadTimeLoop$Changes", "count", "I", false)
def tyX0 : Nat → FieldType := fun k => match k with
  | 0 => .array (.array .int)
  | _ => .int
abbrev wsX00 : List Cond := u_ws RX0 TX0 2
theorem nmX0 : ∀ a, a < 2 → ∀ b, b < 2 → a ≠ b → (TX0 a).2.1 ≠ (TX0 b).2.1 := by decide +kernel
theorem tyX0_ok : ∀ k, k < 2 → parseFieldDescriptor (TX0 k).2.2.1 = some (tyX0 k) := by decide +kernel
abbrev cX0_init : ByteArray := prog_2_method_1_code
def yX0_init : MethodName := ⟨RX0, "<init>", "()V"⟩
abbrev cX0_keep : ByteArray := prog_2_method_2_code
def yX0_keep : MethodName := ⟨RX0, "keep", "(LDeadTimeLoop$Settings;)V"⟩
abbrev cX0_takeBack : ByteArray := prog_2_method_3_code
def yX0_takeBack : MethodName := ⟨RX0, "takeBack", "(LDeadTimeLoop$Settings;)V"⟩
abbrev cX0_forgetOldest : ByteArray := prog_2_method_4_code
def yX0_forgetOldest : MethodName := ⟨RX0, "forgetOldest", "()V"⟩
def RX1 : String := "DeadTimeLoop$Loop"
def TX1 : u_T := fun k => match k with
  | 0 => ("DeadTimeLoop$Loop", "now", "I", false)
  | 1 => ("DeadTimeLoop$Loop", "load", "I", false)
  | 2 => ("DeadTimeLoop$Loop", "seed", "I", false)
  | 3 => ("DeadTimeLoop$Loop", "badTicks", "I", false)
  | 4 => ("DeadTimeLoop$Loop", "goodTicks", "I", false)
  | 5 => ("DeadTimeLoop$Loop", "present", "[I", true)
  | 6 => ("DeadTimeLoop$Loop", "records", "[I", true)
  | 7 => ("DeadTimeLoop$Loop", "section", "LDeadTimeLoop$Section;", true)
  | _ => ("DeadTimeLoop$Loop", "watches", "LDeadTimeLoop$Watches;", true)
def tyX1 : Nat → FieldType := fun k => match k with
  | 0 => .int
  | 1 => .int
  | 2 => .int
  | 3 => .int
  | 4 => .int
  | 5 => .array .int
  | 6 => .array .int
  | 7 => .object "DeadTimeLoop$Section"
  | _ => .object "DeadTimeLoop$Watches"
abbrev wsX10 : List Cond := u_ws RX1 TX1 9
theorem nmX1 : ∀ a, a < 9 → ∀ b, b < 9 → a ≠ b → (TX1 a).2.1 ≠ (TX1 b).2.1 := by decide +kernel
theorem tyX1_ok : ∀ k, k < 9 → parseFieldDescriptor (TX1 k).2.2.1 = some (tyX1 k) := by decide +kernel
abbrev cX1_init : ByteArray := prog_3_method_1_code
def yX1_init : MethodName := ⟨RX1, "<init>", "()V"⟩
abbrev cX1_begin : ByteArray := prog_3_method_2_code
def yX1_begin : MethodName := ⟨RX1, "begin", "()V"⟩
abbrev cX1_copy : ByteArray := prog_3_method_3_code
def yX1_copy : MethodName := ⟨RX1, "copy", "(LDeadTimeLoop$Loop;)V"⟩
abbrev cX1_changeSetpoint : ByteArray := prog_3_method_4_code
def yX1_changeSetpoint : MethodName := ⟨RX1, "changeSetpoint", "(I)I"⟩
abbrev cX1_recordOf : ByteArray := prog_3_method_5_code
def yX1_recordOf : MethodName := ⟨RX1, "recordOf", "(II)I"⟩
abbrev cX1_tick : ByteArray := prog_3_method_7_code
def yX1_tick : MethodName := ⟨RX1, "tick", "(LDeadTimeLoop$Settings;Z)V"⟩
abbrev cX1_noise : ByteArray := prog_3_method_8_code
def yX1_noise : MethodName := ⟨RX1, "noise", "(I)I"⟩
abbrev cX1_delayed : ByteArray := prog_3_method_9_code
def yX1_delayed : MethodName := ⟨RX1, "delayed", "(III)I"⟩
abbrev cX1_judge : ByteArray := prog_3_method_10_code
def yX1_judge : MethodName := ⟨RX1, "judge", "(ZI)V"⟩
abbrev cX1_control : ByteArray := prog_3_method_11_code
def yX1_control : MethodName := ⟨RX1, "control", "(LDeadTimeLoop$Settings;Z)V"⟩
abbrev cX1_outputFor : ByteArray := prog_3_method_12_code
def yX1_outputFor : MethodName := ⟨RX1, "outputFor", "(JLDeadTimeLoop$Settings;)J"⟩
abbrev cX1_keepRecords : ByteArray := prog_3_method_13_code
def yX1_keepRecords : MethodName := ⟨RX1, "keepRecords", "()V"⟩
abbrev cX1_moveOn : ByteArray := prog_3_method_14_code
def yX1_moveOn : MethodName := ⟨RX1, "moveOn", "(LDeadTimeLoop$Settings;)V"⟩
def RX2 : String := "DeadTimeLoop$Section"
def TX2 : u_T := fun k => match k with
  | 0 => ("DeadTimeLoop$Section", "errorSum", "J", false)
  | 1 => ("DeadTimeLoop$Section", "effort", "J", false)
  | 2 => ("DeadTimeLoop$Section", "overshoot", "I", false)
  | 3 => ("DeadTimeLoop$Section", "ticks", "I", false)
  | _ => ("DeadTimeLoop$Section", "upwards", "Z", false)
def tyX2 : Nat → FieldType := fun k => match k with
  | 0 => .long
  | 1 => .long
  | 2 => .int
  | 3 => .int
  | _ => .boolean
abbrev wsX20 : List Cond := u_ws RX2 TX2 5
theorem nmX2 : ∀ a, a < 5 → ∀ b, b < 5 → a ≠ b → (TX2 a).2.1 ≠ (TX2 b).2.1 := by decide +kernel
theorem tyX2_ok : ∀ k, k < 5 → parseFieldDescriptor (TX2 k).2.2.1 = some (tyX2 k) := by decide +kernel
abbrev cX2_init : ByteArray := prog_4_method_1_code
def yX2_init : MethodName := ⟨RX2, "<init>", "()V"⟩
abbrev cX2_begin : ByteArray := prog_4_method_2_code
def yX2_begin : MethodName := ⟨RX2, "begin", "(Z)V"⟩
abbrev cX2_copy : ByteArray := prog_4_method_3_code
def yX2_copy : MethodName := ⟨RX2, "copy", "(LDeadTimeLoop$Section;)V"⟩
abbrev cX2_see : ByteArray := prog_4_method_4_code
def yX2_see : MethodName := ⟨RX2, "see", "(III)V"⟩
def RX3 : String := "DeadTimeLoop$Settings"
def TX3 : u_T := fun k => match k with
  | _ => ("DeadTimeLoop$Settings", "values", "[I", true)
def tyX3 : Nat → FieldType := fun k => match k with
  | _ => .array .int
abbrev wsX30 : List Cond := u_ws RX3 TX3 1
theorem nmX3 : ∀ a, a < 1 → ∀ b, b < 1 → a ≠ b → (TX3 a).2.1 ≠ (TX3 b).2.1 := by decide +kernel
theorem tyX3_ok : ∀ k, k < 1 → parseFieldDescriptor (TX3 k).2.2.1 = some (tyX3 k) := by decide +kernel
abbrev cX3_init : ByteArray := prog_5_method_1_code
def yX3_init : MethodName := ⟨RX3, "<init>", "()V"⟩
abbrev cX3_get : ByteArray := prog_5_method_2_code
def yX3_get : MethodName := ⟨RX3, "get", "(I)I"⟩
abbrev cX3_set : ByteArray := prog_5_method_3_code
def yX3_set : MethodName := ⟨RX3, "set", "(II)V"⟩
abbrev cX3_copy : ByteArray := prog_5_method_4_code
def yX3_copy : MethodName := ⟨RX3, "copy", "(LDeadTimeLoop$Settings;)V"⟩
def RX4 : String := "DeadTimeLoop$Text"
def TX4 : u_T := fun k => match k with
  | 0 => ("DeadTimeLoop$Text", "characters", "[C", true)
  | 1 => ("DeadTimeLoop$Text", "targets", "[I", true)
  | 2 => ("DeadTimeLoop$Text", "wanted", "[I", true)
  | 3 => ("DeadTimeLoop$Text", "length", "I", false)
  | _ => ("DeadTimeLoop$Text", "count", "I", false)
def tyX4 : Nat → FieldType := fun k => match k with
  | 0 => .array .char
  | 1 => .array .int
  | 2 => .array .int
  | 3 => .int
  | _ => .int
abbrev wsX40 : List Cond := u_ws RX4 TX4 5
theorem nmX4 : ∀ a, a < 5 → ∀ b, b < 5 → a ≠ b → (TX4 a).2.1 ≠ (TX4 b).2.1 := by decide +kernel
theorem tyX4_ok : ∀ k, k < 5 → parseFieldDescriptor (TX4 k).2.2.1 = some (tyX4 k) := by decide +kernel
abbrev cX4_init : ByteArray := prog_6_method_1_code
def yX4_init : MethodName := ⟨RX4, "<init>", "()V"⟩
def RX5 : String := "DeadTimeLoop$Watches"
def TX5 : u_T := fun k => match k with
  | 0 => ("DeadTimeLoop$Watches", "signals", "[I", true)
  | 1 => ("DeadTimeLoop$Watches", "least", "[I", true)
  | 2 => ("DeadTimeLoop$Watches", "greatest", "[I", true)
  | 3 => ("DeadTimeLoop$Watches", "greatestTick", "[I", true)
  | _ => ("DeadTimeLoop$Watches", "count", "I", false)
def tyX5 : Nat → FieldType := fun k => match k with
  | 0 => .array .int
  | 1 => .array .int
  | 2 => .array .int
  | 3 => .array .int
  | _ => .int
abbrev wsX50 : List Cond := u_ws RX5 TX5 5
theorem nmX5 : ∀ a, a < 5 → ∀ b, b < 5 → a ≠ b → (TX5 a).2.1 ≠ (TX5 b).2.1 := by decide +kernel
theorem tyX5_ok : ∀ k, k < 5 → parseFieldDescriptor (TX5 k).2.2.1 = some (tyX5 k) := by decide +kernel
abbrev cX5_init : ByteArray := prog_7_method_1_code
def yX5_init : MethodName := ⟨RX5, "<init>", "()V"⟩
abbrev cX5_copy : ByteArray := prog_7_method_2_code
def yX5_copy : MethodName := ⟨RX5, "copy", "(LDeadTimeLoop$Watches;)V"⟩
abbrev cX5_hasSeen : ByteArray := prog_7_method_6_code
def yX5_hasSeen : MethodName := ⟨RX5, "hasSeen", "(I)Z"⟩
abbrev cX5_see : ByteArray := prog_7_method_8_code
def yX5_see : MethodName := ⟨RX5, "see", "([II)V"⟩
abbrev cX5_seeOne : ByteArray := prog_7_method_9_code
def yX5_seeOne : MethodName := ⟨RX5, "seeOne", "(III)V"⟩
def RX6 : String := "DeadTimeLoop"
def TX6 : u_T := fun k => match k with
  | 0 => ("DeadTimeLoop", "settings", "LDeadTimeLoop$Settings;", true)
  | 1 => ("DeadTimeLoop", "changes", "LDeadTimeLoop$Changes;", true)
  | 2 => ("DeadTimeLoop", "text", "LDeadTimeLoop$Text;", true)
  | 3 => ("DeadTimeLoop", "loop", "LDeadTimeLoop$Loop;", true)
  | 4 => ("DeadTimeLoop", "firstStored", "LDeadTimeLoop$Loop;", true)
  | 5 => ("DeadTimeLoop", "secondStored", "LDeadTimeLoop$Loop;", true)
  | 6 => ("DeadTimeLoop", "storedStates", "I", false)
  | 7 => ("DeadTimeLoop", "trialSettings", "LDeadTimeLoop$Settings;", true)
  | 8 => ("DeadTimeLoop", "idealSettings", "LDeadTimeLoop$Settings;", true)
  | 9 => ("DeadTimeLoop", "trial", "LDeadTimeLoop$Loop;", true)
  | _ => ("DeadTimeLoop", "ideal", "LDeadTimeLoop$Loop;", true)
def tyX6 : Nat → FieldType := fun k => match k with
  | 0 => .object "DeadTimeLoop$Settings"
  | 1 => .object "DeadTimeLoop$Changes"
  | 2 => .object "DeadTimeLoop$Text"
  | 3 => .object "DeadTimeLoop$Loop"
  | 4 => .object "DeadTimeLoop$Loop"
  | 5 => .object "DeadTimeLoop$Loop"
  | 6 => .int
  | 7 => .object "DeadTimeLoop$Settings"
  | 8 => .object "DeadTimeLoop$Settings"
  | 9 => .object "DeadTimeLoop$Loop"
  | _ => .object "DeadTimeLoop$Loop"
abbrev wsX60 : List Cond := u_ws RX6 TX6 11
theorem nmX6 : ∀ a, a < 11 → ∀ b, b < 11 → a ≠ b → (TX6 a).2.1 ≠ (TX6 b).2.1 := by decide +kernel
theorem tyX6_ok : ∀ k, k < 11 → parseFieldDescriptor (TX6 k).2.2.1 = some (tyX6 k) := by decide +kernel
abbrev cX6_init : ByteArray := prog_1_method_1_code
def yX6_init : MethodName := ⟨RX6, "<init>", "()V"⟩
abbrev cX6_setParameter : ByteArray := prog_1_method_2_code
def yX6_setParameter : MethodName := ⟨RX6, "setParameter", "(II)I"⟩
abbrev cX6_undo : ByteArray := prog_1_method_5_code
def yX6_undo : MethodName := ⟨RX6, "undo", "()I"⟩
abbrev cX6_setSetpoint : ByteArray := prog_1_method_6_code
def yX6_setSetpoint : MethodName := ⟨RX6, "setSetpoint", "(I)I"⟩
abbrev cX6_setLoad : ByteArray := prog_1_method_7_code
def yX6_setLoad : MethodName := ⟨RX6, "setLoad", "(I)I"⟩
abbrev cX6_run : ByteArray := prog_1_method_15_code
def yX6_run : MethodName := ⟨RX6, "run", "(I)I"⟩
abbrev cX6_value : ByteArray := prog_1_method_17_code
def yX6_value : MethodName := ⟨RX6, "value", "(I)I"⟩
abbrev cX6_recorded : ByteArray := prog_1_method_18_code
def yX6_recorded : MethodName := ⟨RX6, "recorded", "(II)I"⟩
abbrev cX6_measure : ByteArray := prog_1_method_24_code
def yX6_measure : MethodName := ⟨RX6, "measure", "(I)J"⟩
abbrev cX6_store : ByteArray := prog_1_method_26_code
def yX6_store : MethodName := ⟨RX6, "store", "()I"⟩
abbrev cX6_recall : ByteArray := prog_1_method_27_code
def yX6_recall : MethodName := ⟨RX6, "recall", "()I"⟩
abbrev cX6_ahead : ByteArray := prog_1_method_31_code
def yX6_ahead : MethodName := ⟨RX6, "ahead", "(II)I"⟩
abbrev cX6_bestGain : ByteArray := prog_1_method_32_code
def yX6_bestGain : MethodName := ⟨RX6, "bestGain", "(I)I"⟩
abbrev cX6_idealDifference : ByteArray := prog_1_method_33_code
def yX6_idealDifference : MethodName := ⟨RX6, "idealDifference", "(I)I"⟩
abbrev cX6_isParameter : ByteArray := prog_1_method_34_code
def yX6_isParameter : MethodName := ⟨RX6, "isParameter", "(I)Z"⟩
abbrev cX6_isSignal : ByteArray := prog_1_method_35_code
def yX6_isSignal : MethodName := ⟨RX6, "isSignal", "(I)Z"⟩
abbrev cX6_isLevel : ByteArray := prog_1_method_36_code
def yX6_isLevel : MethodName := ⟨RX6, "isLevel", "(I)Z"⟩
abbrev cX6_allows : ByteArray := prog_1_method_37_code
def yX6_allows : MethodName := ⟨RX6, "allows", "(II)Z"⟩
abbrev cX6_thousandth : ByteArray := prog_1_method_39_code
def yX6_thousandth : MethodName := ⟨RX6, "thousandth", "(J)J"⟩
abbrev cX6_stepped : ByteArray := prog_1_method_40_code
def yX6_stepped : MethodName := ⟨RX6, "stepped", "(JJJ)I"⟩
abbrev cX6_limited : ByteArray := prog_1_method_41_code
def yX6_limited : MethodName := ⟨RX6, "limited", "(JJJ)J"⟩
abbrev cX6_storedAt : ByteArray := prog_1_method_42_code
def yX6_storedAt : MethodName := ⟨RX6, "storedAt", "(I)LDeadTimeLoop$Loop;"⟩
abbrev cX6_advance : ByteArray := prog_1_method_43_code
def yX6_advance : MethodName := ⟨RX6, "advance", "(LDeadTimeLoop$Loop;I)V"⟩
abbrev cX6_errorsWith : ByteArray := prog_1_method_46_code
def yX6_errorsWith : MethodName := ⟨RX6, "errorsWith", "(II)J"⟩
abbrev cX6_prepareIdeal : ByteArray := prog_1_method_47_code
def yX6_prepareIdeal : MethodName := ⟨RX6, "prepareIdeal", "()V"⟩
abbrev cX6_difference : ByteArray := prog_1_method_48_code
def yX6_difference : MethodName := ⟨RX6, "difference", "()I"⟩
def RX7 : String := "DeadTimeLoopModel"
def TX7 : u_T := fun k => match k with
  | _ => ("", "", "", false)
def tyX7 : Nat → FieldType := fun k => match k with
  | _ => .int
abbrev wsX70 : List Cond := u_ws RX7 TX7 0
theorem nmX7 : ∀ a, a < 0 → ∀ b, b < 0 → a ≠ b → (TX7 a).2.1 ≠ (TX7 b).2.1 := by decide +kernel
theorem tyX7_ok : ∀ k, k < 0 → parseFieldDescriptor (TX7 k).2.2.1 = some (tyX7 k) := by decide +kernel
def RJ9 : String := "java/lang/Math"
def TJ9 : u_T := fun k => match k with
  | _ => ("", "", "", false)
def tyJ9 : Nat → FieldType := fun k => match k with
  | _ => .int
abbrev wsJ90 : List Cond := u_ws RJ9 TJ9 0
theorem nmJ9 : ∀ a, a < 0 → ∀ b, b < 0 → a ≠ b → (TJ9 a).2.1 ≠ (TJ9 b).2.1 := by decide +kernel
theorem tyJ9_ok : ∀ k, k < 0 → parseFieldDescriptor (TJ9 k).2.2.1 = some (tyJ9 k) := by decide +kernel
abbrev cJ9_floorDiv_f86c9 : ByteArray := prog_10_method_49_code
def yJ9_floorDiv_f86c9 : MethodName := ⟨RJ9, "floorDiv", "(JJ)J"⟩
abbrev cJ9_floorMod_7cf53 : ByteArray := prog_10_method_50_code
def yJ9_floorMod_7cf53 : MethodName := ⟨RJ9, "floorMod", "(II)I"⟩
abbrev cJ9_abs_0f7a4 : ByteArray := prog_10_method_59_code
def yJ9_abs_0f7a4 : MethodName := ⟨RJ9, "abs", "(I)I"⟩
abbrev cJ9_max_7cf53 : ByteArray := prog_10_method_65_code
def yJ9_max_7cf53 : MethodName := ⟨RJ9, "max", "(II)I"⟩
abbrev cJ9_max_f86c9 : ByteArray := prog_10_method_66_code
def yJ9_max_f86c9 : MethodName := ⟨RJ9, "max", "(JJ)J"⟩
abbrev cJ9_min_f86c9 : ByteArray := prog_10_method_70_code
def yJ9_min_f86c9 : MethodName := ⟨RJ9, "min", "(JJ)J"⟩
def RJ10 : String := "java/lang/System"
def TJ10 : u_T := fun k => match k with
  | _ => ("", "", "", false)
def tyJ10 : Nat → FieldType := fun k => match k with
  | _ => .int
abbrev wsJ100 : List Cond := u_ws RJ10 TJ10 0
theorem nmJ10 : ∀ a, a < 0 → ∀ b, b < 0 → a ≠ b → (TJ10 a).2.1 ≠ (TJ10 b).2.1 := by decide +kernel
theorem tyJ10_ok : ∀ k, k < 0 → parseFieldDescriptor (TJ10 k).2.2.1 = some (tyJ10 k) := by decide +kernel
def RL : String := "DeadTimeLoopLaw"
abbrev cL_cell : ByteArray := method_2_code
def yL_cell : MethodName := ⟨RL, "cell", "([II)I"⟩
abbrev cL_isExact : ByteArray := method_4_code
def yL_isExact : MethodName := ⟨RL, "isExact", "(I)Z"⟩
abbrev cL_isAhead : ByteArray := method_5_code
def yL_isAhead : MethodName := ⟨RL, "isAhead", "(I)Z"⟩
abbrev cL_isBounded : ByteArray := method_6_code
def yL_isBounded : MethodName := ⟨RL, "isBounded", "(I)Z"⟩
abbrev cL_law : ByteArray := code
def yL_law : MethodName := ⟨RL, "law", "([I)Z"⟩
