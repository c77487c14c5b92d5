def RX0 : String := "StrawHouse$Ballot"
def TX0 : u_T := fun k => match k with
  | 0 => ("StrawHouse$Ballot", "lobby", "Z", true)
  | 1 => ("StrawHouse$Ballot", "weights", "[F", true)
  | _ => ("StrawHouse$Ballot", "voteFor", "[I", true)
def tyX0 : Nat → FieldType := fun k => match k with
  | 0 => .boolean
  | 1 => .array .float
  | _ => .array .int
abbrev wsX00 : List Cond := u_ws RX0 TX0 3
theorem nmX0 : ∀ a, a < 3 → ∀ b, b < 3 → a ≠ b → (TX0 a).2.1 ≠ (TX0 b).2.1 := by decide +kernel
theorem tyX0_ok : ∀ k, k < 3 → parseFieldDescriptor (TX0 k).2.2.1 = some (tyX0 k) := by decide +kernel
abbrev cX0_init : ByteArray := prog_2_method_1_code
def yX0_init : MethodName := ⟨RX0, "<init>", "(Z)V"⟩
abbrev cX0_weigh : ByteArray := prog_2_method_2_code
def yX0_weigh : MethodName := ⟨RX0, "weigh", "(LStrawHouse$House;I)V"⟩
abbrev cX0_greatestWeight : ByteArray := prog_2_method_3_code
def yX0_greatestWeight : MethodName := ⟨RX0, "greatestWeight", "()F"⟩
abbrev cX0_speakerOf : ByteArray := prog_2_method_4_code
def yX0_speakerOf : MethodName := ⟨RX0, "speakerOf", "(LStrawHouse$House;I)I"⟩
abbrev cX0_speaksBefore : ByteArray := prog_2_method_5_code
def yX0_speaksBefore : MethodName := ⟨RX0, "speaksBefore", "(LStrawHouse$House;II)Z"⟩
abbrev cX0_voteOf : ByteArray := prog_2_method_6_code
def yX0_voteOf : MethodName := ⟨RX0, "voteOf", "(LStrawHouse$House;I)I"⟩
abbrev cX0_lowestOf : ByteArray := prog_2_method_7_code
def yX0_lowestOf : MethodName := ⟨RX0, "lowestOf", "(F)I"⟩
abbrev cX0_howManyOf : ByteArray := prog_2_method_8_code
def yX0_howManyOf : MethodName := ⟨RX0, "howManyOf", "(F)I"⟩
abbrev cX0_reasonOf : ByteArray := prog_2_method_9_code
def yX0_reasonOf : MethodName := ⟨RX0, "reasonOf", "(LStrawHouse$House;I)I"⟩
abbrev cX0_poll : ByteArray := prog_2_method_10_code
def yX0_poll : MethodName := ⟨RX0, "poll", "(LStrawHouse$House;)V"⟩
abbrev cX0_decide : ByteArray := prog_2_method_11_code
def yX0_decide : MethodName := ⟨RX0, "decide", "(LStrawHouse$House;)I"⟩
abbrev cX0_bySeats : ByteArray := prog_2_method_12_code
def yX0_bySeats : MethodName := ⟨RX0, "bySeats", "(LStrawHouse$House;)I"⟩
abbrev cX0_decideByPairs : ByteArray := prog_2_method_13_code
def yX0_decideByPairs : MethodName := ⟨RX0, "decideByPairs", "(LStrawHouse$House;)I"⟩
abbrev cX0_leftByPairs : ByteArray := prog_2_method_14_code
def yX0_leftByPairs : MethodName := ⟨RX0, "leftByPairs", "(LStrawHouse$House;)I"⟩
abbrev cX0_hasMajority : ByteArray := prog_2_method_15_code
def yX0_hasMajority : MethodName := ⟨RX0, "hasMajority", "(LStrawHouse$House;I)Z"⟩
def RX1 : String := "StrawHouse$House"
def TX1 : u_T := fun k => match k with
  | 0 => ("StrawHouse$House", "fieldOf", "[I", true)
  | 1 => ("StrawHouse$House", "hatOf", "[I", true)
  | 2 => ("StrawHouse$House", "postOf", "[I", true)
  | 3 => ("StrawHouse$House", "wayOf", "[I", true)
  | 4 => ("StrawHouse$House", "strawOf", "[I", true)
  | 5 => ("StrawHouse$House", "turnsOf", "[I", true)
  | 6 => ("StrawHouse$House", "pluckedOf", "[I", true)
  | 7 => ("StrawHouse$House", "crowsFor", "[I", true)
  | 8 => ("StrawHouse$House", "seatsOf", "[I", true)
  | 9 => ("StrawHouse$House", "settings", "[I", true)
  | 10 => ("StrawHouse$House", "scarecrows", "I", false)
  | 11 => ("StrawHouse$House", "windWay", "I", false)
  | 12 => ("StrawHouse$House", "windStrength", "I", false)
  | 13 => ("StrawHouse$House", "store", "I", false)
  | 14 => ("StrawHouse$House", "tick", "I", false)
  | 15 => ("StrawHouse$House", "votes", "I", false)
  | _ => ("StrawHouse$House", "latest", "I", false)
def tyX1 : Nat → FieldType := fun k => match k with
  | 0 => .array .int
  | 1 => .array .int
  | 2 => .array .int
  | 3 => .array .int
  | 4 => .array .int
  | 5 => .array .int
  | 6 => .array .int
  | 7 => .array .int
  | 8 => .array .int
  | 9 => .array .int
  | 10 => .int
  | 11 => .int
  | 12 => .int
  | 13 => .int
  | 14 => .int
  | 15 => .int
  | _ => .int
abbrev wsX10 : List Cond := u_ws RX1 TX1 17
theorem nmX1 : ∀ a, a < 17 → ∀ b, b < 17 → a ≠ b → (TX1 a).2.1 ≠ (TX1 b).2.1 := by decide +kernel
theorem tyX1_ok : ∀ k, k < 17 → parseFieldDescriptor (TX1 k).2.2.1 = some (tyX1 k) := by decide +kernel
abbrev cX1_init : ByteArray := prog_3_method_1_code
def yX1_init : MethodName := ⟨RX1, "<init>", "()V"⟩
abbrev cX1_become : ByteArray := prog_3_method_2_code
def yX1_become : MethodName := ⟨RX1, "become", "(LStrawHouse$House;)V"⟩
abbrev cX1_raise : ByteArray := prog_3_method_3_code
def yX1_raise : MethodName := ⟨RX1, "raise", "(IIII)I"⟩
abbrev cX1_bring : ByteArray := prog_3_method_4_code
def yX1_bring : MethodName := ⟨RX1, "bring", "(II)I"⟩
abbrev cX1_turnByHand : ByteArray := prog_3_method_5_code
def yX1_turnByHand : MethodName := ⟨RX1, "turnByHand", "(II)I"⟩
abbrev cX1_takeCrow : ByteArray := prog_3_method_6_code
def yX1_takeCrow : MethodName := ⟨RX1, "takeCrow", "(II)I"⟩
abbrev cX1_scareOff : ByteArray := prog_3_method_7_code
def yX1_scareOff : MethodName := ⟨RX1, "scareOff", "(I)I"⟩
abbrev cX1_stuff : ByteArray := prog_3_method_8_code
def yX1_stuff : MethodName := ⟨RX1, "stuff", "(II)I"⟩
abbrev cX1_giveSeats : ByteArray := prog_3_method_9_code
def yX1_giveSeats : MethodName := ⟨RX1, "giveSeats", "(II)I"⟩
abbrev cX1_blow : ByteArray := prog_3_method_10_code
def yX1_blow : MethodName := ⟨RX1, "blow", "(II)I"⟩
abbrev cX1_adjust : ByteArray := prog_3_method_11_code
def yX1_adjust : MethodName := ⟨RX1, "adjust", "(II)I"⟩
abbrev cX1_countVote : ByteArray := prog_3_method_12_code
def yX1_countVote : MethodName := ⟨RX1, "countVote", "(I)I"⟩
abbrev cX1_goOn : ByteArray := prog_3_method_13_code
def yX1_goOn : MethodName := ⟨RX1, "goOn", "(I)I"⟩
abbrev cX1_doTicks : ByteArray := prog_3_method_14_code
def yX1_doTicks : MethodName := ⟨RX1, "doTicks", "(I)I"⟩
abbrev cX1_doTick : ByteArray := prog_3_method_15_code
def yX1_doTick : MethodName := ⟨RX1, "doTick", "()I"⟩
abbrev cX1_turnByWind : ByteArray := prog_3_method_16_code
def yX1_turnByWind : MethodName := ⟨RX1, "turnByWind", "(I)I"⟩
abbrev cX1_pluck : ByteArray := prog_3_method_17_code
def yX1_pluck : MethodName := ⟨RX1, "pluck", "(I)V"⟩
abbrev cX1_shiftWind : ByteArray := prog_3_method_18_code
def yX1_shiftWind : MethodName := ⟨RX1, "shiftWind", "()V"⟩
abbrev cX1_letCrowsFly : ByteArray := prog_3_method_19_code
def yX1_letCrowsFly : MethodName := ⟨RX1, "letCrowsFly", "(I)V"⟩
abbrev cX1_isScarecrow : ByteArray := prog_3_method_20_code
def yX1_isScarecrow : MethodName := ⟨RX1, "isScarecrow", "(I)Z"⟩
abbrev cX1_crowsOn : ByteArray := prog_3_method_21_code
def yX1_crowsOn : MethodName := ⟨RX1, "crowsOn", "(I)I"⟩
abbrev cX1_strawAsFloat : ByteArray := prog_3_method_22_code
def yX1_strawAsFloat : MethodName := ⟨RX1, "strawAsFloat", "(I)F"⟩
abbrev cX1_lobbyFor : ByteArray := prog_3_method_23_code
def yX1_lobbyFor : MethodName := ⟨RX1, "lobbyFor", "(II)F"⟩
abbrev cX1_standingIn : ByteArray := prog_3_method_24_code
def yX1_standingIn : MethodName := ⟨RX1, "standingIn", "(I)I"⟩
abbrev cX1_tellScarecrow : ByteArray := prog_3_method_25_code
def yX1_tellScarecrow : MethodName := ⟨RX1, "tellScarecrow", "(II)I"⟩
abbrev cX1_tellCount : ByteArray := prog_3_method_26_code
def yX1_tellCount : MethodName := ⟨RX1, "tellCount", "(I)I"⟩
def RX2 : String := "StrawHouse$Past"
def TX2 : u_T := fun k => match k with
  | 0 => ("StrawHouse$Past", "states", "[LStrawHouse$House;", true)
  | _ => ("StrawHouse$Past", "size", "I", false)
def tyX2 : Nat → FieldType := fun k => match k with
  | 0 => .array (.object "StrawHouse$House")
  | _ => .int
abbrev wsX20 : List Cond := u_ws RX2 TX2 2
theorem nmX2 : ∀ a, a < 2 → ∀ b, b < 2 → a ≠ b → (TX2 a).2.1 ≠ (TX2 b).2.1 := by decide +kernel
theorem tyX2_ok : ∀ k, k < 2 → parseFieldDescriptor (TX2 k).2.2.1 = some (tyX2 k) := by decide +kernel
abbrev cX2_init : ByteArray := prog_4_method_1_code
def yX2_init : MethodName := ⟨RX2, "<init>", "()V"⟩
abbrev cX2_remember : ByteArray := prog_4_method_2_code
def yX2_remember : MethodName := ⟨RX2, "remember", "(LStrawHouse$House;)V"⟩
abbrev cX2_dropOldest : ByteArray := prog_4_method_3_code
def yX2_dropOldest : MethodName := ⟨RX2, "dropOldest", "()V"⟩
abbrev cX2_bringBack : ByteArray := prog_4_method_4_code
def yX2_bringBack : MethodName := ⟨RX2, "bringBack", "(LStrawHouse$House;)I"⟩
def RX3 : String := "StrawHouse$Sitting"
def TX3 : u_T := fun k => match k with
  | 0 => ("StrawHouse$Sitting", "characters", "[C", true)
  | 1 => ("StrawHouse$Sitting", "kinds", "[I", true)
  | 2 => ("StrawHouse$Sitting", "firsts", "[I", true)
  | 3 => ("StrawHouse$Sitting", "seconds", "[I", true)
  | 4 => ("StrawHouse$Sitting", "length", "I", false)
  | 5 => ("StrawHouse$Sitting", "things", "I", false)
  | _ => ("StrawHouse$Sitting", "at", "I", false)
def tyX3 : Nat → FieldType := fun k => match k with
  | 0 => .array .char
  | 1 => .array .int
  | 2 => .array .int
  | 3 => .array .int
  | 4 => .int
  | 5 => .int
  | _ => .int
abbrev wsX30 : List Cond := u_ws RX3 TX3 7
theorem nmX3 : ∀ a, a < 7 → ∀ b, b < 7 → a ≠ b → (TX3 a).2.1 ≠ (TX3 b).2.1 := by decide +kernel
theorem tyX3_ok : ∀ k, k < 7 → parseFieldDescriptor (TX3 k).2.2.1 = some (tyX3 k) := by decide +kernel
abbrev cX3_init : ByteArray := prog_5_method_1_code
def yX3_init : MethodName := ⟨RX3, "<init>", "()V"⟩
def RX4 : String := "StrawHouse"
def TX4 : u_T := fun k => match k with
  | 0 => ("StrawHouse", "now", "LStrawHouse$House;", true)
  | 1 => ("StrawHouse", "before", "LStrawHouse$House;", true)
  | 2 => ("StrawHouse", "trial", "LStrawHouse$House;", true)
  | 3 => ("StrawHouse", "snapshot", "LStrawHouse$House;", true)
  | 4 => ("StrawHouse", "past", "LStrawHouse$Past;", true)
  | 5 => ("StrawHouse", "sitting", "LStrawHouse$Sitting;", true)
  | 6 => ("StrawHouse", "ballot", "LStrawHouse$Ballot;", true)
  | 7 => ("StrawHouse", "quietBallot", "LStrawHouse$Ballot;", true)
  | 8 => ("StrawHouse", "kept", "Z", false)
  | 9 => ("StrawHouse", "stopNumber", "I", false)
  | _ => ("StrawHouse", "stopError", "I", false)
def tyX4 : Nat → FieldType := fun k => match k with
  | 0 => .object "StrawHouse$House"
  | 1 => .object "StrawHouse$House"
  | 2 => .object "StrawHouse$House"
  | 3 => .object "StrawHouse$House"
  | 4 => .object "StrawHouse$Past"
  | 5 => .object "StrawHouse$Sitting"
  | 6 => .object "StrawHouse$Ballot"
  | 7 => .object "StrawHouse$Ballot"
  | 8 => .boolean
  | 9 => .int
  | _ => .int
abbrev wsX40 : List Cond := u_ws RX4 TX4 11
theorem nmX4 : ∀ a, a < 11 → ∀ b, b < 11 → a ≠ b → (TX4 a).2.1 ≠ (TX4 b).2.1 := by decide +kernel
theorem tyX4_ok : ∀ k, k < 11 → parseFieldDescriptor (TX4 k).2.2.1 = some (tyX4 k) := by decide +kernel
abbrev cX4_init : ByteArray := prog_1_method_1_code
def yX4_init : MethodName := ⟨RX4, "<init>", "()V"⟩
abbrev cX4_setUp : ByteArray := prog_1_method_2_code
def yX4_setUp : MethodName := ⟨RX4, "setUp", "(IIII)I"⟩
abbrev cX4_carry : ByteArray := prog_1_method_3_code
def yX4_carry : MethodName := ⟨RX4, "carry", "(II)I"⟩
abbrev cX4_face : ByteArray := prog_1_method_4_code
def yX4_face : MethodName := ⟨RX4, "face", "(II)I"⟩
abbrev cX4_crow : ByteArray := prog_1_method_5_code
def yX4_crow : MethodName := ⟨RX4, "crow", "(II)I"⟩
abbrev cX4_scare : ByteArray := prog_1_method_6_code
def yX4_scare : MethodName := ⟨RX4, "scare", "(I)I"⟩
abbrev cX4_fill : ByteArray := prog_1_method_7_code
def yX4_fill : MethodName := ⟨RX4, "fill", "(II)I"⟩
abbrev cX4_seats : ByteArray := prog_1_method_8_code
def yX4_seats : MethodName := ⟨RX4, "seats", "(II)I"⟩
abbrev cX4_wind : ByteArray := prog_1_method_9_code
def yX4_wind : MethodName := ⟨RX4, "wind", "(II)I"⟩
abbrev cX4_set : ByteArray := prog_1_method_10_code
def yX4_set : MethodName := ⟨RX4, "set", "(II)I"⟩
abbrev cX4_vote : ByteArray := prog_1_method_11_code
def yX4_vote : MethodName := ⟨RX4, "vote", "()I"⟩
abbrev cX4_pass : ByteArray := prog_1_method_12_code
def yX4_pass : MethodName := ⟨RX4, "pass", "(I)I"⟩
abbrev cX4_undo : ByteArray := prog_1_method_17_code
def yX4_undo : MethodName := ⟨RX4, "undo", "()I"⟩
abbrev cX4_scarecrow : ByteArray := prog_1_method_20_code
def yX4_scarecrow : MethodName := ⟨RX4, "scarecrow", "(II)I"⟩
abbrev cX4_straw : ByteArray := prog_1_method_21_code
def yX4_straw : MethodName := ⟨RX4, "straw", "(I)D"⟩
abbrev cX4_weight : ByteArray := prog_1_method_22_code
def yX4_weight : MethodName := ⟨RX4, "weight", "(II)D"⟩
abbrev cX4_field : ByteArray := prog_1_method_23_code
def yX4_field : MethodName := ⟨RX4, "field", "(II)I"⟩
abbrev cX4_reason : ByteArray := prog_1_method_24_code
def yX4_reason : MethodName := ⟨RX4, "reason", "(I)I"⟩
abbrev cX4_decision : ByteArray := prog_1_method_25_code
def yX4_decision : MethodName := ⟨RX4, "decision", "(I)I"⟩
abbrev cX4_swings : ByteArray := prog_1_method_26_code
def yX4_swings : MethodName := ⟨RX4, "swings", "()I"⟩
abbrev cX4_withoutCrows : ByteArray := prog_1_method_27_code
def yX4_withoutCrows : MethodName := ⟨RX4, "withoutCrows", "()I"⟩
abbrev cX4_count : ByteArray := prog_1_method_30_code
def yX4_count : MethodName := ⟨RX4, "count", "(I)I"⟩
abbrev cX4_recorded : ByteArray := prog_1_method_31_code
def yX4_recorded : MethodName := ⟨RX4, "recorded", "(I)I"⟩
abbrev cX4_couldSwing : ByteArray := prog_1_method_33_code
def yX4_couldSwing : MethodName := ⟨RX4, "couldSwing", "(II)Z"⟩
abbrev cX4_isIn : ByteArray := prog_1_method_35_code
def yX4_isIn : MethodName := ⟨RX4, "isIn", "(III)Z"⟩
abbrev cX4_isField : ByteArray := prog_1_method_36_code
def yX4_isField : MethodName := ⟨RX4, "isField", "(I)Z"⟩
abbrev cX4_isWay : ByteArray := prog_1_method_37_code
def yX4_isWay : MethodName := ⟨RX4, "isWay", "(I)Z"⟩
abbrev cX4_sumOf : ByteArray := prog_1_method_38_code
def yX4_sumOf : MethodName := ⟨RX4, "sumOf", "([I)I"⟩
abbrev cX4_copyRow : ByteArray := prog_1_method_39_code
def yX4_copyRow : MethodName := ⟨RX4, "copyRow", "([I[I)V"⟩
def RX5 : String := "StrawHouseModel"
def TX5 : u_T := fun k => match k with
  | _ => ("", "", "", false)
def tyX5 : Nat → FieldType := fun k => match k with
  | _ => .int
abbrev wsX50 : List Cond := u_ws RX5 TX5 0
theorem nmX5 : ∀ a, a < 0 → ∀ b, b < 0 → a ≠ b → (TX5 a).2.1 ≠ (TX5 b).2.1 := by decide +kernel
theorem tyX5_ok : ∀ k, k < 0 → parseFieldDescriptor (TX5 k).2.2.1 = some (tyX5 k) := by decide +kernel
def RJ9 : String := "java/lang/Math"
def TJ9 : u_T := fun k => match k with
  | _ => ("", "", "", false)
def tyJ9 : Nat → FieldType := fun k => match k with
  | _ => .int
abbrev wsJ90 : List Cond := u_ws RJ9 TJ9 0
theorem nmJ9 : ∀ a, a < 0 → ∀ b, b < 0 → a ≠ b → (TJ9 a).2.1 ≠ (TJ9 b).2.1 := by decide +kernel
theorem tyJ9_ok : ∀ k, k < 0 → parseFieldDescriptor (TJ9 k).2.2.1 = some (tyJ9 k) := by decide +kernel
abbrev cJ9_min_7cf53 : ByteArray := prog_8_method_69_code
def yJ9_min_7cf53 : MethodName := ⟨RJ9, "min", "(II)I"⟩
def RJ10 : String := "java/lang/System"
def TJ10 : u_T := fun k => match k with
  | _ => ("", "", "", false)
def tyJ10 : Nat → FieldType := fun k => match k with
  | _ => .int
abbrev wsJ100 : List Cond := u_ws RJ10 TJ10 0
theorem nmJ10 : ∀ a, a < 0 → ∀ b, b < 0 → a ≠ b → (TJ10 a).2.1 ≠ (TJ10 b).2.1 := by decide +kernel
theorem tyJ10_ok : ∀ k, k < 0 → parseFieldDescriptor (TJ10 k).2.2.1 = some (tyJ10 k) := by decide +kernel
def RL : String := "StrawHouseLaw"
abbrev cL_cell : ByteArray := method_2_code
def yL_cell : MethodName := ⟨RL, "cell", "([II)I"⟩
abbrev cL_low : ByteArray := method_3_code
def yL_low : MethodName := ⟨RL, "low", "(II)I"⟩
abbrev cL_crows : ByteArray := method_4_code
def yL_crows : MethodName := ⟨RL, "crows", "(I[I)I"⟩
abbrev cL_weighs : ByteArray := method_5_code
def yL_weighs : MethodName := ⟨RL, "weighs", "(III[I[I[I)F"⟩
abbrev cL_speaker : ByteArray := method_6_code
def yL_speaker : MethodName := ⟨RL, "speaker", "(I[I[I)I"⟩
abbrev cL_votes : ByteArray := method_7_code
def yL_votes : MethodName := ⟨RL, "votes", "(II[I[I[I)I"⟩
abbrev cL_wayOf : ByteArray := method_8_code
def yL_wayOf : MethodName := ⟨RL, "wayOf", "(I)I"⟩
abbrev cL_seats : ByteArray := method_9_code
def yL_seats : MethodName := ⟨RL, "seats", "([I)I"⟩
abbrev cL_decides : ByteArray := method_10_code
def yL_decides : MethodName := ⟨RL, "decides", "(I[I[I[I)I"⟩
abbrev cL_tick : ByteArray := method_11_code
def yL_tick : MethodName := ⟨RL, "tick", "([I[I[I[I)I"⟩
abbrev cL_call : ByteArray := method_12_code
def yL_call : MethodName := ⟨RL, "call", "(LStrawHouse;IIII)I"⟩
abbrev cL_ofScarecrow : ByteArray := method_13_code
def yL_ofScarecrow : MethodName := ⟨RL, "ofScarecrow", "(IIII[I[I[I)I"⟩
abbrev cL_due : ByteArray := method_14_code
def yL_due : MethodName := ⟨RL, "due", "(IIII[I[I[I[I)I"⟩
abbrev cL_isScarecrow : ByteArray := method_15_code
def yL_isScarecrow : MethodName := ⟨RL, "isScarecrow", "(LStrawHouse;I[I[I[I)Z"⟩
abbrev cL_isField : ByteArray := method_16_code
def yL_isField : MethodName := ⟨RL, "isField", "(LStrawHouse;I[I[I[I)Z"⟩
abbrev cL_swings : ByteArray := method_17_code
def yL_swings : MethodName := ⟨RL, "swings", "([I[I[I)I"⟩
abbrev cL_isSo : ByteArray := method_18_code
def yL_isSo : MethodName := ⟨RL, "isSo", "(LStrawHouse;I[I[I[I[I)Z"⟩
abbrev cL_told : ByteArray := method_19_code
def yL_told : MethodName := ⟨RL, "told", "(LStrawHouse;)J"⟩
abbrev cL_law : ByteArray := code
def yL_law : MethodName := ⟨RL, "law", "([I)Z"⟩
set_option maxRecDepth 20000 in
theorem wsL_law_in : ∀ w ∈ wsL_law, w ∈ lw_tbl := fun w h => (goodIn_p wsL_law [55, 58, 63, 132, 149, 176, 247, 252, 581, 492, 496, 420, 573, 577, 299, 319, 566, 395, 534, 268, 271, 539, 380, 384, 387, 391, 400, 405, 409, 256, 260, 235, 238, 241, 265, 274, 279, 283, 287, 291, 295, 303, 307, 311, 315, 323, 327, 331, 335, 339, 344, 348, 352, 356, 360, 364, 368, 372, 376, 413, 417, 424, 428, 432, 437, 441, 445, 449, 453, 227, 231, 456, 459, 462, 465, 468, 471, 474, 479, 482, 485, 488, 501, 505, 509, 514, 518, 522, 527, 530, 544, 548, 552, 556, 562] (by decide +kernel) (by decide +kernel) w h).1
theorem inlX0 : ∀ w ∈ wsX00, w ∈ wsL_law := fun _ h => List.mem_append_left _ (List.mem_append_right _ h)
theorem inX0 : ∀ w ∈ wsX00, w ∈ lw_tbl := fun w h => wsL_law_in w (inlX0 w h)
theorem inlX1 : ∀ w ∈ wsX10, w ∈ wsL_law := fun _ h => List.mem_append_left _ (List.mem_append_left _ (List.mem_append_left _ (List.mem_append_left _ (List.mem_append_right _ h))))
theorem inX1 : ∀ w ∈ wsX10, w ∈ lw_tbl := fun w h => wsL_law_in w (inlX1 w h)
theorem inlX2 : ∀ w ∈ wsX20, w ∈ wsL_law := fun _ h => List.mem_append_left _ (List.mem_append_left _ (List.mem_append_left _ (List.mem_append_right _ h)))
theorem inX2 : ∀ w ∈ wsX20, w ∈ lw_tbl := fun w h => wsL_law_in w (inlX2 w h)
theorem inlX3 : ∀ w ∈ wsX30, w ∈ wsL_law := fun _ h => List.mem_append_left _ (List.mem_append_left _ (List.mem_append_right _ h))
theorem inX3 : ∀ w ∈ wsX30, w ∈ lw_tbl := fun w h => wsL_law_in w (inlX3 w h)
theorem inlX4 : ∀ w ∈ wsX40, w ∈ wsL_law := fun _ h => List.mem_append_left _ (List.mem_append_left _ (List.mem_append_left _ (List.mem_append_left _ (List.mem_append_left _ (List.mem_append_right _ h)))))
theorem inX4 : ∀ w ∈ wsX40, w ∈ lw_tbl := fun w h => wsL_law_in w (inlX4 w h)
theorem inX5 : ∀ w ∈ wsX50, w ∈ lw_tbl := by decide +kernel
theorem inJ9 : ∀ w ∈ wsJ90, w ∈ lw_tbl := by decide +kernel
theorem inJ10 : ∀ w ∈ wsJ100, w ∈ lw_tbl := by decide +kernel
theorem dJ9_min_7cf53_0 : decode cJ9_min_7cf53 0 = .ok (.iload_n 0, 1) := by decide +kernel
theorem dJ9_min_7cf53_1 : decode cJ9_min_7cf53 1 = .ok (.iload_n 1, 1) := by decide +kernel
theorem dJ9_min_7cf53_2 : decode cJ9_min_7cf53 2 = .ok (.if_icmp .gt 7, 3) := by decide +kernel
theorem dJ9_min_7cf53_5 : decode cJ9_min_7cf53 5 = .ok (.iload_n 0, 1) := by decide +kernel
theorem dJ9_min_7cf53_6 : decode cJ9_min_7cf53 6 = .ok (.goto 4, 3) := by decide +kernel
theorem dJ9_min_7cf53_9 : decode cJ9_min_7cf53 9 = .ok (.iload_n 1, 1) := by decide +kernel
theorem dJ9_min_7cf53_10 : decode cJ9_min_7cf53 10 = .ok (.ireturn, 1) := by decide +kernel
abbrev vwCl : List vw_C := [(RX0, TX0, 3), (RX1, TX1, 17), (RX2, TX2, 2), (RX3, TX3, 7), (RX4, TX4, 11)]
/-- the objects of StrawHouse$Ballot, kind 0: what each holds, by its address -/
