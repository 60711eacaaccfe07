def RX0 : String := "HourglassTag$Game"
def TX0 : u_T := fun k => match k with
  | 0 => ("HourglassTag$Game", "heights", "[I", true)
  | 1 => ("HourglassTag$Game", "lying", "[I", true)
  | 2 => ("HourglassTag$Game", "settings", "[I", true)
  | 3 => ("HourglassTag$Game", "place", "[I", true)
  | 4 => ("HourglassTag$Game", "above", "[I", true)
  | 5 => ("HourglassTag$Game", "below", "[I", true)
  | 6 => ("HourglassTag$Game", "movesMade", "[I", true)
  | 7 => ("HourglassTag$Game", "tagsMade", "[I", true)
  | 8 => ("HourglassTag$Game", "timesTagged", "[I", true)
  | 9 => ("HourglassTag$Game", "grainsPaid", "[I", true)
  | 10 => ("HourglassTag$Game", "players", "I", false)
  | 11 => ("HourglassTag$Game", "onMove", "I", false)
  | 12 => ("HourglassTag$Game", "it", "I", false)
  | 13 => ("HourglassTag$Game", "moves", "I", false)
  | 14 => ("HourglassTag$Game", "refused", "I", false)
  | 15 => ("HourglassTag$Game", "tags", "I", false)
  | _ => ("HourglassTag$Game", "brought", "I", false)
def tyX0 : Nat → FieldType := fun k => match k with
  | 0 => .array .int
  | 1 => .array .int
  | 2 => .array .int
  | 3 => .array .int
  | 4 => .array .int
  | 5 => .array .int
  | 6 => .array .int
  | 7 => .array .int
  | 8 => .array .int
  | 9 => .array .int
  | 10 => .int
  | 11 => .int
  | 12 => .int
  | 13 => .int
  | 14 => .int
  | 15 => .int
  | _ => .int
abbrev wsX00 : List Cond := u_ws RX0 TX0 17
theorem nmX0 : ∀ a, a < 17 → ∀ b, b < 17 → a ≠ b → (TX0 a).2.1 ≠ (TX0 b).2.1 := by decide +kernel
theorem tyX0_ok : ∀ k, k < 17 → parseFieldDescriptor (TX0 k).2.2.1 = some (tyX0 k) := by decide +kernel
abbrev cX0_init : ByteArray := prog_2_method_1_code
def yX0_init : MethodName := ⟨RX0, "<init>", "()V"⟩
abbrev cX0_become : ByteArray := prog_2_method_2_code
def yX0_become : MethodName := ⟨RX0, "become", "(LHourglassTag$Game;)V"⟩
abbrev cX0_hasPlayer : ByteArray := prog_2_method_3_code
def yX0_hasPlayer : MethodName := ⟨RX0, "hasPlayer", "(I)Z"⟩
abbrev cX0_takesMoves : ByteArray := prog_2_method_4_code
def yX0_takesMoves : MethodName := ⟨RX0, "takesMoves", "()Z"⟩
abbrev cX0_addPlayer : ByteArray := prog_2_method_5_code
def yX0_addPlayer : MethodName := ⟨RX0, "addPlayer", "(II)I"⟩
abbrev cX0_sees : ByteArray := prog_2_method_6_code
def yX0_sees : MethodName := ⟨RX0, "sees", "(II)Z"⟩
abbrev cX0_towersSeenFrom : ByteArray := prog_2_method_7_code
def yX0_towersSeenFrom : MethodName := ⟨RX0, "towersSeenFrom", "(I)I"⟩
abbrev cX0_towerThatSeesMost : ByteArray := prog_2_method_8_code
def yX0_towerThatSeesMost : MethodName := ⟨RX0, "towerThatSeesMost", "()I"⟩
abbrev cX0_playersOn : ByteArray := prog_2_method_9_code
def yX0_playersOn : MethodName := ⟨RX0, "playersOn", "(I)I"⟩
abbrev cX0_priceOfStride : ByteArray := prog_2_method_10_code
def yX0_priceOfStride : MethodName := ⟨RX0, "priceOfStride", "(II)I"⟩
abbrev cX0_refusalOfStride : ByteArray := prog_2_method_11_code
def yX0_refusalOfStride : MethodName := ⟨RX0, "refusalOfStride", "(II)I"⟩
abbrev cX0_towersToStrideTo : ByteArray := prog_2_method_12_code
def yX0_towersToStrideTo : MethodName := ⟨RX0, "towersToStrideTo", "(I)I"⟩
abbrev cX0_refusalOfTag : ByteArray := prog_2_method_13_code
def yX0_refusalOfTag : MethodName := ⟨RX0, "refusalOfTag", "(II)I"⟩
abbrev cX0_playersInReachOfIt : ByteArray := prog_2_method_14_code
def yX0_playersInReachOfIt : MethodName := ⟨RX0, "playersInReachOfIt", "()I"⟩
abbrev cX0_moveByStride : ByteArray := prog_2_method_15_code
def yX0_moveByStride : MethodName := ⟨RX0, "moveByStride", "(I)I"⟩
abbrev cX0_moveByTurn : ByteArray := prog_2_method_16_code
def yX0_moveByTurn : MethodName := ⟨RX0, "moveByTurn", "()I"⟩
abbrev cX0_moveByTag : ByteArray := prog_2_method_17_code
def yX0_moveByTag : MethodName := ⟨RX0, "moveByTag", "(I)I"⟩
abbrev cX0_refuse : ByteArray := prog_2_method_18_code
def yX0_refuse : MethodName := ⟨RX0, "refuse", "(I)I"⟩
abbrev cX0_pay : ByteArray := prog_2_method_19_code
def yX0_pay : MethodName := ⟨RX0, "pay", "(I)V"⟩
abbrev cX0_endMove : ByteArray := prog_2_method_20_code
def yX0_endMove : MethodName := ⟨RX0, "endMove", "()I"⟩
abbrev cX0_sandBelow : ByteArray := prog_2_method_21_code
def yX0_sandBelow : MethodName := ⟨RX0, "sandBelow", "()I"⟩
abbrev cX0_sandInGlasses : ByteArray := prog_2_method_22_code
def yX0_sandInGlasses : MethodName := ⟨RX0, "sandInGlasses", "()I"⟩
abbrev cX0_sandOnTowers : ByteArray := prog_2_method_23_code
def yX0_sandOnTowers : MethodName := ⟨RX0, "sandOnTowers", "()I"⟩
def RX1 : String := "HourglassTag$Past"
def TX1 : u_T := fun k => match k with
  | 0 => ("HourglassTag$Past", "ring", "[LHourglassTag$Game;", true)
  | 1 => ("HourglassTag$Past", "oldest", "I", false)
  | _ => ("HourglassTag$Past", "held", "I", false)
def tyX1 : Nat → FieldType := fun k => match k with
  | 0 => .array (.object "HourglassTag$Game")
  | 1 => .int
  | _ => .int
abbrev wsX10 : List Cond := u_ws RX1 TX1 3
theorem nmX1 : ∀ a, a < 3 → ∀ b, b < 3 → a ≠ b → (TX1 a).2.1 ≠ (TX1 b).2.1 := by decide +kernel
theorem tyX1_ok : ∀ k, k < 3 → parseFieldDescriptor (TX1 k).2.2.1 = some (tyX1 k) := by decide +kernel
abbrev cX1_init : ByteArray := prog_3_method_1_code
def yX1_init : MethodName := ⟨RX1, "<init>", "()V"⟩
abbrev cX1_save : ByteArray := prog_3_method_2_code
def yX1_save : MethodName := ⟨RX1, "save", "(LHourglassTag$Game;)V"⟩
def RX2 : String := "HourglassTag$Text"
def TX2 : u_T := fun k => match k with
  | 0 => ("HourglassTag$Text", "codes", "[I", true)
  | _ => ("HourglassTag$Text", "length", "I", false)
def tyX2 : Nat → FieldType := fun k => match k with
  | 0 => .array .int
  | _ => .int
abbrev wsX20 : List Cond := u_ws RX2 TX2 2
theorem nmX2 : ∀ a, a < 2 → ∀ b, b < 2 → a ≠ b → (TX2 a).2.1 ≠ (TX2 b).2.1 := by decide +kernel
theorem tyX2_ok : ∀ k, k < 2 → parseFieldDescriptor (TX2 k).2.2.1 = some (tyX2 k) := by decide +kernel
abbrev cX2_init : ByteArray := prog_4_method_1_code
def yX2_init : MethodName := ⟨RX2, "<init>", "()V"⟩
def RX3 : String := "HourglassTag$Walk"
def TX3 : u_T := fun k => match k with
  | 0 => ("HourglassTag$Walk", "lying", "[I", true)
  | 1 => ("HourglassTag$Walk", "goal", "I", false)
  | 2 => ("HourglassTag$Walk", "running", "I", false)
  | _ => ("HourglassTag$Walk", "turning", "I", false)
def tyX3 : Nat → FieldType := fun k => match k with
  | 0 => .array .int
  | 1 => .int
  | 2 => .int
  | _ => .int
abbrev wsX30 : List Cond := u_ws RX3 TX3 4
theorem nmX3 : ∀ a, a < 4 → ∀ b, b < 4 → a ≠ b → (TX3 a).2.1 ≠ (TX3 b).2.1 := by decide +kernel
theorem tyX3_ok : ∀ k, k < 4 → parseFieldDescriptor (TX3 k).2.2.1 = some (tyX3 k) := by decide +kernel
abbrev cX3_init : ByteArray := prog_5_method_1_code
def yX3_init : MethodName := ⟨RX3, "<init>", "()V"⟩
def RX4 : String := "HourglassTag$Ways"
def TX4 : u_T := fun k => match k with
  | 0 => ("HourglassTag$Ways", "single", "[[I", true)
  | 1 => ("HourglassTag$Ways", "sum", "[[I", true)
  | 2 => ("HourglassTag$Ways", "cost", "[I", true)
  | _ => ("HourglassTag$Ways", "settled", "[Z", true)
def tyX4 : Nat → FieldType := fun k => match k with
  | 0 => .array (.array .int)
  | 1 => .array (.array .int)
  | 2 => .array .int
  | _ => .array .boolean
abbrev wsX40 : List Cond := u_ws RX4 TX4 4
theorem nmX4 : ∀ a, a < 4 → ∀ b, b < 4 → a ≠ b → (TX4 a).2.1 ≠ (TX4 b).2.1 := by decide +kernel
theorem tyX4_ok : ∀ k, k < 4 → parseFieldDescriptor (TX4 k).2.2.1 = some (tyX4 k) := by decide +kernel
abbrev cX4_init : ByteArray := prog_6_method_1_code
def yX4_init : MethodName := ⟨RX4, "<init>", "()V"⟩
def RX5 : String := "HourglassTag"
def TX5 : u_T := fun k => match k with
  | 0 => ("HourglassTag", "game", "LHourglassTag$Game;", true)
  | 1 => ("HourglassTag", "slots", "[LHourglassTag$Game;", true)
  | 2 => ("HourglassTag", "slotFilled", "[Z", true)
  | 3 => ("HourglassTag", "past", "LHourglassTag$Past;", true)
  | 4 => ("HourglassTag", "text", "LHourglassTag$Text;", true)
  | 5 => ("HourglassTag", "ways", "LHourglassTag$Ways;", true)
  | _ => ("HourglassTag", "walk", "LHourglassTag$Walk;", true)
def tyX5 : Nat → FieldType := fun k => match k with
  | 0 => .object "HourglassTag$Game"
  | 1 => .array (.object "HourglassTag$Game")
  | 2 => .array .boolean
  | 3 => .object "HourglassTag$Past"
  | 4 => .object "HourglassTag$Text"
  | 5 => .object "HourglassTag$Ways"
  | _ => .object "HourglassTag$Walk"
abbrev wsX50 : List Cond := u_ws RX5 TX5 7
theorem nmX5 : ∀ a, a < 7 → ∀ b, b < 7 → a ≠ b → (TX5 a).2.1 ≠ (TX5 b).2.1 := by decide +kernel
theorem tyX5_ok : ∀ k, k < 7 → parseFieldDescriptor (TX5 k).2.2.1 = some (tyX5 k) := by decide +kernel
abbrev cX5_init : ByteArray := prog_1_method_1_code
def yX5_init : MethodName := ⟨RX5, "<init>", "()V"⟩
abbrev cX5_height : ByteArray := prog_1_method_2_code
def yX5_height : MethodName := ⟨RX5, "height", "(II)I"⟩
abbrev cX5_player : ByteArray := prog_1_method_3_code
def yX5_player : MethodName := ⟨RX5, "player", "(II)I"⟩
abbrev cX5_set : ByteArray := prog_1_method_4_code
def yX5_set : MethodName := ⟨RX5, "set", "(II)I"⟩
abbrev cX5_rest : ByteArray := prog_1_method_5_code
def yX5_rest : MethodName := ⟨RX5, "rest", "()I"⟩
abbrev cX5_stride : ByteArray := prog_1_method_6_code
def yX5_stride : MethodName := ⟨RX5, "stride", "(I)I"⟩
abbrev cX5_turnOver : ByteArray := prog_1_method_7_code
def yX5_turnOver : MethodName := ⟨RX5, "turnOver", "()I"⟩
abbrev cX5_tag : ByteArray := prog_1_method_8_code
def yX5_tag : MethodName := ⟨RX5, "tag", "(I)I"⟩
abbrev cX5_tower : ByteArray := prog_1_method_16_code
def yX5_tower : MethodName := ⟨RX5, "tower", "(II)I"⟩
abbrev cX5_playerOf : ByteArray := prog_1_method_17_code
def yX5_playerOf : MethodName := ⟨RX5, "playerOf", "(II)I"⟩
abbrev cX5_count : ByteArray := prog_1_method_18_code
def yX5_count : MethodName := ⟨RX5, "count", "(I)I"⟩
abbrev cX5_setting : ByteArray := prog_1_method_19_code
def yX5_setting : MethodName := ⟨RX5, "setting", "(I)I"⟩
abbrev cX5_whyNot : ByteArray := prog_1_method_21_code
def yX5_whyNot : MethodName := ⟨RX5, "whyNot", "(II)I"⟩
abbrev cX5_prey : ByteArray := prog_1_method_23_code
def yX5_prey : MethodName := ⟨RX5, "prey", "()I"⟩
abbrev cX5_lookout : ByteArray := prog_1_method_24_code
def yX5_lookout : MethodName := ⟨RX5, "lookout", "()I"⟩
abbrev cX5_isTower : ByteArray := prog_1_method_27_code
def yX5_isTower : MethodName := ⟨RX5, "isTower", "(I)Z"⟩
abbrev cX5_isSetting : ByteArray := prog_1_method_28_code
def yX5_isSetting : MethodName := ⟨RX5, "isSetting", "(I)Z"⟩
abbrev cX5_towerProperty : ByteArray := prog_1_method_30_code
def yX5_towerProperty : MethodName := ⟨RX5, "towerProperty", "(II)I"⟩
abbrev cX5_playerProperty : ByteArray := prog_1_method_31_code
def yX5_playerProperty : MethodName := ⟨RX5, "playerProperty", "(II)I"⟩
abbrev cX5_number : ByteArray := prog_1_method_32_code
def yX5_number : MethodName := ⟨RX5, "number", "(I)I"⟩
def RX6 : String := "HourglassTagModel"
def TX6 : u_T := fun k => match k with
  | _ => ("", "", "", false)
def tyX6 : Nat → FieldType := fun k => match k with
  | _ => .int
abbrev wsX60 : List Cond := u_ws RX6 TX6 0
theorem nmX6 : ∀ a, a < 0 → ∀ b, b < 0 → a ≠ b → (TX6 a).2.1 ≠ (TX6 b).2.1 := by decide +kernel
theorem tyX6_ok : ∀ k, k < 0 → parseFieldDescriptor (TX6 k).2.2.1 = some (tyX6 k) := by decide +kernel
def RJ6 : String := "java/lang/Integer"
def TJ6 : u_T := fun k => match k with
  | _ => ("", "", "", false)
def tyJ6 : Nat → FieldType := fun k => match k with
  | _ => .int
abbrev wsJ60 : List Cond := u_ws RJ6 TJ6 0
theorem nmJ6 : ∀ a, a < 0 → ∀ b, b < 0 → a ≠ b → (TJ6 a).2.1 ≠ (TJ6 b).2.1 := by decide +kernel
theorem tyJ6_ok : ∀ k, k < 0 → parseFieldDescriptor (TJ6 k).2.2.1 = some (tyJ6 k) := by decide +kernel
abbrev cJ6_bitCount_0f7a4 : ByteArray := prog_13_method_49_code
def yJ6_bitCount_0f7a4 : MethodName := ⟨RJ6, "bitCount", "(I)I"⟩
def RJ9 : String := "java/lang/Math"
def TJ9 : u_T := fun k => match k with
  | _ => ("", "", "", false)
def tyJ9 : Nat → FieldType := fun k => match k with
  | _ => .int
abbrev wsJ90 : List Cond := u_ws RJ9 TJ9 0
theorem nmJ9 : ∀ a, a < 0 → ∀ b, b < 0 → a ≠ b → (TJ9 a).2.1 ≠ (TJ9 b).2.1 := by decide +kernel
theorem tyJ9_ok : ∀ k, k < 0 → parseFieldDescriptor (TJ9 k).2.2.1 = some (tyJ9 k) := by decide +kernel
abbrev cJ9_abs_0f7a4 : ByteArray := prog_14_method_59_code
def yJ9_abs_0f7a4 : MethodName := ⟨RJ9, "abs", "(I)I"⟩
abbrev cJ9_max_7cf53 : ByteArray := prog_14_method_65_code
def yJ9_max_7cf53 : MethodName := ⟨RJ9, "max", "(II)I"⟩
abbrev cJ9_min_7cf53 : ByteArray := prog_14_method_69_code
def yJ9_min_7cf53 : MethodName := ⟨RJ9, "min", "(II)I"⟩
def RJ0 : String := "java/lang/String"
def TJ0 : u_T := fun k => match k with
  | _ => ("", "", "", false)
def tyJ0 : Nat → FieldType := fun k => match k with
  | _ => .int
abbrev wsJ00 : List Cond := u_ws RJ0 TJ0 0
theorem nmJ0 : ∀ a, a < 0 → ∀ b, b < 0 → a ≠ b → (TJ0 a).2.1 ≠ (TJ0 b).2.1 := by decide +kernel
theorem tyJ0_ok : ∀ k, k < 0 → parseFieldDescriptor (TJ0 k).2.2.1 = some (tyJ0 k) := by decide +kernel
def RJ10 : String := "java/lang/System"
def TJ10 : u_T := fun k => match k with
  | _ => ("", "", "", false)
def tyJ10 : Nat → FieldType := fun k => match k with
  | _ => .int
abbrev wsJ100 : List Cond := u_ws RJ10 TJ10 0
theorem nmJ10 : ∀ a, a < 0 → ∀ b, b < 0 → a ≠ b → (TJ10 a).2.1 ≠ (TJ10 b).2.1 := by decide +kernel
theorem tyJ10_ok : ∀ k, k < 0 → parseFieldDescriptor (TJ10 k).2.2.1 = some (tyJ10 k) := by decide +kernel
def RL : String := "HourglassTagLaw"
abbrev cL_cell : ByteArray := method_2_code
def yL_cell : MethodName := ⟨RL, "cell", "([II)I"⟩
abbrev cL_low : ByteArray := method_3_code
def yL_low : MethodName := ⟨RL, "low", "(II)I"⟩
abbrev cL_size : ByteArray := method_4_code
def yL_size : MethodName := ⟨RL, "size", "(I)I"⟩
abbrev cL_sees : ByteArray := method_5_code
def yL_sees : MethodName := ⟨RL, "sees", "(LHourglassTag;II)Z"⟩
abbrev cL_stride : ByteArray := method_6_code
def yL_stride : MethodName := ⟨RL, "stride", "(LHourglassTag;II)I"⟩
abbrev cL_towers : ByteArray := method_7_code
def yL_towers : MethodName := ⟨RL, "towers", "(LHourglassTag;)Z"⟩
abbrev cL_reasons : ByteArray := method_8_code
def yL_reasons : MethodName := ⟨RL, "reasons", "(LHourglassTag;)Z"⟩
abbrev cL_moves : ByteArray := method_9_code
def yL_moves : MethodName := ⟨RL, "moves", "(LHourglassTag;II)Z"⟩
abbrev cL_law : ByteArray := code
def yL_law : MethodName := ⟨RL, "law", "([I)Z"⟩
abbrev vwCl : List vw_C := [(RX0, TX0, 17), (RX1, TX1, 3), (RX2, TX2, 2), (RX3, TX3, 4), (RX4, TX4, 4), (RX5, TX5, 7)]
