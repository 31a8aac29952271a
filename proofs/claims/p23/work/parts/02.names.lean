def RX0 : String := "BellHammer$Board"
def TX0 : u_T := fun k => match k with
  | 0 => ("BellHammer$Board", "heights", "[I", true)
  | _ => ("BellHammer$Board", "size", "I", false)
def tyX0 : Nat → FieldType := fun k => match k with
  | 0 => .array .int
  | _ => .int
abbrev wsX00 : List Cond := u_ws RX0 TX0 2
theorem nmX0 : ∀ a, a < 2 → ∀ b, b < 2 → a ≠ b → (TX0 a).2.1 ≠ (TX0 b).2.1 := by decide +kernel
theorem tyX0_ok : ∀ k, k < 2 → parseFieldDescriptor (TX0 k).2.2.1 = some (tyX0 k) := by decide +kernel
abbrev cX0_init : ByteArray := prog_2_method_1_code
def yX0_init : MethodName := ⟨RX0, "<init>", "()V"⟩
abbrev cX0_add : ByteArray := prog_2_method_2_code
def yX0_add : MethodName := ⟨RX0, "add", "(I)V"⟩
abbrev cX0_has : ByteArray := prog_2_method_3_code
def yX0_has : MethodName := ⟨RX0, "has", "(I)Z"⟩
abbrev cX0_heightAt : ByteArray := prog_2_method_4_code
def yX0_heightAt : MethodName := ⟨RX0, "heightAt", "(I)I"⟩
abbrev cX0_copyFrom : ByteArray := prog_2_method_6_code
def yX0_copyFrom : MethodName := ⟨RX0, "copyFrom", "(LBellHammer$Board;)V"⟩
def RX1 : String := "BellHammer$Code"
def TX1 : u_T := fun k => match k with
  | 0 => ("BellHammer$Code", "kinds", "[I", true)
  | 1 => ("BellHammer$Code", "arguments", "[I", true)
  | 2 => ("BellHammer$Code", "stack", "[I", true)
  | 3 => ("BellHammer$Code", "top", "I", false)
  | _ => ("BellHammer$Code", "size", "I", false)
def tyX1 : Nat → FieldType := fun k => match k with
  | 0 => .array .int
  | 1 => .array .int
  | 2 => .array .int
  | 3 => .int
  | _ => .int
abbrev wsX10 : List Cond := u_ws RX1 TX1 5
theorem nmX1 : ∀ a, a < 5 → ∀ b, b < 5 → a ≠ b → (TX1 a).2.1 ≠ (TX1 b).2.1 := by decide +kernel
theorem tyX1_ok : ∀ k, k < 5 → parseFieldDescriptor (TX1 k).2.2.1 = some (tyX1 k) := by decide +kernel
abbrev cX1_init : ByteArray := prog_3_method_1_code
def yX1_init : MethodName := ⟨RX1, "<init>", "()V"⟩
abbrev cX1_add : ByteArray := prog_3_method_2_code
def yX1_add : MethodName := ⟨RX1, "add", "(II)V"⟩
abbrev cX1_copyFrom : ByteArray := prog_3_method_3_code
def yX1_copyFrom : MethodName := ⟨RX1, "copyFrom", "(LBellHammer$Code;)V"⟩
abbrev cX1_reckon : ByteArray := prog_3_method_4_code
def yX1_reckon : MethodName := ⟨RX1, "reckon", "(IILBellHammer$Contest;)I"⟩
abbrev cX1_isJoining : ByteArray := prog_3_method_5_code
def yX1_isJoining : MethodName := ⟨RX1, "isJoining", "(I)Z"⟩
abbrev cX1_joined : ByteArray := prog_3_method_6_code
def yX1_joined : MethodName := ⟨RX1, "joined", "(III)I"⟩
abbrev cX1_compared : ByteArray := prog_3_method_7_code
def yX1_compared : MethodName := ⟨RX1, "compared", "(III)I"⟩
abbrev cX1_push : ByteArray := prog_3_method_8_code
def yX1_push : MethodName := ⟨RX1, "push", "(I)V"⟩
abbrev cX1_pop : ByteArray := prog_3_method_9_code
def yX1_pop : MethodName := ⟨RX1, "pop", "()I"⟩
def RX2 : String := "BellHammer$Contest"
def TX2 : u_T := fun k => match k with
  | 0 => ("BellHammer$Contest", "code", "LBellHammer$Code;", true)
  | 1 => ("BellHammer$Contest", "board", "LBellHammer$Board;", true)
  | 2 => ("BellHammer$Contest", "flight", "LBellHammer$Flight;", true)
  | 3 => ("BellHammer$Contest", "rails", "[LBellHammer$Rail;", true)
  | 4 => ("BellHammer$Contest", "fists", "[LBellHammer$Fist;", true)
  | 5 => ("BellHammer$Contest", "prizes", "[LBellHammer$Prize;", true)
  | 6 => ("BellHammer$Contest", "turns", "[LBellHammer$Turn;", true)
  | 7 => ("BellHammer$Contest", "row", "[I", true)
  | 8 => ("BellHammer$Contest", "railCount", "I", false)
  | 9 => ("BellHammer$Contest", "rustCount", "I", false)
  | 10 => ("BellHammer$Contest", "fistCount", "I", false)
  | 11 => ("BellHammer$Contest", "prizeCount", "I", false)
  | 12 => ("BellHammer$Contest", "turnCount", "I", false)
  | 13 => ("BellHammer$Contest", "round", "I", false)
  | 14 => ("BellHammer$Contest", "height", "I", false)
  | 15 => ("BellHammer$Contest", "bells", "I", false)
  | 16 => ("BellHammer$Contest", "strikes", "I", false)
  | 17 => ("BellHammer$Contest", "bellsInAll", "I", false)
  | _ => ("BellHammer$Contest", "given", "I", false)
def tyX2 : Nat → FieldType := fun k => match k with
  | 0 => .object "BellHammer$Code"
  | 1 => .object "BellHammer$Board"
  | 2 => .object "BellHammer$Flight"
  | 3 => .array (.object "BellHammer$Rail")
  | 4 => .array (.object "BellHammer$Fist")
  | 5 => .array (.object "BellHammer$Prize")
  | 6 => .array (.object "BellHammer$Turn")
  | 7 => .array .int
  | 8 => .int
  | 9 => .int
  | 10 => .int
  | 11 => .int
  | 12 => .int
  | 13 => .int
  | 14 => .int
  | 15 => .int
  | 16 => .int
  | 17 => .int
  | _ => .int
abbrev wsX20 : List Cond := u_ws RX2 TX2 19
theorem nmX2 : ∀ a, a < 19 → ∀ b, b < 19 → a ≠ b → (TX2 a).2.1 ≠ (TX2 b).2.1 := by decide +kernel
theorem tyX2_ok : ∀ k, k < 19 → parseFieldDescriptor (TX2 k).2.2.1 = some (tyX2 k) := by decide +kernel
abbrev cX2_init : ByteArray := prog_4_method_1_code
def yX2_init : MethodName := ⟨RX2, "<init>", "()V"⟩
abbrev cX2_clear : ByteArray := prog_4_method_2_code
def yX2_clear : MethodName := ⟨RX2, "clear", "()V"⟩
abbrev cX2_copyFrom : ByteArray := prog_4_method_3_code
def yX2_copyFrom : MethodName := ⟨RX2, "copyFrom", "(LBellHammer$Contest;)V"⟩
abbrev cX2_copyNumbers : ByteArray := prog_4_method_4_code
def yX2_copyNumbers : MethodName := ⟨RX2, "copyNumbers", "(LBellHammer$Contest;)V"⟩
abbrev cX2_hasRail : ByteArray := prog_4_method_5_code
def yX2_hasRail : MethodName := ⟨RX2, "hasRail", "(I)Z"⟩
abbrev cX2_hasFist : ByteArray := prog_4_method_6_code
def yX2_hasFist : MethodName := ⟨RX2, "hasFist", "(I)Z"⟩
abbrev cX2_hasPrize : ByteArray := prog_4_method_7_code
def yX2_hasPrize : MethodName := ⟨RX2, "hasPrize", "(I)Z"⟩
abbrev cX2_hasTurn : ByteArray := prog_4_method_8_code
def yX2_hasTurn : MethodName := ⟨RX2, "hasTurn", "(I)Z"⟩
abbrev cX2_railNamed : ByteArray := prog_4_method_9_code
def yX2_railNamed : MethodName := ⟨RX2, "railNamed", "(J)I"⟩
abbrev cX2_fistNamed : ByteArray := prog_4_method_10_code
def yX2_fistNamed : MethodName := ⟨RX2, "fistNamed", "(J)I"⟩
abbrev cX2_prizeNamed : ByteArray := prog_4_method_11_code
def yX2_prizeNamed : MethodName := ⟨RX2, "prizeNamed", "(J)I"⟩
abbrev cX2_addRail : ByteArray := prog_4_method_12_code
def yX2_addRail : MethodName := ⟨RX2, "addRail", "(JIII)V"⟩
abbrev cX2_addRust : ByteArray := prog_4_method_13_code
def yX2_addRust : MethodName := ⟨RX2, "addRust", "(IIII)V"⟩
abbrev cX2_addFist : ByteArray := prog_4_method_14_code
def yX2_addFist : MethodName := ⟨RX2, "addFist", "(JIII)V"⟩
abbrev cX2_addPrize : ByteArray := prog_4_method_15_code
def yX2_addPrize : MethodName := ⟨RX2, "addPrize", "(JIIII)V"⟩
abbrev cX2_addTurn : ByteArray := prog_4_method_16_code
def yX2_addTurn : MethodName := ⟨RX2, "addTurn", "(IIII)V"⟩
abbrev cX2_tellCountOf : ByteArray := prog_4_method_17_code
def yX2_tellCountOf : MethodName := ⟨RX2, "tellCountOf", "(I)I"⟩
abbrev cX2_tellRail : ByteArray := prog_4_method_18_code
def yX2_tellRail : MethodName := ⟨RX2, "tellRail", "(II)I"⟩
abbrev cX2_tellFist : ByteArray := prog_4_method_19_code
def yX2_tellFist : MethodName := ⟨RX2, "tellFist", "(II)I"⟩
abbrev cX2_placeOfPurse : ByteArray := prog_4_method_20_code
def yX2_placeOfPurse : MethodName := ⟨RX2, "placeOfPurse", "(I)I"⟩
abbrev cX2_tellPrize : ByteArray := prog_4_method_21_code
def yX2_tellPrize : MethodName := ⟨RX2, "tellPrize", "(II)I"⟩
abbrev cX2_tellTurn : ByteArray := prog_4_method_22_code
def yX2_tellTurn : MethodName := ⟨RX2, "tellTurn", "(II)I"⟩
abbrev cX2_placeInRow : ByteArray := prog_4_method_23_code
def yX2_placeInRow : MethodName := ⟨RX2, "placeInRow", "(I)I"⟩
abbrev cX2_allPurses : ByteArray := prog_4_method_24_code
def yX2_allPurses : MethodName := ⟨RX2, "allPurses", "()I"⟩
abbrev cX2_isDue : ByteArray := prog_4_method_25_code
def yX2_isDue : MethodName := ⟨RX2, "isDue", "(LBellHammer$Turn;)Z"⟩
abbrev cX2_reading : ByteArray := prog_4_method_26_code
def yX2_reading : MethodName := ⟨RX2, "reading", "(II)I"⟩
abbrev cX2_flightWithArm : ByteArray := prog_4_method_28_code
def yX2_flightWithArm : MethodName := ⟨RX2, "flightWithArm", "(III)LBellHammer$Flight;"⟩
abbrev cX2_changeSpring : ByteArray := prog_4_method_29_code
def yX2_changeSpring : MethodName := ⟨RX2, "changeSpring", "(II)I"⟩
abbrev cX2_hit : ByteArray := prog_4_method_30_code
def yX2_hit : MethodName := ⟨RX2, "hit", "(II)V"⟩
abbrev cX2_giveTo : ByteArray := prog_4_method_31_code
def yX2_giveTo : MethodName := ⟨RX2, "giveTo", "(LBellHammer$Fist;)V"⟩
abbrev cX2_play : ByteArray := prog_4_method_32_code
def yX2_play : MethodName := ⟨RX2, "play", "(I)V"⟩
abbrev cX2_useElbows : ByteArray := prog_4_method_33_code
def yX2_useElbows : MethodName := ⟨RX2, "useElbows", "()V"⟩
abbrev cX2_takeTurns : ByteArray := prog_4_method_34_code
def yX2_takeTurns : MethodName := ⟨RX2, "takeTurns", "()V"⟩
abbrev cX2_fistInRow : ByteArray := prog_4_method_35_code
def yX2_fistInRow : MethodName := ⟨RX2, "fistInRow", "(I)I"⟩
abbrev cX2_digestBehind : ByteArray := prog_4_method_36_code
def yX2_digestBehind : MethodName := ⟨RX2, "digestBehind", "(J)J"⟩
def RX3 : String := "BellHammer$Fist"
def TX3 : u_T := fun k => match k with
  | 0 => ("BellHammer$Fist", "name", "J", false)
  | 1 => ("BellHammer$Fist", "arm", "I", false)
  | 2 => ("BellHammer$Fist", "aim", "I", false)
  | 3 => ("BellHammer$Fist", "elbows", "I", false)
  | 4 => ("BellHammer$Fist", "sore", "I", false)
  | 5 => ("BellHammer$Fist", "purse", "I", false)
  | 6 => ("BellHammer$Fist", "strikes", "I", false)
  | 7 => ("BellHammer$Fist", "best", "I", false)
  | 8 => ("BellHammer$Fist", "bells", "I", false)
  | _ => ("BellHammer$Fist", "struckThisRound", "Z", false)
def tyX3 : Nat → FieldType := fun k => match k with
  | 0 => .long
  | 1 => .int
  | 2 => .int
  | 3 => .int
  | 4 => .int
  | 5 => .int
  | 6 => .int
  | 7 => .int
  | 8 => .int
  | _ => .boolean
abbrev wsX30 : List Cond := u_ws RX3 TX3 10
theorem nmX3 : ∀ a, a < 10 → ∀ b, b < 10 → a ≠ b → (TX3 a).2.1 ≠ (TX3 b).2.1 := by decide +kernel
theorem tyX3_ok : ∀ k, k < 10 → parseFieldDescriptor (TX3 k).2.2.1 = some (tyX3 k) := by decide +kernel
abbrev cX3_init : ByteArray := prog_5_method_1_code
def yX3_init : MethodName := ⟨RX3, "<init>", "()V"⟩
abbrev cX3_tell : ByteArray := prog_5_method_2_code
def yX3_tell : MethodName := ⟨RX3, "tell", "(JIII)V"⟩
abbrev cX3_forceWithArm : ByteArray := prog_5_method_3_code
def yX3_forceWithArm : MethodName := ⟨RX3, "forceWithArm", "(I)I"⟩
abbrev cX3_endRound : ByteArray := prog_5_method_4_code
def yX3_endRound : MethodName := ⟨RX3, "endRound", "()V"⟩
abbrev cX3_copyFrom : ByteArray := prog_5_method_5_code
def yX3_copyFrom : MethodName := ⟨RX3, "copyFrom", "(LBellHammer$Fist;)V"⟩
def RX4 : String := "BellHammer$Flight"
def TX4 : u_T := fun k => match k with
  | 0 => ("BellHammer$Flight", "places", "[I", true)
  | 1 => ("BellHammer$Flight", "height", "I", false)
  | 2 => ("BellHammer$Flight", "bells", "I", false)
  | 3 => ("BellHammer$Flight", "ticks", "I", false)
  | 4 => ("BellHammer$Flight", "place", "I", false)
  | 5 => ("BellHammer$Flight", "speed", "I", false)
  | _ => ("BellHammer$Flight", "over", "Z", false)
def tyX4 : Nat → FieldType := fun k => match k with
  | 0 => .array .int
  | 1 => .int
  | 2 => .int
  | 3 => .int
  | 4 => .int
  | 5 => .int
  | _ => .boolean
abbrev wsX40 : List Cond := u_ws RX4 TX4 7
theorem nmX4 : ∀ a, a < 7 → ∀ b, b < 7 → a ≠ b → (TX4 a).2.1 ≠ (TX4 b).2.1 := by decide +kernel
theorem tyX4_ok : ∀ k, k < 7 → parseFieldDescriptor (TX4 k).2.2.1 = some (tyX4 k) := by decide +kernel
abbrev cX4_init : ByteArray := prog_6_method_1_code
def yX4_init : MethodName := ⟨RX4, "<init>", "()V"⟩
abbrev cX4_fly : ByteArray := prog_6_method_2_code
def yX4_fly : MethodName := ⟨RX4, "fly", "(LBellHammer$Rail;I)V"⟩
abbrev cX4_move : ByteArray := prog_6_method_3_code
def yX4_move : MethodName := ⟨RX4, "move", "(LBellHammer$Rail;)V"⟩
def RX5 : String := "BellHammer$Prize"
def TX5 : u_T := fun k => match k with
  | 0 => ("BellHammer$Prize", "name", "J", false)
  | 1 => ("BellHammer$Prize", "left", "I", false)
  | 2 => ("BellHammer$Prize", "given", "I", false)
  | 3 => ("BellHammer$Prize", "worthFrom", "I", false)
  | 4 => ("BellHammer$Prize", "testFrom", "I", false)
  | _ => ("BellHammer$Prize", "testTo", "I", false)
def tyX5 : Nat → FieldType := fun k => match k with
  | 0 => .long
  | 1 => .int
  | 2 => .int
  | 3 => .int
  | 4 => .int
  | _ => .int
abbrev wsX50 : List Cond := u_ws RX5 TX5 6
theorem nmX5 : ∀ a, a < 6 → ∀ b, b < 6 → a ≠ b → (TX5 a).2.1 ≠ (TX5 b).2.1 := by decide +kernel
theorem tyX5_ok : ∀ k, k < 6 → parseFieldDescriptor (TX5 k).2.2.1 = some (tyX5 k) := by decide +kernel
abbrev cX5_init : ByteArray := prog_7_method_1_code
def yX5_init : MethodName := ⟨RX5, "<init>", "()V"⟩
abbrev cX5_tell : ByteArray := prog_7_method_2_code
def yX5_tell : MethodName := ⟨RX5, "tell", "(JIIII)V"⟩
abbrev cX5_copyFrom : ByteArray := prog_7_method_3_code
def yX5_copyFrom : MethodName := ⟨RX5, "copyFrom", "(LBellHammer$Prize;)V"⟩
def RX6 : String := "BellHammer$Rail"
def TX6 : u_T := fun k => match k with
  | 0 => ("BellHammer$Rail", "rust", "[I", true)
  | 1 => ("BellHammer$Rail", "name", "J", false)
  | 2 => ("BellHammer$Rail", "high", "I", false)
  | 3 => ("BellHammer$Rail", "puck", "I", false)
  | 4 => ("BellHammer$Rail", "spring", "I", false)
  | 5 => ("BellHammer$Rail", "best", "I", false)
  | _ => ("BellHammer$Rail", "strikes", "I", false)
def tyX6 : Nat → FieldType := fun k => match k with
  | 0 => .array .int
  | 1 => .long
  | 2 => .int
  | 3 => .int
  | 4 => .int
  | 5 => .int
  | _ => .int
abbrev wsX60 : List Cond := u_ws RX6 TX6 7
theorem nmX6 : ∀ a, a < 7 → ∀ b, b < 7 → a ≠ b → (TX6 a).2.1 ≠ (TX6 b).2.1 := by decide +kernel
theorem tyX6_ok : ∀ k, k < 7 → parseFieldDescriptor (TX6 k).2.2.1 = some (tyX6 k) := by decide +kernel
abbrev cX6_init : ByteArray := prog_8_method_1_code
def yX6_init : MethodName := ⟨RX6, "<init>", "()V"⟩
abbrev cX6_tell : ByteArray := prog_8_method_2_code
def yX6_tell : MethodName := ⟨RX6, "tell", "(JIII)V"⟩
abbrev cX6_addRust : ByteArray := prog_8_method_3_code
def yX6_addRust : MethodName := ⟨RX6, "addRust", "(III)V"⟩
abbrev cX6_rustAt : ByteArray := prog_8_method_4_code
def yX6_rustAt : MethodName := ⟨RX6, "rustAt", "(I)I"⟩
abbrev cX6_copyFrom : ByteArray := prog_8_method_5_code
def yX6_copyFrom : MethodName := ⟨RX6, "copyFrom", "(LBellHammer$Rail;)V"⟩
def RX7 : String := "BellHammer$Reader"
def TX7 : u_T := fun k => match k with
  | 0 => ("BellHammer$Reader", "tokens", "LBellHammer$Tokens;", true)
  | 1 => ("BellHammer$Reader", "contest", "LBellHammer$Contest;", false)
  | 2 => ("BellHammer$Reader", "next", "I", false)
  | 3 => ("BellHammer$Reader", "error", "I", false)
  | _ => ("BellHammer$Reader", "errorByte", "I", false)
def tyX7 : Nat → FieldType := fun k => match k with
  | 0 => .object "BellHammer$Tokens"
  | 1 => .object "BellHammer$Contest"
  | 2 => .int
  | 3 => .int
  | _ => .int
abbrev wsX70 : List Cond := u_ws RX7 TX7 5
theorem nmX7 : ∀ a, a < 5 → ∀ b, b < 5 → a ≠ b → (TX7 a).2.1 ≠ (TX7 b).2.1 := by decide +kernel
theorem tyX7_ok : ∀ k, k < 5 → parseFieldDescriptor (TX7 k).2.2.1 = some (tyX7 k) := by decide +kernel
abbrev cX7_init : ByteArray := prog_9_method_1_code
def yX7_init : MethodName := ⟨RX7, "<init>", "(LBellHammer$Tokens;LBellHammer$Contest;)V"⟩
abbrev cX7_errorAtByte : ByteArray := prog_9_method_2_code
def yX7_errorAtByte : MethodName := ⟨RX7, "errorAtByte", "()I"⟩
abbrev cX7_readBill : ByteArray := prog_9_method_3_code
def yX7_readBill : MethodName := ⟨RX7, "readBill", "(LBellHammer$Contest;)I"⟩
abbrev cX7_readRail : ByteArray := prog_9_method_4_code
def yX7_readRail : MethodName := ⟨RX7, "readRail", "()V"⟩
abbrev cX7_readRust : ByteArray := prog_9_method_5_code
def yX7_readRust : MethodName := ⟨RX7, "readRust", "()V"⟩
abbrev cX7_readFist : ByteArray := prog_9_method_6_code
def yX7_readFist : MethodName := ⟨RX7, "readFist", "()V"⟩
abbrev cX7_readPrize : ByteArray := prog_9_method_7_code
def yX7_readPrize : MethodName := ⟨RX7, "readPrize", "()V"⟩
abbrev cX7_readTurn : ByteArray := prog_9_method_8_code
def yX7_readTurn : MethodName := ⟨RX7, "readTurn", "()V"⟩
abbrev cX7_readTest : ByteArray := prog_9_method_9_code
def yX7_readTest : MethodName := ⟨RX7, "readTest", "(I)V"⟩
abbrev cX7_readBoth : ByteArray := prog_9_method_10_code
def yX7_readBoth : MethodName := ⟨RX7, "readBoth", "(I)V"⟩
abbrev cX7_readSingle : ByteArray := prog_9_method_11_code
def yX7_readSingle : MethodName := ⟨RX7, "readSingle", "(I)V"⟩
abbrev cX7_comparingSign : ByteArray := prog_9_method_12_code
def yX7_comparingSign : MethodName := ⟨RX7, "comparingSign", "()I"⟩
abbrev cX7_readSum : ByteArray := prog_9_method_13_code
def yX7_readSum : MethodName := ⟨RX7, "readSum", "(I)V"⟩
abbrev cX7_readProduct : ByteArray := prog_9_method_14_code
def yX7_readProduct : MethodName := ⟨RX7, "readProduct", "(I)V"⟩
abbrev cX7_readValue : ByteArray := prog_9_method_15_code
def yX7_readValue : MethodName := ⟨RX7, "readValue", "(I)V"⟩
abbrev cX7_readPair : ByteArray := prog_9_method_16_code
def yX7_readPair : MethodName := ⟨RX7, "readPair", "(II)V"⟩
abbrev cX7_readPlainValue : ByteArray := prog_9_method_17_code
def yX7_readPlainValue : MethodName := ⟨RX7, "readPlainValue", "(I)V"⟩
abbrev cX7_readNamedValue : ByteArray := prog_9_method_18_code
def yX7_readNamedValue : MethodName := ⟨RX7, "readNamedValue", "(I)V"⟩
abbrev cX7_indexOf : ByteArray := prog_9_method_19_code
def yX7_indexOf : MethodName := ⟨RX7, "indexOf", "(IJ)I"⟩
abbrev cX7_expectNewName : ByteArray := prog_9_method_20_code
def yX7_expectNewName : MethodName := ⟨RX7, "expectNewName", "(ZZ)V"⟩
abbrev cX7_knownName : ByteArray := prog_9_method_21_code
def yX7_knownName : MethodName := ⟨RX7, "knownName", "(I)I"⟩
abbrev cX7_numberBehind : ByteArray := prog_9_method_22_code
def yX7_numberBehind : MethodName := ⟨RX7, "numberBehind", "(III)I"⟩
abbrev cX7_numberOfTo : ByteArray := prog_9_method_23_code
def yX7_numberOfTo : MethodName := ⟨RX7, "numberOfTo", "(I)I"⟩
abbrev cX7_kind : ByteArray := prog_9_method_24_code
def yX7_kind : MethodName := ⟨RX7, "kind", "()I"⟩
abbrev cX7_value : ByteArray := prog_9_method_25_code
def yX7_value : MethodName := ⟨RX7, "value", "()J"⟩
abbrev cX7_expect : ByteArray := prog_9_method_26_code
def yX7_expect : MethodName := ⟨RX7, "expect", "(I)V"⟩
abbrev cX7_goesDeeper : ByteArray := prog_9_method_27_code
def yX7_goesDeeper : MethodName := ⟨RX7, "goesDeeper", "(II)Z"⟩
abbrev cX7_refuse : ByteArray := prog_9_method_28_code
def yX7_refuse : MethodName := ⟨RX7, "refuse", "()V"⟩
abbrev cX7_blame : ByteArray := prog_9_method_29_code
def yX7_blame : MethodName := ⟨RX7, "blame", "(I)V"⟩
def RX8 : String := "BellHammer$Tape"
def TX8 : u_T := fun k => match k with
  | 0 => ("BellHammer$Tape", "bytes", "[I", true)
  | _ => ("BellHammer$Tape", "length", "I", false)
def tyX8 : Nat → FieldType := fun k => match k with
  | 0 => .array .int
  | _ => .int
abbrev wsX80 : List Cond := u_ws RX8 TX8 2
theorem nmX8 : ∀ a, a < 2 → ∀ b, b < 2 → a ≠ b → (TX8 a).2.1 ≠ (TX8 b).2.1 := by decide +kernel
theorem tyX8_ok : ∀ k, k < 2 → parseFieldDescriptor (TX8 k).2.2.1 = some (tyX8 k) := by decide +kernel
abbrev cX8_init : ByteArray := prog_10_method_1_code
def yX8_init : MethodName := ⟨RX8, "<init>", "()V"⟩
abbrev cX8_hasRoomFor : ByteArray := prog_10_method_2_code
def yX8_hasRoomFor : MethodName := ⟨RX8, "hasRoomFor", "(I)Z"⟩
abbrev cX8_addNumber : ByteArray := prog_10_method_3_code
def yX8_addNumber : MethodName := ⟨RX8, "addNumber", "(I)V"⟩
abbrev cX8_shortenTo : ByteArray := prog_10_method_4_code
def yX8_shortenTo : MethodName := ⟨RX8, "shortenTo", "(I)V"⟩
abbrev cX8_byteAt : ByteArray := prog_10_method_5_code
def yX8_byteAt : MethodName := ⟨RX8, "byteAt", "(I)I"⟩
def RX9 : String := "BellHammer$Tokens"
def TX9 : u_T := fun k => match k with
  | 0 => ("BellHammer$Tokens", "kinds", "[I", true)
  | 1 => ("BellHammer$Tokens", "starts", "[I", true)
  | 2 => ("BellHammer$Tokens", "values", "[J", true)
  | 3 => ("BellHammer$Tokens", "keywordCodes", "[J", true)
  | _ => ("BellHammer$Tokens", "count", "I", false)
def tyX9 : Nat → FieldType := fun k => match k with
  | 0 => .array .int
  | 1 => .array .int
  | 2 => .array .long
  | 3 => .array .long
  | _ => .int
abbrev wsX90 : List Cond := u_ws RX9 TX9 5
theorem nmX9 : ∀ a, a < 5 → ∀ b, b < 5 → a ≠ b → (TX9 a).2.1 ≠ (TX9 b).2.1 := by decide +kernel
theorem tyX9_ok : ∀ k, k < 5 → parseFieldDescriptor (TX9 k).2.2.1 = some (tyX9 k) := by decide +kernel
abbrev cX9_init : ByteArray := prog_11_method_1_code
def yX9_init : MethodName := ⟨RX9, "<init>", "()V"⟩
abbrev cX9_kindAt : ByteArray := prog_11_method_2_code
def yX9_kindAt : MethodName := ⟨RX9, "kindAt", "(I)I"⟩
abbrev cX9_startAt : ByteArray := prog_11_method_3_code
def yX9_startAt : MethodName := ⟨RX9, "startAt", "(I)I"⟩
abbrev cX9_valueAt : ByteArray := prog_11_method_4_code
def yX9_valueAt : MethodName := ⟨RX9, "valueAt", "(I)J"⟩
abbrev cX9_readAll : ByteArray := prog_11_method_5_code
def yX9_readAll : MethodName := ⟨RX9, "readAll", "(LBellHammer$Tape;)V"⟩
abbrev cX9_behindBlanks : ByteArray := prog_11_method_6_code
def yX9_behindBlanks : MethodName := ⟨RX9, "behindBlanks", "(LBellHammer$Tape;I)I"⟩
abbrev cX9_readToken : ByteArray := prog_11_method_7_code
def yX9_readToken : MethodName := ⟨RX9, "readToken", "(LBellHammer$Tape;I)I"⟩
abbrev cX9_readWord : ByteArray := prog_11_method_8_code
def yX9_readWord : MethodName := ⟨RX9, "readWord", "(LBellHammer$Tape;I)I"⟩
abbrev cX9_readNumber : ByteArray := prog_11_method_9_code
def yX9_readNumber : MethodName := ⟨RX9, "readNumber", "(LBellHammer$Tape;I)I"⟩
abbrev cX9_readSymbol : ByteArray := prog_11_method_10_code
def yX9_readSymbol : MethodName := ⟨RX9, "readSymbol", "(ILBellHammer$Tape;I)I"⟩
abbrev cX9_addToken : ByteArray := prog_11_method_11_code
def yX9_addToken : MethodName := ⟨RX9, "addToken", "(IIJ)V"⟩
abbrev cX9_kindOfWord : ByteArray := prog_11_method_12_code
def yX9_kindOfWord : MethodName := ⟨RX9, "kindOfWord", "(J)I"⟩
abbrev cX9_codesOf : ByteArray := prog_11_method_13_code
def yX9_codesOf : MethodName := ⟨RX9, "codesOf", "(Ljava/lang/String;)[J"⟩
abbrev cX9_withSign : ByteArray := prog_11_method_14_code
def yX9_withSign : MethodName := ⟨RX9, "withSign", "(JI)J"⟩
abbrev cX9_isBlank : ByteArray := prog_11_method_15_code
def yX9_isBlank : MethodName := ⟨RX9, "isBlank", "(I)Z"⟩
abbrev cX9_isLetter : ByteArray := prog_11_method_16_code
def yX9_isLetter : MethodName := ⟨RX9, "isLetter", "(I)Z"⟩
abbrev cX9_isDigit : ByteArray := prog_11_method_17_code
def yX9_isDigit : MethodName := ⟨RX9, "isDigit", "(I)Z"⟩
abbrev cX9_isLetterOrDigit : ByteArray := prog_11_method_18_code
def yX9_isLetterOrDigit : MethodName := ⟨RX9, "isLetterOrDigit", "(I)Z"⟩
abbrev cX9_isSymbol : ByteArray := prog_11_method_19_code
def yX9_isSymbol : MethodName := ⟨RX9, "isSymbol", "(I)Z"⟩
def RX10 : String := "BellHammer$Turn"
def TX10 : u_T := fun k => match k with
  | 0 => ("BellHammer$Turn", "fist", "I", false)
  | 1 => ("BellHammer$Turn", "rail", "I", false)
  | 2 => ("BellHammer$Turn", "testFrom", "I", false)
  | _ => ("BellHammer$Turn", "testTo", "I", false)
def tyX10 : Nat → FieldType := fun k => match k with
  | 0 => .int
  | 1 => .int
  | 2 => .int
  | _ => .int
abbrev wsX100 : List Cond := u_ws RX10 TX10 4
theorem nmX10 : ∀ a, a < 4 → ∀ b, b < 4 → a ≠ b → (TX10 a).2.1 ≠ (TX10 b).2.1 := by decide +kernel
theorem tyX10_ok : ∀ k, k < 4 → parseFieldDescriptor (TX10 k).2.2.1 = some (tyX10 k) := by decide +kernel
abbrev cX10_init : ByteArray := prog_12_method_1_code
def yX10_init : MethodName := ⟨RX10, "<init>", "()V"⟩
abbrev cX10_tell : ByteArray := prog_12_method_2_code
def yX10_tell : MethodName := ⟨RX10, "tell", "(IIII)V"⟩
abbrev cX10_copyFrom : ByteArray := prog_12_method_3_code
def yX10_copyFrom : MethodName := ⟨RX10, "copyFrom", "(LBellHammer$Turn;)V"⟩
def RX11 : String := "BellHammer"
def TX11 : u_T := fun k => match k with
  | 0 => ("BellHammer", "tape", "LBellHammer$Tape;", true)
  | 1 => ("BellHammer", "tokens", "LBellHammer$Tokens;", true)
  | 2 => ("BellHammer", "reader", "LBellHammer$Reader;", true)
  | 3 => ("BellHammer", "now", "LBellHammer$Contest;", false)
  | 4 => ("BellHammer", "other", "LBellHammer$Contest;", false)
  | _ => ("BellHammer", "errorPosition", "I", false)
def tyX11 : Nat → FieldType := fun k => match k with
  | 0 => .object "BellHammer$Tape"
  | 1 => .object "BellHammer$Tokens"
  | 2 => .object "BellHammer$Reader"
  | 3 => .object "BellHammer$Contest"
  | 4 => .object "BellHammer$Contest"
  | _ => .int
abbrev wsX110 : List Cond := u_ws RX11 TX11 6
theorem nmX11 : ∀ a, a < 6 → ∀ b, b < 6 → a ≠ b → (TX11 a).2.1 ≠ (TX11 b).2.1 := by decide +kernel
theorem tyX11_ok : ∀ k, k < 6 → parseFieldDescriptor (TX11 k).2.2.1 = some (tyX11 k) := by decide +kernel
abbrev cX11_init : ByteArray := prog_1_method_1_code
def yX11_init : MethodName := ⟨RX11, "<init>", "()V"⟩
abbrev cX11_feed : ByteArray := prog_1_method_2_code
def yX11_feed : MethodName := ⟨RX11, "feed", "(IIIII)I"⟩
abbrev cX11_trim : ByteArray := prog_1_method_3_code
def yX11_trim : MethodName := ⟨RX11, "trim", "(I)I"⟩
abbrev cX11_teach : ByteArray := prog_1_method_4_code
def yX11_teach : MethodName := ⟨RX11, "teach", "()I"⟩
abbrev cX11_count : ByteArray := prog_1_method_6_code
def yX11_count : MethodName := ⟨RX11, "count", "(I)I"⟩
abbrev cX11_rail : ByteArray := prog_1_method_7_code
def yX11_rail : MethodName := ⟨RX11, "rail", "(II)I"⟩
abbrev cX11_fist : ByteArray := prog_1_method_8_code
def yX11_fist : MethodName := ⟨RX11, "fist", "(II)I"⟩
abbrev cX11_prize : ByteArray := prog_1_method_9_code
def yX11_prize : MethodName := ⟨RX11, "prize", "(II)I"⟩
abbrev cX11_strike : ByteArray := prog_1_method_12_code
def yX11_strike : MethodName := ⟨RX11, "strike", "(II)I"⟩
abbrev cX11_wind : ByteArray := prog_1_method_13_code
def yX11_wind : MethodName := ⟨RX11, "wind", "(II)I"⟩
abbrev cX11_pass : ByteArray := prog_1_method_14_code
def yX11_pass : MethodName := ⟨RX11, "pass", "(I)I"⟩
abbrev cX11_needs : ByteArray := prog_1_method_17_code
def yX11_needs : MethodName := ⟨RX11, "needs", "(II)I"⟩
abbrev cX11_foresee : ByteArray := prog_1_method_18_code
def yX11_foresee : MethodName := ⟨RX11, "foresee", "(II)I"⟩
abbrev cX11_digest : ByteArray := prog_1_method_21_code
def yX11_digest : MethodName := ⟨RX11, "digest", "()J"⟩
abbrev cX11_tellCount : ByteArray := prog_1_method_22_code
def yX11_tellCount : MethodName := ⟨RX11, "tellCount", "(I)I"⟩
def RX12 : String := "BellHammerModel$Bill"
def TX12 : u_T := fun k => match k with
  | _ => ("", "", "", false)
def tyX12 : Nat → FieldType := fun k => match k with
  | _ => .int
abbrev wsX120 : List Cond := u_ws RX12 TX12 0
theorem nmX12 : ∀ a, a < 0 → ∀ b, b < 0 → a ≠ b → (TX12 a).2.1 ≠ (TX12 b).2.1 := by decide +kernel
theorem tyX12_ok : ∀ k, k < 0 → parseFieldDescriptor (TX12 k).2.2.1 = some (tyX12 k) := by decide +kernel
def RX13 : String := "BellHammerModel$State"
def TX13 : u_T := fun k => match k with
  | _ => ("", "", "", false)
def tyX13 : Nat → FieldType := fun k => match k with
  | _ => .int
abbrev wsX130 : List Cond := u_ws RX13 TX13 0
theorem nmX13 : ∀ a, a < 0 → ∀ b, b < 0 → a ≠ b → (TX13 a).2.1 ≠ (TX13 b).2.1 := by decide +kernel
theorem tyX13_ok : ∀ k, k < 0 → parseFieldDescriptor (TX13 k).2.2.1 = some (tyX13 k) := by decide +kernel
def RX14 : String := "BellHammerModel"
def TX14 : u_T := fun k => match k with
  | _ => ("", "", "", false)
def tyX14 : Nat → FieldType := fun k => match k with
  | _ => .int
abbrev wsX140 : List Cond := u_ws RX14 TX14 0
theorem nmX14 : ∀ a, a < 0 → ∀ b, b < 0 → a ≠ b → (TX14 a).2.1 ≠ (TX14 b).2.1 := by decide +kernel
theorem tyX14_ok : ∀ k, k < 0 → parseFieldDescriptor (TX14 k).2.2.1 = some (tyX14 k) := by decide +kernel
def RJ9 : String := "java/lang/Math"
def TJ9 : u_T := fun k => match k with
  | _ => ("", "", "", false)
def tyJ9 : Nat → FieldType := fun k => match k with
  | _ => .int
abbrev wsJ90 : List Cond := u_ws RJ9 TJ9 0
theorem nmJ9 : ∀ a, a < 0 → ∀ b, b < 0 → a ≠ b → (TJ9 a).2.1 ≠ (TJ9 b).2.1 := by decide +kernel
theorem tyJ9_ok : ∀ k, k < 0 → parseFieldDescriptor (TJ9 k).2.2.1 = some (tyJ9 k) := by decide +kernel
abbrev cJ9_max_7cf53 : ByteArray := prog_21_method_65_code
def yJ9_max_7cf53 : MethodName := ⟨RJ9, "max", "(II)I"⟩
abbrev cJ9_min_7cf53 : ByteArray := prog_21_method_69_code
def yJ9_min_7cf53 : MethodName := ⟨RJ9, "min", "(II)I"⟩
def RJ0 : String := "java/lang/String"
def TJ0 : u_T := fun k => match k with
  | _ => ("", "", "", false)
def tyJ0 : Nat → FieldType := fun k => match k with
  | _ => .int
abbrev wsJ00 : List Cond := u_ws RJ0 TJ0 0
theorem nmJ0 : ∀ a, a < 0 → ∀ b, b < 0 → a ≠ b → (TJ0 a).2.1 ≠ (TJ0 b).2.1 := by decide +kernel
theorem tyJ0_ok : ∀ k, k < 0 → parseFieldDescriptor (TJ0 k).2.2.1 = some (tyJ0 k) := by decide +kernel
abbrev cJ0_length_8abf5 : ByteArray := prog_23_method_54_code
def yJ0_length_8abf5 : MethodName := ⟨RJ0, "length", "()I"⟩
abbrev cJ0_charAt_5068e : ByteArray := prog_23_method_56_code
def yJ0_charAt_5068e : MethodName := ⟨RJ0, "charAt", "(I)C"⟩
abbrev cJ0_coder_7d493 : ByteArray := prog_23_method_152_code
def yJ0_coder_7d493 : MethodName := ⟨RJ0, "coder", "()B"⟩
abbrev cJ0_isLatin1_aae02 : ByteArray := prog_23_method_154_code
def yJ0_isLatin1_aae02 : MethodName := ⟨RJ0, "isLatin1", "()Z"⟩
abbrev cJ0_checkIndex_df160 : ByteArray := prog_23_method_155_code
def yJ0_checkIndex_df160 : MethodName := ⟨RJ0, "checkIndex", "(II)V"⟩
def RJ1 : String := "java/lang/StringLatin1"
def TJ1 : u_T := fun k => match k with
  | _ => ("", "", "", false)
def tyJ1 : Nat → FieldType := fun k => match k with
  | _ => .int
abbrev wsJ10 : List Cond := u_ws RJ1 TJ1 0
theorem nmJ1 : ∀ a, a < 0 → ∀ b, b < 0 → a ≠ b → (TJ1 a).2.1 ≠ (TJ1 b).2.1 := by decide +kernel
theorem tyJ1_ok : ∀ k, k < 0 → parseFieldDescriptor (TJ1 k).2.2.1 = some (tyJ1 k) := by decide +kernel
abbrev cJ1_charAt_3b067 : ByteArray := prog_24_method_2_code
def yJ1_charAt_3b067 : MethodName := ⟨RJ1, "charAt", "([BI)C"⟩
def RJ2 : String := "java/lang/StringUTF16"
def TJ2 : u_T := fun k => match k with
  | _ => ("", "", "", false)
def tyJ2 : Nat → FieldType := fun k => match k with
  | _ => .int
abbrev wsJ20 : List Cond := u_ws RJ2 TJ2 0
theorem nmJ2 : ∀ a, a < 0 → ∀ b, b < 0 → a ≠ b → (TJ2 a).2.1 ≠ (TJ2 b).2.1 := by decide +kernel
theorem tyJ2_ok : ∀ k, k < 0 → parseFieldDescriptor (TJ2 k).2.2.1 = some (tyJ2 k) := by decide +kernel
abbrev cJ2_getChar_3b067 : ByteArray := prog_25_method_5_code
def yJ2_getChar_3b067 : MethodName := ⟨RJ2, "getChar", "([BI)C"⟩
abbrev cJ2_length_9d52b : ByteArray := prog_25_method_6_code
def yJ2_length_9d52b : MethodName := ⟨RJ2, "length", "([B)I"⟩
abbrev cJ2_charAt_3b067 : ByteArray := prog_25_method_83_code
def yJ2_charAt_3b067 : MethodName := ⟨RJ2, "charAt", "([BI)C"⟩
abbrev cJ2_checkIndex_2214a : ByteArray := prog_25_method_91_code
def yJ2_checkIndex_2214a : MethodName := ⟨RJ2, "checkIndex", "(I[B)V"⟩
def RJ3 : String := "jdk/internal/util/Preconditions"
def TJ3 : u_T := fun k => match k with
  | _ => ("", "", "", false)
def tyJ3 : Nat → FieldType := fun k => match k with
  | _ => .int
abbrev wsJ30 : List Cond := u_ws RJ3 TJ3 0
theorem nmJ3 : ∀ a, a < 0 → ∀ b, b < 0 → a ≠ b → (TJ3 a).2.1 ≠ (TJ3 b).2.1 := by decide +kernel
theorem tyJ3_ok : ∀ k, k < 0 → parseFieldDescriptor (TJ3 k).2.2.1 = some (tyJ3 k) := by decide +kernel
abbrev cJ3_checkIndex_8e157 : ByteArray := prog_27_method_11_code
def yJ3_checkIndex_8e157 : MethodName := ⟨RJ3, "checkIndex", "(IILjava/util/function/BiFunction;)I"⟩
def RL : String := "BellHammerLaw"
abbrev cL_below : ByteArray := method_2_code
def yL_below : MethodName := ⟨RL, "below", "(II)I"⟩
abbrev cL_cell : ByteArray := method_3_code
def yL_cell : MethodName := ⟨RL, "cell", "([II)I"⟩
abbrev cL_letter : ByteArray := method_4_code
def yL_letter : MethodName := ⟨RL, "letter", "(Ljava/lang/String;I)I"⟩
abbrev cL_four : ByteArray := method_5_code
def yL_four : MethodName := ⟨RL, "four", "(Ljava/lang/String;I)I"⟩
abbrev cL_say : ByteArray := method_6_code
def yL_say : MethodName := ⟨RL, "say", "(LBellHammer;Ljava/lang/String;)V"⟩
abbrev cL_number : ByteArray := method_7_code
def yL_number : MethodName := ⟨RL, "number", "(LBellHammer;I)V"⟩
abbrev cL_contest : ByteArray := method_8_code
def yL_contest : MethodName := ⟨RL, "contest", "([I)LBellHammer;"⟩
abbrev cL_law : ByteArray := code
def yL_law : MethodName := ⟨RL, "law", "([I)Z"⟩
abbrev vwCl : List vw_C := [(RX0, TX0, 2), (RX1, TX1, 5), (RX2, TX2, 19), (RX3, TX3, 10), (RX4, TX4, 7), (RX5, TX5, 6), (RX6, TX6, 7), (RX7, TX7, 5), (RX8, TX8, 2), (RX9, TX9, 5), (RX10, TX10, 4), (RX11, TX11, 6)]
/-- the words that every method is given: those of the tables that hold in every state of the run -/
def TB : List Cond := lw_tbl.filter goodWord
