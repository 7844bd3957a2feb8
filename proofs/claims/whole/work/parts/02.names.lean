def RX0 : String := "PantomimeHorses$Day"
def TX0 : u_T := fun k => match k with
  | 0 => ("PantomimeHorses$Day", "duchy", "LPantomimeHorses$Duchy;", true)
  | _ => ("PantomimeHorses$Day", "crowdedHours", "I", false)
def tyX0 : Nat → FieldType := fun k => match k with
  | 0 => .object "PantomimeHorses$Duchy"
  | _ => .int
abbrev wsX00 : List Cond := u_ws RX0 TX0 2
theorem nmX0 : ∀ a, a < 2 → ∀ b, b < 2 → a ≠ b → (TX0 a).2.1 ≠ (TX0 b).2.1 := by decide +kernel
theorem tyX0_ok : ∀ k, k < 2 → parseFieldDescriptor (TX0 k).2.2.1 = some (tyX0 k) := by decide +kernel
def RX1 : String := "PantomimeHorses$Duchy"
def TX1 : u_T := fun k => match k with
  | 0 => ("PantomimeHorses$Duchy", "count", "I", false)
  | 1 => ("PantomimeHorses$Duchy", "noon", "I", false)
  | 2 => ("PantomimeHorses$Duchy", "hour", "I", false)
  | 3 => ("PantomimeHorses$Duchy", "kind", "[I", true)
  | 4 => ("PantomimeHorses$Duchy", "step", "[I", true)
  | 5 => ("PantomimeHorses$Duchy", "will", "[I", true)
  | 6 => ("PantomimeHorses$Duchy", "mate", "[I", true)
  | 7 => ("PantomimeHorses$Duchy", "front", "[Z", true)
  | 8 => ("PantomimeHorses$Duchy", "column", "[J", true)
  | _ => ("PantomimeHorses$Duchy", "row", "[J", true)
def tyX1 : Nat → FieldType := fun k => match k with
  | 0 => .int
  | 1 => .int
  | 2 => .int
  | 3 => .array .int
  | 4 => .array .int
  | 5 => .array .int
  | 6 => .array .int
  | 7 => .array .boolean
  | 8 => .array .long
  | _ => .array .long
abbrev wsX10 : List Cond := u_ws RX1 TX1 10
theorem nmX1 : ∀ a, a < 10 → ∀ b, b < 10 → a ≠ b → (TX1 a).2.1 ≠ (TX1 b).2.1 := by decide +kernel
theorem tyX1_ok : ∀ k, k < 10 → parseFieldDescriptor (TX1 k).2.2.1 = some (tyX1 k) := by decide +kernel
def RX2 : String := "PantomimeHorses$Matching"
def TX2 : u_T := fun k => match k with
  | 0 => ("PantomimeHorses$Matching", "leastJar", "I", false)
  | 1 => ("PantomimeHorses$Matching", "best", "[I", true)
  | 2 => ("PantomimeHorses$Matching", "with", "[I", true)
  | _ => ("PantomimeHorses$Matching", "taken", "[Z", true)
def tyX2 : Nat → FieldType := fun k => match k with
  | 0 => .int
  | 1 => .array .int
  | 2 => .array .int
  | _ => .array .boolean
abbrev wsX20 : List Cond := u_ws RX2 TX2 4
theorem nmX2 : ∀ a, a < 4 → ∀ b, b < 4 → a ≠ b → (TX2 a).2.1 ≠ (TX2 b).2.1 := by decide +kernel
theorem tyX2_ok : ∀ k, k < 4 → parseFieldDescriptor (TX2 k).2.2.1 = some (tyX2 k) := by decide +kernel
def RX3 : String := "PantomimeHorses$Readings"
def TX3 : u_T := fun k => match k with
  | 0 => ("PantomimeHorses$Readings", "count", "I", false)
  | 1 => ("PantomimeHorses$Readings", "front", "[I", true)
  | 2 => ("PantomimeHorses$Readings", "behind", "[I", true)
  | 3 => ("PantomimeHorses$Readings", "columns", "[I", true)
  | _ => ("PantomimeHorses$Readings", "rows", "[I", true)
def tyX3 : Nat → FieldType := fun k => match k with
  | 0 => .int
  | 1 => .array .int
  | 2 => .array .int
  | 3 => .array .int
  | _ => .array .int
abbrev wsX30 : List Cond := u_ws RX3 TX3 5
theorem nmX3 : ∀ a, a < 5 → ∀ b, b < 5 → a ≠ b → (TX3 a).2.1 ≠ (TX3 b).2.1 := by decide +kernel
theorem tyX3_ok : ∀ k, k < 5 → parseFieldDescriptor (TX3 k).2.2.1 = some (tyX3 k) := by decide +kernel
def RX4 : String := "PantomimeHorses$Sheet"
def TX4 : u_T := fun k => match k with
  | 0 => ("PantomimeHorses$Sheet", "hasRow", "Z", false)
  | 1 => ("PantomimeHorses$Sheet", "lane", "I", false)
  | 2 => ("PantomimeHorses$Sheet", "size", "I", false)
  | _ => ("PantomimeHorses$Sheet", "cells", "[I", true)
def tyX4 : Nat → FieldType := fun k => match k with
  | 0 => .boolean
  | 1 => .int
  | 2 => .int
  | _ => .array .int
abbrev wsX40 : List Cond := u_ws RX4 TX4 4
theorem nmX4 : ∀ a, a < 4 → ∀ b, b < 4 → a ≠ b → (TX4 a).2.1 ≠ (TX4 b).2.1 := by decide +kernel
theorem tyX4_ok : ∀ k, k < 4 → parseFieldDescriptor (TX4 k).2.2.1 = some (tyX4 k) := by decide +kernel
def RX5 : String := "PantomimeHorses"
def TX5 : u_T := fun k => match k with
  | 0 => ("PantomimeHorses", "sheets", "[LPantomimeHorses$Sheet;", true)
  | 1 => ("PantomimeHorses", "now", "LPantomimeHorses$Duchy;", true)
  | 2 => ("PantomimeHorses", "trial", "LPantomimeHorses$Duchy;", true)
  | 3 => ("PantomimeHorses", "told", "LPantomimeHorses$Day;", true)
  | 4 => ("PantomimeHorses", "readings", "LPantomimeHorses$Readings;", true)
  | 5 => ("PantomimeHorses", "matching", "LPantomimeHorses$Matching;", true)
  | 6 => ("PantomimeHorses", "trace", "I", false)
  | _ => ("PantomimeHorses", "fault", "I", false)
def tyX5 : Nat → FieldType := fun k => match k with
  | 0 => .array (.object "PantomimeHorses$Sheet")
  | 1 => .object "PantomimeHorses$Duchy"
  | 2 => .object "PantomimeHorses$Duchy"
  | 3 => .object "PantomimeHorses$Day"
  | 4 => .object "PantomimeHorses$Readings"
  | 5 => .object "PantomimeHorses$Matching"
  | 6 => .int
  | _ => .int
abbrev wsX50 : List Cond := u_ws RX5 TX5 8
theorem nmX5 : ∀ a, a < 8 → ∀ b, b < 8 → a ≠ b → (TX5 a).2.1 ≠ (TX5 b).2.1 := by decide +kernel
theorem tyX5_ok : ∀ k, k < 8 → parseFieldDescriptor (TX5 k).2.2.1 = some (tyX5 k) := by decide +kernel
def RX6 : String := "PantomimeHorsesModel"
def TX6 : u_T := fun k => match k with
  | 0 => ("PantomimeHorsesModel", "fault", "I", false)
  | 1 => ("PantomimeHorsesModel", "trace", "I", false)
  | 2 => ("PantomimeHorsesModel", "sorts", "[I", true)
  | 3 => ("PantomimeHorsesModel", "sheetLong", "[I", true)
  | 4 => ("PantomimeHorsesModel", "cells", "[I", true)
  | 5 => ("PantomimeHorsesModel", "noon", "I", false)
  | 6 => ("PantomimeHorsesModel", "people", "I", false)
  | 7 => ("PantomimeHorsesModel", "hour", "I", false)
  | 8 => ("PantomimeHorsesModel", "kind", "[I", true)
  | 9 => ("PantomimeHorsesModel", "step", "[I", true)
  | 10 => ("PantomimeHorsesModel", "will", "[I", true)
  | 11 => ("PantomimeHorsesModel", "joined", "[I", true)
  | 12 => ("PantomimeHorsesModel", "isFront", "[Z", true)
  | 13 => ("PantomimeHorsesModel", "column", "[I", true)
  | 14 => ("PantomimeHorsesModel", "line", "[I", true)
  | 15 => ("PantomimeHorsesModel", "at", "I", false)
  | 16 => ("PantomimeHorsesModel", "readNoon", "I", false)
  | 17 => ("PantomimeHorsesModel", "readPeople", "I", false)
  | 18 => ("PantomimeHorsesModel", "read", "[I", true)
  | 19 => ("PantomimeHorsesModel", "keptHour", "I", false)
  | 20 => ("PantomimeHorsesModel", "keptWill", "[I", true)
  | 21 => ("PantomimeHorsesModel", "keptJoined", "[I", true)
  | 22 => ("PantomimeHorsesModel", "keptFront", "[Z", true)
  | 23 => ("PantomimeHorsesModel", "keptColumn", "[I", true)
  | 24 => ("PantomimeHorsesModel", "keptLine", "[I", true)
  | 25 => ("PantomimeHorsesModel", "crowded", "I", false)
  | 26 => ("PantomimeHorsesModel", "partner", "[I", true)
  | 27 => ("PantomimeHorsesModel", "bestPartner", "[I", true)
  | 28 => ("PantomimeHorsesModel", "bestJar", "I", false)
  | 29 => ("PantomimeHorsesModel", "readings", "I", false)
  | 30 => ("PantomimeHorsesModel", "readOne", "[I", true)
  | 31 => ("PantomimeHorsesModel", "readOther", "[I", true)
  | 32 => ("PantomimeHorsesModel", "readColumns", "[I", true)
  | _ => ("PantomimeHorsesModel", "readLines", "[I", true)
def tyX6 : Nat → FieldType := fun k => match k with
  | 0 => .int
  | 1 => .int
  | 2 => .array .int
  | 3 => .array .int
  | 4 => .array .int
  | 5 => .int
  | 6 => .int
  | 7 => .int
  | 8 => .array .int
  | 9 => .array .int
  | 10 => .array .int
  | 11 => .array .int
  | 12 => .array .boolean
  | 13 => .array .int
  | 14 => .array .int
  | 15 => .int
  | 16 => .int
  | 17 => .int
  | 18 => .array .int
  | 19 => .int
  | 20 => .array .int
  | 21 => .array .int
  | 22 => .array .boolean
  | 23 => .array .int
  | 24 => .array .int
  | 25 => .int
  | 26 => .array .int
  | 27 => .array .int
  | 28 => .int
  | 29 => .int
  | 30 => .array .int
  | 31 => .array .int
  | 32 => .array .int
  | _ => .array .int
abbrev wsX60 : List Cond := u_ws RX6 TX6 34
theorem nmX6 : ∀ a, a < 34 → ∀ b, b < 34 → a ≠ b → (TX6 a).2.1 ≠ (TX6 b).2.1 := by decide +kernel
theorem tyX6_ok : ∀ k, k < 34 → parseFieldDescriptor (TX6 k).2.2.1 = some (tyX6 k) := by decide +kernel
def RJ6 : String := "java/lang/Integer"
def RJ9 : String := "java/lang/Math"
def RL : String := "PantomimeHorsesLaw"
abbrev vwCl : List vw_C := [(RX0, TX0, 2), (RX1, TX1, 10), (RX2, TX2, 4), (RX3, TX3, 5), (RX4, TX4, 4), (RX5, TX5, 8), (RX6, TX6, 34)]
abbrev cL_law : ByteArray := code
def yL_law : MethodName := ⟨RL, "law", "([I)Z"⟩
abbrev cX0_init : ByteArray := prog_2_method_1_code
def yX0_init : MethodName := ⟨RX0, "<init>", "()V"⟩
abbrev cX0_play : ByteArray := prog_2_method_2_code
def yX0_play : MethodName := ⟨RX0, "play", "(LPantomimeHorses$Sheet;II)I"⟩
abbrev cX0_canBe : ByteArray := prog_2_method_3_code
def yX0_canBe : MethodName := ⟨RX0, "canBe", "(II)Z"⟩
abbrev cX0_carryOut : ByteArray := prog_2_method_4_code
def yX0_carryOut : MethodName := ⟨RX0, "carryOut", "(II)V"⟩
abbrev cX0_passHours : ByteArray := prog_2_method_5_code
def yX0_passHours : MethodName := ⟨RX0, "passHours", "(I)V"⟩
abbrev cX0_answer : ByteArray := prog_2_method_6_code
def yX0_answer : MethodName := ⟨RX0, "answer", "(II)I"⟩
abbrev cX1_init : ByteArray := prog_3_method_1_code
def yX1_init : MethodName := ⟨RX1, "<init>", "()V"⟩
abbrev cX1_found : ByteArray := prog_3_method_2_code
def yX1_found : MethodName := ⟨RX1, "found", "(LPantomimeHorses$Sheet;II)V"⟩
abbrev cX1_kindOf : ByteArray := prog_3_method_3_code
def yX1_kindOf : MethodName := ⟨RX1, "kindOf", "(I)I"⟩
abbrev cX1_become : ByteArray := prog_3_method_4_code
def yX1_become : MethodName := ⟨RX1, "become", "(LPantomimeHorses$Duchy;)V"⟩
abbrev cX1_isNone : ByteArray := prog_3_method_5_code
def yX1_isNone : MethodName := ⟨RX1, "isNone", "()Z"⟩
abbrev cX1_isPerson : ByteArray := prog_3_method_6_code
def yX1_isPerson : MethodName := ⟨RX1, "isPerson", "(I)Z"⟩
abbrev cX1_areTwo : ByteArray := prog_3_method_7_code
def yX1_areTwo : MethodName := ⟨RX1, "areTwo", "(II)Z"⟩
abbrev cX1_isJoined : ByteArray := prog_3_method_8_code
def yX1_isJoined : MethodName := ⟨RX1, "isJoined", "(I)Z"⟩
abbrev cX1_stride : ByteArray := prog_3_method_9_code
def yX1_stride : MethodName := ⟨RX1, "stride", "(I)I"⟩
abbrev cX1_jarOf : ByteArray := prog_3_method_10_code
def yX1_jarOf : MethodName := ⟨RX1, "jarOf", "(II)I"⟩
abbrev cX1_wouldRather : ByteArray := prog_3_method_11_code
def yX1_wouldRather : MethodName := ⟨RX1, "wouldRather", "(II)Z"⟩
abbrev cX1_button : ByteArray := prog_3_method_12_code
def yX1_button : MethodName := ⟨RX1, "button", "(II)V"⟩
abbrev cX1_unbutton : ByteArray := prog_3_method_13_code
def yX1_unbutton : MethodName := ⟨RX1, "unbutton", "(I)V"⟩
abbrev cX1_horses : ByteArray := prog_3_method_14_code
def yX1_horses : MethodName := ⟨RX1, "horses", "()I"⟩
abbrev cX1_fronts : ByteArray := prog_3_method_15_code
def yX1_fronts : MethodName := ⟨RX1, "fronts", "()I"⟩
abbrev cX1_wayColumns : ByteArray := prog_3_method_16_code
def yX1_wayColumns : MethodName := ⟨RX1, "wayColumns", "(II)I"⟩
abbrev cX1_wayRows : ByteArray := prog_3_method_17_code
def yX1_wayRows : MethodName := ⟨RX1, "wayRows", "(II)I"⟩
abbrev cX1_passHour : ByteArray := prog_3_method_18_code
def yX1_passHour : MethodName := ⟨RX1, "passHour", "()V"⟩
abbrev cX1_changeFronts : ByteArray := prog_3_method_19_code
def yX1_changeFronts : MethodName := ⟨RX1, "changeFronts", "()V"⟩
abbrev cX1_atOnePlace : ByteArray := prog_3_method_20_code
def yX1_atOnePlace : MethodName := ⟨RX1, "atOnePlace", "(II)Z"⟩
abbrev cX1_hasHorsesAtOnePlace : ByteArray := prog_3_method_21_code
def yX1_hasHorsesAtOnePlace : MethodName := ⟨RX1, "hasHorsesAtOnePlace", "()Z"⟩
abbrev cX1_farFromStart : ByteArray := prog_3_method_22_code
def yX1_farFromStart : MethodName := ⟨RX1, "farFromStart", "()J"⟩
abbrev cX1_farAfter : ByteArray := prog_3_method_23_code
def yX1_farAfter : MethodName := ⟨RX1, "farAfter", "(IIIII)J"⟩
abbrev cX2_init : ByteArray := prog_4_method_1_code
def yX2_init : MethodName := ⟨RX2, "<init>", "()V"⟩
abbrev cX2_seek : ByteArray := prog_4_method_2_code
def yX2_seek : MethodName := ⟨RX2, "seek", "(LPantomimeHorses$Duchy;)V"⟩
abbrev cX2_place : ByteArray := prog_4_method_3_code
def yX2_place : MethodName := ⟨RX2, "place", "(LPantomimeHorses$Duchy;IIZ)V"⟩
abbrev cX2_keep : ByteArray := prog_4_method_4_code
def yX2_keep : MethodName := ⟨RX2, "keep", "(I)V"⟩
abbrev cX3_init : ByteArray := prog_5_method_1_code
def yX3_init : MethodName := ⟨RX3, "<init>", "()V"⟩
abbrev cX3_add : ByteArray := prog_5_method_2_code
def yX3_add : MethodName := ⟨RX3, "add", "(IIII)I"⟩
abbrev cX3_allSo : ByteArray := prog_5_method_3_code
def yX3_allSo : MethodName := ⟨RX3, "allSo", "(LPantomimeHorses$Duchy;)Z"⟩
abbrev cX3_fitting : ByteArray := prog_5_method_4_code
def yX3_fitting : MethodName := ⟨RX3, "fitting", "(LPantomimeHorses$Duchy;[III)I"⟩
abbrev cX4_init : ByteArray := prog_6_method_1_code
def yX4_init : MethodName := ⟨RX4, "<init>", "()V"⟩
abbrev cX4_renew : ByteArray := prog_6_method_2_code
def yX4_renew : MethodName := ⟨RX4, "renew", "(II)V"⟩
abbrev cX4_faultAs : ByteArray := prog_6_method_3_code
def yX4_faultAs : MethodName := ⟨RX4, "faultAs", "(I)I"⟩
abbrev cX4_holds : ByteArray := prog_6_method_4_code
def yX4_holds : MethodName := ⟨RX4, "holds", "(II)Z"⟩
abbrev cX4_cut : ByteArray := prog_6_method_5_code
def yX4_cut : MethodName := ⟨RX4, "cut", "(I)I"⟩
abbrev cX5_init : ByteArray := prog_1_method_1_code
def yX5_init : MethodName := ⟨RX5, "<init>", "()V"⟩
abbrev cX5_duchy : ByteArray := prog_1_method_2_code
def yX5_duchy : MethodName := ⟨RX5, "duchy", "(IIII)I"⟩
abbrev cX5_ofPerson : ByteArray := prog_1_method_3_code
def yX5_ofPerson : MethodName := ⟨RX5, "ofPerson", "(II)I"⟩
abbrev cX5_where : ByteArray := prog_1_method_4_code
def yX5_where : MethodName := ⟨RX5, "where", "(II)J"⟩
abbrev cX5_train : ByteArray := prog_1_method_5_code
def yX5_train : MethodName := ⟨RX5, "train", "(II)I"⟩
abbrev cX5_bid : ByteArray := prog_1_method_6_code
def yX5_bid : MethodName := ⟨RX5, "bid", "(II)I"⟩
abbrev cX5_jar : ByteArray := prog_1_method_7_code
def yX5_jar : MethodName := ⟨RX5, "jar", "(II)I"⟩
abbrev cX5_join : ByteArray := prog_1_method_8_code
def yX5_join : MethodName := ⟨RX5, "join", "(II)I"⟩
abbrev cX5_part : ByteArray := prog_1_method_9_code
def yX5_part : MethodName := ⟨RX5, "part", "(I)I"⟩
abbrev cX5_hours : ByteArray := prog_1_method_10_code
def yX5_hours : MethodName := ⟨RX5, "hours", "(I)I"⟩
abbrev cX5_day : ByteArray := prog_1_method_11_code
def yX5_day : MethodName := ⟨RX5, "day", "(IIIII)I"⟩
abbrev cX5_match : ByteArray := prog_1_method_12_code
def yX5_match : MethodName := ⟨RX5, "match", "(I)I"⟩
abbrev cX5_rather : ByteArray := prog_1_method_13_code
def yX5_rather : MethodName := ⟨RX5, "rather", "()I"⟩
abbrev cX5_meet : ByteArray := prog_1_method_14_code
def yX5_meet : MethodName := ⟨RX5, "meet", "(II)I"⟩
abbrev cX5_leads : ByteArray := prog_1_method_15_code
def yX5_leads : MethodName := ⟨RX5, "leads", "(IIIII)I"⟩
abbrev cX5_reading : ByteArray := prog_1_method_16_code
def yX5_reading : MethodName := ⟨RX5, "reading", "(IIII)I"⟩
abbrev cX5_back : ByteArray := prog_1_method_17_code
def yX5_back : MethodName := ⟨RX5, "back", "(I)I"⟩
abbrev cX5_steps : ByteArray := prog_1_method_18_code
def yX5_steps : MethodName := ⟨RX5, "steps", "(I)I"⟩
abbrev cX5_wills : ByteArray := prog_1_method_19_code
def yX5_wills : MethodName := ⟨RX5, "wills", "(I)I"⟩
abbrev cX5_kinds : ByteArray := prog_1_method_20_code
def yX5_kinds : MethodName := ⟨RX5, "kinds", "(I)I"⟩
abbrev cX5_odds : ByteArray := prog_1_method_21_code
def yX5_odds : MethodName := ⟨RX5, "odds", "(IIII)J"⟩
abbrev cX5_sheet : ByteArray := prog_1_method_22_code
def yX5_sheet : MethodName := ⟨RX5, "sheet", "(III)I"⟩
abbrev cX5_lose : ByteArray := prog_1_method_23_code
def yX5_lose : MethodName := ⟨RX5, "lose", "(I)I"⟩
abbrev cX5_put : ByteArray := prog_1_method_24_code
def yX5_put : MethodName := ⟨RX5, "put", "(III)I"⟩
abbrev cX5_cell : ByteArray := prog_1_method_25_code
def yX5_cell : MethodName := ⟨RX5, "cell", "(III)J"⟩
abbrev cX5_copy : ByteArray := prog_1_method_26_code
def yX5_copy : MethodName := ⟨RX5, "copy", "(IIIII)I"⟩
abbrev cX5_tell : ByteArray := prog_1_method_27_code
def yX5_tell : MethodName := ⟨RX5, "tell", "(I)I"⟩
abbrev cX5_pat : ByteArray := prog_1_method_28_code
def yX5_pat : MethodName := ⟨RX5, "pat", "(I)I"⟩
abbrev cX5_as : ByteArray := prog_1_method_29_code
def yX5_as : MethodName := ⟨RX5, "as", "(II)I"⟩
abbrev cX5_trace : ByteArray := prog_1_method_30_code
def yX5_trace : MethodName := ⟨RX5, "trace", "()I"⟩
abbrev cX5_fault : ByteArray := prog_1_method_31_code
def yX5_fault : MethodName := ⟨RX5, "fault", "()I"⟩
abbrev cX5_many : ByteArray := prog_1_method_32_code
def yX5_many : MethodName := ⟨RX5, "many", "(I)I"⟩
abbrev cX5_faulted : ByteArray := prog_1_method_33_code
def yX5_faulted : MethodName := ⟨RX5, "faulted", "(I)I"⟩
abbrev cX5_isSheet : ByteArray := prog_1_method_34_code
def yX5_isSheet : MethodName := ⟨RX5, "isSheet", "(I)Z"⟩
abbrev cX5_isLane : ByteArray := prog_1_method_35_code
def yX5_isLane : MethodName := ⟨RX5, "isLane", "(I)Z"⟩
abbrev cX5_isWithin : ByteArray := prog_1_method_36_code
def yX5_isWithin : MethodName := ⟨RX5, "isWithin", "(II)Z"⟩
abbrev cX5_isDayQuestion : ByteArray := prog_1_method_37_code
def yX5_isDayQuestion : MethodName := ⟨RX5, "isDayQuestion", "(I)Z"⟩
abbrev cX5_firstFault : ByteArray := prog_1_method_38_code
def yX5_firstFault : MethodName := ⟨RX5, "firstFault", "(LPantomimeHorses$Sheet;II)I"⟩
abbrev cX5_goesOn : ByteArray := prog_1_method_39_code
def yX5_goesOn : MethodName := ⟨RX5, "goesOn", "(II)Z"⟩
abbrev cX5_refusalOfActs : ByteArray := prog_1_method_40_code
def yX5_refusalOfActs : MethodName := ⟨RX5, "refusalOfActs", "(LPantomimeHorses$Sheet;II)I"⟩
abbrev cX5_isActKind : ByteArray := prog_1_method_41_code
def yX5_isActKind : MethodName := ⟨RX5, "isActKind", "(I)Z"⟩
abbrev cX5_waysAsLong : ByteArray := prog_1_method_42_code
def yX5_waysAsLong : MethodName := ⟨RX5, "waysAsLong", "(III)I"⟩
abbrev cX5_leave : ByteArray := prog_1_method_43_code
def yX5_leave : MethodName := ⟨RX5, "leave", "(I)V"⟩
abbrev cX5_foreTells : ByteArray := prog_1_method_44_code
def yX5_foreTells : MethodName := ⟨RX5, "foreTells", "(I)I"⟩
abbrev cX5_hindTells : ByteArray := prog_1_method_45_code
def yX5_hindTells : MethodName := ⟨RX5, "hindTells", "(I)I"⟩
abbrev cX5_oldTells : ByteArray := prog_1_method_46_code
def yX5_oldTells : MethodName := ⟨RX5, "oldTells", "(I)I"⟩
abbrev cX6_init : ByteArray := prog_8_method_1_code
def yX6_init : MethodName := ⟨RX6, "<init>", "()V"⟩
abbrev cX6_fails : ByteArray := prog_8_method_3_code
def yX6_fails : MethodName := ⟨RX6, "fails", "(I)I"⟩
abbrev cX6_lost : ByteArray := prog_8_method_4_code
def yX6_lost : MethodName := ⟨RX6, "lost", "(I)J"⟩
abbrev cX6_within : ByteArray := prog_8_method_5_code
def yX6_within : MethodName := ⟨RX6, "within", "(III)Z"⟩
abbrev cX6_isSheet : ByteArray := prog_8_method_6_code
def yX6_isSheet : MethodName := ⟨RX6, "isSheet", "(I)Z"⟩
abbrev cX6_isSort : ByteArray := prog_8_method_7_code
def yX6_isSort : MethodName := ⟨RX6, "isSort", "(I)Z"⟩
abbrev cX6_against : ByteArray := prog_8_method_8_code
def yX6_against : MethodName := ⟨RX6, "against", "(IIII)I"⟩
abbrev cX6_isPerson : ByteArray := prog_8_method_9_code
def yX6_isPerson : MethodName := ⟨RX6, "isPerson", "(I)Z"⟩
abbrev cX6_areTwo : ByteArray := prog_8_method_10_code
def yX6_areTwo : MethodName := ⟨RX6, "areTwo", "(II)Z"⟩
abbrev cX6_apart : ByteArray := prog_8_method_11_code
def yX6_apart : MethodName := ⟨RX6, "apart", "(II)I"⟩
abbrev cX6_digit : ByteArray := prog_8_method_12_code
def yX6_digit : MethodName := ⟨RX6, "digit", "(III)I"⟩
abbrev cX6_isSign : ByteArray := prog_8_method_13_code
def yX6_isSign : MethodName := ⟨RX6, "isSign", "(II)Z"⟩
abbrev cX6_duchy : ByteArray := prog_8_method_14_code
def yX6_duchy : MethodName := ⟨RX6, "duchy", "(IIII)I"⟩
abbrev cX6_takeDuchy : ByteArray := prog_8_method_15_code
def yX6_takeDuchy : MethodName := ⟨RX6, "takeDuchy", "()V"⟩
abbrev cX6_readDuchy : ByteArray := prog_8_method_16_code
def yX6_readDuchy : MethodName := ⟨RX6, "readDuchy", "(I)Z"⟩
abbrev cX6_readPerson : ByteArray := prog_8_method_17_code
def yX6_readPerson : MethodName := ⟨RX6, "readPerson", "(I)Z"⟩
abbrev cX6_strideOf : ByteArray := prog_8_method_18_code
def yX6_strideOf : MethodName := ⟨RX6, "strideOf", "(I)I"⟩
abbrev cX6_jarOf : ByteArray := prog_8_method_19_code
def yX6_jarOf : MethodName := ⟨RX6, "jarOf", "(II)I"⟩
abbrev cX6_ofPerson : ByteArray := prog_8_method_20_code
def yX6_ofPerson : MethodName := ⟨RX6, "ofPerson", "(II)I"⟩
abbrev cX6_where : ByteArray := prog_8_method_21_code
def yX6_where : MethodName := ⟨RX6, "where", "(II)J"⟩
abbrev cX6_train : ByteArray := prog_8_method_22_code
def yX6_train : MethodName := ⟨RX6, "train", "(II)I"⟩
abbrev cX6_bid : ByteArray := prog_8_method_23_code
def yX6_bid : MethodName := ⟨RX6, "bid", "(II)I"⟩
abbrev cX6_jar : ByteArray := prog_8_method_24_code
def yX6_jar : MethodName := ⟨RX6, "jar", "(II)I"⟩
abbrev cX6_horses : ByteArray := prog_8_method_25_code
def yX6_horses : MethodName := ⟨RX6, "horses", "()I"⟩
abbrev cX6_joins : ByteArray := prog_8_method_26_code
def yX6_joins : MethodName := ⟨RX6, "joins", "(II)V"⟩
abbrev cX6_parts : ByteArray := prog_8_method_27_code
def yX6_parts : MethodName := ⟨RX6, "parts", "(I)V"⟩
abbrev cX6_join : ByteArray := prog_8_method_28_code
def yX6_join : MethodName := ⟨RX6, "join", "(II)I"⟩
abbrev cX6_part : ByteArray := prog_8_method_29_code
def yX6_part : MethodName := ⟨RX6, "part", "(I)I"⟩
abbrev cX6_columnsOf : ByteArray := prog_8_method_30_code
def yX6_columnsOf : MethodName := ⟨RX6, "columnsOf", "(II)I"⟩
abbrev cX6_linesOf : ByteArray := prog_8_method_31_code
def yX6_linesOf : MethodName := ⟨RX6, "linesOf", "(II)I"⟩
abbrev cX6_wayColumns : ByteArray := prog_8_method_32_code
def yX6_wayColumns : MethodName := ⟨RX6, "wayColumns", "(II)I"⟩
abbrev cX6_wayLines : ByteArray := prog_8_method_33_code
def yX6_wayLines : MethodName := ⟨RX6, "wayLines", "(II)I"⟩
abbrev cX6_oneHour : ByteArray := prog_8_method_34_code
def yX6_oneHour : MethodName := ⟨RX6, "oneHour", "()V"⟩
abbrev cX6_hours : ByteArray := prog_8_method_35_code
def yX6_hours : MethodName := ⟨RX6, "hours", "(I)I"⟩
abbrev cX6_keep : ByteArray := prog_8_method_36_code
def yX6_keep : MethodName := ⟨RX6, "keep", "()V"⟩
abbrev cX6_putBack : ByteArray := prog_8_method_37_code
def yX6_putBack : MethodName := ⟨RX6, "putBack", "()V"⟩
abbrev cX6_areAt : ByteArray := prog_8_method_38_code
def yX6_areAt : MethodName := ⟨RX6, "areAt", "(II)Z"⟩
abbrev cX6_isCrowded : ByteArray := prog_8_method_39_code
def yX6_isCrowded : MethodName := ⟨RX6, "isCrowded", "()Z"⟩
abbrev cX6_does : ByteArray := prog_8_method_40_code
def yX6_does : MethodName := ⟨RX6, "does", "(II)Z"⟩
abbrev cX6_goDay : ByteArray := prog_8_method_41_code
def yX6_goDay : MethodName := ⟨RX6, "goDay", "(II)I"⟩
abbrev cX6_refusesPair : ByteArray := prog_8_method_42_code
def yX6_refusesPair : MethodName := ⟨RX6, "refusesPair", "(II)I"⟩
abbrev cX6_day : ByteArray := prog_8_method_43_code
def yX6_day : MethodName := ⟨RX6, "day", "(IIIII)I"⟩
abbrev cX6_tellDay : ByteArray := prog_8_method_44_code
def yX6_tellDay : MethodName := ⟨RX6, "tellDay", "(I)I"⟩
abbrev cX6_findTwos : ByteArray := prog_8_method_45_code
def yX6_findTwos : MethodName := ⟨RX6, "findTwos", "(II)V"⟩
abbrev cX6_findMatch : ByteArray := prog_8_method_46_code
def yX6_findMatch : MethodName := ⟨RX6, "findMatch", "()V"⟩
abbrev cX6_match : ByteArray := prog_8_method_47_code
def yX6_match : MethodName := ⟨RX6, "match", "(I)I"⟩
abbrev cX6_wouldRather : ByteArray := prog_8_method_48_code
def yX6_wouldRather : MethodName := ⟨RX6, "wouldRather", "(II)Z"⟩
abbrev cX6_rather : ByteArray := prog_8_method_49_code
def yX6_rather : MethodName := ⟨RX6, "rather", "()I"⟩
abbrev cX6_meet : ByteArray := prog_8_method_50_code
def yX6_meet : MethodName := ⟨RX6, "meet", "(II)I"⟩
abbrev cX6_leads : ByteArray := prog_8_method_51_code
def yX6_leads : MethodName := ⟨RX6, "leads", "(IIIII)I"⟩
abbrev cX6_reading : ByteArray := prog_8_method_52_code
def yX6_reading : MethodName := ⟨RX6, "reading", "(IIII)I"⟩
abbrev cX6_back : ByteArray := prog_8_method_53_code
def yX6_back : MethodName := ⟨RX6, "back", "(I)I"⟩
abbrev cX6_areSo : ByteArray := prog_8_method_54_code
def yX6_areSo : MethodName := ⟨RX6, "areSo", "()Z"⟩
abbrev cX6_steps : ByteArray := prog_8_method_55_code
def yX6_steps : MethodName := ⟨RX6, "steps", "(I)I"⟩
abbrev cX6_wills : ByteArray := prog_8_method_56_code
def yX6_wills : MethodName := ⟨RX6, "wills", "(I)I"⟩
abbrev cX6_kinds : ByteArray := prog_8_method_57_code
def yX6_kinds : MethodName := ⟨RX6, "kinds", "(I)I"⟩
abbrev cX6_inLeastTerms : ByteArray := prog_8_method_58_code
def yX6_inLeastTerms : MethodName := ⟨RX6, "inLeastTerms", "(JJI)J"⟩
abbrev cX6_odds : ByteArray := prog_8_method_59_code
def yX6_odds : MethodName := ⟨RX6, "odds", "(IIII)J"⟩
abbrev cX6_sheet : ByteArray := prog_8_method_60_code
def yX6_sheet : MethodName := ⟨RX6, "sheet", "(III)I"⟩
abbrev cX6_lose : ByteArray := prog_8_method_61_code
def yX6_lose : MethodName := ⟨RX6, "lose", "(I)I"⟩
abbrev cX6_put : ByteArray := prog_8_method_62_code
def yX6_put : MethodName := ⟨RX6, "put", "(III)I"⟩
abbrev cX6_cell : ByteArray := prog_8_method_63_code
def yX6_cell : MethodName := ⟨RX6, "cell", "(III)J"⟩
abbrev cX6_copy : ByteArray := prog_8_method_64_code
def yX6_copy : MethodName := ⟨RX6, "copy", "(IIIII)I"⟩
abbrev cX6_begins : ByteArray := prog_8_method_65_code
def yX6_begins : MethodName := ⟨RX6, "begins", "(I)V"⟩
abbrev cX6_tell : ByteArray := prog_8_method_66_code
def yX6_tell : MethodName := ⟨RX6, "tell", "(I)I"⟩
abbrev cX6_pat : ByteArray := prog_8_method_67_code
def yX6_pat : MethodName := ⟨RX6, "pat", "(I)I"⟩
abbrev cX6_as : ByteArray := prog_8_method_68_code
def yX6_as : MethodName := ⟨RX6, "as", "(II)I"⟩
abbrev cX6_trace : ByteArray := prog_8_method_69_code
def yX6_trace : MethodName := ⟨RX6, "trace", "()I"⟩
abbrev cX6_fault : ByteArray := prog_8_method_70_code
def yX6_fault : MethodName := ⟨RX6, "fault", "()I"⟩
abbrev cX6_many : ByteArray := prog_8_method_71_code
def yX6_many : MethodName := ⟨RX6, "many", "(I)I"⟩
abbrev cJ6_bitCount_0f7a4 : ByteArray := prog_9_method_49_code
def yJ6_bitCount_0f7a4 : MethodName := ⟨RJ6, "bitCount", "(I)I"⟩
/-- the methods: name, code, locals, what it returns, its class -/
def pzMT : List (MethodName × ByteArray × Nat × Option FieldType × Nat) := [
  (yL_law, cL_law, 4, (some .boolean), 7),
  (yX0_init, cX0_init, 1, none, 0),
  (yX0_play, cX0_play, 7, (some .int), 0),
  (yX0_canBe, cX0_canBe, 3, (some .boolean), 0),
  (yX0_carryOut, cX0_carryOut, 3, none, 0),
  (yX0_passHours, cX0_passHours, 3, none, 0),
  (yX0_answer, cX0_answer, 3, (some .int), 0),
  (yX1_init, cX1_init, 1, none, 1),
  (yX1_found, cX1_found, 6, none, 1),
  (yX1_kindOf, cX1_kindOf, 1, (some .int), 1),
  (yX1_become, cX1_become, 3, none, 1),
  (yX1_isNone, cX1_isNone, 1, (some .boolean), 1),
  (yX1_isPerson, cX1_isPerson, 2, (some .boolean), 1),
  (yX1_areTwo, cX1_areTwo, 3, (some .boolean), 1),
  (yX1_isJoined, cX1_isJoined, 2, (some .boolean), 1),
  (yX1_stride, cX1_stride, 2, (some .int), 1),
  (yX1_jarOf, cX1_jarOf, 4, (some .int), 1),
  (yX1_wouldRather, cX1_wouldRather, 3, (some .boolean), 1),
  (yX1_button, cX1_button, 3, none, 1),
  (yX1_unbutton, cX1_unbutton, 3, none, 1),
  (yX1_horses, cX1_horses, 1, (some .int), 1),
  (yX1_fronts, cX1_fronts, 3, (some .int), 1),
  (yX1_wayColumns, cX1_wayColumns, 3, (some .int), 1),
  (yX1_wayRows, cX1_wayRows, 3, (some .int), 1),
  (yX1_passHour, cX1_passHour, 3, none, 1),
  (yX1_changeFronts, cX1_changeFronts, 2, none, 1),
  (yX1_atOnePlace, cX1_atOnePlace, 3, (some .boolean), 1),
  (yX1_hasHorsesAtOnePlace, cX1_hasHorsesAtOnePlace, 3, (some .boolean), 1),
  (yX1_farFromStart, cX1_farFromStart, 4, (some .long), 1),
  (yX1_farAfter, cX1_farAfter, 11, (some .long), 1),
  (yX2_init, cX2_init, 1, none, 2),
  (yX2_seek, cX2_seek, 2, none, 2),
  (yX2_place, cX2_place, 6, none, 2),
  (yX2_keep, cX2_keep, 3, none, 2),
  (yX3_init, cX3_init, 1, none, 3),
  (yX3_add, cX3_add, 6, (some .int), 3),
  (yX3_allSo, cX3_allSo, 3, (some .boolean), 3),
  (yX3_fitting, cX3_fitting, 7, (some .int), 3),
  (yX4_init, cX4_init, 1, none, 4),
  (yX4_renew, cX4_renew, 4, none, 4),
  (yX4_faultAs, cX4_faultAs, 2, (some .int), 4),
  (yX4_holds, cX4_holds, 3, (some .boolean), 4),
  (yX4_cut, cX4_cut, 2, (some .int), 4),
  (yX5_init, cX5_init, 2, none, 5),
  (yX5_duchy, cX5_duchy, 8, (some .int), 5),
  (yX5_ofPerson, cX5_ofPerson, 3, (some .int), 5),
  (yX5_where, cX5_where, 3, (some .long), 5),
  (yX5_train, cX5_train, 4, (some .int), 5),
  (yX5_bid, cX5_bid, 4, (some .int), 5),
  (yX5_jar, cX5_jar, 3, (some .int), 5),
  (yX5_join, cX5_join, 3, (some .int), 5),
  (yX5_part, cX5_part, 2, (some .int), 5),
  (yX5_hours, cX5_hours, 3, (some .int), 5),
  (yX5_day, cX5_day, 9, (some .int), 5),
  (yX5_match, cX5_match, 2, (some .int), 5),
  (yX5_rather, cX5_rather, 3, (some .int), 5),
  (yX5_meet, cX5_meet, 4, (some .int), 5),
  (yX5_leads, cX5_leads, 12, (some .int), 5),
  (yX5_reading, cX5_reading, 5, (some .int), 5),
  (yX5_back, cX5_back, 2, (some .int), 5),
  (yX5_steps, cX5_steps, 2, (some .int), 5),
  (yX5_wills, cX5_wills, 2, (some .int), 5),
  (yX5_kinds, cX5_kinds, 2, (some .int), 5),
  (yX5_odds, cX5_odds, 7, (some .long), 5),
  (yX5_sheet, cX5_sheet, 4, (some .int), 5),
  (yX5_lose, cX5_lose, 3, (some .int), 5),
  (yX5_put, cX5_put, 5, (some .int), 5),
  (yX5_cell, cX5_cell, 6, (some .long), 5),
  (yX5_copy, cX5_copy, 8, (some .int), 5),
  (yX5_tell, cX5_tell, 2, (some .int), 5),
  (yX5_pat, cX5_pat, 2, (some .int), 5),
  (yX5_as, cX5_as, 3, (some .int), 5),
  (yX5_trace, cX5_trace, 1, (some .int), 5),
  (yX5_fault, cX5_fault, 1, (some .int), 5),
  (yX5_many, cX5_many, 2, (some .int), 5),
  (yX5_faulted, cX5_faulted, 2, (some .int), 5),
  (yX5_isSheet, cX5_isSheet, 1, (some .boolean), 5),
  (yX5_isLane, cX5_isLane, 1, (some .boolean), 5),
  (yX5_isWithin, cX5_isWithin, 2, (some .boolean), 5),
  (yX5_isDayQuestion, cX5_isDayQuestion, 1, (some .boolean), 5),
  (yX5_firstFault, cX5_firstFault, 4, (some .int), 5),
  (yX5_goesOn, cX5_goesOn, 2, (some .boolean), 5),
  (yX5_refusalOfActs, cX5_refusalOfActs, 7, (some .int), 5),
  (yX5_isActKind, cX5_isActKind, 1, (some .boolean), 5),
  (yX5_waysAsLong, cX5_waysAsLong, 6, (some .int), 5),
  (yX5_leave, cX5_leave, 2, none, 5),
  (yX5_foreTells, cX5_foreTells, 2, (some .int), 5),
  (yX5_hindTells, cX5_hindTells, 2, (some .int), 5),
  (yX5_oldTells, cX5_oldTells, 3, (some .int), 5),
  (yX6_init, cX6_init, 1, none, 6),
  (yX6_fails, cX6_fails, 2, (some .int), 6),
  (yX6_lost, cX6_lost, 2, (some .long), 6),
  (yX6_within, cX6_within, 3, (some .boolean), 6),
  (yX6_isSheet, cX6_isSheet, 1, (some .boolean), 6),
  (yX6_isSort, cX6_isSort, 1, (some .boolean), 6),
  (yX6_against, cX6_against, 5, (some .int), 6),
  (yX6_isPerson, cX6_isPerson, 2, (some .boolean), 6),
  (yX6_areTwo, cX6_areTwo, 3, (some .boolean), 6),
  (yX6_apart, cX6_apart, 2, (some .int), 6),
  (yX6_digit, cX6_digit, 4, (some .int), 6),
  (yX6_isSign, cX6_isSign, 3, (some .boolean), 6),
  (yX6_duchy, cX6_duchy, 7, (some .int), 6),
  (yX6_takeDuchy, cX6_takeDuchy, 2, none, 6),
  (yX6_readDuchy, cX6_readDuchy, 2, (some .boolean), 6),
  (yX6_readPerson, cX6_readPerson, 4, (some .boolean), 6),
  (yX6_strideOf, cX6_strideOf, 2, (some .int), 6),
  (yX6_jarOf, cX6_jarOf, 4, (some .int), 6),
  (yX6_ofPerson, cX6_ofPerson, 3, (some .int), 6),
  (yX6_where, cX6_where, 3, (some .long), 6),
  (yX6_train, cX6_train, 4, (some .int), 6),
  (yX6_bid, cX6_bid, 4, (some .int), 6),
  (yX6_jar, cX6_jar, 3, (some .int), 6),
  (yX6_horses, cX6_horses, 3, (some .int), 6),
  (yX6_joins, cX6_joins, 3, none, 6),
  (yX6_parts, cX6_parts, 3, none, 6),
  (yX6_join, cX6_join, 3, (some .int), 6),
  (yX6_part, cX6_part, 2, (some .int), 6),
  (yX6_columnsOf, cX6_columnsOf, 2, (some .int), 6),
  (yX6_linesOf, cX6_linesOf, 2, (some .int), 6),
  (yX6_wayColumns, cX6_wayColumns, 3, (some .int), 6),
  (yX6_wayLines, cX6_wayLines, 3, (some .int), 6),
  (yX6_oneHour, cX6_oneHour, 3, none, 6),
  (yX6_hours, cX6_hours, 3, (some .int), 6),
  (yX6_keep, cX6_keep, 2, none, 6),
  (yX6_putBack, cX6_putBack, 2, none, 6),
  (yX6_areAt, cX6_areAt, 3, (some .boolean), 6),
  (yX6_isCrowded, cX6_isCrowded, 3, (some .boolean), 6),
  (yX6_does, cX6_does, 4, (some .boolean), 6),
  (yX6_goDay, cX6_goDay, 4, (some .int), 6),
  (yX6_refusesPair, cX6_refusesPair, 4, (some .int), 6),
  (yX6_day, cX6_day, 10, (some .int), 6),
  (yX6_tellDay, cX6_tellDay, 4, (some .int), 6),
  (yX6_findTwos, cX6_findTwos, 9, none, 6),
  (yX6_findMatch, cX6_findMatch, 6, none, 6),
  (yX6_match, cX6_match, 2, (some .int), 6),
  (yX6_wouldRather, cX6_wouldRather, 3, (some .boolean), 6),
  (yX6_rather, cX6_rather, 3, (some .int), 6),
  (yX6_meet, cX6_meet, 5, (some .int), 6),
  (yX6_leads, cX6_leads, 13, (some .int), 6),
  (yX6_reading, cX6_reading, 5, (some .int), 6),
  (yX6_back, cX6_back, 2, (some .int), 6),
  (yX6_areSo, cX6_areSo, 4, (some .boolean), 6),
  (yX6_steps, cX6_steps, 5, (some .int), 6),
  (yX6_wills, cX6_wills, 5, (some .int), 6),
  (yX6_kinds, cX6_kinds, 5, (some .int), 6),
  (yX6_inLeastTerms, cX6_inLeastTerms, 11, (some .long), 6),
  (yX6_odds, cX6_odds, 9, (some .long), 6),
  (yX6_sheet, cX6_sheet, 5, (some .int), 6),
  (yX6_lose, cX6_lose, 3, (some .int), 6),
  (yX6_put, cX6_put, 4, (some .int), 6),
  (yX6_cell, cX6_cell, 4, (some .long), 6),
  (yX6_copy, cX6_copy, 10, (some .int), 6),
  (yX6_begins, cX6_begins, 2, none, 6),
  (yX6_tell, cX6_tell, 3, (some .int), 6),
  (yX6_pat, cX6_pat, 2, (some .int), 6),
  (yX6_as, cX6_as, 3, (some .int), 6),
  (yX6_trace, cX6_trace, 1, (some .int), 6),
  (yX6_fault, cX6_fault, 1, (some .int), 6),
  (yX6_many, cX6_many, 2, (some .int), 6),
  (yJ6_bitCount_0f7a4, cJ6_bitCount_0f7a4, 1, (some .int), 8)]
def pzRN : List String := [RX0, RX1, RX2, RX3, RX4, RX5, RX6, RL, RJ6, RJ9]
/-- what a new object of a class holds: 0 a number, 1 null -/
def pzKZ : List (List Nat) := [[1, 0], [0, 0, 0, 1, 1, 1, 1, 1, 1, 1], [0, 1, 1, 1], [0, 1, 1, 1, 1], [0, 0, 0, 1], [1, 1, 1, 1, 1, 1, 0, 0], [0, 0, 1, 1, 1, 0, 0, 0, 1, 1, 1, 1, 1, 1, 1, 0, 0, 0, 1, 0, 1, 1, 1, 1, 1, 0, 1, 1, 0, 0, 1, 1, 1, 1]]
