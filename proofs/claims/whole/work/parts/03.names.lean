def RX0 : String := "Boringhead$Borehole"
def TX0 : u_T := fun k => match k with
  | 0 => ("Boringhead$Borehole", "place", "I", true)
  | _ => ("Boringhead$Borehole", "kind", "I", true)
def tyX0 : Nat → FieldType := fun k => match k with
  | 0 => .int
  | _ => .int
abbrev wsX00 : List Cond := u_ws RX0 TX0 2
theorem nmX0 : ∀ a, a < 2 → ∀ b, b < 2 → a ≠ b → (TX0 a).2.1 ≠ (TX0 b).2.1 := by decide +kernel
theorem tyX0_ok : ∀ k, k < 2 → parseFieldDescriptor (TX0 k).2.2.1 = some (tyX0 k) := by decide +kernel
abbrev cX0_init : ByteArray := prog_2_method_1_code
def yX0_init : MethodName := ⟨RX0, "<init>", "(II)V"⟩
def RX1 : String := "Boringhead$Clock"
def TX1 : u_T := fun k => match k with
  | 0 => ("Boringhead$Clock", "minute", "I", false)
  | 1 => ("Boringhead$Clock", "forChanges", "I", false)
  | 2 => ("Boringhead$Clock", "forLifts", "I", false)
  | _ => ("Boringhead$Clock", "forLorries", "I", false)
def tyX1 : Nat → FieldType := fun k => match k with
  | 0 => .int
  | 1 => .int
  | 2 => .int
  | _ => .int
abbrev wsX10 : List Cond := u_ws RX1 TX1 4
theorem nmX1 : ∀ a, a < 4 → ∀ b, b < 4 → a ≠ b → (TX1 a).2.1 ≠ (TX1 b).2.1 := by decide +kernel
theorem tyX1_ok : ∀ k, k < 4 → parseFieldDescriptor (TX1 k).2.2.1 = some (tyX1 k) := by decide +kernel
abbrev cX1_init : ByteArray := prog_3_method_1_code
def yX1_init : MethodName := ⟨RX1, "<init>", "()V"⟩
abbrev cX1_isLorryTime : ByteArray := prog_3_method_2_code
def yX1_isLorryTime : MethodName := ⟨RX1, "isLorryTime", "()Z"⟩
abbrev cX1_forAllElse : ByteArray := prog_3_method_3_code
def yX1_forAllElse : MethodName := ⟨RX1, "forAllElse", "()I"⟩
def RX2 : String := "Boringhead$Contract"
def TX2 : u_T := fun k => match k with
  | 0 => ("Boringhead$Contract", "order", "[C", true)
  | _ => ("Boringhead$Contract", "waits", "[I", true)
def tyX2 : Nat → FieldType := fun k => match k with
  | 0 => .array .char
  | _ => .array .int
abbrev wsX20 : List Cond := u_ws RX2 TX2 2
theorem nmX2 : ∀ a, a < 2 → ∀ b, b < 2 → a ≠ b → (TX2 a).2.1 ≠ (TX2 b).2.1 := by decide +kernel
theorem tyX2_ok : ∀ k, k < 2 → parseFieldDescriptor (TX2 k).2.2.1 = some (tyX2 k) := by decide +kernel
abbrev cX2_init : ByteArray := prog_4_method_1_code
def yX2_init : MethodName := ⟨RX2, "<init>", "()V"⟩
abbrev cX2_addWait : ByteArray := prog_4_method_2_code
def yX2_addWait : MethodName := ⟨RX2, "addWait", "(ICC)V"⟩
abbrev cX2_putFirst : ByteArray := prog_4_method_3_code
def yX2_putFirst : MethodName := ⟨RX2, "putFirst", "(I)V"⟩
abbrev cX2_allWaits : ByteArray := prog_4_method_4_code
def yX2_allWaits : MethodName := ⟨RX2, "allWaits", "()I"⟩
abbrev cX2_ownerOf : ByteArray := prog_4_method_5_code
def yX2_ownerOf : MethodName := ⟨RX2, "ownerOf", "(C)I"⟩
def RX3 : String := "Boringhead$Course"
def TX3 : u_T := fun k => match k with
  | 0 => ("Boringhead$Course", "headingRight", "I", false)
  | 1 => ("Boringhead$Course", "headingUp", "I", false)
  | 2 => ("Boringhead$Course", "offRight", "I", false)
  | _ => ("Boringhead$Course", "offUp", "I", false)
def tyX3 : Nat → FieldType := fun k => match k with
  | 0 => .int
  | 1 => .int
  | 2 => .int
  | _ => .int
abbrev wsX30 : List Cond := u_ws RX3 TX3 4
theorem nmX3 : ∀ a, a < 4 → ∀ b, b < 4 → a ≠ b → (TX3 a).2.1 ≠ (TX3 b).2.1 := by decide +kernel
theorem tyX3_ok : ∀ k, k < 4 → parseFieldDescriptor (TX3 k).2.2.1 = some (tyX3 k) := by decide +kernel
abbrev cX3_init : ByteArray := prog_5_method_1_code
def yX3_init : MethodName := ⟨RX3, "<init>", "()V"⟩
abbrev cX3_startAtLine : ByteArray := prog_5_method_2_code
def yX3_startAtLine : MethodName := ⟨RX3, "startAtLine", "()V"⟩
abbrev cX3_startAt : ByteArray := prog_5_method_3_code
def yX3_startAt : MethodName := ⟨RX3, "startAt", "(LBoringhead$Course;)V"⟩
abbrev cX3_go : ByteArray := prog_5_method_4_code
def yX3_go : MethodName := ⟨RX3, "go", "(II)V"⟩
abbrev cX3_square : ByteArray := prog_5_method_5_code
def yX3_square : MethodName := ⟨RX3, "square", "()J"⟩
abbrev cX3_isLike : ByteArray := prog_5_method_6_code
def yX3_isLike : MethodName := ⟨RX3, "isLike", "(LBoringhead$Course;)Z"⟩
def RX4 : String := "Boringhead$House"
def TX4 : u_T := fun k => match k with
  | 0 => ("Boringhead$House", "from", "I", true)
  | 1 => ("Boringhead$House", "to", "I", true)
  | 2 => ("Boringhead$House", "offset", "I", true)
  | 3 => ("Boringhead$House", "liftedFirst", "I", false)
  | 4 => ("Boringhead$House", "liftedLast", "I", false)
  | 5 => ("Boringhead$House", "wasRead", "Z", false)
  | _ => ("Boringhead$House", "reading", "I", false)
def tyX4 : Nat → FieldType := fun k => match k with
  | 0 => .int
  | 1 => .int
  | 2 => .int
  | 3 => .int
  | 4 => .int
  | 5 => .boolean
  | _ => .int
abbrev wsX40 : List Cond := u_ws RX4 TX4 7
theorem nmX4 : ∀ a, a < 7 → ∀ b, b < 7 → a ≠ b → (TX4 a).2.1 ≠ (TX4 b).2.1 := by decide +kernel
theorem tyX4_ok : ∀ k, k < 7 → parseFieldDescriptor (TX4 k).2.2.1 = some (tyX4 k) := by decide +kernel
abbrev cX4_init : ByteArray := prog_6_method_1_code
def yX4_init : MethodName := ⟨RX4, "<init>", "(III)V"⟩
abbrev cX4_awayFrom : ByteArray := prog_6_method_2_code
def yX4_awayFrom : MethodName := ⟨RX4, "awayFrom", "(I)I"⟩
abbrev cX4_colour : ByteArray := prog_6_method_3_code
def yX4_colour : MethodName := ⟨RX4, "colour", "()C"⟩
def RX5 : String := "Boringhead$Ring"
def TX5 : u_T := fun k => match k with
  | 0 => ("Boringhead$Ring", "turn", "I", true)
  | 1 => ("Boringhead$Ring", "kind", "I", true)
  | 2 => ("Boringhead$Ring", "pushRight", "I", true)
  | 3 => ("Boringhead$Ring", "pushUp", "I", true)
  | 4 => ("Boringhead$Ring", "isFoamed", "Z", true)
  | 5 => ("Boringhead$Ring", "offRight", "I", false)
  | 6 => ("Boringhead$Ring", "offUp", "I", false)
  | 7 => ("Boringhead$Ring", "minutes", "I", false)
  | 8 => ("Boringhead$Ring", "end", "I", false)
  | 9 => ("Boringhead$Ring", "more", "I", false)
  | 10 => ("Boringhead$Ring", "isNoticed", "Z", false)
  | 11 => ("Boringhead$Ring", "isInTime", "Z", false)
  | 12 => ("Boringhead$Ring", "filled", "I", false)
  | _ => ("Boringhead$Ring", "firstFilled", "I", false)
def tyX5 : Nat → FieldType := fun k => match k with
  | 0 => .int
  | 1 => .int
  | 2 => .int
  | 3 => .int
  | 4 => .boolean
  | 5 => .int
  | 6 => .int
  | 7 => .int
  | 8 => .int
  | 9 => .int
  | 10 => .boolean
  | 11 => .boolean
  | 12 => .int
  | _ => .int
abbrev wsX50 : List Cond := u_ws RX5 TX5 14
theorem nmX5 : ∀ a, a < 14 → ∀ b, b < 14 → a ≠ b → (TX5 a).2.1 ≠ (TX5 b).2.1 := by decide +kernel
theorem tyX5_ok : ∀ k, k < 14 → parseFieldDescriptor (TX5 k).2.2.1 = some (tyX5 k) := by decide +kernel
abbrev cX5_init : ByteArray := prog_7_method_1_code
def yX5_init : MethodName := ⟨RX5, "<init>", "(IILBoringhead$Shield;)V"⟩
abbrev cX5_isOff : ByteArray := prog_7_method_2_code
def yX5_isOff : MethodName := ⟨RX5, "isOff", "()Z"⟩
abbrev cX5_isEvent : ByteArray := prog_7_method_3_code
def yX5_isEvent : MethodName := ⟨RX5, "isEvent", "()Z"⟩
abbrev cX5_gap : ByteArray := prog_7_method_4_code
def yX5_gap : MethodName := ⟨RX5, "gap", "()I"⟩
abbrev cX5_room : ByteArray := prog_7_method_5_code
def yX5_room : MethodName := ⟨RX5, "room", "()I"⟩
abbrev cX5_missing : ByteArray := prog_7_method_6_code
def yX5_missing : MethodName := ⟨RX5, "missing", "()I"⟩
abbrev cX5_hasSet : ByteArray := prog_7_method_7_code
def yX5_hasSet : MethodName := ⟨RX5, "hasSet", "(I)Z"⟩
def RX6 : String := "Boringhead$Shield"
def TX6 : u_T := fun k => match k with
  | 0 => ("Boringhead$Shield", "wears", "[I", true)
  | 1 => ("Boringhead$Shield", "pressing", "I", false)
  | 2 => ("Boringhead$Shield", "foaming", "Z", false)
  | 3 => ("Boringhead$Shield", "pushRight", "I", false)
  | _ => ("Boringhead$Shield", "pushUp", "I", false)
def tyX6 : Nat → FieldType := fun k => match k with
  | 0 => .array .int
  | 1 => .int
  | 2 => .boolean
  | 3 => .int
  | _ => .int
abbrev wsX60 : List Cond := u_ws RX6 TX6 5
theorem nmX6 : ∀ a, a < 5 → ∀ b, b < 5 → a ≠ b → (TX6 a).2.1 ≠ (TX6 b).2.1 := by decide +kernel
theorem tyX6_ok : ∀ k, k < 5 → parseFieldDescriptor (TX6 k).2.2.1 = some (tyX6 k) := by decide +kernel
abbrev cX6_init : ByteArray := prog_8_method_1_code
def yX6_init : MethodName := ⟨RX6, "<init>", "()V"⟩
abbrev cX6_isWornOut : ByteArray := prog_8_method_2_code
def yX6_isWornOut : MethodName := ⟨RX6, "isWornOut", "()Z"⟩
abbrev cX6_wear : ByteArray := prog_8_method_3_code
def yX6_wear : MethodName := ⟨RX6, "wear", "(I)V"⟩
def RX7 : String := "Boringhead$Soil"
def TX7 : u_T := fun k => match k with
  | 0 => ("Boringhead$Soil", "kinds", "[I", true)
  | 1 => ("Boringhead$Soil", "references", "[I", true)
  | 2 => ("Boringhead$Soil", "depths", "[I", true)
  | 3 => ("Boringhead$Soil", "waters", "[I", true)
  | 4 => ("Boringhead$Soil", "bendsRight", "[I", true)
  | 5 => ("Boringhead$Soil", "bendsUp", "[I", true)
  | _ => ("Boringhead$Soil", "boreholes", "Ljava/util/ArrayList;", true)
def tyX7 : Nat → FieldType := fun k => match k with
  | 0 => .array .int
  | 1 => .array .int
  | 2 => .array .int
  | 3 => .array .int
  | 4 => .array .int
  | 5 => .array .int
  | _ => .object "java/util/ArrayList"
abbrev wsX70 : List Cond := u_ws RX7 TX7 7
theorem nmX7 : ∀ a, a < 7 → ∀ b, b < 7 → a ≠ b → (TX7 a).2.1 ≠ (TX7 b).2.1 := by decide +kernel
theorem tyX7_ok : ∀ k, k < 7 → parseFieldDescriptor (TX7 k).2.2.1 = some (tyX7 k) := by decide +kernel
abbrev cX7_init : ByteArray := prog_9_method_1_code
def yX7_init : MethodName := ⟨RX7, "<init>", "()V"⟩
abbrev cX7_bound : ByteArray := prog_9_method_2_code
def yX7_bound : MethodName := ⟨RX7, "bound", "(I[I)I"⟩
abbrev cX7_weight : ByteArray := prog_9_method_3_code
def yX7_weight : MethodName := ⟨RX7, "weight", "(II)I"⟩
abbrev cX7_weightOfAll : ByteArray := prog_9_method_4_code
def yX7_weightOfAll : MethodName := ⟨RX7, "weightOfAll", "(I)I"⟩
abbrev cX7_likeliest : ByteArray := prog_9_method_5_code
def yX7_likeliest : MethodName := ⟨RX7, "likeliest", "(I)I"⟩
abbrev cX7_eventMinutes : ByteArray := prog_9_method_6_code
def yX7_eventMinutes : MethodName := ⟨RX7, "eventMinutes", "(I)I"⟩
def RX8 : String := "Boringhead$Yard"
def TX8 : u_T := fun k => match k with
  | 0 => ("Boringhead$Yard", "segments", "I", false)
  | 1 => ("Boringhead$Yard", "inPit", "I", false)
  | _ => ("Boringhead$Yard", "away", "I", false)
def tyX8 : Nat → FieldType := fun k => match k with
  | 0 => .int
  | 1 => .int
  | _ => .int
abbrev wsX80 : List Cond := u_ws RX8 TX8 3
theorem nmX8 : ∀ a, a < 3 → ∀ b, b < 3 → a ≠ b → (TX8 a).2.1 ≠ (TX8 b).2.1 := by decide +kernel
theorem tyX8_ok : ∀ k, k < 3 → parseFieldDescriptor (TX8 k).2.2.1 = some (tyX8 k) := by decide +kernel
abbrev cX8_init : ByteArray := prog_10_method_1_code
def yX8_init : MethodName := ⟨RX8, "<init>", "()V"⟩
def RX9 : String := "Boringhead"
def TX9 : u_T := fun k => match k with
  | 0 => ("Boringhead", "soil", "LBoringhead$Soil;", true)
  | 1 => ("Boringhead", "shield", "LBoringhead$Shield;", true)
  | 2 => ("Boringhead", "course", "LBoringhead$Course;", true)
  | 3 => ("Boringhead", "trial", "LBoringhead$Course;", true)
  | 4 => ("Boringhead", "yard", "LBoringhead$Yard;", true)
  | 5 => ("Boringhead", "clock", "LBoringhead$Clock;", true)
  | 6 => ("Boringhead", "contract", "LBoringhead$Contract;", true)
  | 7 => ("Boringhead", "built", "Ljava/util/ArrayList;", true)
  | _ => ("Boringhead", "houses", "Ljava/util/ArrayList;", true)
def tyX9 : Nat → FieldType := fun k => match k with
  | 0 => .object "Boringhead$Soil"
  | 1 => .object "Boringhead$Shield"
  | 2 => .object "Boringhead$Course"
  | 3 => .object "Boringhead$Course"
  | 4 => .object "Boringhead$Yard"
  | 5 => .object "Boringhead$Clock"
  | 6 => .object "Boringhead$Contract"
  | 7 => .object "java/util/ArrayList"
  | _ => .object "java/util/ArrayList"
abbrev wsX90 : List Cond := u_ws RX9 TX9 9
theorem nmX9 : ∀ a, a < 9 → ∀ b, b < 9 → a ≠ b → (TX9 a).2.1 ≠ (TX9 b).2.1 := by decide +kernel
theorem tyX9_ok : ∀ k, k < 9 → parseFieldDescriptor (TX9 k).2.2.1 = some (tyX9 k) := by decide +kernel
abbrev cX9_init : ByteArray := prog_1_method_1_code
def yX9_init : MethodName := ⟨RX9, "<init>", "()V"⟩
abbrev cX9_ground : ByteArray := prog_1_method_2_code
def yX9_ground : MethodName := ⟨RX9, "ground", "(IIC)I"⟩
abbrev cX9_reference : ByteArray := prog_1_method_3_code
def yX9_reference : MethodName := ⟨RX9, "reference", "(IIC)I"⟩
abbrev cX9_depth : ByteArray := prog_1_method_4_code
def yX9_depth : MethodName := ⟨RX9, "depth", "(III)I"⟩
abbrev cX9_water : ByteArray := prog_1_method_5_code
def yX9_water : MethodName := ⟨RX9, "water", "(III)I"⟩
abbrev cX9_bend : ByteArray := prog_1_method_6_code
def yX9_bend : MethodName := ⟨RX9, "bend", "(IIII)I"⟩
abbrev cX9_bore : ByteArray := prog_1_method_7_code
def yX9_bore : MethodName := ⟨RX9, "bore", "(IC)I"⟩
abbrev cX9_guess : ByteArray := prog_1_method_8_code
def yX9_guess : MethodName := ⟨RX9, "guess", "(I)C"⟩
abbrev cX9_doubt : ByteArray := prog_1_method_9_code
def yX9_doubt : MethodName := ⟨RX9, "doubt", "(I)I"⟩
abbrev cX9_pressure : ByteArray := prog_1_method_10_code
def yX9_pressure : MethodName := ⟨RX9, "pressure", "(I)I"⟩
abbrev cX9_lower : ByteArray := prog_1_method_11_code
def yX9_lower : MethodName := ⟨RX9, "lower", "(I)I"⟩
abbrev cX9_upper : ByteArray := prog_1_method_12_code
def yX9_upper : MethodName := ⟨RX9, "upper", "(I)I"⟩
abbrev cX9_foam : ByteArray := prog_1_method_13_code
def yX9_foam : MethodName := ⟨RX9, "foam", "(Z)Z"⟩
abbrev cX9_worn : ByteArray := prog_1_method_14_code
def yX9_worn : MethodName := ⟨RX9, "worn", "(I)I"⟩
abbrev cX9_change : ByteArray := prog_1_method_15_code
def yX9_change : MethodName := ⟨RX9, "change", "(I)I"⟩
abbrev cX9_steer : ByteArray := prog_1_method_16_code
def yX9_steer : MethodName := ⟨RX9, "steer", "(II)I"⟩
abbrev cX9_bars : ByteArray := prog_1_method_17_code
def yX9_bars : MethodName := ⟨RX9, "bars", "(I)C"⟩
abbrev cX9_advance : ByteArray := prog_1_method_18_code
def yX9_advance : MethodName := ⟨RX9, "advance", "(I)I"⟩
abbrev cX9_rings : ByteArray := prog_1_method_19_code
def yX9_rings : MethodName := ⟨RX9, "rings", "()I"⟩
abbrev cX9_off : ByteArray := prog_1_method_20_code
def yX9_off : MethodName := ⟨RX9, "off", "(IZ)I"⟩
abbrev cX9_heading : ByteArray := prog_1_method_21_code
def yX9_heading : MethodName := ⟨RX9, "heading", "(Z)I"⟩
abbrev cX9_rotation : ByteArray := prog_1_method_22_code
def yX9_rotation : MethodName := ⟨RX9, "rotation", "(I)I"⟩
abbrev cX9_plan : ByteArray := prog_1_method_23_code
def yX9_plan : MethodName := ⟨RX9, "plan", "(I)I"⟩
abbrev cX9_squares : ByteArray := prog_1_method_24_code
def yX9_squares : MethodName := ⟨RX9, "squares", "(I)J"⟩
abbrev cX9_offRings : ByteArray := prog_1_method_25_code
def yX9_offRings : MethodName := ⟨RX9, "offRings", "()I"⟩
abbrev cX9_grout : ByteArray := prog_1_method_26_code
def yX9_grout : MethodName := ⟨RX9, "grout", "(II)I"⟩
abbrev cX9_lost : ByteArray := prog_1_method_27_code
def yX9_lost : MethodName := ⟨RX9, "lost", "(I)I"⟩
abbrev cX9_house : ByteArray := prog_1_method_28_code
def yX9_house : MethodName := ⟨RX9, "house", "(III)I"⟩
abbrev cX9_settles : ByteArray := prog_1_method_29_code
def yX9_settles : MethodName := ⟨RX9, "settles", "(IZ)I"⟩
abbrev cX9_tilt : ByteArray := prog_1_method_30_code
def yX9_tilt : MethodName := ⟨RX9, "tilt", "(I)I"⟩
abbrev cX9_damage : ByteArray := prog_1_method_31_code
def yX9_damage : MethodName := ⟨RX9, "damage", "(I)I"⟩
abbrev cX9_read : ByteArray := prog_1_method_32_code
def yX9_read : MethodName := ⟨RX9, "read", "(I)I"⟩
abbrev cX9_alarm : ByteArray := prog_1_method_33_code
def yX9_alarm : MethodName := ⟨RX9, "alarm", "(I)C"⟩
abbrev cX9_lift : ByteArray := prog_1_method_34_code
def yX9_lift : MethodName := ⟨RX9, "lift", "(IZI)I"⟩
abbrev cX9_deliver : ByteArray := prog_1_method_35_code
def yX9_deliver : MethodName := ⟨RX9, "deliver", "(I)I"⟩
abbrev cX9_muck : ByteArray := prog_1_method_36_code
def yX9_muck : MethodName := ⟨RX9, "muck", "()I"⟩
abbrev cX9_lorries : ByteArray := prog_1_method_37_code
def yX9_lorries : MethodName := ⟨RX9, "lorries", "(I)I"⟩
abbrev cX9_now : ByteArray := prog_1_method_38_code
def yX9_now : MethodName := ⟨RX9, "now", "()I"⟩
abbrev cX9_pause : ByteArray := prog_1_method_39_code
def yX9_pause : MethodName := ⟨RX9, "pause", "(ICC)I"⟩
abbrev cX9_first : ByteArray := prog_1_method_40_code
def yX9_first : MethodName := ⟨RX9, "first", "(C)I"⟩
abbrev cX9_waited : ByteArray := prog_1_method_41_code
def yX9_waited : MethodName := ⟨RX9, "waited", "(C)I"⟩
abbrev cX9_events : ByteArray := prog_1_method_42_code
def yX9_events : MethodName := ⟨RX9, "events", "()I"⟩
abbrev cX9_notice : ByteArray := prog_1_method_43_code
def yX9_notice : MethodName := ⟨RX9, "notice", "(I)Z"⟩
abbrev cX9_claimed : ByteArray := prog_1_method_44_code
def yX9_claimed : MethodName := ⟨RX9, "claimed", "()I"⟩
abbrev cX9_count : ByteArray := prog_1_method_45_code
def yX9_count : MethodName := ⟨RX9, "count", "(C)I"⟩
abbrev cX9_groutShare : ByteArray := prog_1_method_46_code
def yX9_groutShare : MethodName := ⟨RX9, "groutShare", "()F"⟩
abbrev cX9_meanMinutes : ByteArray := prog_1_method_47_code
def yX9_meanMinutes : MethodName := ⟨RX9, "meanMinutes", "()D"⟩
abbrev cX9_checksum : ByteArray := prog_1_method_48_code
def yX9_checksum : MethodName := ⟨RX9, "checksum", "()J"⟩
abbrev cX9_isSound : ByteArray := prog_1_method_49_code
def yX9_isSound : MethodName := ⟨RX9, "isSound", "()Z"⟩
abbrev cX9_isWithin : ByteArray := prog_1_method_50_code
def yX9_isWithin : MethodName := ⟨RX9, "isWithin", "(III)Z"⟩
abbrev cX9_isPlace : ByteArray := prog_1_method_51_code
def yX9_isPlace : MethodName := ⟨RX9, "isPlace", "(I)Z"⟩
abbrev cX9_isStretch : ByteArray := prog_1_method_52_code
def yX9_isStretch : MethodName := ⟨RX9, "isStretch", "(II)Z"⟩
abbrev cX9_refuseBuilt : ByteArray := prog_1_method_53_code
def yX9_refuseBuilt : MethodName := ⟨RX9, "refuseBuilt", "(I)V"⟩
abbrev cX9_refuseLate : ByteArray := prog_1_method_54_code
def yX9_refuseLate : MethodName := ⟨RX9, "refuseLate", "(I)V"⟩
abbrev cX9_ringAt : ByteArray := prog_1_method_55_code
def yX9_ringAt : MethodName := ⟨RX9, "ringAt", "(I)LBoringhead$Ring;"⟩
abbrev cX9_houseAt : ByteArray := prog_1_method_56_code
def yX9_houseAt : MethodName := ⟨RX9, "houseAt", "(I)LBoringhead$House;"⟩
abbrev cX9_tellKind : ByteArray := prog_1_method_57_code
def yX9_tellKind : MethodName := ⟨RX9, "tellKind", "([IIIC)I"⟩
abbrev cX9_tellNumber : ByteArray := prog_1_method_58_code
def yX9_tellNumber : MethodName := ⟨RX9, "tellNumber", "([IIIIII)I"⟩
abbrev cX9_at : ByteArray := prog_1_method_59_code
def yX9_at : MethodName := ⟨RX9, "at", "([II)I"⟩
abbrev cX9_put : ByteArray := prog_1_method_60_code
def yX9_put : MethodName := ⟨RX9, "put", "([III)V"⟩
abbrev cX9_fill : ByteArray := prog_1_method_61_code
def yX9_fill : MethodName := ⟨RX9, "fill", "([IIII)I"⟩
abbrev cX9_letterAt : ByteArray := prog_1_method_62_code
def yX9_letterAt : MethodName := ⟨RX9, "letterAt", "([CI)C"⟩
abbrev cX9_indexIn : ByteArray := prog_1_method_63_code
def yX9_indexIn : MethodName := ⟨RX9, "indexIn", "([CC)I"⟩
abbrev cX9_barOf : ByteArray := prog_1_method_64_code
def yX9_barOf : MethodName := ⟨RX9, "barOf", "(I)C"⟩
abbrev cX9_lastTurn : ByteArray := prog_1_method_65_code
def yX9_lastTurn : MethodName := ⟨RX9, "lastTurn", "()I"⟩
abbrev cX9_isRedNear : ByteArray := prog_1_method_66_code
def yX9_isRedNear : MethodName := ⟨RX9, "isRedNear", "(I)Z"⟩
abbrev cX9_muckOf : ByteArray := prog_1_method_67_code
def yX9_muckOf : MethodName := ⟨RX9, "muckOf", "(IZ)I"⟩
abbrev cX9_nextMinutes : ByteArray := prog_1_method_68_code
def yX9_nextMinutes : MethodName := ⟨RX9, "nextMinutes", "()I"⟩
abbrev cX9_changeMinutes : ByteArray := prog_1_method_69_code
def yX9_changeMinutes : MethodName := ⟨RX9, "changeMinutes", "(I)I"⟩
abbrev cX9_build : ByteArray := prog_1_method_70_code
def yX9_build : MethodName := ⟨RX9, "build", "(II)V"⟩
abbrev cX9_go : ByteArray := prog_1_method_71_code
def yX9_go : MethodName := ⟨RX9, "go", "(LBoringhead$Course;IIII)V"⟩
abbrev cX9_bestRow : ByteArray := prog_1_method_72_code
def yX9_bestRow : MethodName := ⟨RX9, "bestRow", "(I)I"⟩
abbrev cX9_sumOfRow : ByteArray := prog_1_method_73_code
def yX9_sumOfRow : MethodName := ⟨RX9, "sumOfRow", "(II)J"⟩
abbrev cX9_turnOf : ByteArray := prog_1_method_74_code
def yX9_turnOf : MethodName := ⟨RX9, "turnOf", "(III)I"⟩
abbrev cX9_tiltOf : ByteArray := prog_1_method_75_code
def yX9_tiltOf : MethodName := ⟨RX9, "tiltOf", "(LBoringhead$House;)I"⟩
abbrev cX9_settlement : ByteArray := prog_1_method_76_code
def yX9_settlement : MethodName := ⟨RX9, "settlement", "(LBoringhead$House;Z)I"⟩
abbrev cX9_sunkBy : ByteArray := prog_1_method_77_code
def yX9_sunkBy : MethodName := ⟨RX9, "sunkBy", "(IIII)I"⟩
abbrev cX9_isCourseSound : ByteArray := prog_1_method_78_code
def yX9_isCourseSound : MethodName := ⟨RX9, "isCourseSound", "()Z"⟩
abbrev cX9_isMuckSound : ByteArray := prog_1_method_79_code
def yX9_isMuckSound : MethodName := ⟨RX9, "isMuckSound", "()Z"⟩
abbrev cX9_areEventsSound : ByteArray := prog_1_method_80_code
def yX9_areEventsSound : MethodName := ⟨RX9, "areEventsSound", "()Z"⟩
abbrev cX9_areRingsSound : ByteArray := prog_1_method_81_code
def yX9_areRingsSound : MethodName := ⟨RX9, "areRingsSound", "()Z"⟩
abbrev cX9_isClockSound : ByteArray := prog_1_method_82_code
def yX9_isClockSound : MethodName := ⟨RX9, "isClockSound", "()Z"⟩
abbrev cX9_minutesOfRings : ByteArray := prog_1_method_83_code
def yX9_minutesOfRings : MethodName := ⟨RX9, "minutesOfRings", "()I"⟩
def RX10 : String := "BoringheadModel$Ring"
def TX10 : u_T := fun k => match k with
  | 0 => ("BoringheadModel$Ring", "rotation", "I", false)
  | 1 => ("BoringheadModel$Ring", "right", "I", false)
  | 2 => ("BoringheadModel$Ring", "up", "I", false)
  | 3 => ("BoringheadModel$Ring", "minutes", "I", false)
  | 4 => ("BoringheadModel$Ring", "end", "I", false)
  | 5 => ("BoringheadModel$Ring", "grout", "I", false)
  | 6 => ("BoringheadModel$Ring", "grouted", "I", false)
  | 7 => ("BoringheadModel$Ring", "noticed", "Z", false)
  | _ => ("BoringheadModel$Ring", "inTime", "Z", false)
def tyX10 : Nat → FieldType := fun k => match k with
  | 0 => .int
  | 1 => .int
  | 2 => .int
  | 3 => .int
  | 4 => .int
  | 5 => .int
  | 6 => .int
  | 7 => .boolean
  | _ => .boolean
abbrev wsX100 : List Cond := u_ws RX10 TX10 9
theorem nmX10 : ∀ a, a < 9 → ∀ b, b < 9 → a ≠ b → (TX10 a).2.1 ≠ (TX10 b).2.1 := by decide +kernel
theorem tyX10_ok : ∀ k, k < 9 → parseFieldDescriptor (TX10 k).2.2.1 = some (tyX10 k) := by decide +kernel
abbrev cX10_init : ByteArray := prog_13_method_1_code
def yX10_init : MethodName := ⟨RX10, "<init>", "()V"⟩
def RX11 : String := "BoringheadModel"
def TX11 : u_T := fun k => match k with
  | 0 => ("BoringheadModel", "thrown", "I", false)
  | 1 => ("BoringheadModel", "ground", "[I", true)
  | 2 => ("BoringheadModel", "reference", "[I", true)
  | 3 => ("BoringheadModel", "depth", "[I", true)
  | 4 => ("BoringheadModel", "water", "[I", true)
  | 5 => ("BoringheadModel", "bendRight", "[I", true)
  | 6 => ("BoringheadModel", "bendUp", "[I", true)
  | 7 => ("BoringheadModel", "bores", "Ljava/util/List;", true)
  | 8 => ("BoringheadModel", "rings", "Ljava/util/List;", true)
  | 9 => ("BoringheadModel", "worn", "[I", true)
  | 10 => ("BoringheadModel", "houses", "Ljava/util/List;", true)
  | 11 => ("BoringheadModel", "pressure", "I", false)
  | 12 => ("BoringheadModel", "foam", "Z", false)
  | 13 => ("BoringheadModel", "jackRight", "I", false)
  | 14 => ("BoringheadModel", "jackUp", "I", false)
  | 15 => ("BoringheadModel", "headRight", "I", false)
  | 16 => ("BoringheadModel", "headUp", "I", false)
  | 17 => ("BoringheadModel", "segments", "I", false)
  | 18 => ("BoringheadModel", "muck", "I", false)
  | 19 => ("BoringheadModel", "now", "I", false)
  | 20 => ("BoringheadModel", "contract", "Ljava/lang/String;", false)
  | _ => ("BoringheadModel", "waited", "[I", true)
def tyX11 : Nat → FieldType := fun k => match k with
  | 0 => .int
  | 1 => .array .int
  | 2 => .array .int
  | 3 => .array .int
  | 4 => .array .int
  | 5 => .array .int
  | 6 => .array .int
  | 7 => .object "java/util/List"
  | 8 => .object "java/util/List"
  | 9 => .array .int
  | 10 => .object "java/util/List"
  | 11 => .int
  | 12 => .boolean
  | 13 => .int
  | 14 => .int
  | 15 => .int
  | 16 => .int
  | 17 => .int
  | 18 => .int
  | 19 => .int
  | 20 => .object "java/lang/String"
  | _ => .array .int
abbrev wsX110 : List Cond := u_ws RX11 TX11 22
theorem nmX11 : ∀ a, a < 22 → ∀ b, b < 22 → a ≠ b → (TX11 a).2.1 ≠ (TX11 b).2.1 := by decide +kernel
theorem tyX11_ok : ∀ k, k < 22 → parseFieldDescriptor (TX11 k).2.2.1 = some (tyX11 k) := by decide +kernel
abbrev cX11_thrown : ByteArray := prog_12_method_1_code
def yX11_thrown : MethodName := ⟨RX11, "thrown", "()I"⟩
abbrev cX11_in : ByteArray := prog_12_method_2_code
def yX11_in : MethodName := ⟨RX11, "in", "(JJJ)Z"⟩
abbrev cX11_isOf : ByteArray := prog_12_method_3_code
def yX11_isOf : MethodName := ⟨RX11, "isOf", "(Ljava/util/List;I)Z"⟩
abbrev cX11_fails : ByteArray := prog_12_method_4_code
def yX11_fails : MethodName := ⟨RX11, "fails", "(ZI)Z"⟩
abbrev cX11_begins : ByteArray := prog_12_method_5_code
def yX11_begins : MethodName := ⟨RX11, "begins", "()V"⟩
abbrev cX11_init : ByteArray := prog_12_method_6_code
def yX11_init : MethodName := ⟨RX11, "<init>", "()V"⟩
abbrev cX11_isPlace : ByteArray := prog_12_method_7_code
def yX11_isPlace : MethodName := ⟨RX11, "isPlace", "(I)Z"⟩
abbrev cX11_noStretch : ByteArray := prog_12_method_8_code
def yX11_noStretch : MethodName := ⟨RX11, "noStretch", "(IIZ)Z"⟩
abbrev cX11_tell : ByteArray := prog_12_method_9_code
def yX11_tell : MethodName := ⟨RX11, "tell", "([IIIC)I"⟩
abbrev cX11_ground : ByteArray := prog_12_method_10_code
def yX11_ground : MethodName := ⟨RX11, "ground", "(IIC)I"⟩
abbrev cX11_reference : ByteArray := prog_12_method_11_code
def yX11_reference : MethodName := ⟨RX11, "reference", "(IIC)I"⟩
abbrev cX11_lay : ByteArray := prog_12_method_12_code
def yX11_lay : MethodName := ⟨RX11, "lay", "([IIIIII)I"⟩
abbrev cX11_depth : ByteArray := prog_12_method_13_code
def yX11_depth : MethodName := ⟨RX11, "depth", "(III)I"⟩
abbrev cX11_water : ByteArray := prog_12_method_14_code
def yX11_water : MethodName := ⟨RX11, "water", "(III)I"⟩
abbrev cX11_bend : ByteArray := prog_12_method_15_code
def yX11_bend : MethodName := ⟨RX11, "bend", "(IIII)I"⟩
abbrev cX11_bore : ByteArray := prog_12_method_16_code
def yX11_bore : MethodName := ⟨RX11, "bore", "(IC)I"⟩
abbrev cX11_weights : ByteArray := prog_12_method_17_code
def yX11_weights : MethodName := ⟨RX11, "weights", "(I)[I"⟩
abbrev cX11_best : ByteArray := prog_12_method_18_code
def yX11_best : MethodName := ⟨RX11, "best", "([I)I"⟩
abbrev cX11_guess : ByteArray := prog_12_method_19_code
def yX11_guess : MethodName := ⟨RX11, "guess", "(I)C"⟩
abbrev cX11_doubt : ByteArray := prog_12_method_20_code
def yX11_doubt : MethodName := ⟨RX11, "doubt", "(I)I"⟩
abbrev cX11_pressure : ByteArray := prog_12_method_21_code
def yX11_pressure : MethodName := ⟨RX11, "pressure", "(I)I"⟩
abbrev cX11_bound : ByteArray := prog_12_method_22_code
def yX11_bound : MethodName := ⟨RX11, "bound", "(I[I)I"⟩
abbrev cX11_lower : ByteArray := prog_12_method_23_code
def yX11_lower : MethodName := ⟨RX11, "lower", "(I)I"⟩
abbrev cX11_upper : ByteArray := prog_12_method_24_code
def yX11_upper : MethodName := ⟨RX11, "upper", "(I)I"⟩
abbrev cX11_foam : ByteArray := prog_12_method_25_code
def yX11_foam : MethodName := ⟨RX11, "foam", "(Z)Z"⟩
abbrev cX11_worn : ByteArray := prog_12_method_26_code
def yX11_worn : MethodName := ⟨RX11, "worn", "(I)I"⟩
abbrev cX11_change : ByteArray := prog_12_method_27_code
def yX11_change : MethodName := ⟨RX11, "change", "(I)I"⟩
abbrev cX11_steer : ByteArray := prog_12_method_28_code
def yX11_steer : MethodName := ⟨RX11, "steer", "(II)I"⟩
abbrev cX11_muckOf : ByteArray := prog_12_method_29_code
def yX11_muckOf : MethodName := ⟨RX11, "muckOf", "(I)I"⟩
abbrev cX11_away : ByteArray := prog_12_method_30_code
def yX11_away : MethodName := ⟨RX11, "away", "([II)I"⟩
abbrev cX11_barsNow : ByteArray := prog_12_method_31_code
def yX11_barsNow : MethodName := ⟨RX11, "barsNow", "(I)C"⟩
abbrev cX11_bars : ByteArray := prog_12_method_32_code
def yX11_bars : MethodName := ⟨RX11, "bars", "(I)C"⟩
abbrev cX11_advance : ByteArray := prog_12_method_33_code
def yX11_advance : MethodName := ⟨RX11, "advance", "(I)I"⟩
abbrev cX11_rings : ByteArray := prog_12_method_34_code
def yX11_rings : MethodName := ⟨RX11, "rings", "()I"⟩
abbrev cX11_noRing : ByteArray := prog_12_method_35_code
def yX11_noRing : MethodName := ⟨RX11, "noRing", "(I)Z"⟩
abbrev cX11_off : ByteArray := prog_12_method_36_code
def yX11_off : MethodName := ⟨RX11, "off", "(IZ)I"⟩
abbrev cX11_heading : ByteArray := prog_12_method_37_code
def yX11_heading : MethodName := ⟨RX11, "heading", "(Z)I"⟩
abbrev cX11_rotation : ByteArray := prog_12_method_38_code
def yX11_rotation : MethodName := ⟨RX11, "rotation", "(I)I"⟩
abbrev cX11_least : ByteArray := prog_12_method_39_code
def yX11_least : MethodName := ⟨RX11, "least", "(III[J[I)J"⟩
abbrev cX11_planned : ByteArray := prog_12_method_40_code
def yX11_planned : MethodName := ⟨RX11, "planned", "(I[I)J"⟩
abbrev cX11_plan : ByteArray := prog_12_method_41_code
def yX11_plan : MethodName := ⟨RX11, "plan", "(I)I"⟩
abbrev cX11_squares : ByteArray := prog_12_method_42_code
def yX11_squares : MethodName := ⟨RX11, "squares", "(I)J"⟩
abbrev cX11_offRings : ByteArray := prog_12_method_43_code
def yX11_offRings : MethodName := ⟨RX11, "offRings", "()I"⟩
abbrev cX11_gap : ByteArray := prog_12_method_44_code
def yX11_gap : MethodName := ⟨RX11, "gap", "(I)I"⟩
abbrev cX11_lostAt : ByteArray := prog_12_method_45_code
def yX11_lostAt : MethodName := ⟨RX11, "lostAt", "(I)I"⟩
abbrev cX11_grout : ByteArray := prog_12_method_46_code
def yX11_grout : MethodName := ⟨RX11, "grout", "(II)I"⟩
abbrev cX11_lost : ByteArray := prog_12_method_47_code
def yX11_lost : MethodName := ⟨RX11, "lost", "(I)I"⟩
abbrev cX11_house : ByteArray := prog_12_method_48_code
def yX11_house : MethodName := ⟨RX11, "house", "(III)I"⟩
abbrev cX11_settled : ByteArray := prog_12_method_49_code
def yX11_settled : MethodName := ⟨RX11, "settled", "(IZ)I"⟩
abbrev cX11_noHouse : ByteArray := prog_12_method_50_code
def yX11_noHouse : MethodName := ⟨RX11, "noHouse", "(I)Z"⟩
abbrev cX11_settles : ByteArray := prog_12_method_51_code
def yX11_settles : MethodName := ⟨RX11, "settles", "(IZ)I"⟩
abbrev cX11_tilted : ByteArray := prog_12_method_52_code
def yX11_tilted : MethodName := ⟨RX11, "tilted", "(I)I"⟩
abbrev cX11_tilt : ByteArray := prog_12_method_53_code
def yX11_tilt : MethodName := ⟨RX11, "tilt", "(I)I"⟩
abbrev cX11_damage : ByteArray := prog_12_method_54_code
def yX11_damage : MethodName := ⟨RX11, "damage", "(I)I"⟩
abbrev cX11_read : ByteArray := prog_12_method_55_code
def yX11_read : MethodName := ⟨RX11, "read", "(I)I"⟩
abbrev cX11_alarm : ByteArray := prog_12_method_56_code
def yX11_alarm : MethodName := ⟨RX11, "alarm", "(I)C"⟩
abbrev cX11_lift : ByteArray := prog_12_method_57_code
def yX11_lift : MethodName := ⟨RX11, "lift", "(IZI)I"⟩
abbrev cX11_deliver : ByteArray := prog_12_method_58_code
def yX11_deliver : MethodName := ⟨RX11, "deliver", "(I)I"⟩
abbrev cX11_muck : ByteArray := prog_12_method_59_code
def yX11_muck : MethodName := ⟨RX11, "muck", "()I"⟩
abbrev cX11_lorries : ByteArray := prog_12_method_60_code
def yX11_lorries : MethodName := ⟨RX11, "lorries", "(I)I"⟩
abbrev cX11_now : ByteArray := prog_12_method_61_code
def yX11_now : MethodName := ⟨RX11, "now", "()I"⟩
abbrev cX11_whose : ByteArray := prog_12_method_62_code
def yX11_whose : MethodName := ⟨RX11, "whose", "(C)I"⟩
abbrev cX11_pause : ByteArray := prog_12_method_63_code
def yX11_pause : MethodName := ⟨RX11, "pause", "(ICC)I"⟩
abbrev cX11_first : ByteArray := prog_12_method_64_code
def yX11_first : MethodName := ⟨RX11, "first", "(C)I"⟩
abbrev cX11_waited : ByteArray := prog_12_method_65_code
def yX11_waited : MethodName := ⟨RX11, "waited", "(C)I"⟩
abbrev cX11_event : ByteArray := prog_12_method_66_code
def yX11_event : MethodName := ⟨RX11, "event", "(I)I"⟩
abbrev cX11_events : ByteArray := prog_12_method_67_code
def yX11_events : MethodName := ⟨RX11, "events", "()I"⟩
abbrev cX11_notice : ByteArray := prog_12_method_68_code
def yX11_notice : MethodName := ⟨RX11, "notice", "(I)Z"⟩
abbrev cX11_claimed : ByteArray := prog_12_method_69_code
def yX11_claimed : MethodName := ⟨RX11, "claimed", "()I"⟩
abbrev cX11_count : ByteArray := prog_12_method_70_code
def yX11_count : MethodName := ⟨RX11, "count", "(C)I"⟩
abbrev cX11_groutShare : ByteArray := prog_12_method_71_code
def yX11_groutShare : MethodName := ⟨RX11, "groutShare", "()F"⟩
abbrev cX11_meanMinutes : ByteArray := prog_12_method_72_code
def yX11_meanMinutes : MethodName := ⟨RX11, "meanMinutes", "()D"⟩
abbrev cX11_checksum : ByteArray := prog_12_method_73_code
def yX11_checksum : MethodName := ⟨RX11, "checksum", "()J"⟩
abbrev cX11_isSound : ByteArray := prog_12_method_74_code
def yX11_isSound : MethodName := ⟨RX11, "isSound", "()Z"⟩
def RJx145de : String := "java/io/Serializable"
def TJx145de : u_T := fun k => match k with
  | _ => ("", "", "", false)
def tyJx145de : Nat → FieldType := fun k => match k with
  | _ => .int
abbrev wsJx145de0 : List Cond := u_ws RJx145de TJx145de 0
theorem nmJx145de : ∀ a, a < 0 → ∀ b, b < 0 → a ≠ b → (TJx145de a).2.1 ≠ (TJx145de b).2.1 := by decide +kernel
theorem tyJx145de_ok : ∀ k, k < 0 → parseFieldDescriptor (TJx145de k).2.2.1 = some (tyJx145de k) := by decide +kernel
def RJ5 : String := "java/lang/AbstractStringBuilder"
def TJ5 : u_T := fun k => match k with
  | _ => ("", "", "", false)
def tyJ5 : Nat → FieldType := fun k => match k with
  | _ => .int
abbrev wsJ50 : List Cond := u_ws RJ5 TJ5 0
theorem nmJ5 : ∀ a, a < 0 → ∀ b, b < 0 → a ≠ b → (TJ5 a).2.1 ≠ (TJ5 b).2.1 := by decide +kernel
theorem tyJ5_ok : ∀ k, k < 0 → parseFieldDescriptor (TJ5 k).2.2.1 = some (tyJ5 k) := by decide +kernel
abbrev cJ5_init_d00df : ByteArray := prog_15_method_2_code
def yJ5_init_d00df : MethodName := ⟨RJ5, "<init>", "(I)V"⟩
abbrev cJ5_length_8abf5 : ByteArray := prog_15_method_6_code
def yJ5_length_8abf5 : MethodName := ⟨RJ5, "length", "()I"⟩
abbrev cJ5_ensureCapacityInternal_d00df : ByteArray := prog_15_method_9_code
def yJ5_ensureCapacityInternal_d00df : MethodName := ⟨RJ5, "ensureCapacityInternal", "(I)V"⟩
abbrev cJ5_newCapacity_0f7a4 : ByteArray := prog_15_method_10_code
def yJ5_newCapacity_0f7a4 : MethodName := ⟨RJ5, "newCapacity", "(I)I"⟩
abbrev cJ5_inflate_da8c8 : ByteArray := prog_15_method_11_code
def yJ5_inflate_da8c8 : MethodName := ⟨RJ5, "inflate", "()V"⟩
abbrev cJ5_append_cf1ce : ByteArray := prog_15_method_22_code
def yJ5_append_cf1ce : MethodName := ⟨RJ5, "append", "(Ljava/lang/String;)Ljava/lang/AbstractStringBuilder;"⟩
abbrev cJ5_appendNull_278bc : ByteArray := prog_15_method_26_code
def yJ5_appendNull_278bc : MethodName := ⟨RJ5, "appendNull", "()Ljava/lang/AbstractStringBuilder;"⟩
abbrev cJ5_append_3fe6f : ByteArray := prog_15_method_31_code
def yJ5_append_3fe6f : MethodName := ⟨RJ5, "append", "(C)Ljava/lang/AbstractStringBuilder;"⟩
abbrev cJ5_append_c97b9 : ByteArray := prog_15_method_32_code
def yJ5_append_c97b9 : MethodName := ⟨RJ5, "append", "(I)Ljava/lang/AbstractStringBuilder;"⟩
abbrev cJ5_getValue_6d5f1 : ByteArray := prog_15_method_64_code
def yJ5_getValue_6d5f1 : MethodName := ⟨RJ5, "getValue", "()[B"⟩
abbrev cJ5_isLatin1_aae02 : ByteArray := prog_15_method_68_code
def yJ5_isLatin1_aae02 : MethodName := ⟨RJ5, "isLatin1", "()Z"⟩
abbrev cJ5_inflateIfNeededFor_a7421 : ByteArray := prog_15_method_71_code
def yJ5_inflateIfNeededFor_a7421 : MethodName := ⟨RJ5, "inflateIfNeededFor", "(Ljava/lang/String;)V"⟩
abbrev cJ5_putStringAt_47b60 : ByteArray := prog_15_method_73_code
def yJ5_putStringAt_47b60 : MethodName := ⟨RJ5, "putStringAt", "(ILjava/lang/String;)V"⟩
def RJx2cfe8 : String := "java/lang/Appendable"
def TJx2cfe8 : u_T := fun k => match k with
  | _ => ("", "", "", false)
def tyJx2cfe8 : Nat → FieldType := fun k => match k with
  | _ => .int
abbrev wsJx2cfe80 : List Cond := u_ws RJx2cfe8 TJx2cfe8 0
theorem nmJx2cfe8 : ∀ a, a < 0 → ∀ b, b < 0 → a ≠ b → (TJx2cfe8 a).2.1 ≠ (TJx2cfe8 b).2.1 := by decide +kernel
theorem tyJx2cfe8_ok : ∀ k, k < 0 → parseFieldDescriptor (TJx2cfe8 k).2.2.1 = some (tyJx2cfe8 k) := by decide +kernel
def RJx00060 : String := "java/lang/ArrayIndexOutOfBoundsException"
def TJx00060 : u_T := fun k => match k with
  | 0 => ("java/lang/Throwable", "backtrace", "Ljava/lang/Object;", false)
  | 1 => ("java/lang/Throwable", "detailMessage", "Ljava/lang/String;", false)
  | 2 => ("java/lang/Throwable", "cause", "Ljava/lang/Throwable;", false)
  | 3 => ("java/lang/Throwable", "stackTrace", "[Ljava/lang/StackTraceElement;", false)
  | 4 => ("java/lang/Throwable", "depth", "I", false)
  | _ => ("java/lang/Throwable", "suppressedExceptions", "Ljava/util/List;", false)
def tyJx00060 : Nat → FieldType := fun k => match k with
  | 0 => .object "java/lang/Object"
  | 1 => .object "java/lang/String"
  | 2 => .object "java/lang/Throwable"
  | 3 => .array (.object "java/lang/StackTraceElement")
  | 4 => .int
  | _ => .object "java/util/List"
abbrev wsJx000600 : List Cond := u_ws RJx00060 TJx00060 6
theorem nmJx00060 : ∀ a, a < 6 → ∀ b, b < 6 → a ≠ b → (TJx00060 a).2.1 ≠ (TJx00060 b).2.1 := by decide +kernel
theorem tyJx00060_ok : ∀ k, k < 6 → parseFieldDescriptor (TJx00060 k).2.2.1 = some (tyJx00060 k) := by decide +kernel
abbrev cJx00060_init_a7421 : ByteArray := prog_18_method_2_code
def yJx00060_init_a7421 : MethodName := ⟨RJx00060, "<init>", "(Ljava/lang/String;)V"⟩
def RJx9f9b0 : String := "java/lang/CharSequence"
def TJx9f9b0 : u_T := fun k => match k with
  | _ => ("", "", "", false)
def tyJx9f9b0 : Nat → FieldType := fun k => match k with
  | _ => .int
abbrev wsJx9f9b00 : List Cond := u_ws RJx9f9b0 TJx9f9b0 0
theorem nmJx9f9b0 : ∀ a, a < 0 → ∀ b, b < 0 → a ≠ b → (TJx9f9b0 a).2.1 ≠ (TJx9f9b0 b).2.1 := by decide +kernel
theorem tyJx9f9b0_ok : ∀ k, k < 0 → parseFieldDescriptor (TJx9f9b0 k).2.2.1 = some (tyJx9f9b0 k) := by decide +kernel
def RJ11 : String := "java/lang/Character"
def TJ11 : u_T := fun k => match k with
  | _ => ("", "", "", false)
def tyJ11 : Nat → FieldType := fun k => match k with
  | _ => .int
abbrev wsJ110 : List Cond := u_ws RJ11 TJ11 0
theorem nmJ11 : ∀ a, a < 0 → ∀ b, b < 0 → a ≠ b → (TJ11 a).2.1 ≠ (TJ11 b).2.1 := by decide +kernel
theorem tyJ11_ok : ∀ k, k < 0 → parseFieldDescriptor (TJ11 k).2.2.1 = some (tyJ11 k) := by decide +kernel
abbrev cJ11_isValidCodePoint_9a6ad : ByteArray := prog_20_method_11_code
def yJ11_isValidCodePoint_9a6ad : MethodName := ⟨RJ11, "isValidCodePoint", "(I)Z"⟩
abbrev cJ11_highSurrogate_5068e : ByteArray := prog_20_method_28_code
def yJ11_highSurrogate_5068e : MethodName := ⟨RJ11, "highSurrogate", "(I)C"⟩
abbrev cJ11_lowSurrogate_5068e : ByteArray := prog_20_method_29_code
def yJ11_lowSurrogate_5068e : MethodName := ⟨RJ11, "lowSurrogate", "(I)C"⟩
def RJx8e188 : String := "java/lang/Cloneable"
def TJx8e188 : u_T := fun k => match k with
  | _ => ("", "", "", false)
def tyJx8e188 : Nat → FieldType := fun k => match k with
  | _ => .int
abbrev wsJx8e1880 : List Cond := u_ws RJx8e188 TJx8e188 0
theorem nmJx8e188 : ∀ a, a < 0 → ∀ b, b < 0 → a ≠ b → (TJx8e188 a).2.1 ≠ (TJx8e188 b).2.1 := by decide +kernel
theorem tyJx8e188_ok : ∀ k, k < 0 → parseFieldDescriptor (TJx8e188 k).2.2.1 = some (tyJx8e188 k) := by decide +kernel
def RJxb160c : String := "java/lang/Comparable"
def TJxb160c : u_T := fun k => match k with
  | _ => ("", "", "", false)
def tyJxb160c : Nat → FieldType := fun k => match k with
  | _ => .int
abbrev wsJxb160c0 : List Cond := u_ws RJxb160c TJxb160c 0
theorem nmJxb160c : ∀ a, a < 0 → ∀ b, b < 0 → a ≠ b → (TJxb160c a).2.1 ≠ (TJxb160c b).2.1 := by decide +kernel
theorem tyJxb160c_ok : ∀ k, k < 0 → parseFieldDescriptor (TJxb160c k).2.2.1 = some (tyJxb160c k) := by decide +kernel
def RJ6 : String := "java/lang/Integer"
def TJ6 : u_T := fun k => match k with
  | _ => ("", "", "", false)
def tyJ6 : Nat → FieldType := fun k => match k with
  | _ => .int
abbrev wsJ60 : List Cond := u_ws RJ6 TJ6 0
theorem nmJ6 : ∀ a, a < 0 → ∀ b, b < 0 → a ≠ b → (TJ6 a).2.1 ≠ (TJ6 b).2.1 := by decide +kernel
theorem tyJ6_ok : ∀ k, k < 0 → parseFieldDescriptor (TJ6 k).2.2.1 = some (tyJ6 k) := by decide +kernel
abbrev cJ6_getChars_ba4f3 : ByteArray := prog_27_method_12_code
def yJ6_getChars_ba4f3 : MethodName := ⟨RJ6, "getChars", "(II[B)I"⟩
abbrev cJ6_stringSize_0f7a4 : ByteArray := prog_27_method_13_code
def yJ6_stringSize_0f7a4 : MethodName := ⟨RJ6, "stringSize", "(I)I"⟩
def RJxab1ab : String := "java/lang/Iterable"
def TJxab1ab : u_T := fun k => match k with
  | _ => ("", "", "", false)
def tyJxab1ab : Nat → FieldType := fun k => match k with
  | _ => .int
abbrev wsJxab1ab0 : List Cond := u_ws RJxab1ab TJxab1ab 0
theorem nmJxab1ab : ∀ a, a < 0 → ∀ b, b < 0 → a ≠ b → (TJxab1ab a).2.1 ≠ (TJxab1ab b).2.1 := by decide +kernel
theorem tyJxab1ab_ok : ∀ k, k < 0 → parseFieldDescriptor (TJxab1ab k).2.2.1 = some (tyJxab1ab k) := by decide +kernel
def RJ9 : String := "java/lang/Math"
def TJ9 : u_T := fun k => match k with
  | _ => ("", "", "", false)
def tyJ9 : Nat → FieldType := fun k => match k with
  | _ => .int
abbrev wsJ90 : List Cond := u_ws RJ9 TJ9 0
theorem nmJ9 : ∀ a, a < 0 → ∀ b, b < 0 → a ≠ b → (TJ9 a).2.1 ≠ (TJ9 b).2.1 := by decide +kernel
theorem tyJ9_ok : ∀ k, k < 0 → parseFieldDescriptor (TJ9 k).2.2.1 = some (tyJ9 k) := by decide +kernel
abbrev cJ9_abs_0f7a4 : ByteArray := prog_29_method_59_code
def yJ9_abs_0f7a4 : MethodName := ⟨RJ9, "abs", "(I)I"⟩
abbrev cJ9_max_7cf53 : ByteArray := prog_29_method_65_code
def yJ9_max_7cf53 : MethodName := ⟨RJ9, "max", "(II)I"⟩
abbrev cJ9_min_7cf53 : ByteArray := prog_29_method_69_code
def yJ9_min_7cf53 : MethodName := ⟨RJ9, "min", "(II)I"⟩
def RJxd2413 : String := "java/lang/Number"
def TJxd2413 : u_T := fun k => match k with
  | _ => ("", "", "", false)
def tyJxd2413 : Nat → FieldType := fun k => match k with
  | _ => .int
abbrev wsJxd24130 : List Cond := u_ws RJxd2413 TJxd2413 0
theorem nmJxd2413 : ∀ a, a < 0 → ∀ b, b < 0 → a ≠ b → (TJxd2413 a).2.1 ≠ (TJxd2413 b).2.1 := by decide +kernel
theorem tyJxd2413_ok : ∀ k, k < 0 → parseFieldDescriptor (TJxd2413 k).2.2.1 = some (tyJxd2413 k) := by decide +kernel
def RJ0 : String := "java/lang/String"
def TJ0 : u_T := fun k => match k with
  | 0 => ("java/lang/String", "value", "[B", true)
  | 1 => ("java/lang/String", "coder", "B", true)
  | 2 => ("java/lang/String", "hash", "I", false)
  | _ => ("java/lang/String", "hashIsZero", "Z", false)
def tyJ0 : Nat → FieldType := fun k => match k with
  | 0 => .array .byte
  | 1 => .byte
  | 2 => .int
  | _ => .boolean
abbrev wsJ00 : List Cond := u_ws RJ0 TJ0 4
theorem nmJ0 : ∀ a, a < 4 → ∀ b, b < 4 → a ≠ b → (TJ0 a).2.1 ≠ (TJ0 b).2.1 := by decide +kernel
theorem tyJ0_ok : ∀ k, k < 4 → parseFieldDescriptor (TJ0 k).2.2.1 = some (tyJ0 k) := by decide +kernel
abbrev cJ0_init_81219 : ByteArray := prog_32_method_53_code
def yJ0_init_81219 : MethodName := ⟨RJ0, "<init>", "(Ljava/lang/StringBuilder;)V"⟩
abbrev cJ0_length_8abf5 : ByteArray := prog_32_method_54_code
def yJ0_length_8abf5 : MethodName := ⟨RJ0, "length", "()I"⟩
abbrev cJ0_charAt_5068e : ByteArray := prog_32_method_56_code
def yJ0_charAt_5068e : MethodName := ⟨RJ0, "charAt", "(I)C"⟩
abbrev cJ0_indexOf_0f7a4 : ByteArray := prog_32_method_79_code
def yJ0_indexOf_0f7a4 : MethodName := ⟨RJ0, "indexOf", "(I)I"⟩
abbrev cJ0_indexOf_7cf53 : ByteArray := prog_32_method_80_code
def yJ0_indexOf_7cf53 : MethodName := ⟨RJ0, "indexOf", "(II)I"⟩
abbrev cJ0_substring_b52d3 : ByteArray := prog_32_method_91_code
def yJ0_substring_b52d3 : MethodName := ⟨RJ0, "substring", "(I)Ljava/lang/String;"⟩
abbrev cJ0_substring_37a41 : ByteArray := prog_32_method_92_code
def yJ0_substring_37a41 : MethodName := ⟨RJ0, "substring", "(II)Ljava/lang/String;"⟩
abbrev cJ0_getBytes_840e7 : ByteArray := prog_32_method_147_code
def yJ0_getBytes_840e7 : MethodName := ⟨RJ0, "getBytes", "([BIB)V"⟩
abbrev cJ0_init_db425 : ByteArray := prog_32_method_150_code
def yJ0_init_db425 : MethodName := ⟨RJ0, "<init>", "(Ljava/lang/AbstractStringBuilder;Ljava/lang/Void;)V"⟩
abbrev cJ0_init_031fb : ByteArray := prog_32_method_151_code
def yJ0_init_031fb : MethodName := ⟨RJ0, "<init>", "([BB)V"⟩
abbrev cJ0_coder_7d493 : ByteArray := prog_32_method_152_code
def yJ0_coder_7d493 : MethodName := ⟨RJ0, "coder", "()B"⟩
abbrev cJ0_isLatin1_aae02 : ByteArray := prog_32_method_154_code
def yJ0_isLatin1_aae02 : MethodName := ⟨RJ0, "isLatin1", "()Z"⟩
abbrev cJ0_checkIndex_df160 : ByteArray := prog_32_method_155_code
def yJ0_checkIndex_df160 : MethodName := ⟨RJ0, "checkIndex", "(II)V"⟩
abbrev cJ0_checkBoundsOffCount_cabcc : ByteArray := prog_32_method_157_code
def yJ0_checkBoundsOffCount_cabcc : MethodName := ⟨RJ0, "checkBoundsOffCount", "(III)I"⟩
abbrev cJ0_checkBoundsBeginEnd_23922 : ByteArray := prog_32_method_158_code
def yJ0_checkBoundsBeginEnd_23922 : MethodName := ⟨RJ0, "checkBoundsBeginEnd", "(III)V"⟩
def RJ4 : String := "java/lang/StringBuilder"
def TJ4 : u_T := fun k => match k with
  | 0 => ("java/lang/AbstractStringBuilder", "value", "[B", false)
  | 1 => ("java/lang/AbstractStringBuilder", "coder", "B", false)
  | 2 => ("java/lang/AbstractStringBuilder", "maybeLatin1", "Z", false)
  | _ => ("java/lang/AbstractStringBuilder", "count", "I", false)
def tyJ4 : Nat → FieldType := fun k => match k with
  | 0 => .array .byte
  | 1 => .byte
  | 2 => .boolean
  | _ => .int
abbrev wsJ40 : List Cond := u_ws RJ4 TJ4 4
theorem nmJ4 : ∀ a, a < 4 → ∀ b, b < 4 → a ≠ b → (TJ4 a).2.1 ≠ (TJ4 b).2.1 := by decide +kernel
theorem tyJ4_ok : ∀ k, k < 4 → parseFieldDescriptor (TJ4 k).2.2.1 = some (tyJ4 k) := by decide +kernel
abbrev cJ4_init_da8c8 : ByteArray := prog_33_method_1_code
def yJ4_init_da8c8 : MethodName := ⟨RJ4, "<init>", "()V"⟩
abbrev cJ4_append_15ec4 : ByteArray := prog_33_method_7_code
def yJ4_append_15ec4 : MethodName := ⟨RJ4, "append", "(Ljava/lang/String;)Ljava/lang/StringBuilder;"⟩
abbrev cJ4_append_cf468 : ByteArray := prog_33_method_14_code
def yJ4_append_cf468 : MethodName := ⟨RJ4, "append", "(C)Ljava/lang/StringBuilder;"⟩
abbrev cJ4_append_bf812 : ByteArray := prog_33_method_15_code
def yJ4_append_bf812 : MethodName := ⟨RJ4, "append", "(I)Ljava/lang/StringBuilder;"⟩
abbrev cJ4_toString_0e30d : ByteArray := prog_33_method_42_code
def yJ4_toString_0e30d : MethodName := ⟨RJ4, "toString", "()Ljava/lang/String;"⟩
abbrev cJ4_length_8abf5 : ByteArray := prog_33_method_93_code
def yJ4_length_8abf5 : MethodName := ⟨RJ4, "length", "()I"⟩
def RJ1 : String := "java/lang/StringLatin1"
def TJ1 : u_T := fun k => match k with
  | _ => ("", "", "", false)
def tyJ1 : Nat → FieldType := fun k => match k with
  | _ => .int
abbrev wsJ10 : List Cond := u_ws RJ1 TJ1 0
theorem nmJ1 : ∀ a, a < 0 → ∀ b, b < 0 → a ≠ b → (TJ1 a).2.1 ≠ (TJ1 b).2.1 := by decide +kernel
theorem tyJ1_ok : ∀ k, k < 0 → parseFieldDescriptor (TJ1 k).2.2.1 = some (tyJ1 k) := by decide +kernel
abbrev cJ1_charAt_3b067 : ByteArray := prog_34_method_2_code
def yJ1_charAt_3b067 : MethodName := ⟨RJ1, "charAt", "([BI)C"⟩
abbrev cJ1_canEncode_fc78d : ByteArray := prog_34_method_3_code
def yJ1_canEncode_fc78d : MethodName := ⟨RJ1, "canEncode", "(C)Z"⟩
abbrev cJ1_canEncode_9a6ad : ByteArray := prog_34_method_4_code
def yJ1_canEncode_9a6ad : MethodName := ⟨RJ1, "canEncode", "(I)Z"⟩
abbrev cJ1_indexOf_4cfef : ByteArray := prog_34_method_22_code
def yJ1_indexOf_4cfef : MethodName := ⟨RJ1, "indexOf", "([BIII)I"⟩
abbrev cJ1_indexOfChar_4cfef : ByteArray := prog_34_method_23_code
def yJ1_indexOfChar_4cfef : MethodName := ⟨RJ1, "indexOfChar", "([BIII)I"⟩
abbrev cJ1_newString_b4f7a : ByteArray := prog_34_method_47_code
def yJ1_newString_b4f7a : MethodName := ⟨RJ1, "newString", "([BII)Ljava/lang/String;"⟩
abbrev cJ1_inflate_0e8fd : ByteArray := prog_34_method_50_code
def yJ1_inflate_0e8fd : MethodName := ⟨RJ1, "inflate", "([BI[BII)V"⟩
def RJ2 : String := "java/lang/StringUTF16"
def TJ2 : u_T := fun k => match k with
  | _ => ("", "", "", false)
def tyJ2 : Nat → FieldType := fun k => match k with
  | _ => .int
abbrev wsJ20 : List Cond := u_ws RJ2 TJ2 0
theorem nmJ2 : ∀ a, a < 0 → ∀ b, b < 0 → a ≠ b → (TJ2 a).2.1 ≠ (TJ2 b).2.1 := by decide +kernel
theorem tyJ2_ok : ∀ k, k < 0 → parseFieldDescriptor (TJ2 k).2.2.1 = some (tyJ2 k) := by decide +kernel
abbrev cJ2_newBytesFor_77867 : ByteArray := prog_35_method_2_code
def yJ2_newBytesFor_77867 : MethodName := ⟨RJ2, "newBytesFor", "(I)[B"⟩
abbrev cJ2_newBytesLength_0f7a4 : ByteArray := prog_35_method_3_code
def yJ2_newBytesLength_0f7a4 : MethodName := ⟨RJ2, "newBytesLength", "(I)I"⟩
abbrev cJ2_putChar_b72d1 : ByteArray := prog_35_method_4_code
def yJ2_putChar_b72d1 : MethodName := ⟨RJ2, "putChar", "([BII)V"⟩
abbrev cJ2_getChar_3b067 : ByteArray := prog_35_method_5_code
def yJ2_getChar_3b067 : MethodName := ⟨RJ2, "getChar", "([BI)C"⟩
abbrev cJ2_length_9d52b : ByteArray := prog_35_method_6_code
def yJ2_length_9d52b : MethodName := ⟨RJ2, "length", "([B)I"⟩
abbrev cJ2_coderFromArrayLen_85cad : ByteArray := prog_35_method_15_code
def yJ2_coderFromArrayLen_85cad : MethodName := ⟨RJ2, "coderFromArrayLen", "([BI)B"⟩
abbrev cJ2_compress_39247 : ByteArray := prog_35_method_17_code
def yJ2_compress_39247 : MethodName := ⟨RJ2, "compress", "([BII)[B"⟩
abbrev cJ2_compress_5af95 : ByteArray := prog_35_method_22_code
def yJ2_compress_5af95 : MethodName := ⟨RJ2, "compress", "([BI[BII)I"⟩
abbrev cJ2_indexOf_4cfef : ByteArray := prog_35_method_40_code
def yJ2_indexOf_4cfef : MethodName := ⟨RJ2, "indexOf", "([BIII)I"⟩
abbrev cJ2_indexOfChar_4cfef : ByteArray := prog_35_method_47_code
def yJ2_indexOfChar_4cfef : MethodName := ⟨RJ2, "indexOfChar", "([BIII)I"⟩
abbrev cJ2_indexOfCharUnsafe_4cfef : ByteArray := prog_35_method_48_code
def yJ2_indexOfCharUnsafe_4cfef : MethodName := ⟨RJ2, "indexOfCharUnsafe", "([BIII)I"⟩
abbrev cJ2_indexOfSupplementary_4cfef : ByteArray := prog_35_method_49_code
def yJ2_indexOfSupplementary_4cfef : MethodName := ⟨RJ2, "indexOfSupplementary", "([BIII)I"⟩
abbrev cJ2_newString_b4f7a : ByteArray := prog_35_method_69_code
def yJ2_newString_b4f7a : MethodName := ⟨RJ2, "newString", "([BII)Ljava/lang/String;"⟩
abbrev cJ2_putCharSB_b72d1 : ByteArray := prog_35_method_71_code
def yJ2_putCharSB_b72d1 : MethodName := ⟨RJ2, "putCharSB", "([BII)V"⟩
abbrev cJ2_getChars_46870 : ByteArray := prog_35_method_77_code
def yJ2_getChars_46870 : MethodName := ⟨RJ2, "getChars", "(III[B)I"⟩
abbrev cJ2_putCharsAt_cd4e5 : ByteArray := prog_35_method_81_code
def yJ2_putCharsAt_cd4e5 : MethodName := ⟨RJ2, "putCharsAt", "([BICCCC)I"⟩
abbrev cJ2_charAt_3b067 : ByteArray := prog_35_method_83_code
def yJ2_charAt_3b067 : MethodName := ⟨RJ2, "charAt", "([BI)C"⟩
abbrev cJ2_inflate_0e8fd : ByteArray := prog_35_method_86_code
def yJ2_inflate_0e8fd : MethodName := ⟨RJ2, "inflate", "([BI[BII)V"⟩
abbrev cJ2_getChars_ba4f3 : ByteArray := prog_35_method_89_code
def yJ2_getChars_ba4f3 : MethodName := ⟨RJ2, "getChars", "(II[B)I"⟩
abbrev cJ2_checkIndex_2214a : ByteArray := prog_35_method_91_code
def yJ2_checkIndex_2214a : MethodName := ⟨RJ2, "checkIndex", "(I[B)V"⟩
abbrev cJ2_checkBoundsBeginEnd_d044e : ByteArray := prog_35_method_93_code
def yJ2_checkBoundsBeginEnd_d044e : MethodName := ⟨RJ2, "checkBoundsBeginEnd", "(II[B)V"⟩
abbrev cJ2_checkBoundsOffCount_d044e : ByteArray := prog_35_method_94_code
def yJ2_checkBoundsOffCount_d044e : MethodName := ⟨RJ2, "checkBoundsOffCount", "(II[B)V"⟩
def RJ10 : String := "java/lang/System"
def TJ10 : u_T := fun k => match k with
  | _ => ("", "", "", false)
def tyJ10 : Nat → FieldType := fun k => match k with
  | _ => .int
abbrev wsJ100 : List Cond := u_ws RJ10 TJ10 0
theorem nmJ10 : ∀ a, a < 0 → ∀ b, b < 0 → a ≠ b → (TJ10 a).2.1 ≠ (TJ10 b).2.1 := by decide +kernel
theorem tyJ10_ok : ∀ k, k < 0 → parseFieldDescriptor (TJ10 k).2.2.1 = some (tyJ10 k) := by decide +kernel
def RJxfd54e : String := "java/lang/constant/Constable"
def TJxfd54e : u_T := fun k => match k with
  | _ => ("", "", "", false)
def tyJxfd54e : Nat → FieldType := fun k => match k with
  | _ => .int
abbrev wsJxfd54e0 : List Cond := u_ws RJxfd54e TJxfd54e 0
theorem nmJxfd54e : ∀ a, a < 0 → ∀ b, b < 0 → a ≠ b → (TJxfd54e a).2.1 ≠ (TJxfd54e b).2.1 := by decide +kernel
theorem tyJxfd54e_ok : ∀ k, k < 0 → parseFieldDescriptor (TJxfd54e k).2.2.1 = some (tyJxfd54e k) := by decide +kernel
def RJx3cf43 : String := "java/lang/constant/ConstantDesc"
def TJx3cf43 : u_T := fun k => match k with
  | _ => ("", "", "", false)
def tyJx3cf43 : Nat → FieldType := fun k => match k with
  | _ => .int
abbrev wsJx3cf430 : List Cond := u_ws RJx3cf43 TJx3cf43 0
theorem nmJx3cf43 : ∀ a, a < 0 → ∀ b, b < 0 → a ≠ b → (TJx3cf43 a).2.1 ≠ (TJx3cf43 b).2.1 := by decide +kernel
theorem tyJx3cf43_ok : ∀ k, k < 0 → parseFieldDescriptor (TJx3cf43 k).2.2.1 = some (tyJx3cf43 k) := by decide +kernel
def RJxa1e45 : String := "java/util/AbstractCollection"
def TJxa1e45 : u_T := fun k => match k with
  | _ => ("", "", "", false)
def tyJxa1e45 : Nat → FieldType := fun k => match k with
  | _ => .int
abbrev wsJxa1e450 : List Cond := u_ws RJxa1e45 TJxa1e45 0
theorem nmJxa1e45 : ∀ a, a < 0 → ∀ b, b < 0 → a ≠ b → (TJxa1e45 a).2.1 ≠ (TJxa1e45 b).2.1 := by decide +kernel
theorem tyJxa1e45_ok : ∀ k, k < 0 → parseFieldDescriptor (TJxa1e45 k).2.2.1 = some (tyJxa1e45 k) := by decide +kernel
abbrev cJxa1e45_init_da8c8 : ByteArray := prog_41_method_1_code
def yJxa1e45_init_da8c8 : MethodName := ⟨RJxa1e45, "<init>", "()V"⟩
def RJxc12de : String := "java/util/AbstractList"
def TJxc12de : u_T := fun k => match k with
  | _ => ("", "", "", false)
def tyJxc12de : Nat → FieldType := fun k => match k with
  | _ => .int
abbrev wsJxc12de0 : List Cond := u_ws RJxc12de TJxc12de 0
theorem nmJxc12de : ∀ a, a < 0 → ∀ b, b < 0 → a ≠ b → (TJxc12de a).2.1 ≠ (TJxc12de b).2.1 := by decide +kernel
theorem tyJxc12de_ok : ∀ k, k < 0 → parseFieldDescriptor (TJxc12de k).2.2.1 = some (tyJxc12de k) := by decide +kernel
abbrev cJxc12de_init_da8c8 : ByteArray := prog_42_method_1_code
def yJxc12de_init_da8c8 : MethodName := ⟨RJxc12de, "<init>", "()V"⟩
def RJx35411 : String := "java/util/ArrayList$Itr"
def TJx35411 : u_T := fun k => match k with
  | 0 => ("java/util/ArrayList$Itr", "cursor", "I", false)
  | 1 => ("java/util/ArrayList$Itr", "lastRet", "I", false)
  | 2 => ("java/util/ArrayList$Itr", "expectedModCount", "I", false)
  | _ => ("java/util/ArrayList$Itr", "this$0", "Ljava/util/ArrayList;", true)
def tyJx35411 : Nat → FieldType := fun k => match k with
  | 0 => .int
  | 1 => .int
  | 2 => .int
  | _ => .object "java/util/ArrayList"
abbrev wsJx354110 : List Cond := u_ws RJx35411 TJx35411 4
theorem nmJx35411 : ∀ a, a < 4 → ∀ b, b < 4 → a ≠ b → (TJx35411 a).2.1 ≠ (TJx35411 b).2.1 := by decide +kernel
theorem tyJx35411_ok : ∀ k, k < 4 → parseFieldDescriptor (TJx35411 k).2.2.1 = some (tyJx35411 k) := by decide +kernel
abbrev cJx35411_init_45d68 : ByteArray := prog_44_method_1_code
def yJx35411_init_45d68 : MethodName := ⟨RJx35411, "<init>", "(Ljava/util/ArrayList;)V"⟩
abbrev cJx35411_hasNext_aae02 : ByteArray := prog_44_method_2_code
def yJx35411_hasNext_aae02 : MethodName := ⟨RJx35411, "hasNext", "()Z"⟩
abbrev cJx35411_next_0502b : ByteArray := prog_44_method_3_code
def yJx35411_next_0502b : MethodName := ⟨RJx35411, "next", "()Ljava/lang/Object;"⟩
abbrev cJx35411_checkForComodification_da8c8 : ByteArray := prog_44_method_6_code
def yJx35411_checkForComodification_da8c8 : MethodName := ⟨RJx35411, "checkForComodification", "()V"⟩
def RJx4a65c : String := "java/util/ArrayList"
def TJx4a65c : u_T := fun k => match k with
  | 0 => ("java/util/AbstractList", "modCount", "I", false)
  | 1 => ("java/util/ArrayList", "elementData", "[Ljava/lang/Object;", false)
  | _ => ("java/util/ArrayList", "size", "I", false)
def tyJx4a65c : Nat → FieldType := fun k => match k with
  | 0 => .int
  | 1 => .array (.object "java/lang/Object")
  | _ => .int
abbrev wsJx4a65c0 : List Cond := u_ws RJx4a65c TJx4a65c 3
theorem nmJx4a65c : ∀ a, a < 3 → ∀ b, b < 3 → a ≠ b → (TJx4a65c a).2.1 ≠ (TJx4a65c b).2.1 := by decide +kernel
theorem tyJx4a65c_ok : ∀ k, k < 3 → parseFieldDescriptor (TJx4a65c k).2.2.1 = some (tyJx4a65c k) := by decide +kernel
abbrev cJx4a65c_init_da8c8 : ByteArray := prog_43_method_2_code
def yJx4a65c_init_da8c8 : MethodName := ⟨RJx4a65c, "<init>", "()V"⟩
abbrev cJx4a65c_grow_92f84 : ByteArray := prog_43_method_6_code
def yJx4a65c_grow_92f84 : MethodName := ⟨RJx4a65c, "grow", "(I)[Ljava/lang/Object;"⟩
abbrev cJx4a65c_grow_d5877 : ByteArray := prog_43_method_7_code
def yJx4a65c_grow_d5877 : MethodName := ⟨RJx4a65c, "grow", "()[Ljava/lang/Object;"⟩
abbrev cJx4a65c_size_8abf5 : ByteArray := prog_43_method_8_code
def yJx4a65c_size_8abf5 : MethodName := ⟨RJx4a65c, "size", "()I"⟩
abbrev cJx4a65c_isEmpty_aae02 : ByteArray := prog_43_method_9_code
def yJx4a65c_isEmpty_aae02 : MethodName := ⟨RJx4a65c, "isEmpty", "()Z"⟩
abbrev cJx4a65c_elementData_915e3 : ByteArray := prog_43_method_18_code
def yJx4a65c_elementData_915e3 : MethodName := ⟨RJx4a65c, "elementData", "(I)Ljava/lang/Object;"⟩
abbrev cJx4a65c_get_915e3 : ByteArray := prog_43_method_20_code
def yJx4a65c_get_915e3 : MethodName := ⟨RJx4a65c, "get", "(I)Ljava/lang/Object;"⟩
abbrev cJx4a65c_add_72be8 : ByteArray := prog_43_method_24_code
def yJx4a65c_add_72be8 : MethodName := ⟨RJx4a65c, "add", "(Ljava/lang/Object;[Ljava/lang/Object;I)V"⟩
abbrev cJx4a65c_add_9ea2d : ByteArray := prog_43_method_25_code
def yJx4a65c_add_9ea2d : MethodName := ⟨RJx4a65c, "add", "(Ljava/lang/Object;)Z"⟩
abbrev cJx4a65c_iterator_32c93 : ByteArray := prog_43_method_55_code
def yJx4a65c_iterator_32c93 : MethodName := ⟨RJx4a65c, "iterator", "()Ljava/util/Iterator;"⟩
def RJ7 : String := "java/util/Arrays"
def TJ7 : u_T := fun k => match k with
  | _ => ("", "", "", false)
def tyJ7 : Nat → FieldType := fun k => match k with
  | _ => .int
abbrev wsJ70 : List Cond := u_ws RJ7 TJ7 0
theorem nmJ7 : ∀ a, a < 0 → ∀ b, b < 0 → a ≠ b → (TJ7 a).2.1 ≠ (TJ7 b).2.1 := by decide +kernel
theorem tyJ7_ok : ∀ k, k < 0 → parseFieldDescriptor (TJ7 k).2.2.1 = some (tyJ7 k) := by decide +kernel
abbrev cJ7_copyOf_1904c : ByteArray := prog_45_method_119_code
def yJ7_copyOf_1904c : MethodName := ⟨RJ7, "copyOf", "([Ljava/lang/Object;I)[Ljava/lang/Object;"⟩
abbrev cJ7_copyOf_6403c : ByteArray := prog_45_method_120_code
def yJ7_copyOf_6403c : MethodName := ⟨RJ7, "copyOf", "([Ljava/lang/Object;ILjava/lang/Class;)[Ljava/lang/Object;"⟩
abbrev cJ7_copyOf_9075b : ByteArray := prog_45_method_121_code
def yJ7_copyOf_9075b : MethodName := ⟨RJ7, "copyOf", "([BI)[B"⟩
abbrev cJ7_checkLength_df160 : ByteArray := prog_45_method_131_code
def yJ7_checkLength_df160 : MethodName := ⟨RJ7, "checkLength", "(II)V"⟩
abbrev cJ7_copyOfRange_39247 : ByteArray := prog_45_method_132_code
def yJ7_copyOfRange_39247 : MethodName := ⟨RJ7, "copyOfRange", "([BII)[B"⟩
abbrev cJ7_copyOfRangeByte_39247 : ByteArray := prog_45_method_133_code
def yJ7_copyOfRangeByte_39247 : MethodName := ⟨RJ7, "copyOfRangeByte", "([BII)[B"⟩
def RJx5ef63 : String := "java/util/Collection"
def TJx5ef63 : u_T := fun k => match k with
  | _ => ("", "", "", false)
def tyJx5ef63 : Nat → FieldType := fun k => match k with
  | _ => .int
abbrev wsJx5ef630 : List Cond := u_ws RJx5ef63 TJx5ef63 0
theorem nmJx5ef63 : ∀ a, a < 0 → ∀ b, b < 0 → a ≠ b → (TJx5ef63 a).2.1 ≠ (TJx5ef63 b).2.1 := by decide +kernel
theorem tyJx5ef63_ok : ∀ k, k < 0 → parseFieldDescriptor (TJx5ef63 k).2.2.1 = some (tyJx5ef63 k) := by decide +kernel
def RJx4d0d8 : String := "java/util/Iterator"
def TJx4d0d8 : u_T := fun k => match k with
  | _ => ("", "", "", false)
def tyJx4d0d8 : Nat → FieldType := fun k => match k with
  | _ => .int
abbrev wsJx4d0d80 : List Cond := u_ws RJx4d0d8 TJx4d0d8 0
theorem nmJx4d0d8 : ∀ a, a < 0 → ∀ b, b < 0 → a ≠ b → (TJx4d0d8 a).2.1 ≠ (TJx4d0d8 b).2.1 := by decide +kernel
theorem tyJx4d0d8_ok : ∀ k, k < 0 → parseFieldDescriptor (TJx4d0d8 k).2.2.1 = some (tyJx4d0d8 k) := by decide +kernel
def RJxbd725 : String := "java/util/List"
def TJxbd725 : u_T := fun k => match k with
  | _ => ("", "", "", false)
def tyJxbd725 : Nat → FieldType := fun k => match k with
  | _ => .int
abbrev wsJxbd7250 : List Cond := u_ws RJxbd725 TJxbd725 0
theorem nmJxbd725 : ∀ a, a < 0 → ∀ b, b < 0 → a ≠ b → (TJxbd725 a).2.1 ≠ (TJxbd725 b).2.1 := by decide +kernel
theorem tyJxbd725_ok : ∀ k, k < 0 → parseFieldDescriptor (TJxbd725 k).2.2.1 = some (tyJxbd725 k) := by decide +kernel
def RJ15 : String := "java/util/Objects"
def TJ15 : u_T := fun k => match k with
  | _ => ("", "", "", false)
def tyJ15 : Nat → FieldType := fun k => match k with
  | _ => .int
abbrev wsJ150 : List Cond := u_ws RJ15 TJ15 0
theorem nmJ15 : ∀ a, a < 0 → ∀ b, b < 0 → a ≠ b → (TJ15 a).2.1 ≠ (TJ15 b).2.1 := by decide +kernel
theorem tyJ15_ok : ∀ k, k < 0 → parseFieldDescriptor (TJ15 k).2.2.1 = some (tyJ15 k) := by decide +kernel
abbrev cJ15_checkIndex_7cf53 : ByteArray := prog_49_method_17_code
def yJ15_checkIndex_7cf53 : MethodName := ⟨RJ15, "checkIndex", "(II)I"⟩
def RJxf0a74 : String := "java/util/RandomAccess"
def TJxf0a74 : u_T := fun k => match k with
  | _ => ("", "", "", false)
def tyJxf0a74 : Nat → FieldType := fun k => match k with
  | _ => .int
abbrev wsJxf0a740 : List Cond := u_ws RJxf0a74 TJxf0a74 0
theorem nmJxf0a74 : ∀ a, a < 0 → ∀ b, b < 0 → a ≠ b → (TJxf0a74 a).2.1 ≠ (TJxf0a74 b).2.1 := by decide +kernel
theorem tyJxf0a74_ok : ∀ k, k < 0 → parseFieldDescriptor (TJxf0a74 k).2.2.1 = some (tyJxf0a74 k) := by decide +kernel
def RJxa66e6 : String := "java/util/SequencedCollection"
def TJxa66e6 : u_T := fun k => match k with
  | _ => ("", "", "", false)
def tyJxa66e6 : Nat → FieldType := fun k => match k with
  | _ => .int
abbrev wsJxa66e60 : List Cond := u_ws RJxa66e6 TJxa66e6 0
theorem nmJxa66e6 : ∀ a, a < 0 → ∀ b, b < 0 → a ≠ b → (TJxa66e6 a).2.1 ≠ (TJxa66e6 b).2.1 := by decide +kernel
theorem tyJxa66e6_ok : ∀ k, k < 0 → parseFieldDescriptor (TJxa66e6 k).2.2.1 = some (tyJxa66e6 k) := by decide +kernel
def RJ8 : String := "jdk/internal/util/ArraysSupport"
def TJ8 : u_T := fun k => match k with
  | _ => ("", "", "", false)
def tyJ8 : Nat → FieldType := fun k => match k with
  | _ => .int
abbrev wsJ80 : List Cond := u_ws RJ8 TJ8 0
theorem nmJ8 : ∀ a, a < 0 → ∀ b, b < 0 → a ≠ b → (TJ8 a).2.1 ≠ (TJ8 b).2.1 := by decide +kernel
theorem tyJ8_ok : ∀ k, k < 0 → parseFieldDescriptor (TJ8 k).2.2.1 = some (tyJ8 k) := by decide +kernel
abbrev cJ8_newLength_cabcc : ByteArray := prog_52_method_27_code
def yJ8_newLength_cabcc : MethodName := ⟨RJ8, "newLength", "(III)I"⟩
abbrev cJ8_hugeLength_7cf53 : ByteArray := prog_52_method_28_code
def yJ8_hugeLength_7cf53 : MethodName := ⟨RJ8, "hugeLength", "(II)I"⟩
def RJ3 : String := "jdk/internal/util/Preconditions"
def TJ3 : u_T := fun k => match k with
  | _ => ("", "", "", false)
def tyJ3 : Nat → FieldType := fun k => match k with
  | _ => .int
abbrev wsJ30 : List Cond := u_ws RJ3 TJ3 0
theorem nmJ3 : ∀ a, a < 0 → ∀ b, b < 0 → a ≠ b → (TJ3 a).2.1 ≠ (TJ3 b).2.1 := by decide +kernel
theorem tyJ3_ok : ∀ k, k < 0 → parseFieldDescriptor (TJ3 k).2.2.1 = some (tyJ3 k) := by decide +kernel
abbrev cJ3_checkIndex_8e157 : ByteArray := prog_53_method_11_code
def yJ3_checkIndex_8e157 : MethodName := ⟨RJ3, "checkIndex", "(IILjava/util/function/BiFunction;)I"⟩
abbrev cJ3_checkFromToIndex_8c36e : ByteArray := prog_53_method_12_code
def yJ3_checkFromToIndex_8c36e : MethodName := ⟨RJ3, "checkFromToIndex", "(IIILjava/util/function/BiFunction;)I"⟩
abbrev cJ3_checkFromIndexSize_8c36e : ByteArray := prog_53_method_13_code
def yJ3_checkFromIndexSize_8c36e : MethodName := ⟨RJ3, "checkFromIndexSize", "(IIILjava/util/function/BiFunction;)I"⟩
def RL : String := "BoringheadLaw"
abbrev cL_ground : ByteArray := method_3_code
def yL_ground : MethodName := ⟨RL, "ground", "(LBoringhead;IIC[J)I"⟩
abbrev cL_reference : ByteArray := method_4_code
def yL_reference : MethodName := ⟨RL, "reference", "(LBoringhead;IIC[J)I"⟩
abbrev cL_depth : ByteArray := method_5_code
def yL_depth : MethodName := ⟨RL, "depth", "(LBoringhead;III[J)I"⟩
abbrev cL_water : ByteArray := method_6_code
def yL_water : MethodName := ⟨RL, "water", "(LBoringhead;III[J)I"⟩
abbrev cL_bend : ByteArray := method_7_code
def yL_bend : MethodName := ⟨RL, "bend", "(LBoringhead;IIII[J)I"⟩
abbrev cL_bore : ByteArray := method_8_code
def yL_bore : MethodName := ⟨RL, "bore", "(LBoringhead;IC[J)I"⟩
abbrev cL_guess : ByteArray := method_9_code
def yL_guess : MethodName := ⟨RL, "guess", "(LBoringhead;I[J)I"⟩
abbrev cL_doubt : ByteArray := method_10_code
def yL_doubt : MethodName := ⟨RL, "doubt", "(LBoringhead;I[J)I"⟩
abbrev cL_pressure : ByteArray := method_11_code
def yL_pressure : MethodName := ⟨RL, "pressure", "(LBoringhead;I[J)I"⟩
abbrev cL_lower : ByteArray := method_12_code
def yL_lower : MethodName := ⟨RL, "lower", "(LBoringhead;I[J)I"⟩
abbrev cL_upper : ByteArray := method_13_code
def yL_upper : MethodName := ⟨RL, "upper", "(LBoringhead;I[J)I"⟩
abbrev cL_worn : ByteArray := method_14_code
def yL_worn : MethodName := ⟨RL, "worn", "(LBoringhead;I[J)I"⟩
abbrev cL_change : ByteArray := method_15_code
def yL_change : MethodName := ⟨RL, "change", "(LBoringhead;I[J)I"⟩
abbrev cL_steer : ByteArray := method_16_code
def yL_steer : MethodName := ⟨RL, "steer", "(LBoringhead;II[J)I"⟩
abbrev cL_bars : ByteArray := method_17_code
def yL_bars : MethodName := ⟨RL, "bars", "(LBoringhead;I[J)I"⟩
abbrev cL_advance : ByteArray := method_18_code
def yL_advance : MethodName := ⟨RL, "advance", "(LBoringhead;I[J)I"⟩
abbrev cL_off : ByteArray := method_19_code
def yL_off : MethodName := ⟨RL, "off", "(LBoringhead;IZ[J)I"⟩
abbrev cL_rotation : ByteArray := method_20_code
def yL_rotation : MethodName := ⟨RL, "rotation", "(LBoringhead;I[J)I"⟩
abbrev cL_plan : ByteArray := method_21_code
def yL_plan : MethodName := ⟨RL, "plan", "(LBoringhead;I[J)I"⟩
abbrev cL_squares : ByteArray := method_22_code
def yL_squares : MethodName := ⟨RL, "squares", "(LBoringhead;I[J)I"⟩
abbrev cL_grout : ByteArray := method_23_code
def yL_grout : MethodName := ⟨RL, "grout", "(LBoringhead;II[J)I"⟩
abbrev cL_lost : ByteArray := method_24_code
def yL_lost : MethodName := ⟨RL, "lost", "(LBoringhead;I[J)I"⟩
abbrev cL_house : ByteArray := method_25_code
def yL_house : MethodName := ⟨RL, "house", "(LBoringhead;III[J)I"⟩
abbrev cL_settles : ByteArray := method_26_code
def yL_settles : MethodName := ⟨RL, "settles", "(LBoringhead;IZ[J)I"⟩
abbrev cL_tilt : ByteArray := method_27_code
def yL_tilt : MethodName := ⟨RL, "tilt", "(LBoringhead;I[J)I"⟩
abbrev cL_damage : ByteArray := method_28_code
def yL_damage : MethodName := ⟨RL, "damage", "(LBoringhead;I[J)I"⟩
abbrev cL_read : ByteArray := method_29_code
def yL_read : MethodName := ⟨RL, "read", "(LBoringhead;I[J)I"⟩
abbrev cL_alarm : ByteArray := method_30_code
def yL_alarm : MethodName := ⟨RL, "alarm", "(LBoringhead;I[J)I"⟩
abbrev cL_lift : ByteArray := method_31_code
def yL_lift : MethodName := ⟨RL, "lift", "(LBoringhead;IZI[J)I"⟩
abbrev cL_deliver : ByteArray := method_32_code
def yL_deliver : MethodName := ⟨RL, "deliver", "(LBoringhead;I[J)I"⟩
abbrev cL_lorries : ByteArray := method_33_code
def yL_lorries : MethodName := ⟨RL, "lorries", "(LBoringhead;I[J)I"⟩
abbrev cL_pause : ByteArray := method_34_code
def yL_pause : MethodName := ⟨RL, "pause", "(LBoringhead;ICC[J)I"⟩
abbrev cL_first : ByteArray := method_35_code
def yL_first : MethodName := ⟨RL, "first", "(LBoringhead;C[J)I"⟩
abbrev cL_waited : ByteArray := method_36_code
def yL_waited : MethodName := ⟨RL, "waited", "(LBoringhead;C[J)I"⟩
abbrev cL_notice : ByteArray := method_37_code
def yL_notice : MethodName := ⟨RL, "notice", "(LBoringhead;I[J)I"⟩
abbrev cL_count : ByteArray := method_38_code
def yL_count : MethodName := ⟨RL, "count", "(LBoringhead;C[J)I"⟩
abbrev cL_groutShare : ByteArray := method_39_code
def yL_groutShare : MethodName := ⟨RL, "groutShare", "(LBoringhead;[D)I"⟩
abbrev cL_meanMinutes : ByteArray := method_40_code
def yL_meanMinutes : MethodName := ⟨RL, "meanMinutes", "(LBoringhead;[D)I"⟩
abbrev cL_law : ByteArray := code
def yL_law : MethodName := ⟨RL, "law", "([I)Z"⟩
abbrev vwCl : List vw_C := [(RJ0, TJ0, 4), (RJ4, TJ4, 4), (RJx00060, TJx00060, 6), (RJx35411, TJx35411, 4), (RJx4a65c, TJx4a65c, 3), (RX0, TX0, 2), (RX1, TX1, 4), (RX2, TX2, 2), (RX3, TX3, 4), (RX4, TX4, 7), (RX5, TX5, 14), (RX6, TX6, 5), (RX7, TX7, 7), (RX8, TX8, 3), (RX9, TX9, 9), (RX10, TX10, 9), (RX11, TX11, 22)]
